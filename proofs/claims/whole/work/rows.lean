section
-- ===== PART A: goes FIRST, ahead of the names: the tables' words, and 'selects' of the private methods out of them =====
/-- a private method of a class that the tables say can be made, by its rows of tables_1 -/
def lw_okq (q : MethodName × Nat) : Prop := (q.1.cls ≠ "java/lang/invoke/MethodHandle" ∧ q.1.cls ≠ "java/lang/invoke/VarHandle") ∧ Cond.instantiable q.1.cls q.2 ∈ tables_1 ∧ Cond.privateMethod q.1 ∈ tables_1 ∧ Cond.instanceMethod q.1 ∈ tables_1
theorem lw_p0 : lw_okq (⟨"Clueyard$Square", "canStand", "(LClueyard$Words;II)Z"⟩, 5) := ⟨⟨by decide +kernel, by decide +kernel⟩, List.mem_of_getElem? (i := 74) (by decide +kernel), List.mem_of_getElem? (i := 297) (by decide +kernel), List.mem_of_getElem? (i := 298) (by decide +kernel)⟩
theorem lw_p1 : lw_okq (⟨"Clueyard$Square", "agreesWithFixed", "(LClueyard$Words;I)Z"⟩, 5) := ⟨⟨by decide +kernel, by decide +kernel⟩, List.mem_of_getElem? (i := 74) (by decide +kernel), List.mem_of_getElem? (i := 301) (by decide +kernel), List.mem_of_getElem? (i := 302) (by decide +kernel)⟩
theorem lw_p2 : lw_okq (⟨"Clueyard$Square", "weightOfSquare", "(LClueyard$Words;)I"⟩, 5) := ⟨⟨by decide +kernel, by decide +kernel⟩, List.mem_of_getElem? (i := 74) (by decide +kernel), List.mem_of_getElem? (i := 313) (by decide +kernel), List.mem_of_getElem? (i := 314) (by decide +kernel)⟩
theorem lw_p3 : lw_okq (⟨"Clueyard$Square", "keep", "(I)V"⟩, 5) := ⟨⟨by decide +kernel, by decide +kernel⟩, List.mem_of_getElem? (i := 74) (by decide +kernel), List.mem_of_getElem? (i := 325) (by decide +kernel), List.mem_of_getElem? (i := 326) (by decide +kernel)⟩
theorem lw_p4 : lw_okq (⟨"Clueyard$Square", "weightIfFill", "(LClueyard$Words;)I"⟩, 5) := ⟨⟨by decide +kernel, by decide +kernel⟩, List.mem_of_getElem? (i := 74) (by decide +kernel), List.mem_of_getElem? (i := 341) (by decide +kernel), List.mem_of_getElem? (i := 342) (by decide +kernel)⟩
theorem lw_p5 : lw_okq (⟨"Clueyard", "rank", "(I)I"⟩, 12) := ⟨⟨by decide +kernel, by decide +kernel⟩, List.mem_of_getElem? (i := 21) (by decide +kernel), List.mem_of_getElem? (i := 364) (by decide +kernel), List.mem_of_getElem? (i := 365) (by decide +kernel)⟩
theorem lw_p6 : lw_okq (⟨"Clueyard", "isAhead", "(II)Z"⟩, 12) := ⟨⟨by decide +kernel, by decide +kernel⟩, List.mem_of_getElem? (i := 21) (by decide +kernel), List.mem_of_getElem? (i := 368) (by decide +kernel), List.mem_of_getElem? (i := 369) (by decide +kernel)⟩
theorem lw_p7 : lw_okq (⟨"Clueyard", "keptStreak", "(I)I"⟩, 12) := ⟨⟨by decide +kernel, by decide +kernel⟩, List.mem_of_getElem? (i := 21) (by decide +kernel), List.mem_of_getElem? (i := 372) (by decide +kernel), List.mem_of_getElem? (i := 373) (by decide +kernel)⟩
theorem lw_p8 : lw_okq (⟨"Clueyard$Progress", "dayIndex", "(I)I"⟩, 3) := ⟨⟨by decide +kernel, by decide +kernel⟩, List.mem_of_getElem? (i := 145) (by decide +kernel), List.mem_of_getElem? (i := 384) (by decide +kernel), List.mem_of_getElem? (i := 385) (by decide +kernel)⟩
theorem lw_p9 : lw_okq (⟨"java/lang/Throwable", "fillInStackTrace", "(I)Ljava/lang/Throwable;"⟩, 6) := ⟨⟨by decide +kernel, by decide +kernel⟩, List.mem_of_getElem? (i := 446) (by decide +kernel), List.mem_of_getElem? (i := 444) (by decide +kernel), List.mem_of_getElem? (i := 445) (by decide +kernel)⟩
theorem lw_p10 : lw_okq (⟨"Clueyard", "needRoomForLetter", "()V"⟩, 12) := ⟨⟨by decide +kernel, by decide +kernel⟩, List.mem_of_getElem? (i := 21) (by decide +kernel), List.mem_of_getElem? (i := 476) (by decide +kernel), List.mem_of_getElem? (i := 477) (by decide +kernel)⟩
theorem lw_p11 : lw_okq (⟨"Clueyard$Words", "putInOrder", "(I)V"⟩, 7) := ⟨⟨by decide +kernel, by decide +kernel⟩, List.mem_of_getElem? (i := 43) (by decide +kernel), List.mem_of_getElem? (i := 587) (by decide +kernel), List.mem_of_getElem? (i := 588) (by decide +kernel)⟩
theorem lw_p12 : lw_okq (⟨"Clueyard", "mayPublishToday", "()Z"⟩, 12) := ⟨⟨by decide +kernel, by decide +kernel⟩, List.mem_of_getElem? (i := 21) (by decide +kernel), List.mem_of_getElem? (i := 688) (by decide +kernel), List.mem_of_getElem? (i := 689) (by decide +kernel)⟩
theorem lw_p13 : lw_okq (⟨"Clueyard", "today", "()I"⟩, 12) := ⟨⟨by decide +kernel, by decide +kernel⟩, List.mem_of_getElem? (i := 21) (by decide +kernel), List.mem_of_getElem? (i := 696) (by decide +kernel), List.mem_of_getElem? (i := 697) (by decide +kernel)⟩
theorem lw_p14 : lw_okq (⟨"Clueyard", "findClues", "()Z"⟩, 12) := ⟨⟨by decide +kernel, by decide +kernel⟩, List.mem_of_getElem? (i := 21) (by decide +kernel), List.mem_of_getElem? (i := 700) (by decide +kernel), List.mem_of_getElem? (i := 701) (by decide +kernel)⟩
theorem lw_p15 : lw_okq (⟨"Clueyard$Clues", "canBeUsed", "(II)Z"⟩, 5) := ⟨⟨by decide +kernel, by decide +kernel⟩, List.mem_of_getElem? (i := 97) (by decide +kernel), List.mem_of_getElem? (i := 712) (by decide +kernel), List.mem_of_getElem? (i := 713) (by decide +kernel)⟩
def lw_privs_1 : List (MethodName × Nat) := [(⟨"Clueyard$Square", "canStand", "(LClueyard$Words;II)Z"⟩, 5), (⟨"Clueyard$Square", "agreesWithFixed", "(LClueyard$Words;I)Z"⟩, 5), (⟨"Clueyard$Square", "weightOfSquare", "(LClueyard$Words;)I"⟩, 5), (⟨"Clueyard$Square", "keep", "(I)V"⟩, 5), (⟨"Clueyard$Square", "weightIfFill", "(LClueyard$Words;)I"⟩, 5), (⟨"Clueyard", "rank", "(I)I"⟩, 12), (⟨"Clueyard", "isAhead", "(II)Z"⟩, 12), (⟨"Clueyard", "keptStreak", "(I)I"⟩, 12), (⟨"Clueyard$Progress", "dayIndex", "(I)I"⟩, 3), (⟨"java/lang/Throwable", "fillInStackTrace", "(I)Ljava/lang/Throwable;"⟩, 6), (⟨"Clueyard", "needRoomForLetter", "()V"⟩, 12), (⟨"Clueyard$Words", "putInOrder", "(I)V"⟩, 7), (⟨"Clueyard", "mayPublishToday", "()Z"⟩, 12), (⟨"Clueyard", "today", "()I"⟩, 12), (⟨"Clueyard", "findClues", "()Z"⟩, 12), (⟨"Clueyard$Clues", "canBeUsed", "(II)Z"⟩, 5)]
theorem lw_r1 : ∀ q ∈ lw_privs_1, lw_okq q := List.forall_mem_cons.mpr ⟨lw_p0, List.forall_mem_cons.mpr ⟨lw_p1, List.forall_mem_cons.mpr ⟨lw_p2, List.forall_mem_cons.mpr ⟨lw_p3, List.forall_mem_cons.mpr ⟨lw_p4, List.forall_mem_cons.mpr ⟨lw_p5, List.forall_mem_cons.mpr ⟨lw_p6, List.forall_mem_cons.mpr ⟨lw_p7, List.forall_mem_cons.mpr ⟨lw_p8, List.forall_mem_cons.mpr ⟨lw_p9, List.forall_mem_cons.mpr ⟨lw_p10, List.forall_mem_cons.mpr ⟨lw_p11, List.forall_mem_cons.mpr ⟨lw_p12, List.forall_mem_cons.mpr ⟨lw_p13, List.forall_mem_cons.mpr ⟨lw_p14, List.forall_mem_cons.mpr ⟨lw_p15, fun _ h => absurd h List.not_mem_nil⟩⟩⟩⟩⟩⟩⟩⟩⟩⟩⟩⟩⟩⟩⟩⟩
theorem lw_p16 : lw_okq (⟨"Clueyard$Clues", "isChosenAhead", "(II)Z"⟩, 5) := ⟨⟨by decide +kernel, by decide +kernel⟩, List.mem_of_getElem? (i := 97) (by decide +kernel), List.mem_of_getElem? (i := 717) (by decide +kernel), List.mem_of_getElem? (i := 718) (by decide +kernel)⟩
theorem lw_p17 : lw_okq (⟨"Clueyard", "needCellOf", "(III)V"⟩, 12) := ⟨⟨by decide +kernel, by decide +kernel⟩, List.mem_of_getElem? (i := 21) (by decide +kernel), List.mem_of_getElem? (i := 777) (by decide +kernel), List.mem_of_getElem? (i := 778) (by decide +kernel)⟩
theorem lw_p18 : lw_okq (⟨"Clueyard", "needUnfinished", "(III)V"⟩, 12) := ⟨⟨by decide +kernel, by decide +kernel⟩, List.mem_of_getElem? (i := 21) (by decide +kernel), List.mem_of_getElem? (i := 781) (by decide +kernel), List.mem_of_getElem? (i := 782) (by decide +kernel)⟩
theorem lw_p19 : lw_okq (⟨"Clueyard", "becomeRight", "(III)V"⟩, 12) := ⟨⟨by decide +kernel, by decide +kernel⟩, List.mem_of_getElem? (i := 21) (by decide +kernel), List.mem_of_getElem? (i := 798) (by decide +kernel), List.mem_of_getElem? (i := 799) (by decide +kernel)⟩
theorem lw_p20 : lw_okq (⟨"Clueyard", "countIfSolved", "(II)V"⟩, 12) := ⟨⟨by decide +kernel, by decide +kernel⟩, List.mem_of_getElem? (i := 21) (by decide +kernel), List.mem_of_getElem? (i := 810) (by decide +kernel), List.mem_of_getElem? (i := 811) (by decide +kernel)⟩
theorem lw_p21 : lw_okq (⟨"Clueyard$Solver", "cost", "(I)I"⟩, 4) := ⟨⟨by decide +kernel, by decide +kernel⟩, List.mem_of_getElem? (i := 182) (by decide +kernel), List.mem_of_getElem? (i := 839) (by decide +kernel), List.mem_of_getElem? (i := 840) (by decide +kernel)⟩
theorem lw_p22 : lw_okq (⟨"Clueyard", "replay", "(II)V"⟩, 12) := ⟨⟨by decide +kernel, by decide +kernel⟩, List.mem_of_getElem? (i := 21) (by decide +kernel), List.mem_of_getElem? (i := 924) (by decide +kernel), List.mem_of_getElem? (i := 925) (by decide +kernel)⟩
theorem lw_p23 : lw_okq (⟨"ClueyardModel", "canSpell", "(I)Z"⟩, 30) := ⟨⟨by decide +kernel, by decide +kernel⟩, List.mem_of_getElem? (i := 944) (by decide +kernel), List.mem_of_getElem? (i := 1049) (by decide +kernel), List.mem_of_getElem? (i := 1050) (by decide +kernel)⟩
theorem lw_p24 : lw_okq (⟨"ClueyardModel", "chars", "()I"⟩, 30) := ⟨⟨by decide +kernel, by decide +kernel⟩, List.mem_of_getElem? (i := 944) (by decide +kernel), List.mem_of_getElem? (i := 1056) (by decide +kernel), List.mem_of_getElem? (i := 1057) (by decide +kernel)⟩
theorem lw_p25 : lw_okq (⟨"ClueyardModel", "fails", "(I)I"⟩, 30) := ⟨⟨by decide +kernel, by decide +kernel⟩, List.mem_of_getElem? (i := 944) (by decide +kernel), List.mem_of_getElem? (i := 1082) (by decide +kernel), List.mem_of_getElem? (i := 1083) (by decide +kernel)⟩
theorem lw_p26 : lw_okq (⟨"ClueyardModel", "isWord", "(I)Z"⟩, 30) := ⟨⟨by decide +kernel, by decide +kernel⟩, List.mem_of_getElem? (i := 944) (by decide +kernel), List.mem_of_getElem? (i := 1090) (by decide +kernel), List.mem_of_getElem? (i := 1091) (by decide +kernel)⟩
theorem lw_p27 : lw_okq (⟨"ClueyardModel", "orders", "()V"⟩, 30) := ⟨⟨by decide +kernel, by decide +kernel⟩, List.mem_of_getElem? (i := 944) (by decide +kernel), List.mem_of_getElem? (i := 1098) (by decide +kernel), List.mem_of_getElem? (i := 1099) (by decide +kernel)⟩
theorem lw_p28 : lw_okq (⟨"ClueyardModel", "findsFills", "()V"⟩, 30) := ⟨⟨by decide +kernel, by decide +kernel⟩, List.mem_of_getElem? (i := 944) (by decide +kernel), List.mem_of_getElem? (i := 1117) (by decide +kernel), List.mem_of_getElem? (i := 1118) (by decide +kernel)⟩
theorem lw_p29 : lw_okq (⟨"ClueyardModel", "fitsRow", "(II)Z"⟩, 30) := ⟨⟨by decide +kernel, by decide +kernel⟩, List.mem_of_getElem? (i := 944) (by decide +kernel), List.mem_of_getElem? (i := 1121) (by decide +kernel), List.mem_of_getElem? (i := 1122) (by decide +kernel)⟩
theorem lw_p30 : lw_okq (⟨"ClueyardModel", "tries", "(III)V"⟩, 30) := ⟨⟨by decide +kernel, by decide +kernel⟩, List.mem_of_getElem? (i := 944) (by decide +kernel), List.mem_of_getElem? (i := 1125) (by decide +kernel), List.mem_of_getElem? (i := 1126) (by decide +kernel)⟩
theorem lw_p31 : lw_okq (⟨"ClueyardModel", "columnOf", "(IIII)I"⟩, 30) := ⟨⟨by decide +kernel, by decide +kernel⟩, List.mem_of_getElem? (i := 944) (by decide +kernel), List.mem_of_getElem? (i := 1129) (by decide +kernel), List.mem_of_getElem? (i := 1130) (by decide +kernel)⟩
def lw_privs_2 : List (MethodName × Nat) := [(⟨"Clueyard$Clues", "isChosenAhead", "(II)Z"⟩, 5), (⟨"Clueyard", "needCellOf", "(III)V"⟩, 12), (⟨"Clueyard", "needUnfinished", "(III)V"⟩, 12), (⟨"Clueyard", "becomeRight", "(III)V"⟩, 12), (⟨"Clueyard", "countIfSolved", "(II)V"⟩, 12), (⟨"Clueyard$Solver", "cost", "(I)I"⟩, 4), (⟨"Clueyard", "replay", "(II)V"⟩, 12), (⟨"ClueyardModel", "canSpell", "(I)Z"⟩, 30), (⟨"ClueyardModel", "chars", "()I"⟩, 30), (⟨"ClueyardModel", "fails", "(I)I"⟩, 30), (⟨"ClueyardModel", "isWord", "(I)Z"⟩, 30), (⟨"ClueyardModel", "orders", "()V"⟩, 30), (⟨"ClueyardModel", "findsFills", "()V"⟩, 30), (⟨"ClueyardModel", "fitsRow", "(II)Z"⟩, 30), (⟨"ClueyardModel", "tries", "(III)V"⟩, 30), (⟨"ClueyardModel", "columnOf", "(IIII)I"⟩, 30)]
theorem lw_r2 : ∀ q ∈ lw_privs_2, lw_okq q := List.forall_mem_cons.mpr ⟨lw_p16, List.forall_mem_cons.mpr ⟨lw_p17, List.forall_mem_cons.mpr ⟨lw_p18, List.forall_mem_cons.mpr ⟨lw_p19, List.forall_mem_cons.mpr ⟨lw_p20, List.forall_mem_cons.mpr ⟨lw_p21, List.forall_mem_cons.mpr ⟨lw_p22, List.forall_mem_cons.mpr ⟨lw_p23, List.forall_mem_cons.mpr ⟨lw_p24, List.forall_mem_cons.mpr ⟨lw_p25, List.forall_mem_cons.mpr ⟨lw_p26, List.forall_mem_cons.mpr ⟨lw_p27, List.forall_mem_cons.mpr ⟨lw_p28, List.forall_mem_cons.mpr ⟨lw_p29, List.forall_mem_cons.mpr ⟨lw_p30, List.forall_mem_cons.mpr ⟨lw_p31, fun _ h => absurd h List.not_mem_nil⟩⟩⟩⟩⟩⟩⟩⟩⟩⟩⟩⟩⟩⟩⟩⟩
theorem lw_p32 : lw_okq (⟨"ClueyardModel", "isClue", "(I)Z"⟩, 30) := ⟨⟨by decide +kernel, by decide +kernel⟩, List.mem_of_getElem? (i := 944) (by decide +kernel), List.mem_of_getElem? (i := 1154) (by decide +kernel), List.mem_of_getElem? (i := 1155) (by decide +kernel)⟩
theorem lw_p33 : lw_okq (⟨"ClueyardModel", "clueFor", "(II)I"⟩, 30) := ⟨⟨by decide +kernel, by decide +kernel⟩, List.mem_of_getElem? (i := 944) (by decide +kernel), List.mem_of_getElem? (i := 1174) (by decide +kernel), List.mem_of_getElem? (i := 1175) (by decide +kernel)⟩
theorem lw_p34 : lw_okq (⟨"ClueyardModel", "isPuzzle", "(I)Z"⟩, 30) := ⟨⟨by decide +kernel, by decide +kernel⟩, List.mem_of_getElem? (i := 944) (by decide +kernel), List.mem_of_getElem? (i := 1182) (by decide +kernel), List.mem_of_getElem? (i := 1183) (by decide +kernel)⟩
theorem lw_p35 : lw_okq (⟨"ClueyardModel", "isCell", "(III)Z"⟩, 30) := ⟨⟨by decide +kernel, by decide +kernel⟩, List.mem_of_getElem? (i := 944) (by decide +kernel), List.mem_of_getElem? (i := 1194) (by decide +kernel), List.mem_of_getElem? (i := 1195) (by decide +kernel)⟩
theorem lw_p36 : lw_okq (⟨"ClueyardModel", "isSolver", "(I)Z"⟩, 30) := ⟨⟨by decide +kernel, by decide +kernel⟩, List.mem_of_getElem? (i := 944) (by decide +kernel), List.mem_of_getElem? (i := 1198) (by decide +kernel), List.mem_of_getElem? (i := 1199) (by decide +kernel)⟩
theorem lw_p37 : lw_okq (⟨"ClueyardModel", "isOver", "(III)Z"⟩, 30) := ⟨⟨by decide +kernel, by decide +kernel⟩, List.mem_of_getElem? (i := 944) (by decide +kernel), List.mem_of_getElem? (i := 1202) (by decide +kernel), List.mem_of_getElem? (i := 1203) (by decide +kernel)⟩
theorem lw_p38 : lw_okq (⟨"ClueyardModel", "openOf", "(I)I"⟩, 30) := ⟨⟨by decide +kernel, by decide +kernel⟩, List.mem_of_getElem? (i := 944) (by decide +kernel), List.mem_of_getElem? (i := 1206) (by decide +kernel), List.mem_of_getElem? (i := 1207) (by decide +kernel)⟩
theorem lw_p39 : lw_okq (⟨"ClueyardModel", "counts", "(II)V"⟩, 30) := ⟨⟨by decide +kernel, by decide +kernel⟩, List.mem_of_getElem? (i := 944) (by decide +kernel), List.mem_of_getElem? (i := 1210) (by decide +kernel), List.mem_of_getElem? (i := 1211) (by decide +kernel)⟩
theorem lw_p40 : lw_okq (⟨"ClueyardModel", "solved", "(II)I"⟩, 30) := ⟨⟨by decide +kernel, by decide +kernel⟩, List.mem_of_getElem? (i := 944) (by decide +kernel), List.mem_of_getElem? (i := 1214) (by decide +kernel), List.mem_of_getElem? (i := 1215) (by decide +kernel)⟩
theorem lw_p41 : lw_okq (⟨"ClueyardModel", "dayOf", "(II)I"⟩, 30) := ⟨⟨by decide +kernel, by decide +kernel⟩, List.mem_of_getElem? (i := 944) (by decide +kernel), List.mem_of_getElem? (i := 1218) (by decide +kernel), List.mem_of_getElem? (i := 1219) (by decide +kernel)⟩
theorem lw_p42 : lw_okq (⟨"ClueyardModel", "streakOf", "(I)I"⟩, 30) := ⟨⟨by decide +kernel, by decide +kernel⟩, List.mem_of_getElem? (i := 944) (by decide +kernel), List.mem_of_getElem? (i := 1230) (by decide +kernel), List.mem_of_getElem? (i := 1231) (by decide +kernel)⟩
def lw_privs_3 : List (MethodName × Nat) := [(⟨"ClueyardModel", "isClue", "(I)Z"⟩, 30), (⟨"ClueyardModel", "clueFor", "(II)I"⟩, 30), (⟨"ClueyardModel", "isPuzzle", "(I)Z"⟩, 30), (⟨"ClueyardModel", "isCell", "(III)Z"⟩, 30), (⟨"ClueyardModel", "isSolver", "(I)Z"⟩, 30), (⟨"ClueyardModel", "isOver", "(III)Z"⟩, 30), (⟨"ClueyardModel", "openOf", "(I)I"⟩, 30), (⟨"ClueyardModel", "counts", "(II)V"⟩, 30), (⟨"ClueyardModel", "solved", "(II)I"⟩, 30), (⟨"ClueyardModel", "dayOf", "(II)I"⟩, 30), (⟨"ClueyardModel", "streakOf", "(I)I"⟩, 30)]
theorem lw_r3 : ∀ q ∈ lw_privs_3, lw_okq q := List.forall_mem_cons.mpr ⟨lw_p32, List.forall_mem_cons.mpr ⟨lw_p33, List.forall_mem_cons.mpr ⟨lw_p34, List.forall_mem_cons.mpr ⟨lw_p35, List.forall_mem_cons.mpr ⟨lw_p36, List.forall_mem_cons.mpr ⟨lw_p37, List.forall_mem_cons.mpr ⟨lw_p38, List.forall_mem_cons.mpr ⟨lw_p39, List.forall_mem_cons.mpr ⟨lw_p40, List.forall_mem_cons.mpr ⟨lw_p41, List.forall_mem_cons.mpr ⟨lw_p42, fun _ h => absurd h List.not_mem_nil⟩⟩⟩⟩⟩⟩⟩⟩⟩⟩⟩
def lw_privs : List (MethodName × Nat) := lw_privs_1 ++ (lw_privs_2 ++ (lw_privs_3))
def lw_tbl : List Cond := k2_sels lw_privs ++ tables_1
theorem lw_privs_ok : ∀ q ∈ lw_privs, lw_okq q := by
  show ∀ q ∈ lw_privs_1 ++ (lw_privs_2 ++ (lw_privs_3)), lw_okq q
  exact List.forall_mem_append.mpr ⟨lw_r1, List.forall_mem_append.mpr ⟨lw_r2, lw_r3⟩⟩
end
section
/-! ===== BEGIN words of one list among another's, by their places ===== -/
theorem goodIn_r {big : List Cond} (ws : List Cond) (ps : List Nat) (hp : ws = ps.filterMap (fun i => big[i]?)) (h : ws.all goodWord = true) : GoodIn big ws := by
  intro w hw
  have h1 := List.all_eq_true.mp h w hw
  rw [hp] at hw
  obtain ⟨i, -, hi⟩ := List.mem_filterMap.mp hw
  have hm : w ∈ big := by first | exact List.mem_of_getElem? hi | exact List.getElem?_mem hi
  exact ⟨hm, good_of_word h1⟩
theorem goodIn_app {big a b : List Cond} (ha : GoodIn big a) (hb : GoodIn big b) : GoodIn big (a ++ b) := fun w h => (List.mem_append.mp h).elim (ha w) (hb w)
theorem goodIn_ca {big a b : List Cond} {c : Cond} (ha : GoodIn big (c :: a)) (hb : GoodIn big b) : GoodIn big (c :: (a ++ b)) := fun w h => (List.mem_cons.mp h).elim (fun e => ha w (List.mem_cons.mpr (Or.inl e))) (fun h => (List.mem_append.mp h).elim (fun h => ha w (List.mem_cons.mpr (Or.inr h))) (hb w))
theorem goodIn_sub {big ws : List Cond} (hm : ∀ w ∈ ws, w ∈ big) (h : ws.all goodWord = true) : GoodIn big ws := fun w hw => ⟨hm w hw, good_of_word (List.all_eq_true.mp h w hw)⟩
/-! ===== END ===== -/

/-! ===== BEGIN exceptions that leave a method, and their catching by the caller (launches without stack traces) ===== -/
section VXA
/-! The laws vx_back, vx_callV, vx_callS, vx_callSW, vx_throw0, vx_throwS follow proofs of the library, with one case more: JvmDerived/Free/Laws.lean (Back.of_free), Shelf42/LK1.lean (callV, callS), Shelf/KitTraced.lean (throwNew0V, throwNewS). -/
/-- where a method has thrown q: the class by its name, the cell, what was written, the world -/
def vx_T (XC : String → State → State → Prop) (st : State) (q : Addr) (t : State) (mc ms : Nat) (free : Addr → Prop) : Prop :=
  ∃ (E : String) (ce : Cell) (L : List Loc), XC E st t ∧ t.heap[q]? = some ce ∧ ce.vm = .none ∧ st.vm.findClass E = some ce.cls ∧ st.WarmedH t.vm ∧ st.sameButNew ({ t with vm := st.vm } : State) L mc ms ∧ ∀ z ∈ L, free z.base
def vx_Q (Qc : Array Value → State → Outcome → State → Prop) (XC : String → State → State → Prop) (mc ms : Nat) (free : Addr → Prop) : Array Value → State → Outcome → State → Prop := fun a st o t =>
  (Qc a st o t ∧ ∃ L, FrameEnd st o t L mc ms ∧ ∀ q ∈ L, free q.base) ∨ ∃ q, o = .threw q ∧ vx_T XC st q t mc ms free
/-- a callee that returns or throws -/
def vx_Met (l : Launch) (y : MethodName) (ws : List Cond) (rm : Room) (Pc : Array Value → State → Prop) (Qc : Array Value → State → Outcome → State → Prop) (XC : String → State → State → Prop) (mc ms : Nat) (free : Addr → Prop) : Prop :=
  MetFree l y (headSpec ws rm) Pc (fun _ _ _ _ _ => True) (vx_Q Qc XC mc ms free)
def vx_Post (XC : String → State → State → Prop) (mc ms : Nat) (free : Addr → Prop) : Pt → Array Value → Addr → Pt → Prop := fun A a q B =>
  ∃ (g : JFrame) (mk : MethodId) (t : State) (L : List Loc) (E : String) (ce : Cell), B.U.heap = t.heap ∧ B.U.vm = t.vm ∧ XC E (A.U.calling g mk a) t ∧ t.heap[q]? = some ce ∧ ce.vm = .none ∧ A.U.vm.findClass E = some ce.cls ∧ B.locs = A.locs ++ L ∧ (∀ z ∈ L, free z.base) ∧ B.cells = A.cells + mc ∧ B.slots = A.slots + ms
def vx_Back (l : Launch) (R : Room) (p : Program) (e : Env) (below : List Frame) (s : State) (sargs : Array Value) (y : MethodName) (len W9 : Nat)
    (Pre : Pt → Array Value → Prop) (Post : Pt → Array Value → Option Value → Pt → Prop) (PostX : Pt → Array Value → Addr → Pt → Prop) : Prop :=
  ∀ (m : MethodId) (meth : Method) (c : Code) (A : Pt) (g : JFrame) (ig : Instr) (mk : MethodId) (a : Array Value),
    Stand p l e R s m sargs below meth c A.U A.locs A.cells A.slots → g.method = m → g.locals.size = c.maxLocals → decode c.code g.pc = .ok (ig, len) →
    2 * g.monitorRoom + (g.stack.map fun v => v.category).sum ≤ W9 → A.U.methodNamed? y = some mk → Pre A a →
    (∃ (v : Option Value) (B : Pt), Stand p l e R s m sargs below meth c B.U B.locs B.cells B.slots ∧ Post A a v B ∧
      Steps p.tables e below (doInvoke e (A.U.setTop g) [] mk a).1 (B.U.setTop { g with pc := g.pc + len, stack := v.toList ++ g.stack })) ∨
    (∃ (q : Addr) (B : Pt), Stand p l e R s m sargs below meth c B.U B.locs B.cells B.slots ∧ PostX A a q B ∧
      Steps p.tables e below (doInvoke e (A.U.setTop g) [] mk a).1 ((B.U.setTop g).pushFrame (.throwing q)))
section Payer
variable {l : Launch} {R : Room} {p : Program} {e : Env} {below : List Frame} {s : State} {sargs : Array Value} {y : MethodName} {len W9 : Nat}
theorem vx_back {ws : List Cond} {rm : Room} {Pc : Array Value → State → Prop} {Qc : Array Value → State → Outcome → State → Prop} {XC : String → State → State → Prop} {mc ms : Nat} {free : Addr → Prop} {bytes : ByteArray} {maxL : Nat} {ret : Option FieldType}
    (hM : vx_Met l y ws rm Pc Qc XC mc ms free) (hblind : FrameBlind Pc) (hrc : rm.cells = mc) (hrs : rm.slots = ms)
    (hframes : rm.frames + 1 ≤ R.frames) (hlocals : W9 + (maxL + 11) + rm.locals ≤ R.locals)
    (hws : ∀ w ∈ ws, ∀ a' U, s.WarmedH U.vm → w.before a' U = true) (hcode : Cond.code y bytes maxL ret ∈ ws) (hinit : ∀ a' U, s.WarmedH U.vm → (Cond.initialized y.cls).before a' U = true) :
    vx_Back l R p e below s sargs y len W9 (PreOf R mc ms Pc) (PostOf Qc mc ms free) (vx_Post XC mc ms free) := by
  intro m meth c A g ig mk a X hg hsize hdg hW hn hp
  have h1 : (headSpec ws rm).pre.before a A.U = true := atoms_intro fun w hw => hws w hw _ _ X.warmed
  have h2 : (Cond.code y bytes maxL ret).before a A.U = true := hws _ hcode _ _ X.warmed
  have h3 : (Cond.initialized y.cls).before a A.U = true := hinit _ _ X.warmed
  have h4 : A.cells + (headSpec ws rm).room.cells ≤ R.cells := by rw [show (headSpec ws rm).room.cells = mc from hrc]; exact hp.1
  have h5 : A.slots + (headSpec ws rm).room.slots ≤ R.slots := by rw [show (headSpec ws rm).room.slots = ms from hrs]; exact hp.2.1
  have hPc : Pc a (A.U.calling g mk a) := hblind _ _ _ _ hp.2.2
  obtain ⟨U, Ls, c0, s0⟩ := A
  dsimp only [Pt.U, Pt.locs, Pt.cells, Pt.slots] at h1 h2 h3 h4 h5 X hn hPc ⊢
  obtain ⟨methY, cY, hmY, hcY, -, hlY, -, -, -, -⟩ := Cond.code_spec hn h2
  obtain ⟨kY, hkY, -⟩ := className_of_methodNamed hn
  have hinitY : kY.init = .initialized := Cond.initialized_spec (findClass_of_methodNamed hn) hkY h3
  have h : At U g.method c below := by rw [hg]; exact X.here
  have hlocals9 : W9 + (maxL + 11) + (headSpec ws rm).room.locals ≤ R.locals := hlocals
  have happ : (headSpec ws rm).appliesLoose y e.platform (U.calling g mk a) = true :=
    Spec.appliesLoose_calling (g := g) h hdg hn hkY hinitY
      (X.room_calling (g := g) (R' := (headSpec ws rm).room) hsize hmY hcY hframes (by rw [hlY]; omega) h4 h5) h1
  obtain ⟨mid, hmid⟩ := h.above
  have hfr : (U.setTop g).frames = (.java g :: mid) ++ below := by rw [State.frames_setTop' g h.top, hmid]; rfl
  obtain ⟨o, s₂, hsteps, -, hend, hq⟩ := Steps.callFree hM p X.admits X.cas X.clock (acts := []) hfr happ hPc trivial
  have hq' : vx_Q Qc XC mc ms free a (U.calling g mk a) o s₂ := hq
  rw [State.frames_setTop' g h.top] at hend
  obtain ⟨g₀, hg0⟩ := Option.isSome_iff_exists.mp h.top
  obtain ⟨r, hr⟩ := State.topJava?_eq_some.mp hg0
  have hr' : (({ U with heap := s₂.heap, slotsUsed := s₂.slotsUsed } : State).setVm s₂.vm).frames = .java g₀ :: r := hr
  rcases hq' with ⟨hqc, L, hfe, hL⟩ | ⟨q, rfl, E, ce, L, hx, hce, hcv, hcl, hW₂, hsm, hL⟩
  · obtain ⟨⟨v, rfl⟩, hW₂, e2, q2, q3, q4, q5, q6⟩ := id hfe
    have e3 : s₂ = ({ (U.calling g mk a).setFrames s₂.frames with heap := s₂.heap, slotsUsed := s₂.slotsUsed } : State).setVm s₂.vm := by
      have : s₂ = ({ s₂ with vm := (U.calling g mk a).vm } : State).setVm s₂.vm := rfl
      rw [e2] at this
      exact this
    obtain ⟨c₂, i₂, len₂, hc₂, hd₂, hf₂⟩ := hend
    have hW' : U.WarmedH s₂.vm := hW₂
    have hcc : c₂ = c := by
      have h1 : s₂.code? g.method = U.code? g.method := by
        rw [State.code?_eq, State.code?_eq, hW'.alike.method?]
      exact Option.some.inj (hc₂.symm.trans (h1.trans h.code))
    subst hcc
    have hlen : len₂ = len := by rw [hdg] at hd₂; cases hd₂; rfl
    subst hlen
    have hs₂ : s₂ = (({ U with heap := s₂.heap, slotsUsed := s₂.slotsUsed } : State).setVm s₂.vm).setTop { g with pc := g.pc + len₂, stack := v.toList ++ g.stack } := by
      refine e3.trans ?_
      rw [hf₂, State.calling_eq h.top, State.setFrames_setFrames, State.setTop_of_frames _ hr', hr]
      rfl
    have hsame : U.sameButNew ({ U with heap := s₂.heap, slotsUsed := s₂.slotsUsed } : State) L mc ms := by
      refine ⟨?_, q2, q3, q4, q5, q6⟩
      obtain ⟨t, ht, -⟩ := State.frames_cons hr
      show ({ U with heap := s₂.heap, slotsUsed := s₂.slotsUsed } : State) = { U.setFrames U.frames with heap := s₂.heap, slotsUsed := s₂.slotsUsed }
      rw [State.setFrames_self ht]
    subst hg
    refine Or.inl ⟨v, ⟨(({ U with heap := s₂.heap, slotsUsed := s₂.slotsUsed } : State).setVm s₂.vm), Ls ++ L, c0 + mc, s0 + ms⟩,
      ⟨X.admits, X.cas, X.clock, X.frames, X.room, X.hears, X.method, X.code, (X.here.setHeapUsed s₂.heap s₂.slotsUsed).setVm hW'.alike, X.tail, State.WarmedH.trans X.warmed hW', X.limits, X.bytes, X.same.trans (hsame.setVm s.vm)⟩,
      ⟨g, mk, s₂, L, rfl, rfl, hqc, rfl, hL, rfl, rfl⟩, ?_⟩
    show Steps p.tables e below _ ((({ U with heap := s₂.heap, slotsUsed := s₂.slotsUsed } : State).setVm s₂.vm).setTop { g with pc := g.pc + len₂, stack := v.toList ++ g.stack })
    rw [← hs₂]
    exact hsteps
  · obtain ⟨e2, q2, q3, q4, q5, q6⟩ := id hsm
    have e3 : s₂ = ({ (U.calling g mk a).setFrames s₂.frames with heap := s₂.heap, slotsUsed := s₂.slotsUsed } : State).setVm s₂.vm := by
      have : s₂ = ({ s₂ with vm := (U.calling g mk a).vm } : State).setVm s₂.vm := rfl
      rw [e2] at this
      exact this
    have hf₂ : s₂.frames = .throwing q :: .java g :: U.frames.tail := hend
    have hW' : U.WarmedH s₂.vm := hW₂
    have hs₂ : s₂ = ((({ U with heap := s₂.heap, slotsUsed := s₂.slotsUsed } : State).setVm s₂.vm).setTop g).pushFrame (.throwing q) := by
      refine e3.trans ?_
      rw [hf₂, State.calling_eq h.top, State.setFrames_setFrames, State.pushFrame, State.frames_setTop _ hr', State.setTop_of_frames _ hr', State.setFrames_setFrames, hr]
      rfl
    have hsame : U.sameButNew ({ U with heap := s₂.heap, slotsUsed := s₂.slotsUsed } : State) L mc ms := by
      refine ⟨?_, q2, q3, q4, q5, q6⟩
      obtain ⟨t, ht, -⟩ := State.frames_cons hr
      show ({ U with heap := s₂.heap, slotsUsed := s₂.slotsUsed } : State) = { U.setFrames U.frames with heap := s₂.heap, slotsUsed := s₂.slotsUsed }
      rw [State.setFrames_self ht]
    subst hg
    refine Or.inr ⟨q, ⟨(({ U with heap := s₂.heap, slotsUsed := s₂.slotsUsed } : State).setVm s₂.vm), Ls ++ L, c0 + mc, s0 + ms⟩,
      ⟨X.admits, X.cas, X.clock, X.frames, X.room, X.hears, X.method, X.code, (X.here.setHeapUsed s₂.heap s₂.slotsUsed).setVm hW'.alike, X.tail, State.WarmedH.trans X.warmed hW', X.limits, X.bytes, X.same.trans (hsame.setVm s.vm)⟩,
      ⟨g, mk, s₂, L, E, ce, rfl, rfl, hx, hce, hcv, hcl, rfl, hL, rfl, rfl⟩, ?_⟩
    show Steps p.tables e below _ (((({ U with heap := s₂.heap, slotsUsed := s₂.slotsUsed } : State).setVm s₂.vm).setTop g).pushFrame (.throwing q))
    rw [← hs₂]
    exact hsteps
end Payer
section Calls
variable {p : Program} {l : Launch} {e : Env} {R : Room} {s : State} {m : MethodId} {args : Array Value} {below : List Frame} {meth : Method} {c : Code} {T : State} {locs : List Loc} {cells slots : Nat}
theorem vx_callV (X : Stand p l e R s m args below meth c T locs cells slots) (hexec : p.tables.exec = Jvm.exec) {own C : String} {index : Nat} {y : MethodName} {bytes : ByteArray} {maxL : Nat} {ret : Option FieldType}
    (hown : s.vm.findClass own = some m.cls) (hlink : (Cond.methodLink own index y).before args s = true) (hinst : (Cond.instanceMethod y).before args s = true) (hsel : (Cond.selects C y y).before args s = true)
    (hcode : (Cond.code y bytes maxL ret).before args s = true) (hy : y.cls ≠ "java/lang/invoke/MethodHandle" ∧ y.cls ≠ "java/lang/invoke/VarHandle")
    {W9 : Nat} {Pre : Pt → Array Value → Prop} {Post : Pt → Array Value → Option Value → Pt → Prop} {PostX : Pt → Array Value → Addr → Pt → Prop} (hK : vx_Back l R p e below s args y 3 W9 Pre Post PostX)
    {b : Addr} {cellB : Cell} (hcell : T.heap[b]? = some cellB) (hobj : cellB.vm.isStatics = false) (hcls : s.vm.findClass C = some cellB.cls)
    {g : JFrame} (hg : g.method = m) (hsize : g.locals.size = c.maxLocals) {argsL rest : List Value} (hlen : ∀ sig, parseMethodDescriptor y.desc = some sig → argsL.length = sig.parameters.length)
    (hstack : g.stack = argsL.reverse ++ .ref b :: rest) (hW : 2 * g.monitorRoom + (rest.map fun v => v.category).sum ≤ W9) (hdg : decode c.code g.pc = .ok (.invokevirtual index, 3))
    (hpre : ∀ vm₁, s.WarmedH vm₁ → Pre ⟨T.setVm vm₁, locs, cells, slots⟩ (Value.ref b :: argsL).toArray) :
    (∃ (v : Option Value) (vm₁ : Vm) (B : Pt), s.WarmedH vm₁ ∧ Stand p l e R s m args below meth c B.U B.locs B.cells B.slots ∧ Post ⟨T.setVm vm₁, locs, cells, slots⟩ (Value.ref b :: argsL).toArray v B ∧
      ∀ target, Steps p.tables e below (B.U.setTop { g with pc := g.pc + 3, stack := v.toList ++ rest }) target → Steps p.tables e below (T.setTop g) target) ∨
    (∃ (q : Addr) (vm₁ : Vm) (B : Pt), s.WarmedH vm₁ ∧ Stand p l e R s m args below meth c B.U B.locs B.cells B.slots ∧ PostX ⟨T.setVm vm₁, locs, cells, slots⟩ (Value.ref b :: argsL).toArray q B ∧
      Steps p.tables e below (T.setTop g) ((B.U.setTop { g with stack := rest }).pushFrame (.throwing q))) := by
  obtain ⟨mk, methM, hnamed, hmethM, hstM, habM⟩ := Cond.instanceMethod_spec hinst
  obtain ⟨methM', cM, hmethM', -, -, -, -, -, -, hsigM⟩ := Cond.code_spec hnamed hcode
  cases hmethM.symm.trans hmethM'
  obtain ⟨c2, r2, m2, q1, q2, q3, q4, kP, hkP, hkPi⟩ := Cond.selects_spec hsel
  cases hcls.symm.trans q1
  cases (State.methodFound?_of_named hnamed hy).symm.trans q2
  cases hnamed.symm.trans q3
  have hselP : selectMethod e.platform s.vm cellB.cls mk = .method mk := by rw [Launch.admits_selectMethod X.admits]; exact q4
  obtain ⟨vm₁, X₁, hstep₁⟩ := X.invokevirtual hexec hown hlink hnamed hmethM hstM hkP hkPi hy (a := b) (cell := cellB) hcell
    (fun z h => by rw [h] at hobj; cases hobj) hselP hmethM habM hkP hkPi (g := g) hg (argsL := argsL) (rest := rest) (hlen _ hsigM) hstack hdg
  rcases hK m meth c ⟨T.setVm vm₁, locs, cells, slots⟩ { g with stack := rest } (.invokevirtual index) mk (Value.ref b :: argsL).toArray X₁ hg hsize hdg hW (X₁.named hnamed) (hpre vm₁ X₁.warmed) with ⟨v, B, X', hpost, hsteps⟩ | ⟨q, B, X', hpost, hsteps⟩
  · exact Or.inl ⟨v, vm₁, B, X₁.warmed, X', hpost, fun target h => hstep₁ _ fun acts => by rw [doInvoke_state]; exact hsteps.trans h⟩
  · exact Or.inr ⟨q, vm₁, B, X₁.warmed, X', hpost, hstep₁ _ fun acts => by rw [doInvoke_state]; exact hsteps⟩
theorem vx_callS (X : Stand p l e R s m args below meth c T locs cells slots) (hexec : p.tables.exec = Jvm.exec) {own : String} {index : Nat} {y : MethodName} {bytes : ByteArray} {maxL : Nat} {ret : Option FieldType}
    (hown : s.vm.findClass own = some m.cls) (hlink : (Cond.methodLink own index y).before args s = true) (hstat : (Cond.static y).before args s = true) (hinit : (Cond.initialized y.cls).before args s = true)
    (hcode : (Cond.code y bytes maxL ret).before args s = true) (hy : y.cls ≠ "java/lang/invoke/MethodHandle" ∧ y.cls ≠ "java/lang/invoke/VarHandle")
    {W9 : Nat} {Pre : Pt → Array Value → Prop} {Post : Pt → Array Value → Option Value → Pt → Prop} {PostX : Pt → Array Value → Addr → Pt → Prop} (hK : vx_Back l R p e below s args y 3 W9 Pre Post PostX)
    {g : JFrame} (hg : g.method = m) (hsize : g.locals.size = c.maxLocals) {argsL rest : List Value} (hlen : ∀ sig, parseMethodDescriptor y.desc = some sig → argsL.length = sig.parameters.length)
    (hstack : g.stack = argsL.reverse ++ rest) (hW : 2 * g.monitorRoom + (rest.map fun v => v.category).sum ≤ W9) (hdg : decode c.code g.pc = .ok (.invokestatic index, 3))
    (hpre : ∀ vm₁, s.WarmedH vm₁ → Pre ⟨T.setVm vm₁, locs, cells, slots⟩ argsL.toArray) :
    (∃ (v : Option Value) (vm₁ : Vm) (B : Pt), s.WarmedH vm₁ ∧ Stand p l e R s m args below meth c B.U B.locs B.cells B.slots ∧ Post ⟨T.setVm vm₁, locs, cells, slots⟩ argsL.toArray v B ∧
      ∀ target, Steps p.tables e below (B.U.setTop { g with pc := g.pc + 3, stack := v.toList ++ rest }) target → Steps p.tables e below (T.setTop g) target) ∨
    (∃ (q : Addr) (vm₁ : Vm) (B : Pt), s.WarmedH vm₁ ∧ Stand p l e R s m args below meth c B.U B.locs B.cells B.slots ∧ PostX ⟨T.setVm vm₁, locs, cells, slots⟩ argsL.toArray q B ∧
      Steps p.tables e below (T.setTop g) ((B.U.setTop { g with stack := rest }).pushFrame (.throwing q))) := by
  obtain ⟨mk, hnamed⟩ := Cond.code_named hcode
  obtain ⟨methM, cM, hmethM, -, -, -, -, -, -, hsigM⟩ := Cond.code_spec hnamed hcode
  have hstatic : methM.isStatic = true := Cond.static_spec hnamed hmethM hstat
  obtain ⟨kP, hkP, -⟩ := className_of_methodNamed hnamed
  have hinitP : kP.init = .initialized := Cond.initialized_spec (findClass_of_methodNamed hnamed) hkP hinit
  obtain ⟨vm₁, X₁, hstep₁⟩ := X.invokestatic hexec hown hlink hnamed hmethM hstatic hkP hinitP hy (g := g) hg (argsL := argsL) (rest := rest) (hlen _ hsigM) hstack hdg
  rcases hK m meth c ⟨T.setVm vm₁, locs, cells, slots⟩ { g with stack := rest } (.invokestatic index) mk argsL.toArray X₁ hg hsize hdg hW (X₁.named hnamed) (hpre vm₁ X₁.warmed) with ⟨v, B, X', hpost, hsteps⟩ | ⟨q, B, X', hpost, hsteps⟩
  · exact Or.inl ⟨v, vm₁, B, X₁.warmed, X', hpost, fun target h => hstep₁ _ fun acts => by rw [doInvoke_state]; exact hsteps.trans h⟩
  · exact Or.inr ⟨q, vm₁, B, X₁.warmed, X', hpost, hstep₁ _ fun acts => by rw [doInvoke_state]; exact hsteps⟩
end Calls
theorem vx_cls {s : State} {T : State} {vm₁ : Vm} {E : String} {k : ClassId} (hW : s.WarmedH vm₁) (h : (T.setVm vm₁).vm.findClass E = some k) : s.vm.findClass E = some k := by
  have h1 : vm₁.findClass E = some k := h
  rw [hW.alike.findClass] at h1
  exact h1
/-- the method's frame g, with q thrown over it -/
def vx_W (p : Program) (l : Launch) (e : Env) (R : Room) (s : State) (m : MethodId) (args : Array Value) (below : List Frame) (meth : Method) (c : Code) (H : Heap) (locs : List Loc) (cells slots : Nat) (Q : State → Prop) (g : JFrame) (q : Addr) : Prop :=
  ∀ T : State, T.heap = H → Stand p l e R s m args below meth c T locs cells slots → ∃ t, Steps p.tables e below ((T.setTop g).pushFrame (.throwing q)) t ∧ Q t
def vx_Run (p : Program) (l : Launch) (e : Env) (R : Room) (s : State) (m : MethodId) (args : Array Value) (below : List Frame) (meth : Method) (c : Code) (H : Heap) (locs : List Loc) (cells slots mc ms : Nat) (g : JFrame) (rest : List Value) (Qa : State → Outcome → State → Prop) (XC : String → State → State → Prop) (free : Addr → Prop) : Prop :=
  ∀ T : State, T.heap = H → Stand p l e R s m args below meth c T locs cells slots →
    (∃ (v : Option Value) (st₀ t T' : State) (L : List Loc), st₀.heap = H ∧ Stand p l e R s m args below meth c T' (locs ++ L) (cells + mc) (slots + ms) ∧ (∀ q ∈ L, free q.base) ∧ T'.heap = t.heap ∧ T'.vm = t.vm ∧ Qa st₀ (.returned v) t ∧
      Goes p e below T g T' { g with pc := g.pc + 3, stack := v.toList ++ rest }) ∨
    (∃ (q : Addr) (st₀ t T' : State) (L : List Loc) (E : String) (ce : Cell), st₀.heap = H ∧ Stand p l e R s m args below meth c T' (locs ++ L) (cells + mc) (slots + ms) ∧ (∀ z ∈ L, free z.base) ∧ T'.heap = t.heap ∧ T'.vm = t.vm ∧ XC E st₀ t ∧ t.heap[q]? = some ce ∧ ce.vm = .none ∧ s.vm.findClass E = some ce.cls ∧
      Steps p.tables e below (T.setTop g) ((T'.setTop { g with stack := rest }).pushFrame (.throwing q)))
def vx_X {S : Type} (px : S → Prop) (B : String → S → State → Prop) (A : Nat → Prop) : String → State → State → Prop := fun E st t => ∃ u : S, px u ∧ B E u t ∧ va_F A st t
section Runs
variable {p : Program} {l : Launch} {e : Env} {R : Room} {s : State} {m : MethodId} {args : Array Value} {below : List Frame} {meth : Method} {c : Code} {H : Heap} {locs : List Loc} {cells slots : Nat}
variable {y : MethodName} {bytes cc : ByteArray} {maxL nL mc ms n index : Nat} {ret : Option FieldType} {ws : List Cond} {rm : Room} {Pc : Array Value → State → Prop} {Qc : Array Value → State → Outcome → State → Prop} {XC : String → State → State → Prop} {free : Addr → Prop} {Ts : List Cond} {own C : String} {b : Addr} {As rest : List Value} {g : JFrame}
theorem vx_callBack (cb : CallB R s args own index y bytes maxL ret ws rm mc ms n) (hM : vx_Met l y ws rm Pc Qc XC mc ms free) (hbl : FrameBlind Pc) : vx_Back l R p e below s args y 3 8 (PreOf R mc ms Pc) (PostOf Qc mc ms free) (vx_Post XC mc ms free) := by
  obtain ⟨hrc, hrs, hfr, hlo, hws, hcw, -, hini, -⟩ := cb
  exact vx_back (bytes := bytes) (maxL := maxL) (ret := ret) hM hbl hrc hrs hfr hlo hws hcw (fun a' U hW => word_at hW (Or.inl (by first | rfl | simp [Cond.onTables, Cond.keeps, Cond.steady])) hini)
theorem vx_runV (S : CallFix p m c cc nL s args Ts own) (hM : vx_Met l y ws rm Pc Qc XC mc ms free) (cw : CallW R s args own C index y bytes maxL ret ws rm mc ms n) (hp : PreV s H C b Pc As)
    (hg : g.method = m) (hn : As.length = n) (hsize : g.locals.size = nL) (hstack : g.stack = As.reverse ++ .ref b :: rest) (hW : 2 * g.monitorRoom + (rest.map fun v => v.category).sum ≤ 8) (hdg : decode cc g.pc = .ok (.invokevirtual index, 3)) (hf : cells + mc ≤ R.cells ∧ slots + ms ≤ R.slots) :
    vx_Run p l e R s m args below meth c H locs cells slots mc ms g rest (Qc (Value.ref b :: As).toArray) XC free := by
  have hK : vx_Back l R p e below s args y 3 8 (PreOf R mc ms Pc) (PostOf Qc mc ms free) (vx_Post XC mc ms free) := vx_callBack cw.1 hM hp.1
  obtain ⟨⟨-, -, -, -, -, -, hcode, -, hy, hlen, hl⟩, hin, hse⟩ := cw
  obtain ⟨hx, hb, hml, ho, -⟩ := S
  obtain ⟨-, ⟨cellB, hcB, hoB, hclB⟩, hPc⟩ := hp
  intro T hT X
  rcases vx_callV X hx (C := C) (bytes := bytes) (maxL := maxL) (ret := ret) ho hl hin hse hcode hy hK (by rw [hT]; exact hcB) hoB hclB hg (hsize.trans hml.symm) (argsL := As) (rest := rest) (fun sig h => hn.trans (hlen sig h)) hstack hW (by rw [hb]; exact hdg)
    (fun vm₁ hW₁ => ⟨hf.1, hf.2, hPc (T.setVm vm₁) hT hW₁⟩) with ⟨v, vm₁, ⟨U', l2, c2, s2⟩, hW₁, X', ⟨g', mk, t, L, e1, e2, hq, h1, hL, h2, h3⟩, st⟩ | ⟨q, vm₁, ⟨U', l2, c2, s2⟩, hW₁, X', ⟨g', mk, t, L, E, ce, e1, e2, hq, hce, hcv, hcl, h1, hL, h2, h3⟩, st⟩
  · dsimp only [Pt.U, Pt.locs, Pt.cells, Pt.slots] at X' e1 e2 h1 h2 h3 st
    subst h1; subst h2; subst h3
    exact Or.inl ⟨v, (T.setVm vm₁).calling g' mk (Value.ref b :: As).toArray, t, U', L, hT, X', hL, e1, e2, hq, st⟩
  · dsimp only [Pt.U, Pt.locs, Pt.cells, Pt.slots] at X' e1 e2 h1 h2 h3 st hcl
    subst h1; subst h2; subst h3
    exact Or.inr ⟨q, (T.setVm vm₁).calling g' mk (Value.ref b :: As).toArray, t, U', L, E, ce, hT, X', hL, e1, e2, hq, hce, hcv, vx_cls hW₁ hcl, st⟩
theorem vx_runS (S : CallFix p m c cc nL s args Ts own) (hM : vx_Met l y ws rm Pc Qc XC mc ms free) (cw : CallB R s args own index y bytes maxL ret ws rm mc ms n ∧ (Cond.static y).before args s = true) (hp : PreS s H Pc As)
    (hg : g.method = m) (hn : As.length = n) (hsize : g.locals.size = nL) (hstack : g.stack = As.reverse ++ rest) (hW : 2 * g.monitorRoom + (rest.map fun v => v.category).sum ≤ 8) (hdg : decode cc g.pc = .ok (.invokestatic index, 3)) (hf : cells + mc ≤ R.cells ∧ slots + ms ≤ R.slots) :
    vx_Run p l e R s m args below meth c H locs cells slots mc ms g rest (Qc As.toArray) XC free := by
  have hK : vx_Back l R p e below s args y 3 8 (PreOf R mc ms Pc) (PostOf Qc mc ms free) (vx_Post XC mc ms free) := vx_callBack cw.1 hM hp.1
  obtain ⟨⟨-, -, -, -, -, -, hcode, hini, hy, hlen, hl⟩, hstt⟩ := cw
  obtain ⟨hx, hb, hml, ho, -⟩ := S
  intro T hT X
  rcases vx_callS X hx (bytes := bytes) (maxL := maxL) (ret := ret) ho hl hstt hini hcode hy hK hg (hsize.trans hml.symm) (argsL := As) (rest := rest) (fun sig h => hn.trans (hlen sig h)) hstack hW (by rw [hb]; exact hdg)
    (fun vm₁ hW₁ => ⟨hf.1, hf.2, hp.2 (T.setVm vm₁) hT hW₁⟩) with ⟨v, vm₁, ⟨U', l2, c2, s2⟩, hW₁, X', ⟨g', mk, t, L, e1, e2, hq, h1, hL, h2, h3⟩, st⟩ | ⟨q, vm₁, ⟨U', l2, c2, s2⟩, hW₁, X', ⟨g', mk, t, L, E, ce, e1, e2, hq, hce, hcv, hcl, h1, hL, h2, h3⟩, st⟩
  · dsimp only [Pt.U, Pt.locs, Pt.cells, Pt.slots] at X' e1 e2 h1 h2 h3 st
    subst h1; subst h2; subst h3
    exact Or.inl ⟨v, (T.setVm vm₁).calling g' mk As.toArray, t, U', L, hT, X', hL, e1, e2, hq, st⟩
  · dsimp only [Pt.U, Pt.locs, Pt.cells, Pt.slots] at X' e1 e2 h1 h2 h3 st hcl
    subst h1; subst h2; subst h3
    exact Or.inr ⟨q, (T.setVm vm₁).calling g' mk As.toArray, t, U', L, E, ce, hT, X', hL, e1, e2, hq, hce, hcv, vx_cls hW₁ hcl, st⟩
end Runs
section Rows
variable {p : Program} {l : Launch} {e : Env} {R : Room} {s : State} {m : MethodId} {args : Array Value} {below : List Frame} {meth : Method} {c : Code} {H : Heap} {locs : List Loc} {cells slots : Nat} {Q : State → Prop}
variable {mc ms : Nat} {free : Addr → Prop} {A0 A1 : Nat → Prop} {H0 : Heap} {a : Array Value} {pc : Nat} {ls : Array Slot} {st0 rest : List Value}
theorem vx_keep {st₀ t T' : State} {L : List Loc} (h0 : st₀.heap = H) (e1 : T'.heap = t.heap) (hS : va_S A0 H0 H locs) (hA : ∀ q, q < H.size → A1 q → A0 q) (hf : ∀ q, free q → A0 q) (hL : ∀ q ∈ L, free q.base) (hF : va_F A1 st₀ t) :
    H.size ≤ T'.heap.size ∧ (∀ q : Nat, q < H.size → ¬ A1 q → T'.heap[q]? = H[q]?) ∧ va_S A0 H0 T'.heap (locs ++ L) := by
  obtain ⟨hz, hk⟩ := hF
  rw [h0] at hz hk
  exact ⟨by rw [e1]; exact hz, fun q h1 h2 => by rw [e1]; exact hk q h1 h2,
    ⟨Nat.le_trans hS.1 (by rw [e1]; exact hz), fun q h1 h2 => by rw [e1, hk q (Nat.lt_of_lt_of_le h1 hS.1) (fun z => h2 (hA q (Nat.lt_of_lt_of_le h1 hS.1) z))]; exact hS.2.1 q h1 h2, fun q hq => by
      rcases List.mem_append.mp hq with h | h
      · exact hS.2.2 q h
      · exact hf _ (hL q h)⟩⟩
theorem vx_calli {S SX : Type} {post : Int32 → S → Prop} {px : SX → Prop} {B : S → State → Prop} {BX : String → SX → State → Prop} {AX : Nat → Prop} (hr : vx_Run p l e R s m args below meth c H locs cells slots mc ms (F0 m pc ls st0) rest (va_Qi post B A1 a) (vx_X px BX AX) free) (hS : va_S A0 H0 H locs) (hA : ∀ q, q < H.size → A1 q → A0 q) (hf : ∀ q, free q → A0 q) (hAX : ∀ q, q < H.size → AX q → A0 q)
    (kx : ∀ (E : String) (ce : Cell) (q9 : Addr) (u : SX) (t : State) (H1 : Heap) (locs1 : List Loc), t.heap = H1 → s.vm.Alike t.vm → px u → BX E u t → H.size ≤ H1.size → (∀ q : Nat, q < H.size → ¬ AX q → H1[q]? = H[q]?) → va_S A0 H0 H1 locs1 → H1[q9]? = some ce → ce.vm = .none → s.vm.findClass E = some ce.cls → vx_W p l e R s m args below meth c H1 locs1 (cells + mc) (slots + ms) Q (F0 m pc ls rest) q9)
    (kk : ∀ (r : Int32) (u : S) (t : State) (H1 : Heap) (locs1 : List Loc), t.heap = H1 → s.vm.Alike t.vm → post r u → B u t → H.size ≤ H1.size → (∀ q : Nat, q < H.size → ¬ A1 q → H1[q]? = H[q]?) → va_S A0 H0 H1 locs1 → W p l e R s m args below meth c H1 locs1 (cells + mc) (slots + ms) Q (F0 m (pc + 3) ls (.int r :: rest))) : W p l e R s m args below meth c H locs cells slots Q (F0 m pc ls st0) := by
  intro T hT X
  rcases hr T hT X with ⟨v, st₀, t, T', L, h0, X', hL, e1, e2, ⟨⟨r, u, hv, hp, hb⟩, hF⟩, st⟩ | ⟨q, st₀, t, T', L, E, ce, h0, X', hL, e1, e2, ⟨u, hp, hb, hF⟩, hce, hcv, hcl, st⟩
  · cases hv
    obtain ⟨k1, k2, k3⟩ := vx_keep h0 e1 hS hA hf hL hF
    obtain ⟨t2, a1, b1⟩ := kk r u t T'.heap (locs ++ L) e1.symm (by rw [← e2]; exact X'.warmed.alike) hp hb k1 k2 k3 T' rfl X'
    exact ⟨t2, st t2 a1, b1⟩
  · obtain ⟨k1, k2, k3⟩ := vx_keep h0 e1 hS hAX hf hL hF
    obtain ⟨t2, a1, b1⟩ := kx E ce q u t T'.heap (locs ++ L) e1.symm (by rw [← e2]; exact X'.warmed.alike) hp hb k1 k2 k3 (by rw [e1]; exact hce) hcv hcl T' rfl X'
    exact ⟨t2, st.trans a1, b1⟩
theorem vx_calll {S SX : Type} {post : Int64 → S → Prop} {px : SX → Prop} {B : S → State → Prop} {BX : String → SX → State → Prop} {AX : Nat → Prop} (hr : vx_Run p l e R s m args below meth c H locs cells slots mc ms (F0 m pc ls st0) rest (va_Ql post B A1 a) (vx_X px BX AX) free) (hS : va_S A0 H0 H locs) (hA : ∀ q, q < H.size → A1 q → A0 q) (hf : ∀ q, free q → A0 q) (hAX : ∀ q, q < H.size → AX q → A0 q)
    (kx : ∀ (E : String) (ce : Cell) (q9 : Addr) (u : SX) (t : State) (H1 : Heap) (locs1 : List Loc), t.heap = H1 → s.vm.Alike t.vm → px u → BX E u t → H.size ≤ H1.size → (∀ q : Nat, q < H.size → ¬ AX q → H1[q]? = H[q]?) → va_S A0 H0 H1 locs1 → H1[q9]? = some ce → ce.vm = .none → s.vm.findClass E = some ce.cls → vx_W p l e R s m args below meth c H1 locs1 (cells + mc) (slots + ms) Q (F0 m pc ls rest) q9)
    (kk : ∀ (r : Int64) (u : S) (t : State) (H1 : Heap) (locs1 : List Loc), t.heap = H1 → s.vm.Alike t.vm → post r u → B u t → H.size ≤ H1.size → (∀ q : Nat, q < H.size → ¬ A1 q → H1[q]? = H[q]?) → va_S A0 H0 H1 locs1 → W p l e R s m args below meth c H1 locs1 (cells + mc) (slots + ms) Q (F0 m (pc + 3) ls (.long r :: rest))) : W p l e R s m args below meth c H locs cells slots Q (F0 m pc ls st0) := by
  intro T hT X
  rcases hr T hT X with ⟨v, st₀, t, T', L, h0, X', hL, e1, e2, ⟨⟨r, u, hv, hp, hb⟩, hF⟩, st⟩ | ⟨q, st₀, t, T', L, E, ce, h0, X', hL, e1, e2, ⟨u, hp, hb, hF⟩, hce, hcv, hcl, st⟩
  · cases hv
    obtain ⟨k1, k2, k3⟩ := vx_keep h0 e1 hS hA hf hL hF
    obtain ⟨t2, a1, b1⟩ := kk r u t T'.heap (locs ++ L) e1.symm (by rw [← e2]; exact X'.warmed.alike) hp hb k1 k2 k3 T' rfl X'
    exact ⟨t2, st t2 a1, b1⟩
  · obtain ⟨k1, k2, k3⟩ := vx_keep h0 e1 hS hAX hf hL hF
    obtain ⟨t2, a1, b1⟩ := kx E ce q u t T'.heap (locs ++ L) e1.symm (by rw [← e2]; exact X'.warmed.alike) hp hb k1 k2 k3 (by rw [e1]; exact hce) hcv hcl T' rfl X'
    exact ⟨t2, st.trans a1, b1⟩
theorem vx_callf {S SX : Type} {post : UInt32 → S → Prop} {px : SX → Prop} {B : S → State → Prop} {BX : String → SX → State → Prop} {AX : Nat → Prop} (hr : vx_Run p l e R s m args below meth c H locs cells slots mc ms (F0 m pc ls st0) rest (va_Qf post B A1 a) (vx_X px BX AX) free) (hS : va_S A0 H0 H locs) (hA : ∀ q, q < H.size → A1 q → A0 q) (hf : ∀ q, free q → A0 q) (hAX : ∀ q, q < H.size → AX q → A0 q)
    (kx : ∀ (E : String) (ce : Cell) (q9 : Addr) (u : SX) (t : State) (H1 : Heap) (locs1 : List Loc), t.heap = H1 → s.vm.Alike t.vm → px u → BX E u t → H.size ≤ H1.size → (∀ q : Nat, q < H.size → ¬ AX q → H1[q]? = H[q]?) → va_S A0 H0 H1 locs1 → H1[q9]? = some ce → ce.vm = .none → s.vm.findClass E = some ce.cls → vx_W p l e R s m args below meth c H1 locs1 (cells + mc) (slots + ms) Q (F0 m pc ls rest) q9)
    (kk : ∀ (r : UInt32) (u : S) (t : State) (H1 : Heap) (locs1 : List Loc), t.heap = H1 → s.vm.Alike t.vm → post r u → B u t → H.size ≤ H1.size → (∀ q : Nat, q < H.size → ¬ A1 q → H1[q]? = H[q]?) → va_S A0 H0 H1 locs1 → W p l e R s m args below meth c H1 locs1 (cells + mc) (slots + ms) Q (F0 m (pc + 3) ls (.float r :: rest))) : W p l e R s m args below meth c H locs cells slots Q (F0 m pc ls st0) := by
  intro T hT X
  rcases hr T hT X with ⟨v, st₀, t, T', L, h0, X', hL, e1, e2, ⟨⟨r, u, hv, hp, hb⟩, hF⟩, st⟩ | ⟨q, st₀, t, T', L, E, ce, h0, X', hL, e1, e2, ⟨u, hp, hb, hF⟩, hce, hcv, hcl, st⟩
  · cases hv
    obtain ⟨k1, k2, k3⟩ := vx_keep h0 e1 hS hA hf hL hF
    obtain ⟨t2, a1, b1⟩ := kk r u t T'.heap (locs ++ L) e1.symm (by rw [← e2]; exact X'.warmed.alike) hp hb k1 k2 k3 T' rfl X'
    exact ⟨t2, st t2 a1, b1⟩
  · obtain ⟨k1, k2, k3⟩ := vx_keep h0 e1 hS hAX hf hL hF
    obtain ⟨t2, a1, b1⟩ := kx E ce q u t T'.heap (locs ++ L) e1.symm (by rw [← e2]; exact X'.warmed.alike) hp hb k1 k2 k3 (by rw [e1]; exact hce) hcv hcl T' rfl X'
    exact ⟨t2, st.trans a1, b1⟩
theorem vx_calld {S SX : Type} {post : UInt64 → S → Prop} {px : SX → Prop} {B : S → State → Prop} {BX : String → SX → State → Prop} {AX : Nat → Prop} (hr : vx_Run p l e R s m args below meth c H locs cells slots mc ms (F0 m pc ls st0) rest (va_Qd post B A1 a) (vx_X px BX AX) free) (hS : va_S A0 H0 H locs) (hA : ∀ q, q < H.size → A1 q → A0 q) (hf : ∀ q, free q → A0 q) (hAX : ∀ q, q < H.size → AX q → A0 q)
    (kx : ∀ (E : String) (ce : Cell) (q9 : Addr) (u : SX) (t : State) (H1 : Heap) (locs1 : List Loc), t.heap = H1 → s.vm.Alike t.vm → px u → BX E u t → H.size ≤ H1.size → (∀ q : Nat, q < H.size → ¬ AX q → H1[q]? = H[q]?) → va_S A0 H0 H1 locs1 → H1[q9]? = some ce → ce.vm = .none → s.vm.findClass E = some ce.cls → vx_W p l e R s m args below meth c H1 locs1 (cells + mc) (slots + ms) Q (F0 m pc ls rest) q9)
    (kk : ∀ (r : UInt64) (u : S) (t : State) (H1 : Heap) (locs1 : List Loc), t.heap = H1 → s.vm.Alike t.vm → post r u → B u t → H.size ≤ H1.size → (∀ q : Nat, q < H.size → ¬ A1 q → H1[q]? = H[q]?) → va_S A0 H0 H1 locs1 → W p l e R s m args below meth c H1 locs1 (cells + mc) (slots + ms) Q (F0 m (pc + 3) ls (.double r :: rest))) : W p l e R s m args below meth c H locs cells slots Q (F0 m pc ls st0) := by
  intro T hT X
  rcases hr T hT X with ⟨v, st₀, t, T', L, h0, X', hL, e1, e2, ⟨⟨r, u, hv, hp, hb⟩, hF⟩, st⟩ | ⟨q, st₀, t, T', L, E, ce, h0, X', hL, e1, e2, ⟨u, hp, hb, hF⟩, hce, hcv, hcl, st⟩
  · cases hv
    obtain ⟨k1, k2, k3⟩ := vx_keep h0 e1 hS hA hf hL hF
    obtain ⟨t2, a1, b1⟩ := kk r u t T'.heap (locs ++ L) e1.symm (by rw [← e2]; exact X'.warmed.alike) hp hb k1 k2 k3 T' rfl X'
    exact ⟨t2, st t2 a1, b1⟩
  · obtain ⟨k1, k2, k3⟩ := vx_keep h0 e1 hS hAX hf hL hF
    obtain ⟨t2, a1, b1⟩ := kx E ce q u t T'.heap (locs ++ L) e1.symm (by rw [← e2]; exact X'.warmed.alike) hp hb k1 k2 k3 (by rw [e1]; exact hce) hcv hcl T' rfl X'
    exact ⟨t2, st.trans a1, b1⟩
theorem vx_callv {S SX : Type} {post : S → Prop} {px : SX → Prop} {B : S → State → Prop} {BX : String → SX → State → Prop} {AX : Nat → Prop} (hr : vx_Run p l e R s m args below meth c H locs cells slots mc ms (F0 m pc ls st0) rest (va_Qv post B A1 a) (vx_X px BX AX) free) (hS : va_S A0 H0 H locs) (hA : ∀ q, q < H.size → A1 q → A0 q) (hf : ∀ q, free q → A0 q) (hAX : ∀ q, q < H.size → AX q → A0 q)
    (kx : ∀ (E : String) (ce : Cell) (q9 : Addr) (u : SX) (t : State) (H1 : Heap) (locs1 : List Loc), t.heap = H1 → s.vm.Alike t.vm → px u → BX E u t → H.size ≤ H1.size → (∀ q : Nat, q < H.size → ¬ AX q → H1[q]? = H[q]?) → va_S A0 H0 H1 locs1 → H1[q9]? = some ce → ce.vm = .none → s.vm.findClass E = some ce.cls → vx_W p l e R s m args below meth c H1 locs1 (cells + mc) (slots + ms) Q (F0 m pc ls rest) q9)
    (kk : ∀ (u : S) (t : State) (H1 : Heap) (locs1 : List Loc), t.heap = H1 → s.vm.Alike t.vm → post u → B u t → H.size ≤ H1.size → (∀ q : Nat, q < H.size → ¬ A1 q → H1[q]? = H[q]?) → va_S A0 H0 H1 locs1 → W p l e R s m args below meth c H1 locs1 (cells + mc) (slots + ms) Q (F0 m (pc + 3) ls (rest))) : W p l e R s m args below meth c H locs cells slots Q (F0 m pc ls st0) := by
  intro T hT X
  rcases hr T hT X with ⟨v, st₀, t, T', L, h0, X', hL, e1, e2, ⟨⟨u, hv, hp, hb⟩, hF⟩, st⟩ | ⟨q, st₀, t, T', L, E, ce, h0, X', hL, e1, e2, ⟨u, hp, hb, hF⟩, hce, hcv, hcl, st⟩
  · cases hv
    obtain ⟨k1, k2, k3⟩ := vx_keep h0 e1 hS hA hf hL hF
    obtain ⟨t2, a1, b1⟩ := kk u t T'.heap (locs ++ L) e1.symm (by rw [← e2]; exact X'.warmed.alike) hp hb k1 k2 k3 T' rfl X'
    exact ⟨t2, st t2 a1, b1⟩
  · obtain ⟨k1, k2, k3⟩ := vx_keep h0 e1 hS hAX hf hL hF
    obtain ⟨t2, a1, b1⟩ := kx E ce q u t T'.heap (locs ++ L) e1.symm (by rw [← e2]; exact X'.warmed.alike) hp hb k1 k2 k3 (by rw [e1]; exact hce) hcv hcl T' rfl X'
    exact ⟨t2, st.trans a1, b1⟩
/-- caught by the row x of this method's table; the rows ahead don't take it -/
theorem vx_catch {own name : String} {E : String} {ce : Cell} {q : Addr} (hown : s.vm.findClass own = some m.cls) (pre : List ExceptionTableEntry) (x : ExceptionTableEntry) (suf : List ExceptionTableEntry) (hsplit : c.exceptionTable.toList = pre ++ x :: suf)
    (hpass : ∀ z ∈ pre, covers z pc = false ∨ (z.catchType ≠ 0 ∧ ∃ nm : String, (Cond.classLink own z.catchType nm).before args s = true ∧ va_Nc E nm s)) (hx : covers x pc = true) (h0 : x.catchType ≠ 0)
    (hlink : (Cond.classLink own x.catchType name).before args s = true) (hcast : (Cond.castable E name).before args s = true) (hcell : H[q]? = some ce) (hv : ce.vm = .none) (hcl : s.vm.findClass E = some ce.cls)
    (kk : W p l e R s m args below meth c H locs cells slots Q (F0 m x.handlerPc ls [.ref q])) : vx_W p l e R s m args below meth c H locs cells slots Q (F0 m pc ls rest) q := by
  intro T hT X
  have hpl : e.platform.magicAccessors = ({} : Platform).magicAccessors := by rw [X.admits.platform]
  obtain ⟨c3, c4, hc3, hc4, hasg⟩ := Cond.castable_spec hcast
  cases Option.some.inj (hc3.symm.trans hcl)
  obtain ⟨c5, hc5, hcl5⟩ := Cond.classLink_spec hown hlink e.platform hpl
  cases Option.some.inj (hc4.symm.trans hc5)
  obtain ⟨vm', X', st⟩ := X.thenCaughtThrough q (g := F0 m pc ls rest) rfl (Steps.refl _) (by rw [hT]; exact hcell) (by rw [hv]; rfl) (by obtain ⟨k9, h9, -⟩ := Vm.findClass_spec hcl; exact ⟨k9, h9⟩) pre x suf hsplit
    (fun z hz => by
      rcases hpass z hz with h | ⟨hz0, nm, hl1, hn1⟩
      · exact Or.inl h
      · obtain ⟨c6, hc6, hcl6⟩ := Cond.classLink_spec hown hl1 e.platform hpl
        obtain ⟨a8, b8, h1, h2, h3⟩ := hn1
        cases Option.some.inj (h1.symm.trans hcl)
        cases Option.some.inj (h2.symm.trans hc6)
        exact Or.inr ⟨hz0, _, hcl6, h3⟩) hx (Or.inr ⟨h0, c4, hcl5, hasg⟩)
  obtain ⟨t, a1, b1⟩ := kk (T.setVm vm') hT X'
  exact ⟨t, st.trans a1, b1⟩
end Rows
section Ends
variable {p : Program} {l : Launch} {e : Env} {R : Room} {s : State} {m : MethodId} {args : Array Value} {below : List Frame} {meth : Method} {c : Code} {H : Heap} {locs : List Loc} {cells slots : Nat} {Q : State → Prop}
variable {mc ms : Nat} {free : Addr → Prop} {A0 A1 : Nat → Prop} {H0 : Heap} {a : Array Value} {ls : Array Slot} {st0 rest : List Value}
variable {Qc : Array Value → State → Outcome → State → Prop} {XC : String → State → State → Prop}
/-- what a body that may throw owes at its end -/
def vx_MQ (below : List Frame) (Qc : Array Value → State → Outcome → State → Prop) (XC : String → State → State → Prop) (a : Array Value) (s : State) (mc ms : Nat) (free : Addr → Prop) : State → Prop := fun t =>
  ∃ o, t.status = .running ∧ Ended t below o ∧ vx_Q Qc XC mc ms free a s o t
theorem vx_ret {g : JFrame} {mc ms : Nat} (k : W p l e R s m args below meth c H locs cells slots (MQ below Qc args s mc ms free) g) : W p l e R s m args below meth c H locs cells slots (vx_MQ below Qc XC args s mc ms free) g := by
  intro T hT X
  obtain ⟨t, a1, o, b1, b2, b3, b4⟩ := k T hT X
  exact ⟨t, a1, o, b1, b2, Or.inl ⟨b3, b4⟩⟩
/-- not caught here: it goes on to the caller -/
theorem vx_widen {g : JFrame} {q : Addr} {k n : Nat} (h1 : cells ≤ k) (h2 : slots ≤ n) (kk : vx_W p l e R s m args below meth c H locs k n Q g q) : vx_W p l e R s m args below meth c H locs cells slots Q g q := fun T hT X => kk T hT (stand_widen X h1 h2)
theorem vx_out {pc : Nat} {E : String} {ce : Cell} {q : Addr} {mc ms : Nat} (hout : ∀ x ∈ c.exceptionTable.toList, covers x pc = false) (hlocks : meth.locks = false) (hcell : H[q]? = some ce) (hv : ce.vm = .none) (hcl : s.vm.findClass E = some ce.cls)
    (hx : ∀ t : State, t.heap = H → s.vm.Alike t.vm → XC E s t) (hf : ∀ z ∈ locs, free z.base) (hc : cells ≤ mc) (hs : slots ≤ ms) :
    vx_W p l e R s m args below meth c H locs cells slots (vx_MQ below Qc XC args s mc ms free) (F0 m pc ls rest) q := by
  intro T hT X
  obtain ⟨st1, hrun, hend, hW, hsm⟩ := X.leaveThrown q (g := F0 m pc ls rest) rfl rfl rfl hout hlocks
  have hcell9 : (T.setFrames (.throwing q :: below)).heap[q]? = some ce := by
    show T.heap[q]? = some ce
    rw [hT]; exact hcell
  exact ⟨_, st1, .threw q, hrun, hend, Or.inr ⟨q, rfl, E, ce, locs, hx _ hT hW.alike, hcell9, hv, hcl, hW, hsm.mono hc hs, hf⟩⟩
theorem vx_frame {U : State} {k n : Nat} (h : s.sameButNew ({ U with vm := s.vm } : State) locs k n) : s.heap.size ≤ U.heap.size ∧ ∀ q : Nat, q < s.heap.size → (∀ z ∈ locs, z.base ≠ q) → U.heap[q]? = s.heap[q]? := by
  obtain ⟨-, h2, -, -, -, h6⟩ := h
  refine ⟨h2, fun q hq hz => ?_⟩
  obtain ⟨c9, e1, e2, e3, e4⟩ := h6 q _ (Array.getElem?_eq_getElem hq)
  have hs : c9.slots = (s.heap[q]).slots := Array.ext_getElem? fun i => e4 i fun hm => hz _ hm rfl
  have h9 : c9 = s.heap[q] := by
    rw [hs] at e2
    exact e2
  have e5 : U.heap[q]? = some c9 := e1
  rw [e5, h9, Array.getElem?_eq_getElem hq]
/-- the words of a throw but the four that speak of the heap -/
def vx_no (w : Cond) : Bool := decide (w ≠ .isRef (.static Bundle.tN "UNASSIGNED_STACK" Bundle.steD)) && decide (w ≠ .isRef (.static Bundle.tN "SUPPRESSED_SENTINEL" Bundle.listD)) && decide (w ≠ .laysStatic Bundle.tN "UNASSIGNED_STACK" Bundle.steD) && decide (w ≠ .laysStatic Bundle.tN "SUPPRESSED_SENTINEL" Bundle.listD)
def vx_at0 (own : String) (ic : Nat) (X : String) (names : List String) : List Cond := (Bundle.ownAtoms0 own ic X names).filter vx_no
def vx_atS (own : String) (ic : Nat) (X : String) (names : List String) : List Cond := (Bundle.ownAtoms own ic X names).filter vx_no
/-- a word that the tables alone decide, or a good one -/
def vx_ot (w : Cond) : Bool := w.onTables || goodWord w
theorem vx_ot_at {args a' : Array Value} {s U : State} {w : Cond} (hW : s.WarmedH U.vm) (hvm : s.vm = U.vm) (hg : vx_ot w = true) (h : w.before args s = true) : w.before a' U = true := by
  simp only [vx_ot, Bool.or_eq_true] at hg
  rcases hg with hg | hg
  · exact va_tabs hg hvm h
  · exact word_at hW (good_of_word hg) h
/-- a list's words: the good ones out of the method's own list, the others by premises of their own -/
theorem vx_hat {args : Array Value} {s : State} {L B : List Cond} (h1 : ∀ w ∈ L.filter goodWord, w.before args s = true) (h2 : ∀ w ∈ L.filter (fun w => !goodWord w), w ∈ B) (h3 : ∀ w ∈ B, w.before args s = true) : ∀ w ∈ L, w.before args s = true := by
  intro w hw
  by_cases g : goodWord w = true
  · exact h1 w (List.mem_filter.mpr ⟨hw, g⟩)
  · refine h3 w (h2 w (List.mem_filter.mpr ⟨hw, ?_⟩))
    show (!goodWord w) = true
    cases hgw : goodWord w
    · rfl
    · exact absurd hgw g
theorem vx_c {args : Array Value} {s : State} {w : Cond} {B : List Cond} (h : w.before args s = true) (t : ∀ w ∈ B, w.before args s = true) : ∀ w' ∈ w :: B, w'.before args s = true := fun w' h' => (List.mem_cons.mp h').elim (fun e => by rw [e]; exact h) (t w')
theorem vx_n {args : Array Value} {s : State} : ∀ w ∈ ([] : List Cond), w.before args s = true := fun _ h => nomatch h
theorem vx_own {args : Array Value} {s : State} {L : List Cond} (h1 : ∀ w ∈ L.filter vx_no, w.before args s = true)
    (hU : (Cond.isRef (.static Bundle.tN "UNASSIGNED_STACK" Bundle.steD)).before args s = true) (hN : (Cond.isRef (.static Bundle.tN "SUPPRESSED_SENTINEL" Bundle.listD)).before args s = true)
    (lU : (Cond.laysStatic Bundle.tN "UNASSIGNED_STACK" Bundle.steD).before args s = true) (lN : (Cond.laysStatic Bundle.tN "SUPPRESSED_SENTINEL" Bundle.listD).before args s = true) : ∀ w ∈ L, w.before args s = true := by
  intro w hw
  by_cases e1 : w = .isRef (.static Bundle.tN "UNASSIGNED_STACK" Bundle.steD)
  · rw [e1]; exact hU
  · by_cases e2 : w = .isRef (.static Bundle.tN "SUPPRESSED_SENTINEL" Bundle.listD)
    · rw [e2]; exact hN
    · by_cases e3 : w = .laysStatic Bundle.tN "UNASSIGNED_STACK" Bundle.steD
      · rw [e3]; exact lU
      · by_cases e4 : w = .laysStatic Bundle.tN "SUPPRESSED_SENTINEL" Bundle.listD
        · rw [e4]; exact lN
        · exact h1 w (List.mem_filter.mpr ⟨hw, by unfold vx_no; rw [decide_eq_true e1, decide_eq_true e2, decide_eq_true e3, decide_eq_true e4]; rfl⟩)
/-- where a static field lies, its class's statics cell in H -/
def vx_L (C n d : String) (A : Nat → Prop) (U : State) (H : Heap) : Prop := ∃ (c : ClassId) (k : Class) (i : Nat) (f : Field) (a : Nat) (cell : Cell), U.vm.findClass C = some c ∧ U.fieldFound? C n d = some (c, k, i, f) ∧ f.isStatic = true ∧ k.statics = some a ∧ H[a]? = some cell ∧ cell.vm.isStatics = true ∧ cell.cls = c ∧ f.slot < cell.slots.size ∧ k.staticTypes[f.slot]? = some f.type ∧ ¬ A a
theorem vx_L.moved {C n d : String} {A : Nat → Prop} {u U : State} {H : Heap} (hvm : u.vm.Alike U.vm) (h : vx_L C n d A u H) : vx_L C n d A U H := by
  obtain ⟨c, k, i, f, a, cell, h1, h2, h3, h4, h5, h6, h7, h8, h9, h10⟩ := h
  obtain ⟨k', hi', he⟩ := State.fieldFound?_setVm hvm h2
  exact ⟨c, k', i, f, a, cell, by rw [hvm.findClass]; exact h1, hi', h3, by rw [he]; exact h4, h5, h6, h7, h8, by rw [he]; exact h9, h10⟩
theorem vx_L.kept {C n d : String} {A : Nat → Prop} {U : State} {H H1 : Heap} (h : vx_L C n d A U H) (hq : ∀ a : Nat, a < H.size → ¬ A a → H1[a]? = H[a]?) : vx_L C n d A U H1 := by
  obtain ⟨c, k, i, f, a, cell, h1, h2, h3, h4, h5, h6, h7, h8, h9, h10⟩ := h
  exact ⟨c, k, i, f, a, cell, h1, h2, h3, h4, by rw [hq a (Array.getElem?_eq_some_iff.mp h5).1 h10]; exact h5, h6, h7, h8, h9, h10⟩
theorem vx_L.narrow {C n d : String} {A B : Nat → Prop} {U : State} {H : Heap} (h : vx_L C n d A U H) (hAB : ∀ q, B q → A q) : vx_L C n d B U H := by
  obtain ⟨c, k, i, f, a, cell, h1, h2, h3, h4, h5, h6, h7, h8, h9, h10⟩ := h
  exact ⟨c, k, i, f, a, cell, h1, h2, h3, h4, h5, h6, h7, h8, h9, fun z => h10 (hAB _ z)⟩
theorem vx_L.word {C n d : String} {A : Nat → Prop} {s : State} {args : Array Value} (h : vx_L C n d A s s.heap) : (Cond.laysStatic C n d).before args s = true := by
  obtain ⟨c, k, i, f, a, cell, h1, h2, h3, h4, h5, h6, h7, h8, h9, -⟩ := h
  show (Cond.laysStatic C n d).holds args s none s [] = true
  exact Cond.laysStatic_of h1 h2 h3 h4 h5 h6 h7 h8 h9
/-- .. and what it holds: null or some reference -/
def vx_Zq (C n d : String) (A : Nat → Prop) (U : State) (H : Heap) : Prop := va_Zq C n d A U H ∧ vx_L C n d A U H
theorem vx_Zq.moved {C n d : String} {A : Nat → Prop} {u U : State} {H : Heap} (hvm : u.vm.Alike U.vm) (h : vx_Zq C n d A u H) : vx_Zq C n d A U H := ⟨va_Zq.moved hvm h.1, vx_L.moved hvm h.2⟩
theorem vx_Zq.kept {C n d : String} {A : Nat → Prop} {U : State} {H H1 : Heap} (h : vx_Zq C n d A U H) (hq : ∀ a : Nat, a < H.size → ¬ A a → H1[a]? = H[a]?) : vx_Zq C n d A U H1 := ⟨va_Zq.kept h.1 hq, vx_L.kept h.2 hq⟩
theorem vx_Zq.narrow {C n d : String} {A B : Nat → Prop} {U : State} {H : Heap} (h : vx_Zq C n d A U H) (hAB : ∀ q, B q → A q) : vx_Zq C n d B U H := ⟨va_Zq.narrow h.1 hAB, vx_L.narrow h.2 hAB⟩
theorem vx_Zqof {args : Array Value} {s : State} {C n d : String} {A : Nat → Prop} (hl : (Cond.laysStatic C n d).before args s = true) (hini : (Cond.initialized C).before args s = true) (h : (Cond.isRef (.static C n d)).before args s = true) (hA : ∀ a : Nat, a < s.heap.size → ¬ A a) : vx_Zq C n d A s s.heap := by
  refine ⟨va_Zqof hl hini h hA, ?_⟩
  obtain ⟨c, k, i, f, a, cell, h1, h2, h3, h4, h5, h6, h7, h8, h9⟩ := Cond.laysStatic_spec hl
  exact ⟨c, k, i, f, a, cell, h1, h2, h3, h4, h5, h6, h7, h8, h9, hA a (Array.getElem?_eq_some_iff.mp h5).1⟩
theorem vx_isRef {C n d : String} {v : Value} {A : Nat → Prop} {s : State} {args : Array Value} (h : va_Z C n d v A s s.heap) (hv : v.isRef = true) : (Cond.isRef (.static C n d)).before args s = true := by
  obtain ⟨cf, kf, fi, f, a, cell, h1, h2, h3, h4, h5, h6, h7, -⟩ := h
  have he : (Term.static C n d).eval args s none [] s = some v := by
    simp [Term.eval, State.fieldNamed?, h1, h2, h4, h5, h6, h7]
  simp only [Cond.before, Cond.holds, Cond.value, he]
  cases v <;> simp_all [Value.isRef]
theorem vx_isRefq {C n d : String} {A : Nat → Prop} {s : State} {args : Array Value} (h : va_Zq C n d A s s.heap) : (Cond.isRef (.static C n d)).before args s = true := by
  rcases h with h | ⟨t, h⟩
  · exact vx_isRef h rfl
  · exact vx_isRef h rfl
/-- the same frame, seen from here: as if the method were called anew in this heap -/
theorem vx_rebase {T : State} (X : Stand p l e R s m args below meth c T locs cells slots) {R' : Room} (hf : R'.frames ≤ R.frames) (hl : R'.locals ≤ R.locals) (hc : cells + R'.cells ≤ R.cells) (hs : slots + R'.slots ≤ R.slots) :
    Stand p l e R' ((T.setVm s.vm).setFrames (.invoking m args :: below)) m args below meth c T [] 0 0 := by
  have htop : (T.setVm s.vm).topJava?.isSome := X.here.top
  have hF : ((T.setVm s.vm).setFrames (.invoking m args :: below)).frames = .invoking m args :: below := State.frames_setFrames _ (State.cur_lt_of_top htop)
  obtain ⟨g₀, hg0⟩ := Option.isSome_iff_exists.mp htop
  obtain ⟨r, hr⟩ := State.topJava?_eq_some.mp hg0
  have hl9 : e.platform.stackLimits (T.setVm s.vm).me = e.platform.stackLimits s.me := X.limits
  have hb9 : (T.setVm s.vm).me.stackBytes = s.me.stackBytes := X.bytes
  refine ⟨X.admits, X.cas, X.clock, hF, ?_, X.hears, X.method, X.code, X.here, X.tail, X.warmed, ?_, ?_, ?_⟩
  · have h := X.room
    have hU : ((T.setVm s.vm).setFrames (.invoking m args :: below)).localsInUse = s.localsInUse := by
      rw [State.localsInUse_invoking hF (meth := meth) (c := c) X.method X.code, State.localsInUse_invoking X.frames X.method X.code]
    simp only [State.hasRoom, Bool.and_eq_true, decide_eq_true_eq] at h ⊢
    obtain ⟨⟨⟨⟨h1, h2, h3, h4, h5, h6⟩, h7⟩, h8⟩, h9⟩ := h
    rw [X.frames, List.length_cons] at h2 h3
    have q1 := X.heapSize
    have q2 := X.used
    simp only [hF, hU, List.length_cons, State.stackLimits_setFrames, State.stackBytes_setFrames, hl9, hb9]
    refine ⟨⟨⟨⟨by omega, by omega, by omega, by omega, by omega, h6⟩, ?_⟩, ?_⟩, X.book⟩
    · show T.heap.size + R'.cells ≤ e.platform.maxCells
      omega
    · show T.slotsUsed + R'.slots ≤ e.platform.maxSlots
      omega
  · rw [State.stackLimits_setFrames]; rfl
  · rw [State.stackBytes_setFrames]; rfl
  · refine ⟨?_, Nat.le_refl _, Nat.le_refl _, ?_, ?_, fun a c9 h9 => ⟨c9, h9, rfl, rfl, fun _ _ => rfl⟩⟩
    · obtain ⟨t, ht, -⟩ := State.frames_cons hr
      show T.setVm s.vm = { ((T.setVm s.vm).setFrames (.invoking m args :: below)).setFrames (T.setVm s.vm).frames with heap := T.heap, slotsUsed := T.slotsUsed }
      rw [State.setFrames_setFrames, State.setFrames_self ht]
      rfl
    · show T.slotsUsed = T.slotsUsed + ((T.heap.toList.drop T.heap.size).map (·.slots.size)).sum
      rw [List.drop_eq_nil_of_le (Nat.le_of_eq Array.length_toList)]
      rfl
    · show ((T.heap.toList.drop T.heap.size).map (·.slots.size)).sum ≤ 0
      rw [List.drop_eq_nil_of_le (Nat.le_of_eq Array.length_toList)]
      exact Nat.le_refl _
/-- 'throw new E()': new; dup; invokespecial; athrow -/
theorem vx_throw0 {cc : ByteArray} {pc : Nat} (hexec : p.tables.exec = Jvm.exec) (hb : c.code = cc) (hl : l.stackTraces = false) {own cls : String} {names : List String} {ik ic mc ms : Nat} {A : Nat → Prop}
    (hown : s.vm.findClass own = some m.cls) (hcls : Bundle.fit cls = true) (hnames : ∀ n ∈ names, Bundle.fit n = true)
    (hk : (Cond.classLink own ik cls).before args s = true) (hini : (Cond.initialized cls).before args s = true) (hat : ∀ w ∈ vx_at0 own ic cls names, w.before args s = true)
    (hgood : ∀ w ∈ Cond.classLink own ik cls :: Cond.initialized cls :: vx_at0 own ic cls names, vx_ot w = true)
    (hU : vx_Zq Bundle.tN "UNASSIGNED_STACK" Bundle.steD A s s.heap) (hN : vx_Zq Bundle.tN "SUPPRESSED_SENTINEL" Bundle.listD A s s.heap) (hS : va_S A s.heap H locs) (hsize : ls.size = c.maxLocals)
    (d0 : decode cc pc = .ok (.new ik, 3)) (d3 : decode cc (pc + 3) = .ok (.dup, 1)) (d4 : decode cc (pc + 4) = .ok (.invokespecial ic, 3)) (d7 : decode cc (pc + 7) = .ok (.athrow, 1))
    (hout : ∀ x ∈ c.exceptionTable.toList, covers x (pc + 7) = false)
    (hRframes : names.length + 3 < R.frames) (hRlocals : (rest.map fun v => v.category).sum + (13 * (names.length + 1) + 42) ≤ R.locals) (hRcells : cells + 1 ≤ R.cells) (hRslots : slots + 6 ≤ R.slots) (hlocks : meth.locks = false)
    (hx : ∀ t : State, s.vm.Alike t.vm → H.size ≤ t.heap.size → (∀ q : Nat, q < H.size → t.heap[q]? = H[q]?) → XC cls s t)
    (hf : ∀ z ∈ locs, free z.base) (hc : cells + 1 ≤ mc) (hs : slots + 6 ≤ ms) :
    W p l e R s m args below meth c H locs cells slots (vx_MQ below Qc XC args s mc ms free) (F0 m pc ls rest) := by
  intro T hT X
  have htr : e.platform.stackTraces = false := (show e.platform.stackTraces = l.stackTraces by rw [X.admits.platform]).trans hl
  have Y := vx_rebase X (R' := { frames := R.frames, locals := R.locals, cells := 1, slots := 6 }) (Nat.le_refl _) (Nat.le_refl _) hRcells hRslots
  obtain ⟨s', hA⟩ : ∃ z, z = (T.setVm s.vm).setFrames (.invoking m args :: below) := ⟨_, rfl⟩
  rw [← hA] at Y
  have hvm : s'.vm = s.vm := by rw [hA]; rfl
  have hhp : s'.heap = H := by rw [hA]; exact hT
  have hW0 : s.WarmedH s'.vm := by rw [hvm]; exact State.WarmedH.refl s
  have hat' : ∀ w ∈ vx_at0 own ic cls names, w.before args s' = true := fun w hw => vx_ot_at hW0 hvm.symm (hgood w (List.mem_cons_of_mem _ (List.mem_cons_of_mem _ hw))) (hat w hw)
  have hk' : (Cond.classLink own ik cls).before args s' = true := vx_ot_at hW0 hvm.symm (hgood _ List.mem_cons_self) hk
  have hini' : (Cond.initialized cls).before args s' = true := vx_ot_at hW0 hvm.symm (hgood _ (List.mem_cons_of_mem _ List.mem_cons_self)) hini
  have hU' : vx_Zq Bundle.tN "UNASSIGNED_STACK" Bundle.steD A s' s'.heap := by rw [hhp]; exact vx_Zq.moved hW0.alike (hU.kept hS.2.1)
  have hN' : vx_Zq Bundle.tN "SUPPRESSED_SENTINEL" Bundle.listD A s' s'.heap := by rw [hhp]; exact vx_Zq.moved hW0.alike (hN.kept hS.2.1)
  have h : ∀ w ∈ Bundle.ownAtoms0 own ic cls names, w.before args s' = true := vx_own hat' (vx_isRefq hU'.1) (vx_isRefq hN'.1) hU'.2.word hN'.2.word
  have hown' : s'.vm.findClass own = some m.cls := by rw [hvm]; exact hown
  have hins : (Cond.instantiable cls 6).before args s' = true := h _ (by simp [Bundle.ownAtoms0])
  obtain ⟨vm₁, cX, kX, hfX, hkX, -, -, X₁, st1⟩ := Y.newCold hexec (own := own) (C := cls) (index := ik) (n := 6) hown' hk' hins hini'
    (g := F0 m pc ls rest) rfl (by rw [hb]; exact d0) (Nat.le_refl _) (Nat.le_refl _)
  generalize hT1 : (T.setVm vm₁).pushCell { cls := cX, slots := kX.instanceTypes.map defaultValue, vm := .none } = T1 at X₁ st1
  have hcat : (Value.ref T.heap.size).category = 1 := rfl
  have hcellA : T1.heap[T.heap.size]? = some (freshCell cX kX) := by rw [← hT1]; exact State.heap_pushCell_size _ _
  have d3' : decode c.code (pc + 3) = .ok (.dup, 1) := by rw [hb]; exact d3
  obtain ⟨U, hsteps, hrun, hend, hW, hsame, ce, hce, hO⟩ := X₁.ctorThrow0 hexec htr (own := own) (cls := cls) (names := names) (ic := ic) hown' hcls hnames h (fun x hx => nomatch hx) hfX hkX hcellA (by rw [hhp, hT]; exact Nat.le_refl _)
    (g := { method := m, pc := pc + 4, locals := ls, stack := .ref T.heap.size :: .ref T.heap.size :: rest, locked := none }) rfl hsize rfl rfl (rest := rest) rfl
    (by rw [hb]; exact d4) (by rw [hb]; exact d7) hout hRframes (by simp only [List.map_cons, List.sum_cons, hcat]; omega) hlocks
  obtain ⟨f1, f2⟩ := vx_frame hsame
  rw [hhp] at f1 f2
  have hWs : s.WarmedH U.vm := State.WarmedH.trans hW0 hW
  have hcl : s.vm.findClass cls = some ce.cls := by
    have h9 := hO.cls
    rw [hvm] at h9
    exact h9
  have hall : s.sameButNew ({ U with vm := s.vm } : State) locs mc ms := by
    subst hA
    obtain ⟨e1, e2⟩ := hsame
    rw [State.setFrames_setFrames] at e1
    have h2 : (T.setVm s.vm).sameButNew ({ U with vm := s.vm } : State) [] (0 + 1) (0 + 6) := ⟨e1, e2⟩
    have h3 := X.same.trans h2
    rw [List.append_nil] at h3
    exact h3.mono hc hs
  refine ⟨U, ?_, .threw T.heap.size, hrun, hend, Or.inr ⟨T.heap.size, rfl, cls, ce, locs, hx U hWs.alike f1 (fun q hq => f2 q hq (fun z hz => nomatch hz)), hce, hO.vm, hcl, hWs, hall, hf⟩⟩
  refine st1 _ ?_
  show Steps p.tables e below (T1.setTop { method := m, pc := pc + 3, locals := ls, stack := .ref T.heap.size :: rest, locked := none }) _
  jvm_step X₁.here [X₁.here.top, hexec, d3', Value.category]
  exact hsteps
/-- 'throw new E("text")': new; dup; ldc; invokespecial; athrow -/
theorem vx_throwS {cc : ByteArray} {pc : Nat} (hexec : p.tables.exec = Jvm.exec) (hb : c.code = cc) (hl : l.stackTraces = false) {own cls text : String} {names : List String} {ik is ic mc ms sa : Nat} {A : Nat → Prop}
    (hown : s.vm.findClass own = some m.cls) (hcls : Bundle.fit cls = true) (hnames : ∀ n ∈ names, Bundle.fit n = true)
    (hk : (Cond.classLink own ik cls).before args s = true) (hini : (Cond.initialized cls).before args s = true) (hstr : vk_R own is text sa s) (hat : ∀ w ∈ vx_atS own ic cls names, w.before args s = true)
    (hgood : ∀ w ∈ Cond.classLink own ik cls :: Cond.initialized cls :: vx_atS own ic cls names, vx_ot w = true)
    (hU : vx_Zq Bundle.tN "UNASSIGNED_STACK" Bundle.steD A s s.heap) (hN : vx_Zq Bundle.tN "SUPPRESSED_SENTINEL" Bundle.listD A s s.heap) (hS : va_S A s.heap H locs) (hsize : ls.size = c.maxLocals)
    (d0 : decode cc pc = .ok (.new ik, 3)) (d3 : decode cc (pc + 3) = .ok (.dup, 1)) (d4 : decode cc (pc + 4) = .ok (.ldc is, 2)) (d6 : decode cc (pc + 6) = .ok (.invokespecial ic, 3)) (d9 : decode cc (pc + 9) = .ok (.athrow, 1))
    (hout : ∀ x ∈ c.exceptionTable.toList, covers x (pc + 9) = false)
    (hRframes : names.length + 3 < R.frames) (hRlocals : (rest.map fun v => v.category).sum + (13 * (names.length + 1) + 43) ≤ R.locals) (hRcells : cells + 1 ≤ R.cells) (hRslots : slots + 6 ≤ R.slots) (hlocks : meth.locks = false)
    (hx : ∀ t : State, s.vm.Alike t.vm → H.size ≤ t.heap.size → (∀ q : Nat, q < H.size → t.heap[q]? = H[q]?) → XC cls s t)
    (hf : ∀ z ∈ locs, free z.base) (hc : cells + 1 ≤ mc) (hs : slots + 6 ≤ ms) :
    W p l e R s m args below meth c H locs cells slots (vx_MQ below Qc XC args s mc ms free) (F0 m pc ls rest) := by
  intro T hT X
  have htr : e.platform.stackTraces = false := (show e.platform.stackTraces = l.stackTraces by rw [X.admits.platform]).trans hl
  have Y := vx_rebase X (R' := { frames := R.frames, locals := R.locals, cells := 1, slots := 6 }) (Nat.le_refl _) (Nat.le_refl _) hRcells hRslots
  obtain ⟨s', hA⟩ : ∃ z, z = (T.setVm s.vm).setFrames (.invoking m args :: below) := ⟨_, rfl⟩
  rw [← hA] at Y
  have hvm : s'.vm = s.vm := by rw [hA]; rfl
  have hhp : s'.heap = H := by rw [hA]; exact hT
  have hW0 : s.WarmedH s'.vm := by rw [hvm]; exact State.WarmedH.refl s
  have hat' : ∀ w ∈ vx_atS own ic cls names, w.before args s' = true := fun w hw => vx_ot_at hW0 hvm.symm (hgood w (List.mem_cons_of_mem _ (List.mem_cons_of_mem _ hw))) (hat w hw)
  have hk' : (Cond.classLink own ik cls).before args s' = true := vx_ot_at hW0 hvm.symm (hgood _ List.mem_cons_self) hk
  have hini' : (Cond.initialized cls).before args s' = true := vx_ot_at hW0 hvm.symm (hgood _ (List.mem_cons_of_mem _ List.mem_cons_self)) hini
  have hU' : vx_Zq Bundle.tN "UNASSIGNED_STACK" Bundle.steD A s' s'.heap := by rw [hhp]; exact vx_Zq.moved hW0.alike (hU.kept hS.2.1)
  have hN' : vx_Zq Bundle.tN "SUPPRESSED_SENTINEL" Bundle.listD A s' s'.heap := by rw [hhp]; exact vx_Zq.moved hW0.alike (hN.kept hS.2.1)
  have h : ∀ w ∈ Bundle.ownAtoms own ic cls names, w.before args s' = true := vx_own hat' (vx_isRefq hU'.1) (vx_isRefq hN'.1) hU'.2.word hN'.2.word
  have hown' : s'.vm.findClass own = some m.cls := by rw [hvm]; exact hown
  have hins : (Cond.instantiable cls 6).before args s' = true := h _ (by simp [Bundle.ownAtoms])
  obtain ⟨vm₁, cX, kX, hfX, hkX, -, -, X₁, st1⟩ := Y.newCold hexec (own := own) (C := cls) (index := ik) (n := 6) hown' hk' hins hini'
    (g := F0 m pc ls rest) rfl (by rw [hb]; exact d0) (Nat.le_refl _) (Nat.le_refl _)
  generalize hT1 : (T.setVm vm₁).pushCell { cls := cX, slots := kX.instanceTypes.map defaultValue, vm := .none } = T1 at X₁ st1
  have hcat : (Value.ref T.heap.size).category = 1 := rfl
  have hcellA : T1.heap[T.heap.size]? = some (freshCell cX kX) := by rw [← hT1]; exact State.heap_pushCell_size _ _
  have d3' : decode c.code (pc + 3) = .ok (.dup, 1) := by rw [hb]; exact d3
  have d4' : decode c.code (pc + 4) = .ok (.ldc is, 2) := by rw [hb]; exact d4
  have hstr' : vk_R own is text sa s' := vk_R.warm hW0 hstr
  obtain ⟨U, hsteps, hrun, hend, hW, hsame, ce, hce, hO⟩ := X₁.ctorThrowS hexec htr (own := own) (cls := cls) (names := names) (ic := ic) hown' hcls hnames h (fun x hx => nomatch hx) hfX hkX hcellA (by rw [hhp, hT]; exact Nat.le_refl _) (msg := .ref sa) rfl
    (g := { method := m, pc := pc + 6, locals := ls, stack := .ref sa :: .ref T.heap.size :: .ref T.heap.size :: rest, locked := none }) rfl hsize rfl rfl (rest := rest) rfl
    (by rw [hb]; exact d6) (by rw [hb]; exact d9) hout hRframes (by simp only [List.map_cons, List.sum_cons, hcat]; omega) hlocks
  obtain ⟨f1, f2⟩ := vx_frame hsame
  rw [hhp] at f1 f2
  have hWs : s.WarmedH U.vm := State.WarmedH.trans hW0 hW
  have hcl : s.vm.findClass cls = some ce.cls := by
    have h9 := hO.cls
    rw [hvm] at h9
    exact h9
  have hall : s.sameButNew ({ U with vm := s.vm } : State) locs mc ms := by
    subst hA
    obtain ⟨e1, e2⟩ := hsame
    rw [State.setFrames_setFrames] at e1
    have h2 : (T.setVm s.vm).sameButNew ({ U with vm := s.vm } : State) [] (0 + 1) (0 + 6) := ⟨e1, e2⟩
    have h3 := X.same.trans h2
    rw [List.append_nil] at h3
    exact h3.mono hc hs
  refine ⟨U, ?_, .threw T.heap.size, hrun, hend, Or.inr ⟨T.heap.size, rfl, cls, ce, locs, hx U hWs.alike f1 (fun q hq => f2 q hq (fun z hz => nomatch hz)), hce, hO.vm, hcl, hWs, hall, hf⟩⟩
  refine st1 _ ?_
  show Steps p.tables e below (T1.setTop { method := m, pc := pc + 3, locals := ls, stack := .ref T.heap.size :: rest, locked := none }) _
  jvm_step X₁.here [X₁.here.top, hexec, d3', Value.category]
  exact X₁.ldcString hexec (own := own) (text := text) (index := is) (a := sa) hown' hstr'.1 hstr'.2
    (g := { method := m, pc := pc + 4, locals := ls, stack := .ref T.heap.size :: .ref T.heap.size :: rest, locked := none }) rfl d4' _ hsteps
/-- 'throw new E("text")', the text by a wide index -/
theorem vx_throwSW {cc : ByteArray} {pc : Nat} (hexec : p.tables.exec = Jvm.exec) (hb : c.code = cc) (hl : l.stackTraces = false) {own cls text : String} {names : List String} {ik is ic mc ms sa : Nat} {A : Nat → Prop}
    (hown : s.vm.findClass own = some m.cls) (hcls : Bundle.fit cls = true) (hnames : ∀ n ∈ names, Bundle.fit n = true)
    (hk : (Cond.classLink own ik cls).before args s = true) (hini : (Cond.initialized cls).before args s = true) (hstr : vk_R own is text sa s) (hat : ∀ w ∈ vx_atS own ic cls names, w.before args s = true)
    (hgood : ∀ w ∈ Cond.classLink own ik cls :: Cond.initialized cls :: vx_atS own ic cls names, vx_ot w = true)
    (hU : vx_Zq Bundle.tN "UNASSIGNED_STACK" Bundle.steD A s s.heap) (hN : vx_Zq Bundle.tN "SUPPRESSED_SENTINEL" Bundle.listD A s s.heap) (hS : va_S A s.heap H locs) (hsize : ls.size = c.maxLocals)
    (d0 : decode cc pc = .ok (.new ik, 3)) (d3 : decode cc (pc + 3) = .ok (.dup, 1)) (d4 : decode cc (pc + 4) = .ok (.ldc_w is, 3)) (d7 : decode cc (pc + 7) = .ok (.invokespecial ic, 3)) (d10 : decode cc (pc + 10) = .ok (.athrow, 1))
    (hout : ∀ x ∈ c.exceptionTable.toList, covers x (pc + 10) = false)
    (hRframes : names.length + 3 < R.frames) (hRlocals : (rest.map fun v => v.category).sum + (13 * (names.length + 1) + 43) ≤ R.locals) (hRcells : cells + 1 ≤ R.cells) (hRslots : slots + 6 ≤ R.slots) (hlocks : meth.locks = false)
    (hx : ∀ t : State, s.vm.Alike t.vm → H.size ≤ t.heap.size → (∀ q : Nat, q < H.size → t.heap[q]? = H[q]?) → XC cls s t)
    (hf : ∀ z ∈ locs, free z.base) (hc : cells + 1 ≤ mc) (hs : slots + 6 ≤ ms) :
    W p l e R s m args below meth c H locs cells slots (vx_MQ below Qc XC args s mc ms free) (F0 m pc ls rest) := by
  intro T hT X
  have htr : e.platform.stackTraces = false := (show e.platform.stackTraces = l.stackTraces by rw [X.admits.platform]).trans hl
  have Y := vx_rebase X (R' := { frames := R.frames, locals := R.locals, cells := 1, slots := 6 }) (Nat.le_refl _) (Nat.le_refl _) hRcells hRslots
  obtain ⟨s', hA⟩ : ∃ z, z = (T.setVm s.vm).setFrames (.invoking m args :: below) := ⟨_, rfl⟩
  rw [← hA] at Y
  have hvm : s'.vm = s.vm := by rw [hA]; rfl
  have hhp : s'.heap = H := by rw [hA]; exact hT
  have hW0 : s.WarmedH s'.vm := by rw [hvm]; exact State.WarmedH.refl s
  have hat' : ∀ w ∈ vx_atS own ic cls names, w.before args s' = true := fun w hw => vx_ot_at hW0 hvm.symm (hgood w (List.mem_cons_of_mem _ (List.mem_cons_of_mem _ hw))) (hat w hw)
  have hk' : (Cond.classLink own ik cls).before args s' = true := vx_ot_at hW0 hvm.symm (hgood _ List.mem_cons_self) hk
  have hini' : (Cond.initialized cls).before args s' = true := vx_ot_at hW0 hvm.symm (hgood _ (List.mem_cons_of_mem _ List.mem_cons_self)) hini
  have hU' : vx_Zq Bundle.tN "UNASSIGNED_STACK" Bundle.steD A s' s'.heap := by rw [hhp]; exact vx_Zq.moved hW0.alike (hU.kept hS.2.1)
  have hN' : vx_Zq Bundle.tN "SUPPRESSED_SENTINEL" Bundle.listD A s' s'.heap := by rw [hhp]; exact vx_Zq.moved hW0.alike (hN.kept hS.2.1)
  have h : ∀ w ∈ Bundle.ownAtoms own ic cls names, w.before args s' = true := vx_own hat' (vx_isRefq hU'.1) (vx_isRefq hN'.1) hU'.2.word hN'.2.word
  have hown' : s'.vm.findClass own = some m.cls := by rw [hvm]; exact hown
  have hins : (Cond.instantiable cls 6).before args s' = true := h _ (by simp [Bundle.ownAtoms])
  obtain ⟨vm₁, cX, kX, hfX, hkX, -, -, X₁, st1⟩ := Y.newCold hexec (own := own) (C := cls) (index := ik) (n := 6) hown' hk' hins hini'
    (g := F0 m pc ls rest) rfl (by rw [hb]; exact d0) (Nat.le_refl _) (Nat.le_refl _)
  generalize hT1 : (T.setVm vm₁).pushCell { cls := cX, slots := kX.instanceTypes.map defaultValue, vm := .none } = T1 at X₁ st1
  have hcat : (Value.ref T.heap.size).category = 1 := rfl
  have hcellA : T1.heap[T.heap.size]? = some (freshCell cX kX) := by rw [← hT1]; exact State.heap_pushCell_size _ _
  have d3' : decode c.code (pc + 3) = .ok (.dup, 1) := by rw [hb]; exact d3
  have d4' : decode c.code (pc + 4) = .ok (.ldc_w is, 3) := by rw [hb]; exact d4
  have hstr' : vk_R own is text sa s' := vk_R.warm hW0 hstr
  obtain ⟨U, hsteps, hrun, hend, hW, hsame, ce, hce, hO⟩ := X₁.ctorThrowS hexec htr (own := own) (cls := cls) (names := names) (ic := ic) hown' hcls hnames h (fun x hx => nomatch hx) hfX hkX hcellA (by rw [hhp, hT]; exact Nat.le_refl _) (msg := .ref sa) rfl
    (g := { method := m, pc := pc + 7, locals := ls, stack := .ref sa :: .ref T.heap.size :: .ref T.heap.size :: rest, locked := none }) rfl hsize rfl rfl (rest := rest) rfl
    (by rw [hb]; exact d7) (by rw [hb]; exact d10) hout hRframes (by simp only [List.map_cons, List.sum_cons, hcat]; omega) hlocks
  obtain ⟨f1, f2⟩ := vx_frame hsame
  rw [hhp] at f1 f2
  have hWs : s.WarmedH U.vm := State.WarmedH.trans hW0 hW
  have hcl : s.vm.findClass cls = some ce.cls := by
    have h9 := hO.cls
    rw [hvm] at h9
    exact h9
  have hall : s.sameButNew ({ U with vm := s.vm } : State) locs mc ms := by
    subst hA
    obtain ⟨e1, e2⟩ := hsame
    rw [State.setFrames_setFrames] at e1
    have h2 : (T.setVm s.vm).sameButNew ({ U with vm := s.vm } : State) [] (0 + 1) (0 + 6) := ⟨e1, e2⟩
    have h3 := X.same.trans h2
    rw [List.append_nil] at h3
    exact h3.mono hc hs
  refine ⟨U, ?_, .threw T.heap.size, hrun, hend, Or.inr ⟨T.heap.size, rfl, cls, ce, locs, hx U hWs.alike f1 (fun q hq => f2 q hq (fun z hz => nomatch hz)), hce, hO.vm, hcl, hWs, hall, hf⟩⟩
  refine st1 _ ?_
  show Steps p.tables e below (T1.setTop { method := m, pc := pc + 3, locals := ls, stack := .ref T.heap.size :: rest, locked := none }) _
  jvm_step X₁.here [X₁.here.top, hexec, d3', Value.category]
  exact X₁.ldcStringW hexec (own := own) (text := text) (index := is) (a := sa) hown' hstr'.1 hstr'.2
    (g := { method := m, pc := pc + 4, locals := ls, stack := .ref T.heap.size :: .ref T.heap.size :: rest, locked := none }) rfl d4' _ hsteps
end Ends
section Bodies
variable {l : Launch}
theorem vx_ofW {y : MethodName} {ws ws' : List Cond} {rm : Room} {Pc : Array Value → State → Prop} {Qc : Array Value → State → Outcome → State → Prop} {XC : String → State → State → Prop} {mc ms : Nat} {free : Addr → Prop} {cc : ByteArray} {maxL : Nat} {ret : Option FieldType}
    (hy : plainName y.cls = true) (hw : ws = Cond.code y cc maxL ret :: ws')
    (body : ∀ p e s m args below meth c s₁, BodyLoose p l y (headSpec ws rm) cc maxL ret e s m args below meth c s₁ → c.maxLocals = maxL → (∀ x ∈ c.exceptionTable.toList, False) → Pc args s →
      W p l e (headSpec ws rm).room s m args below meth c s.heap [] 0 0 (vx_MQ below Qc XC args s mc ms free) (entryFrame m args maxL)) : vx_Met l y ws rm Pc Qc XC mc ms free := by
  refine MetFree.of_bodyS (code := cc) (maxLocals := maxL) (ret := ret) hy ?_ ?_
  · intro args s m h hn
    obtain ⟨meth, c, h1, h2, h3, h4, h5, h6, -, -⟩ := Cond.code_spec hn (atoms_spec (ws := ws) h _ (by rw [hw]; exact List.mem_cons_self))
    exact ⟨meth, c, h1, h2, h3, h4, h5, h6⟩
  · intro p e s m args below meth c s₁ B hml hP _
    have hh0 : s₁.heap = s.heap := by rw [B.state]; rfl
    have ht : ∀ x ∈ c.exceptionTable.toList, False := by
      obtain ⟨meth9, c9, h1, h2, -, -, -, -, h7, -⟩ := Cond.code_spec B.named (atoms_spec (ws := ws) B.pre _ (by rw [hw]; exact List.mem_cons_self))
      cases Option.some.inj (h1.symm.trans B.method)
      cases Option.some.inj (h2.symm.trans (Stand.of_body B).code)
      intro x hx
      rw [Array.isEmpty_iff.mp h7] at hx
      cases hx
    obtain ⟨t, a1, o, b1, b2, b3⟩ := body p e s m args below meth c s₁ B hml ht hP s₁ hh0 (Stand.of_body B)
    exact ⟨t, o, a1, b1, b2, b3⟩
/-- the table of a body with handlers -/
theorem vx_table {p : Program} {x y : MethodName} {S : Spec} {cc bytes : ByteArray} {maxL maxL' : Nat} {ret ret' : Option FieldType} {e : Env} {s s₁ : State} {m : MethodId} {args : Array Value} {below : List Frame} {meth : Method} {c : Code} {hh : List (Nat × Nat × Nat × Nat)}
    (B : BodyLoose p l y S cc maxL ret e s m args below meth c s₁) (h : (Cond.codeWith y bytes maxL' ret' hh).before args s = true) : c.exceptionTable.toList = tableOf hh := by
  obtain ⟨m9, meth9, c9, hn9, h1, h2, -, -, h6, -⟩ := Cond.codeWith_spec h
  cases Option.some.inj (hn9.symm.trans B.named)
  cases Option.some.inj (h1.symm.trans B.method)
  cases Option.some.inj (h2.symm.trans (Stand.of_body B).code)
  rw [← h6, table_eq]
end Bodies
end VXA
/-! ===== END ===== -/
/-! ===== BEGIN a static call of a method with an exception table ===== -/
section VXS
variable {p : Program} {l : Launch} {e : Env} {R : Room} {s : State} {m : MethodId} {args : Array Value} {below : List Frame} {meth : Method} {c : Code} {T : State} {H : Heap} {locs : List Loc} {cells slots : Nat}
abbrev vx_CSW (R : Room) (s : State) (args : Array Value) (own : String) (index : Nat) (y : MethodName) (bytes : ByteArray) (maxL : Nat) (ret : Option FieldType) (hh : List (Nat × Nat × Nat × Nat)) (ws : List Cond) (rm : Room) (mc ms n : Nat) : Prop :=
  (rm.cells = mc ∧ rm.slots = ms ∧ rm.frames + 1 ≤ R.frames ∧ 8 + (maxL + 11) + rm.locals ≤ R.locals ∧ (∀ w ∈ ws, ∀ (a' : Array Value) (U : State), s.WarmedH U.vm → w.before a' U = true) ∧ Cond.codeWith y bytes maxL ret hh ∈ ws) ∧
  (Cond.codeWith y bytes maxL ret hh).before args s = true ∧ (Cond.initialized y.cls).before args s = true ∧ (y.cls ≠ "java/lang/invoke/MethodHandle" ∧ y.cls ≠ "java/lang/invoke/VarHandle") ∧
  (∀ sig, parseMethodDescriptor y.desc = some sig → n = sig.parameters.length) ∧ (Cond.methodLink own index y).before args s = true ∧ (Cond.static y).before args s = true
theorem vx_cwSW {own : String} {index maxL mc ms : Nat} {y : MethodName} {bytes : ByteArray} {ret : Option FieldType} {hh : List (Nat × Nat × Nat × Nat)} {Ts ws ws' : List Cond} {rm : Room} (n : Nat) (ht : ∀ w ∈ Ts, w.before args s = true) (hT : GoodIn Ts (va_wsS own index y ws)) (hw : ws = Cond.codeWith y bytes maxL ret hh :: ws') (hrc : rm.cells = mc) (hrs : rm.slots = ms)
    (hd : y.cls ≠ "java/lang/invoke/MethodHandle" ∧ y.cls ≠ "java/lang/invoke/VarHandle" ∧ (parseMethodDescriptor y.desc).map (fun d => d.parameters.length) = some n) (hR : rm.frames + 1 ≤ R.frames ∧ 8 + (maxL + 11) + rm.locals ≤ R.locals) :
    vx_CSW R s args own index y bytes maxL ret hh ws rm mc ms n := by
  have ok : ∀ w ∈ va_wsS own index y ws, w.before args s = true := fun w h => ht w (hT w h).1
  have hG : GoodIn Ts ws := fun w h => hT w (by unfold va_wsS; exact List.mem_append_right _ h)
  have hc : Cond.codeWith y bytes maxL ret hh ∈ ws := by rw [hw]; exact List.mem_cons_self
  refine ⟨⟨hrc, hrs, hR.1, hR.2, pay_in ht hG, hc⟩, ht _ (hG _ hc).1, ok _ (by simp [va_wsS]), ⟨hd.1, hd.2.1⟩, fun sig h => ?_, ok _ (by simp [va_wsS]), ok _ (by simp [va_wsS])⟩
  have h2 := hd.2.2
  rw [h] at h2
  exact (Option.some.inj h2).symm
theorem vx_callSW (X : Stand p l e R s m args below meth c T locs cells slots) (hexec : p.tables.exec = Jvm.exec) {own : String} {index : Nat} {y : MethodName} {bytes : ByteArray} {maxL : Nat} {ret : Option FieldType} {hh : List (Nat × Nat × Nat × Nat)}
    (hown : s.vm.findClass own = some m.cls) (hlink : (Cond.methodLink own index y).before args s = true) (hstat : (Cond.static y).before args s = true) (hinit : (Cond.initialized y.cls).before args s = true)
    (hcode : (Cond.codeWith y bytes maxL ret hh).before args s = true) (hy : y.cls ≠ "java/lang/invoke/MethodHandle" ∧ y.cls ≠ "java/lang/invoke/VarHandle")
    {W9 : Nat} {Pre : Pt → Array Value → Prop} {Post : Pt → Array Value → Option Value → Pt → Prop} (hK : Back l R p e below s args y 3 W9 Pre Post)
    {g : JFrame} (hg : g.method = m) (hsize : g.locals.size = c.maxLocals) {argsL rest : List Value} (hlen : ∀ sig, parseMethodDescriptor y.desc = some sig → argsL.length = sig.parameters.length)
    (hstack : g.stack = argsL.reverse ++ rest) (hW : 2 * g.monitorRoom + (rest.map fun v => v.category).sum ≤ W9) (hdg : decode c.code g.pc = .ok (.invokestatic index, 3))
    (hpre : ∀ vm₁, s.WarmedH vm₁ → Pre ⟨T.setVm vm₁, locs, cells, slots⟩ argsL.toArray) :
    ∃ (v : Option Value) (vm₁ : Vm) (B : Pt), s.WarmedH vm₁ ∧ Stand p l e R s m args below meth c B.U B.locs B.cells B.slots ∧ Post ⟨T.setVm vm₁, locs, cells, slots⟩ argsL.toArray v B ∧
      ∀ target, Steps p.tables e below (B.U.setTop { g with pc := g.pc + 3, stack := v.toList ++ rest }) target → Steps p.tables e below (T.setTop g) target := by
  obtain ⟨mk, methM, cM, hnamed, hmethM, -, -, -, -, -, -, hsigM⟩ := Cond.codeWith_spec hcode
  have hstatic : methM.isStatic = true := Cond.static_spec hnamed hmethM hstat
  obtain ⟨kP, hkP, -⟩ := className_of_methodNamed hnamed
  have hinitP : kP.init = .initialized := Cond.initialized_spec (findClass_of_methodNamed hnamed) hkP hinit
  obtain ⟨vm₁, X₁, hstep₁⟩ := X.invokestatic hexec hown hlink hnamed hmethM hstatic hkP hinitP hy (g := g) hg (argsL := argsL) (rest := rest) (hlen _ hsigM) hstack hdg
  obtain ⟨v, B, X', hpost, hsteps⟩ := hK m meth c ⟨T.setVm vm₁, locs, cells, slots⟩ { g with stack := rest } (.invokestatic index) mk argsL.toArray X₁ hg hsize hdg hW (X₁.named hnamed) (hpre vm₁ X₁.warmed)
  exact ⟨v, vm₁, B, X₁.warmed, X', hpost, fun target h => hstep₁ _ fun acts => by rw [doInvoke_state]; exact hsteps.trans h⟩
theorem vx_runSW {y : MethodName} {bytes cc : ByteArray} {maxL nL mc ms n index : Nat} {ret : Option FieldType} {hh : List (Nat × Nat × Nat × Nat)} {ws : List Cond} {rm : Room} {Pc : Array Value → State → Prop} {Qc : Array Value → State → Outcome → State → Prop} {free : Addr → Prop} {Ts : List Cond} {own : String} {As rest : List Value} {g : JFrame}
    (S : CallFix p m c cc nL s args Ts own) (hM : Met l y ws rm Pc Qc mc ms free) (cw : vx_CSW R s args own index y bytes maxL ret hh ws rm mc ms n) (hp : PreS s H Pc As)
    (hg : g.method = m) (hn : As.length = n) (hsize : g.locals.size = nL) (hstack : g.stack = As.reverse ++ rest) (hW : 2 * g.monitorRoom + (rest.map fun v => v.category).sum ≤ 8) (hdg : decode cc g.pc = .ok (.invokestatic index, 3)) (hf : cells + mc ≤ R.cells ∧ slots + ms ≤ R.slots) :
    va_Run p l e R s m args below meth c H locs cells slots mc ms g rest (Qc As.toArray) (free) := by
  obtain ⟨⟨hrc, hrs, hfr, hlo, hws, hcw⟩, hcode, hini, hy, hlen, hl, hstt⟩ := cw
  have hK : Back l R p e below s args y 3 8 (PreOf R mc ms Pc) (PostOf Qc mc ms free) := va_backW (hh := hh) (bytes := bytes) (maxL := maxL) (ret := ret) hM hp.1 hrc hrs hfr hlo hws hcw (fun a' U hW => word_at hW (Or.inl (by first | rfl | simp [Cond.onTables, Cond.keeps, Cond.steady])) hini)
  obtain ⟨hx, hb, hml, ho, -⟩ := S
  intro T hT X
  obtain ⟨v, vm₁, ⟨U', l2, c2, s2⟩, hW₁, X', ⟨g', mk, t, L, e1, e2, hq, h1, hL, h2, h3⟩, st⟩ := vx_callSW X hx (hh := hh) (bytes := bytes) (maxL := maxL) (ret := ret) ho hl hstt hini hcode hy hK hg (hsize.trans hml.symm) (argsL := As) (rest := rest) (fun sig h => hn.trans (hlen sig h)) hstack hW (by rw [hb]; exact hdg)
    (fun vm₁ hW₁ => ⟨hf.1, hf.2, hp.2 (T.setVm vm₁) hT hW₁⟩)
  dsimp only [Pt.U, Pt.locs, Pt.cells, Pt.slots] at X' e1 e2 h1 h2 h3 st
  subst h1; subst h2; subst h3
  exact ⟨v, (T.setVm vm₁).calling g' mk As.toArray, t, U', L, hT, X', hL, e1, e2, hq, st⟩
/-- not caught here, past rows that name other classes: it goes on to the caller -/
theorem vx_outP {p : Program} {l : Launch} {e : Env} {R : Room} {s : State} {m : MethodId} {args : Array Value} {below : List Frame} {meth : Method} {c : Code} {H : Heap} {locs : List Loc} {cells slots : Nat} {free : Addr → Prop} {ls : Array Slot} {rest : List Value} {Qc : Array Value → State → Outcome → State → Prop} {XC : String → State → State → Prop}
    {pc : Nat} {own E : String} {ce : Cell} {q : Addr} {mc ms : Nat} (hown : s.vm.findClass own = some m.cls) (hlocks : meth.locks = false)
    (hpass : ∀ z ∈ c.exceptionTable.toList, covers z pc = false ∨ (z.catchType ≠ 0 ∧ ∃ nm : String, (Cond.classLink own z.catchType nm).before args s = true ∧ va_Nc E nm s)) (hcell : H[q]? = some ce) (hv : ce.vm = .none) (hcl : s.vm.findClass E = some ce.cls)
    (hx : ∀ t : State, t.heap = H → s.vm.Alike t.vm → XC E s t) (hf : ∀ z ∈ locs, free z.base) (hc : cells ≤ mc) (hs : slots ≤ ms) :
    vx_W p l e R s m args below meth c H locs cells slots (vx_MQ below Qc XC args s mc ms free) (F0 m pc ls rest) q := by
  intro T hT X
  have hpl : e.platform.magicAccessors = ({} : Platform).magicAccessors := by rw [X.admits.platform]
  obtain ⟨vm', hW', X', st⟩ := X.outThrough hlocks q (g := F0 m pc ls rest) rfl rfl rfl (cell := ce) (by rw [hT]; exact hcell) (by rw [hv]; rfl)
    (by obtain ⟨k9, h9, -⟩ := Vm.findClass_spec hcl; exact ⟨k9, h9⟩) (fun z hz => by
      rcases hpass z hz with h | ⟨hz0, nm, hl1, hn1⟩
      · exact Or.inl h
      · obtain ⟨c6, hc6, hcl6⟩ := Cond.classLink_spec hown hl1 e.platform hpl
        obtain ⟨a8, b8, h1, h2, h3⟩ := hn1
        cases Option.some.inj (h1.symm.trans hcl)
        cases Option.some.inj (h2.symm.trans hc6)
        exact Or.inr ⟨hz0, _, hcl6, h3⟩)
  obtain ⟨g₀, hfr⟩ := X'.frames_eq
  have hcell9 : ((T.setVm vm').setFrames (.throwing q :: below)).heap[q]? = some ce := by
    show T.heap[q]? = some ce
    rw [hT]; exact hcell
  have hend : Ended ((T.setVm vm').setFrames (.throwing q :: below)) below (.threw q) := State.frames_setFrames _ (State.cur_lt_of_frames hfr)
  refine ⟨(T.setVm vm').setFrames (.throwing q :: below), ?_, .threw q, X'.here.running, hend, Or.inr ⟨q, rfl, E, ce, locs, hx _ hT (X'.ends _).1.alike, hcell9, hv, hcl, (X'.ends _).1, (X'.ends _).2.mono hc hs, hf⟩⟩
  rw [X.pushThrowing_eq]
  exact st
/-- a thing of a world lies in the heap -/
theorem vx_lt {D : va_G} {cl : List vw_C} {ws : va_W} {H1 : Heap} (h : va_P D cl ws H1) {k : Nat} {q : Nat × va_E} (hk : ws[k]? = some q) : q.1 < H1.size := (h k q hk).lt
end VXS
/-! ===== END ===== -/
/-! ===== BEGIN methods with a table of their own: called by a name, returning or throwing ===== -/
section VXH
/-! vx_backW, vx_callVX, vx_callSX, vx_callVW, vx_runVW, vx_runVX, vx_runSX, vx_ofWH follow the same proofs as their sisters above (Free/Laws.lean, Shelf42/LK1.lean); vx_outP calls Shelf42/NT130.lean (outThrough). -/
section
variable {l : Launch} {R : Room} {p : Program} {e : Env} {below : List Frame} {s : State} {sargs : Array Value} {y : MethodName} {len W9 : Nat}
theorem vx_backW {ws : List Cond} {rm : Room} {Pc : Array Value → State → Prop} {Qc : Array Value → State → Outcome → State → Prop} {XC : String → State → State → Prop} {mc ms : Nat} {free : Addr → Prop} {bytes : ByteArray} {maxL : Nat} {ret : Option FieldType} {hh : List (Nat × Nat × Nat × Nat)}
    (hM : vx_Met l y ws rm Pc Qc XC mc ms free) (hblind : FrameBlind Pc) (hrc : rm.cells = mc) (hrs : rm.slots = ms)
    (hframes : rm.frames + 1 ≤ R.frames) (hlocals : W9 + (maxL + 11) + rm.locals ≤ R.locals)
    (hws : ∀ w ∈ ws, ∀ a' U, s.WarmedH U.vm → w.before a' U = true) (hcode : Cond.codeWith y bytes maxL ret hh ∈ ws) (hinit : ∀ a' U, s.WarmedH U.vm → (Cond.initialized y.cls).before a' U = true) :
    vx_Back l R p e below s sargs y len W9 (PreOf R mc ms Pc) (PostOf Qc mc ms free) (vx_Post XC mc ms free) := by
  intro m meth c A g ig mk a X hg hsize hdg hW hn hp
  have h1 : (headSpec ws rm).pre.before a A.U = true := atoms_intro fun w hw => hws w hw _ _ X.warmed
  have h2 : (Cond.codeWith y bytes maxL ret hh).before a A.U = true := hws _ hcode _ _ X.warmed
  have h3 : (Cond.initialized y.cls).before a A.U = true := hinit _ _ X.warmed
  have h4 : A.cells + (headSpec ws rm).room.cells ≤ R.cells := by rw [show (headSpec ws rm).room.cells = mc from hrc]; exact hp.1
  have h5 : A.slots + (headSpec ws rm).room.slots ≤ R.slots := by rw [show (headSpec ws rm).room.slots = ms from hrs]; exact hp.2.1
  have hPc : Pc a (A.U.calling g mk a) := hblind _ _ _ _ hp.2.2
  obtain ⟨U, Ls, c0, s0⟩ := A
  dsimp only [Pt.U, Pt.locs, Pt.cells, Pt.slots] at h1 h2 h3 h4 h5 X hn hPc ⊢
  obtain ⟨m9, methY, cY, hn9, hmY, hcY, -, hlY, -⟩ := Cond.codeWith_spec h2
  cases Option.some.inj (hn9.symm.trans hn)
  obtain ⟨kY, hkY, -⟩ := className_of_methodNamed hn
  have hinitY : kY.init = .initialized := Cond.initialized_spec (findClass_of_methodNamed hn) hkY h3
  have h : At U g.method c below := by rw [hg]; exact X.here
  have hlocals9 : W9 + (maxL + 11) + (headSpec ws rm).room.locals ≤ R.locals := hlocals
  have happ : (headSpec ws rm).appliesLoose y e.platform (U.calling g mk a) = true :=
    Spec.appliesLoose_calling (g := g) h hdg hn hkY hinitY
      (X.room_calling (g := g) (R' := (headSpec ws rm).room) hsize hmY hcY hframes (by rw [hlY]; omega) h4 h5) h1
  obtain ⟨mid, hmid⟩ := h.above
  have hfr : (U.setTop g).frames = (.java g :: mid) ++ below := by rw [State.frames_setTop' g h.top, hmid]; rfl
  obtain ⟨o, s₂, hsteps, -, hend, hq⟩ := Steps.callFree hM p X.admits X.cas X.clock (acts := []) hfr happ hPc trivial
  have hq' : vx_Q Qc XC mc ms free a (U.calling g mk a) o s₂ := hq
  rw [State.frames_setTop' g h.top] at hend
  obtain ⟨g₀, hg0⟩ := Option.isSome_iff_exists.mp h.top
  obtain ⟨r, hr⟩ := State.topJava?_eq_some.mp hg0
  have hr' : (({ U with heap := s₂.heap, slotsUsed := s₂.slotsUsed } : State).setVm s₂.vm).frames = .java g₀ :: r := hr
  rcases hq' with ⟨hqc, L, hfe, hL⟩ | ⟨q, rfl, E, ce, L, hx, hce, hcv, hcl, hW₂, hsm, hL⟩
  · obtain ⟨⟨v, rfl⟩, hW₂, e2, q2, q3, q4, q5, q6⟩ := id hfe
    have e3 : s₂ = ({ (U.calling g mk a).setFrames s₂.frames with heap := s₂.heap, slotsUsed := s₂.slotsUsed } : State).setVm s₂.vm := by
      have : s₂ = ({ s₂ with vm := (U.calling g mk a).vm } : State).setVm s₂.vm := rfl
      rw [e2] at this
      exact this
    obtain ⟨c₂, i₂, len₂, hc₂, hd₂, hf₂⟩ := hend
    have hW' : U.WarmedH s₂.vm := hW₂
    have hcc : c₂ = c := by
      have h1 : s₂.code? g.method = U.code? g.method := by
        rw [State.code?_eq, State.code?_eq, hW'.alike.method?]
      exact Option.some.inj (hc₂.symm.trans (h1.trans h.code))
    subst hcc
    have hlen : len₂ = len := by rw [hdg] at hd₂; cases hd₂; rfl
    subst hlen
    have hs₂ : s₂ = (({ U with heap := s₂.heap, slotsUsed := s₂.slotsUsed } : State).setVm s₂.vm).setTop { g with pc := g.pc + len₂, stack := v.toList ++ g.stack } := by
      refine e3.trans ?_
      rw [hf₂, State.calling_eq h.top, State.setFrames_setFrames, State.setTop_of_frames _ hr', hr]
      rfl
    have hsame : U.sameButNew ({ U with heap := s₂.heap, slotsUsed := s₂.slotsUsed } : State) L mc ms := by
      refine ⟨?_, q2, q3, q4, q5, q6⟩
      obtain ⟨t, ht, -⟩ := State.frames_cons hr
      show ({ U with heap := s₂.heap, slotsUsed := s₂.slotsUsed } : State) = { U.setFrames U.frames with heap := s₂.heap, slotsUsed := s₂.slotsUsed }
      rw [State.setFrames_self ht]
    subst hg
    refine Or.inl ⟨v, ⟨(({ U with heap := s₂.heap, slotsUsed := s₂.slotsUsed } : State).setVm s₂.vm), Ls ++ L, c0 + mc, s0 + ms⟩,
      ⟨X.admits, X.cas, X.clock, X.frames, X.room, X.hears, X.method, X.code, (X.here.setHeapUsed s₂.heap s₂.slotsUsed).setVm hW'.alike, X.tail, State.WarmedH.trans X.warmed hW', X.limits, X.bytes, X.same.trans (hsame.setVm s.vm)⟩,
      ⟨g, mk, s₂, L, rfl, rfl, hqc, rfl, hL, rfl, rfl⟩, ?_⟩
    show Steps p.tables e below _ ((({ U with heap := s₂.heap, slotsUsed := s₂.slotsUsed } : State).setVm s₂.vm).setTop { g with pc := g.pc + len₂, stack := v.toList ++ g.stack })
    rw [← hs₂]
    exact hsteps
  · obtain ⟨e2, q2, q3, q4, q5, q6⟩ := id hsm
    have e3 : s₂ = ({ (U.calling g mk a).setFrames s₂.frames with heap := s₂.heap, slotsUsed := s₂.slotsUsed } : State).setVm s₂.vm := by
      have : s₂ = ({ s₂ with vm := (U.calling g mk a).vm } : State).setVm s₂.vm := rfl
      rw [e2] at this
      exact this
    have hf₂ : s₂.frames = .throwing q :: .java g :: U.frames.tail := hend
    have hW' : U.WarmedH s₂.vm := hW₂
    have hs₂ : s₂ = ((({ U with heap := s₂.heap, slotsUsed := s₂.slotsUsed } : State).setVm s₂.vm).setTop g).pushFrame (.throwing q) := by
      refine e3.trans ?_
      rw [hf₂, State.calling_eq h.top, State.setFrames_setFrames, State.pushFrame, State.frames_setTop _ hr', State.setTop_of_frames _ hr', State.setFrames_setFrames, hr]
      rfl
    have hsame : U.sameButNew ({ U with heap := s₂.heap, slotsUsed := s₂.slotsUsed } : State) L mc ms := by
      refine ⟨?_, q2, q3, q4, q5, q6⟩
      obtain ⟨t, ht, -⟩ := State.frames_cons hr
      show ({ U with heap := s₂.heap, slotsUsed := s₂.slotsUsed } : State) = { U.setFrames U.frames with heap := s₂.heap, slotsUsed := s₂.slotsUsed }
      rw [State.setFrames_self ht]
    subst hg
    refine Or.inr ⟨q, ⟨(({ U with heap := s₂.heap, slotsUsed := s₂.slotsUsed } : State).setVm s₂.vm), Ls ++ L, c0 + mc, s0 + ms⟩,
      ⟨X.admits, X.cas, X.clock, X.frames, X.room, X.hears, X.method, X.code, (X.here.setHeapUsed s₂.heap s₂.slotsUsed).setVm hW'.alike, X.tail, State.WarmedH.trans X.warmed hW', X.limits, X.bytes, X.same.trans (hsame.setVm s.vm)⟩,
      ⟨g, mk, s₂, L, E, ce, rfl, rfl, hx, hce, hcv, hcl, rfl, hL, rfl, rfl⟩, ?_⟩
    show Steps p.tables e below _ (((({ U with heap := s₂.heap, slotsUsed := s₂.slotsUsed } : State).setVm s₂.vm).setTop g).pushFrame (.throwing q))
    rw [← hs₂]
    exact hsteps
end
variable {p : Program} {l : Launch} {e : Env} {R : Room} {s : State} {m : MethodId} {args : Array Value} {below : List Frame} {meth : Method} {c : Code} {T : State} {H : Heap} {locs : List Loc} {cells slots : Nat}
theorem vx_callVX (X : Stand p l e R s m args below meth c T locs cells slots) (hexec : p.tables.exec = Jvm.exec) {own C : String} {index : Nat} {y : MethodName} {bytes : ByteArray} {maxL : Nat} {ret : Option FieldType} {hh : List (Nat × Nat × Nat × Nat)}
    (hown : s.vm.findClass own = some m.cls) (hlink : (Cond.methodLink own index y).before args s = true) (hinst : (Cond.instanceMethod y).before args s = true) (hsel : (Cond.selects C y y).before args s = true)
    (hcode : (Cond.codeWith y bytes maxL ret hh).before args s = true) (hy : y.cls ≠ "java/lang/invoke/MethodHandle" ∧ y.cls ≠ "java/lang/invoke/VarHandle")
    {W9 : Nat} {Pre : Pt → Array Value → Prop} {Post : Pt → Array Value → Option Value → Pt → Prop} {PostX : Pt → Array Value → Addr → Pt → Prop} (hK : vx_Back l R p e below s args y 3 W9 Pre Post PostX)
    {b : Addr} {cellB : Cell} (hcell : T.heap[b]? = some cellB) (hobj : cellB.vm.isStatics = false) (hcls : s.vm.findClass C = some cellB.cls)
    {g : JFrame} (hg : g.method = m) (hsize : g.locals.size = c.maxLocals) {argsL rest : List Value} (hlen : ∀ sig, parseMethodDescriptor y.desc = some sig → argsL.length = sig.parameters.length)
    (hstack : g.stack = argsL.reverse ++ .ref b :: rest) (hW : 2 * g.monitorRoom + (rest.map fun v => v.category).sum ≤ W9) (hdg : decode c.code g.pc = .ok (.invokevirtual index, 3))
    (hpre : ∀ vm₁, s.WarmedH vm₁ → Pre ⟨T.setVm vm₁, locs, cells, slots⟩ (Value.ref b :: argsL).toArray) :
    (∃ (v : Option Value) (vm₁ : Vm) (B : Pt), s.WarmedH vm₁ ∧ Stand p l e R s m args below meth c B.U B.locs B.cells B.slots ∧ Post ⟨T.setVm vm₁, locs, cells, slots⟩ (Value.ref b :: argsL).toArray v B ∧
      ∀ target, Steps p.tables e below (B.U.setTop { g with pc := g.pc + 3, stack := v.toList ++ rest }) target → Steps p.tables e below (T.setTop g) target) ∨
    (∃ (q : Addr) (vm₁ : Vm) (B : Pt), s.WarmedH vm₁ ∧ Stand p l e R s m args below meth c B.U B.locs B.cells B.slots ∧ PostX ⟨T.setVm vm₁, locs, cells, slots⟩ (Value.ref b :: argsL).toArray q B ∧
      Steps p.tables e below (T.setTop g) ((B.U.setTop { g with stack := rest }).pushFrame (.throwing q))) := by
  obtain ⟨mk, methM, hnamed, hmethM, hstM, habM⟩ := Cond.instanceMethod_spec hinst
  obtain ⟨m8, methM', cM, hn8, hmethM', -, -, -, -, -, -, hsigM⟩ := Cond.codeWith_spec hcode
  cases Option.some.inj (hn8.symm.trans hnamed)
  cases hmethM.symm.trans hmethM'
  obtain ⟨c2, r2, m2, q1, q2, q3, q4, kP, hkP, hkPi⟩ := Cond.selects_spec hsel
  cases hcls.symm.trans q1
  cases (State.methodFound?_of_named hnamed hy).symm.trans q2
  cases hnamed.symm.trans q3
  have hselP : selectMethod e.platform s.vm cellB.cls mk = .method mk := by rw [Launch.admits_selectMethod X.admits]; exact q4
  obtain ⟨vm₁, X₁, hstep₁⟩ := X.invokevirtual hexec hown hlink hnamed hmethM hstM hkP hkPi hy (a := b) (cell := cellB) hcell
    (fun z h => by rw [h] at hobj; cases hobj) hselP hmethM habM hkP hkPi (g := g) hg (argsL := argsL) (rest := rest) (hlen _ hsigM) hstack hdg
  rcases hK m meth c ⟨T.setVm vm₁, locs, cells, slots⟩ { g with stack := rest } (.invokevirtual index) mk (Value.ref b :: argsL).toArray X₁ hg hsize hdg hW (X₁.named hnamed) (hpre vm₁ X₁.warmed) with ⟨v, B, X', hpost, hsteps⟩ | ⟨q, B, X', hpost, hsteps⟩
  · exact Or.inl ⟨v, vm₁, B, X₁.warmed, X', hpost, fun target h => hstep₁ _ fun acts => by rw [doInvoke_state]; exact hsteps.trans h⟩
  · exact Or.inr ⟨q, vm₁, B, X₁.warmed, X', hpost, hstep₁ _ fun acts => by rw [doInvoke_state]; exact hsteps⟩
theorem vx_callSX (X : Stand p l e R s m args below meth c T locs cells slots) (hexec : p.tables.exec = Jvm.exec) {own : String} {index : Nat} {y : MethodName} {bytes : ByteArray} {maxL : Nat} {ret : Option FieldType} {hh : List (Nat × Nat × Nat × Nat)}
    (hown : s.vm.findClass own = some m.cls) (hlink : (Cond.methodLink own index y).before args s = true) (hstat : (Cond.static y).before args s = true) (hinit : (Cond.initialized y.cls).before args s = true)
    (hcode : (Cond.codeWith y bytes maxL ret hh).before args s = true) (hy : y.cls ≠ "java/lang/invoke/MethodHandle" ∧ y.cls ≠ "java/lang/invoke/VarHandle")
    {W9 : Nat} {Pre : Pt → Array Value → Prop} {Post : Pt → Array Value → Option Value → Pt → Prop} {PostX : Pt → Array Value → Addr → Pt → Prop} (hK : vx_Back l R p e below s args y 3 W9 Pre Post PostX)
    {g : JFrame} (hg : g.method = m) (hsize : g.locals.size = c.maxLocals) {argsL rest : List Value} (hlen : ∀ sig, parseMethodDescriptor y.desc = some sig → argsL.length = sig.parameters.length)
    (hstack : g.stack = argsL.reverse ++ rest) (hW : 2 * g.monitorRoom + (rest.map fun v => v.category).sum ≤ W9) (hdg : decode c.code g.pc = .ok (.invokestatic index, 3))
    (hpre : ∀ vm₁, s.WarmedH vm₁ → Pre ⟨T.setVm vm₁, locs, cells, slots⟩ argsL.toArray) :
    (∃ (v : Option Value) (vm₁ : Vm) (B : Pt), s.WarmedH vm₁ ∧ Stand p l e R s m args below meth c B.U B.locs B.cells B.slots ∧ Post ⟨T.setVm vm₁, locs, cells, slots⟩ argsL.toArray v B ∧
      ∀ target, Steps p.tables e below (B.U.setTop { g with pc := g.pc + 3, stack := v.toList ++ rest }) target → Steps p.tables e below (T.setTop g) target) ∨
    (∃ (q : Addr) (vm₁ : Vm) (B : Pt), s.WarmedH vm₁ ∧ Stand p l e R s m args below meth c B.U B.locs B.cells B.slots ∧ PostX ⟨T.setVm vm₁, locs, cells, slots⟩ argsL.toArray q B ∧
      Steps p.tables e below (T.setTop g) ((B.U.setTop { g with stack := rest }).pushFrame (.throwing q))) := by
  obtain ⟨mk, methM, cM, hnamed, hmethM, -, -, -, -, -, -, hsigM⟩ := Cond.codeWith_spec hcode
  have hstatic : methM.isStatic = true := Cond.static_spec hnamed hmethM hstat
  obtain ⟨kP, hkP, -⟩ := className_of_methodNamed hnamed
  have hinitP : kP.init = .initialized := Cond.initialized_spec (findClass_of_methodNamed hnamed) hkP hinit
  obtain ⟨vm₁, X₁, hstep₁⟩ := X.invokestatic hexec hown hlink hnamed hmethM hstatic hkP hinitP hy (g := g) hg (argsL := argsL) (rest := rest) (hlen _ hsigM) hstack hdg
  rcases hK m meth c ⟨T.setVm vm₁, locs, cells, slots⟩ { g with stack := rest } (.invokestatic index) mk argsL.toArray X₁ hg hsize hdg hW (X₁.named hnamed) (hpre vm₁ X₁.warmed) with ⟨v, B, X', hpost, hsteps⟩ | ⟨q, B, X', hpost, hsteps⟩
  · exact Or.inl ⟨v, vm₁, B, X₁.warmed, X', hpost, fun target h => hstep₁ _ fun acts => by rw [doInvoke_state]; exact hsteps.trans h⟩
  · exact Or.inr ⟨q, vm₁, B, X₁.warmed, X', hpost, hstep₁ _ fun acts => by rw [doInvoke_state]; exact hsteps⟩
theorem vx_callVW (X : Stand p l e R s m args below meth c T locs cells slots) (hexec : p.tables.exec = Jvm.exec) {own C : String} {index : Nat} {y : MethodName} {bytes : ByteArray} {maxL : Nat} {ret : Option FieldType} {hh : List (Nat × Nat × Nat × Nat)}
    (hown : s.vm.findClass own = some m.cls) (hlink : (Cond.methodLink own index y).before args s = true) (hinst : (Cond.instanceMethod y).before args s = true) (hsel : (Cond.selects C y y).before args s = true)
    (hcode : (Cond.codeWith y bytes maxL ret hh).before args s = true) (hy : y.cls ≠ "java/lang/invoke/MethodHandle" ∧ y.cls ≠ "java/lang/invoke/VarHandle")
    {W9 : Nat} {Pre : Pt → Array Value → Prop} {Post : Pt → Array Value → Option Value → Pt → Prop} (hK : Back l R p e below s args y 3 W9 Pre Post)
    {b : Addr} {cellB : Cell} (hcell : T.heap[b]? = some cellB) (hobj : cellB.vm.isStatics = false) (hcls : s.vm.findClass C = some cellB.cls)
    {g : JFrame} (hg : g.method = m) (hsize : g.locals.size = c.maxLocals) {argsL rest : List Value} (hlen : ∀ sig, parseMethodDescriptor y.desc = some sig → argsL.length = sig.parameters.length)
    (hstack : g.stack = argsL.reverse ++ .ref b :: rest) (hW : 2 * g.monitorRoom + (rest.map fun v => v.category).sum ≤ W9) (hdg : decode c.code g.pc = .ok (.invokevirtual index, 3))
    (hpre : ∀ vm₁, s.WarmedH vm₁ → Pre ⟨T.setVm vm₁, locs, cells, slots⟩ (Value.ref b :: argsL).toArray) :
    ∃ (v : Option Value) (vm₁ : Vm) (B : Pt), s.WarmedH vm₁ ∧ Stand p l e R s m args below meth c B.U B.locs B.cells B.slots ∧ Post ⟨T.setVm vm₁, locs, cells, slots⟩ (Value.ref b :: argsL).toArray v B ∧
      ∀ target, Steps p.tables e below (B.U.setTop { g with pc := g.pc + 3, stack := v.toList ++ rest }) target → Steps p.tables e below (T.setTop g) target := by
  obtain ⟨mk, methM, hnamed, hmethM, hstM, habM⟩ := Cond.instanceMethod_spec hinst
  obtain ⟨m8, methM', cM, hn8, hmethM', -, -, -, -, -, -, hsigM⟩ := Cond.codeWith_spec hcode
  cases Option.some.inj (hn8.symm.trans hnamed)
  cases hmethM.symm.trans hmethM'
  obtain ⟨c2, r2, m2, q1, q2, q3, q4, kP, hkP, hkPi⟩ := Cond.selects_spec hsel
  cases hcls.symm.trans q1
  cases (State.methodFound?_of_named hnamed hy).symm.trans q2
  cases hnamed.symm.trans q3
  have hselP : selectMethod e.platform s.vm cellB.cls mk = .method mk := by rw [Launch.admits_selectMethod X.admits]; exact q4
  obtain ⟨vm₁, X₁, hstep₁⟩ := X.invokevirtual hexec hown hlink hnamed hmethM hstM hkP hkPi hy (a := b) (cell := cellB) hcell
    (fun z h => by rw [h] at hobj; cases hobj) hselP hmethM habM hkP hkPi (g := g) hg (argsL := argsL) (rest := rest) (hlen _ hsigM) hstack hdg
  obtain ⟨v, B, X', hpost, hsteps⟩ := hK m meth c ⟨T.setVm vm₁, locs, cells, slots⟩ { g with stack := rest } (.invokevirtual index) mk (Value.ref b :: argsL).toArray X₁ hg hsize hdg hW (X₁.named hnamed) (hpre vm₁ X₁.warmed)
  exact ⟨v, vm₁, B, X₁.warmed, X', hpost, fun target h => hstep₁ _ fun acts => by rw [doInvoke_state]; exact hsteps.trans h⟩
abbrev vx_CVW (R : Room) (s : State) (args : Array Value) (own C : String) (index : Nat) (y : MethodName) (bytes : ByteArray) (maxL : Nat) (ret : Option FieldType) (hh : List (Nat × Nat × Nat × Nat)) (ws : List Cond) (rm : Room) (mc ms n : Nat) : Prop :=
  (rm.cells = mc ∧ rm.slots = ms ∧ rm.frames + 1 ≤ R.frames ∧ 8 + (maxL + 11) + rm.locals ≤ R.locals ∧ (∀ w ∈ ws, ∀ (a' : Array Value) (U : State), s.WarmedH U.vm → w.before a' U = true) ∧ Cond.codeWith y bytes maxL ret hh ∈ ws) ∧
  (Cond.codeWith y bytes maxL ret hh).before args s = true ∧ (Cond.initialized y.cls).before args s = true ∧ (y.cls ≠ "java/lang/invoke/MethodHandle" ∧ y.cls ≠ "java/lang/invoke/VarHandle") ∧
  (∀ sig, parseMethodDescriptor y.desc = some sig → n = sig.parameters.length) ∧ (Cond.methodLink own index y).before args s = true ∧ (Cond.instanceMethod y).before args s = true ∧ (Cond.selects C y y).before args s = true
theorem vx_cwVW {own C : String} {index maxL mc ms : Nat} {y : MethodName} {bytes : ByteArray} {ret : Option FieldType} {hh : List (Nat × Nat × Nat × Nat)} {Ts ws ws' : List Cond} {rm : Room} (n : Nat) (ht : ∀ w ∈ Ts, w.before args s = true) (hT : GoodIn Ts (wsV own index C y ws)) (hw : ws = Cond.codeWith y bytes maxL ret hh :: ws') (hrc : rm.cells = mc) (hrs : rm.slots = ms)
    (hd : y.cls = C ∧ y.cls ≠ "java/lang/invoke/MethodHandle" ∧ y.cls ≠ "java/lang/invoke/VarHandle" ∧ (parseMethodDescriptor y.desc).map (fun d => d.parameters.length) = some n) (hR : rm.frames + 1 ≤ R.frames ∧ 8 + (maxL + 11) + rm.locals ≤ R.locals) :
    vx_CVW R s args own C index y bytes maxL ret hh ws rm mc ms n := by
  obtain ⟨hC, hd⟩ := hd
  subst hC
  have ok : ∀ w ∈ wsV own index y.cls y ws, w.before args s = true := fun w h => ht w (hT w h).1
  have hG : GoodIn Ts ws := fun w h => hT w (by unfold wsV; exact List.mem_append_right _ h)
  have hc : Cond.codeWith y bytes maxL ret hh ∈ ws := by rw [hw]; exact List.mem_cons_self
  refine ⟨⟨hrc, hrs, hR.1, hR.2, pay_in ht hG, hc⟩, ht _ (hG _ hc).1, ok _ (by simp [wsV]), ⟨hd.1, hd.2.1⟩, fun sig h => ?_, ok _ (by simp [wsV]), ok _ (by simp [wsV]), ok _ (by simp [wsV])⟩
  have h2 := hd.2.2
  rw [h] at h2
  exact (Option.some.inj h2).symm
theorem vx_runVW {y : MethodName} {bytes cc : ByteArray} {maxL nL mc ms n index : Nat} {ret : Option FieldType} {hh : List (Nat × Nat × Nat × Nat)} {ws : List Cond} {rm : Room} {Pc : Array Value → State → Prop} {Qc : Array Value → State → Outcome → State → Prop} {free : Addr → Prop} {Ts : List Cond} {own C : String} {b : Addr} {As rest : List Value} {g : JFrame}
    (S : CallFix p m c cc nL s args Ts own) (hM : Met l y ws rm Pc Qc mc ms free) (cw : vx_CVW R s args own C index y bytes maxL ret hh ws rm mc ms n) (hp : PreV s H C b Pc As)
    (hg : g.method = m) (hn : As.length = n) (hsize : g.locals.size = nL) (hstack : g.stack = As.reverse ++ .ref b :: rest) (hW : 2 * g.monitorRoom + (rest.map fun v => v.category).sum ≤ 8) (hdg : decode cc g.pc = .ok (.invokevirtual index, 3)) (hf : cells + mc ≤ R.cells ∧ slots + ms ≤ R.slots) :
    va_Run p l e R s m args below meth c H locs cells slots mc ms g rest (Qc (Value.ref b :: As).toArray) free := by
  obtain ⟨⟨hrc, hrs, hfr, hlo, hws, hcw⟩, hcode, hini, hy, hlen, hl, hin, hse⟩ := cw
  have hK : Back l R p e below s args y 3 8 (PreOf R mc ms Pc) (PostOf Qc mc ms free) := va_backW (hh := hh) (bytes := bytes) (maxL := maxL) (ret := ret) hM hp.1 hrc hrs hfr hlo hws hcw (fun a' U hW => word_at hW (Or.inl (by first | rfl | simp [Cond.onTables, Cond.keeps, Cond.steady])) hini)
  obtain ⟨hx, hb, hml, ho, -⟩ := S
  obtain ⟨-, ⟨cellB, hcB, hoB, hclB⟩, hPc⟩ := hp
  intro T hT X
  obtain ⟨v, vm₁, ⟨U', l2, c2, s2⟩, hW₁, X', ⟨g', mk, t, L, e1, e2, hq, h1, hL, h2, h3⟩, st⟩ := vx_callVW X hx (C := C) (hh := hh) (bytes := bytes) (maxL := maxL) (ret := ret) ho hl hin hse hcode hy hK (by rw [hT]; exact hcB) hoB hclB hg (hsize.trans hml.symm) (argsL := As) (rest := rest) (fun sig h => hn.trans (hlen sig h)) hstack hW (by rw [hb]; exact hdg)
    (fun vm₁ hW₁ => ⟨hf.1, hf.2, hPc (T.setVm vm₁) hT hW₁⟩)
  dsimp only [Pt.U, Pt.locs, Pt.cells, Pt.slots] at X' e1 e2 h1 h2 h3 st
  subst h1; subst h2; subst h3
  exact ⟨v, (T.setVm vm₁).calling g' mk (Value.ref b :: As).toArray, t, U', L, hT, X', hL, e1, e2, hq, st⟩
section
variable {y : MethodName} {bytes cc : ByteArray} {maxL nL mc ms n index : Nat} {ret : Option FieldType} {ws : List Cond} {rm : Room} {Pc : Array Value → State → Prop} {Qc : Array Value → State → Outcome → State → Prop} {XC : String → State → State → Prop} {free : Addr → Prop} {Ts : List Cond} {own C : String} {b : Addr} {As rest : List Value} {g : JFrame}
theorem vx_runVX {hh : List (Nat × Nat × Nat × Nat)} (S : CallFix p m c cc nL s args Ts own) (hM : vx_Met l y ws rm Pc Qc XC mc ms free) (cw : vx_CVW R s args own C index y bytes maxL ret hh ws rm mc ms n) (hp : PreV s H C b Pc As)
    (hg : g.method = m) (hn : As.length = n) (hsize : g.locals.size = nL) (hstack : g.stack = As.reverse ++ .ref b :: rest) (hW : 2 * g.monitorRoom + (rest.map fun v => v.category).sum ≤ 8) (hdg : decode cc g.pc = .ok (.invokevirtual index, 3)) (hf : cells + mc ≤ R.cells ∧ slots + ms ≤ R.slots) :
    vx_Run p l e R s m args below meth c H locs cells slots mc ms g rest (Qc (Value.ref b :: As).toArray) XC free := by
  obtain ⟨⟨hrc, hrs, hfr, hlo, hws, hcw⟩, hcode, hini, hy, hlen, hl, hin, hse⟩ := cw
  have hK : vx_Back l R p e below s args y 3 8 (PreOf R mc ms Pc) (PostOf Qc mc ms free) (vx_Post XC mc ms free) := vx_backW (hh := hh) (bytes := bytes) (maxL := maxL) (ret := ret) hM hp.1 hrc hrs hfr hlo hws hcw (fun a' U hW => word_at hW (Or.inl (by first | rfl | simp [Cond.onTables, Cond.keeps, Cond.steady])) hini)
  obtain ⟨hx, hb, hml, ho, -⟩ := S
  obtain ⟨-, ⟨cellB, hcB, hoB, hclB⟩, hPc⟩ := hp
  intro T hT X
  rcases vx_callVX X hx (C := C) (hh := hh) (bytes := bytes) (maxL := maxL) (ret := ret) ho hl hin hse hcode hy hK (by rw [hT]; exact hcB) hoB hclB hg (hsize.trans hml.symm) (argsL := As) (rest := rest) (fun sig h => hn.trans (hlen sig h)) hstack hW (by rw [hb]; exact hdg)
    (fun vm₁ hW₁ => ⟨hf.1, hf.2, hPc (T.setVm vm₁) hT hW₁⟩) with ⟨v, vm₁, ⟨U', l2, c2, s2⟩, hW₁, X', ⟨g', mk, t, L, e1, e2, hq, h1, hL, h2, h3⟩, st⟩ | ⟨q, vm₁, ⟨U', l2, c2, s2⟩, hW₁, X', ⟨g', mk, t, L, E, ce, e1, e2, hq, hce, hcv, hcl, h1, hL, h2, h3⟩, st⟩
  · dsimp only [Pt.U, Pt.locs, Pt.cells, Pt.slots] at X' e1 e2 h1 h2 h3 st
    subst h1; subst h2; subst h3
    exact Or.inl ⟨v, (T.setVm vm₁).calling g' mk (Value.ref b :: As).toArray, t, U', L, hT, X', hL, e1, e2, hq, st⟩
  · dsimp only [Pt.U, Pt.locs, Pt.cells, Pt.slots] at X' e1 e2 h1 h2 h3 st hcl
    subst h1; subst h2; subst h3
    exact Or.inr ⟨q, (T.setVm vm₁).calling g' mk (Value.ref b :: As).toArray, t, U', L, E, ce, hT, X', hL, e1, e2, hq, hce, hcv, vx_cls hW₁ hcl, st⟩
theorem vx_runSX {hh : List (Nat × Nat × Nat × Nat)} (S : CallFix p m c cc nL s args Ts own) (hM : vx_Met l y ws rm Pc Qc XC mc ms free) (cw : vx_CSW R s args own index y bytes maxL ret hh ws rm mc ms n) (hp : PreS s H Pc As)
    (hg : g.method = m) (hn : As.length = n) (hsize : g.locals.size = nL) (hstack : g.stack = As.reverse ++ rest) (hW : 2 * g.monitorRoom + (rest.map fun v => v.category).sum ≤ 8) (hdg : decode cc g.pc = .ok (.invokestatic index, 3)) (hf : cells + mc ≤ R.cells ∧ slots + ms ≤ R.slots) :
    vx_Run p l e R s m args below meth c H locs cells slots mc ms g rest (Qc As.toArray) XC free := by
  obtain ⟨⟨hrc, hrs, hfr, hlo, hws, hcw⟩, hcode, hini, hy, hlen, hl, hstt⟩ := cw
  have hK : vx_Back l R p e below s args y 3 8 (PreOf R mc ms Pc) (PostOf Qc mc ms free) (vx_Post XC mc ms free) := vx_backW (hh := hh) (bytes := bytes) (maxL := maxL) (ret := ret) hM hp.1 hrc hrs hfr hlo hws hcw (fun a' U hW => word_at hW (Or.inl (by first | rfl | simp [Cond.onTables, Cond.keeps, Cond.steady])) hini)
  obtain ⟨hx, hb, hml, ho, -⟩ := S
  intro T hT X
  rcases vx_callSX X hx (hh := hh) (bytes := bytes) (maxL := maxL) (ret := ret) ho hl hstt hini hcode hy hK hg (hsize.trans hml.symm) (argsL := As) (rest := rest) (fun sig h => hn.trans (hlen sig h)) hstack hW (by rw [hb]; exact hdg)
    (fun vm₁ hW₁ => ⟨hf.1, hf.2, hp.2 (T.setVm vm₁) hT hW₁⟩) with ⟨v, vm₁, ⟨U', l2, c2, s2⟩, hW₁, X', ⟨g', mk, t, L, e1, e2, hq, h1, hL, h2, h3⟩, st⟩ | ⟨q, vm₁, ⟨U', l2, c2, s2⟩, hW₁, X', ⟨g', mk, t, L, E, ce, e1, e2, hq, hce, hcv, hcl, h1, hL, h2, h3⟩, st⟩
  · dsimp only [Pt.U, Pt.locs, Pt.cells, Pt.slots] at X' e1 e2 h1 h2 h3 st
    subst h1; subst h2; subst h3
    exact Or.inl ⟨v, (T.setVm vm₁).calling g' mk As.toArray, t, U', L, hT, X', hL, e1, e2, hq, st⟩
  · dsimp only [Pt.U, Pt.locs, Pt.cells, Pt.slots] at X' e1 e2 h1 h2 h3 st hcl
    subst h1; subst h2; subst h3
    exact Or.inr ⟨q, (T.setVm vm₁).calling g' mk As.toArray, t, U', L, E, ce, hT, X', hL, e1, e2, hq, hce, hcv, vx_cls hW₁ hcl, st⟩
end
end VXH
theorem vx_ofWH {l : Launch} {y : MethodName} {ws ws' : List Cond} {rm : Room} {Pc : Array Value → State → Prop} {Qc : Array Value → State → Outcome → State → Prop} {XC : String → State → State → Prop} {mc ms : Nat} {free : Addr → Prop} {cc : ByteArray} {maxL : Nat} {ret : Option FieldType} {hh : List (Nat × Nat × Nat × Nat)}
    (hy : plainName y.cls = true) (hw : ws = Cond.codeWith y cc maxL ret hh :: ws')
    (body : ∀ p e s m args below meth c s₁, BodyLoose p l y (headSpec ws rm) cc maxL ret e s m args below meth c s₁ → c.maxLocals = maxL → Pc args s →
      W p l e (headSpec ws rm).room s m args below meth c s.heap [] 0 0 (vx_MQ below Qc XC args s mc ms free) (entryFrame m args maxL)) : vx_Met l y ws rm Pc Qc XC mc ms free := by
  refine MetFree.of_bodyS (code := cc) (maxLocals := maxL) (ret := ret) hy ?_ ?_
  · intro args s m h hn
    obtain ⟨m9, meth, c, hn9, h1, h2, h3, h4, -, h5, h6, -⟩ := Cond.codeWith_spec (atoms_spec (ws := ws) h _ (by rw [hw]; exact List.mem_cons_self))
    cases hn.symm.trans hn9
    exact ⟨meth, c, h1, h2, h3, h4, h5, h6⟩
  · intro p e s m args below meth c s₁ B hml hP _
    have hh0 : s₁.heap = s.heap := by rw [B.state]; rfl
    obtain ⟨t, a1, o, b1, b2, b3⟩ := body p e s m args below meth c s₁ B hml hP s₁ hh0 (Stand.of_body B)
    exact ⟨t, o, a1, b1, b2, b3⟩
/-! ===== END ===== -/
end
section
def RX0 : String := "Clueyard$Clues"
def TX0 : u_T := fun k => match k with
  | 0 => ("Clueyard$Clues", "wordOf", "[I", true)
  | 1 => ("Clueyard$Clues", "stages", "[I", true)
  | 2 => ("Clueyard$Clues", "lastDays", "[I", true)
  | 3 => ("Clueyard$Clues", "chosenOf", "[I", true)
  | _ => ("Clueyard$Clues", "count", "I", false)
def tyX0 : Nat → FieldType := fun k => match k with
  | 0 => .array .int
  | 1 => .array .int
  | 2 => .array .int
  | 3 => .array .int
  | _ => .int
abbrev wsX00 : List Cond := u_ws RX0 TX0 5
theorem nmX0 : ∀ a, a < 5 → ∀ b, b < 5 → a ≠ b → (TX0 a).2.1 ≠ (TX0 b).2.1 := by decide +kernel
theorem tyX0_ok : ∀ k, k < 5 → parseFieldDescriptor (TX0 k).2.2.1 = some (tyX0 k) := by decide +kernel
abbrev cX0_init : ByteArray := prog_2_method_1_code
def yX0_init : MethodName := ⟨RX0, "<init>", "()V"⟩
abbrev cX0_count : ByteArray := prog_2_method_2_code
def yX0_count : MethodName := ⟨RX0, "count", "()I"⟩
abbrev cX0_add : ByteArray := prog_2_method_3_code
def yX0_add : MethodName := ⟨RX0, "add", "(I)I"⟩
abbrev cX0_isReady : ByteArray := prog_2_method_4_code
def yX0_isReady : MethodName := ⟨RX0, "isReady", "(I)Z"⟩
abbrev cX0_look : ByteArray := prog_2_method_5_code
def yX0_look : MethodName := ⟨RX0, "look", "(IZ)I"⟩
abbrev cX0_lastDay : ByteArray := prog_2_method_6_code
def yX0_lastDay : MethodName := ⟨RX0, "lastDay", "(I)I"⟩
abbrev cX0_chosen : ByteArray := prog_2_method_7_code
def yX0_chosen : MethodName := ⟨RX0, "chosen", "(I)I"⟩
abbrev cX0_choose : ByteArray := prog_2_method_8_code
def yX0_choose : MethodName := ⟨RX0, "choose", "(III)Z"⟩
abbrev cX0_canBeUsed : ByteArray := prog_2_method_9_code
def yX0_canBeUsed : MethodName := ⟨RX0, "canBeUsed", "(II)Z"⟩
abbrev cX0_isChosenAhead : ByteArray := prog_2_method_10_code
def yX0_isChosenAhead : MethodName := ⟨RX0, "isChosenAhead", "(II)Z"⟩
abbrev cX0_useChosen : ByteArray := prog_2_method_11_code
def yX0_useChosen : MethodName := ⟨RX0, "useChosen", "(I)V"⟩
def RX1 : String := "Clueyard$Events"
def TX1 : u_T := fun k => match k with
  | 0 => ("Clueyard$Events", "solverOf", "[I", true)
  | 1 => ("Clueyard$Events", "puzzleOf", "[I", true)
  | 2 => ("Clueyard$Events", "partOf", "[I", true)
  | 3 => ("Clueyard$Events", "hours", "[I", true)
  | _ => ("Clueyard$Events", "count", "I", false)
def tyX1 : Nat → FieldType := fun k => match k with
  | 0 => .array .int
  | 1 => .array .int
  | 2 => .array .int
  | 3 => .array .int
  | _ => .int
abbrev wsX10 : List Cond := u_ws RX1 TX1 5
theorem nmX1 : ∀ a, a < 5 → ∀ b, b < 5 → a ≠ b → (TX1 a).2.1 ≠ (TX1 b).2.1 := by decide +kernel
theorem tyX1_ok : ∀ k, k < 5 → parseFieldDescriptor (TX1 k).2.2.1 = some (tyX1 k) := by decide +kernel
abbrev cX1_init : ByteArray := prog_3_method_1_code
def yX1_init : MethodName := ⟨RX1, "<init>", "()V"⟩
abbrev cX1_count : ByteArray := prog_3_method_2_code
def yX1_count : MethodName := ⟨RX1, "count", "()I"⟩
abbrev cX1_add : ByteArray := prog_3_method_3_code
def yX1_add : MethodName := ⟨RX1, "add", "(IIII)V"⟩
abbrev cX1_solver : ByteArray := prog_3_method_4_code
def yX1_solver : MethodName := ⟨RX1, "solver", "(I)I"⟩
abbrev cX1_puzzle : ByteArray := prog_3_method_5_code
def yX1_puzzle : MethodName := ⟨RX1, "puzzle", "(I)I"⟩
abbrev cX1_part : ByteArray := prog_3_method_6_code
def yX1_part : MethodName := ⟨RX1, "part", "(I)I"⟩
abbrev cX1_hourOf : ByteArray := prog_3_method_7_code
def yX1_hourOf : MethodName := ⟨RX1, "hourOf", "(I)I"⟩
def RX2 : String := "Clueyard$Progress"
def TX2 : u_T := fun k => match k with
  | 0 => ("Clueyard$Progress", "rightHours", "[I", true)
  | 1 => ("Clueyard$Progress", "counting", "[Z", true)
  | _ => ("Clueyard$Progress", "offset", "I", false)
def tyX2 : Nat → FieldType := fun k => match k with
  | 0 => .array .int
  | 1 => .array .boolean
  | _ => .int
abbrev wsX20 : List Cond := u_ws RX2 TX2 3
theorem nmX2 : ∀ a, a < 3 → ∀ b, b < 3 → a ≠ b → (TX2 a).2.1 ≠ (TX2 b).2.1 := by decide +kernel
theorem tyX2_ok : ∀ k, k < 3 → parseFieldDescriptor (TX2 k).2.2.1 = some (tyX2 k) := by decide +kernel
abbrev cX2_init : ByteArray := prog_4_method_1_code
def yX2_init : MethodName := ⟨RX2, "<init>", "()V"⟩
abbrev cX2_begin : ByteArray := prog_4_method_2_code
def yX2_begin : MethodName := ⟨RX2, "begin", "(I)V"⟩
abbrev cX2_hoursAhead : ByteArray := prog_4_method_3_code
def yX2_hoursAhead : MethodName := ⟨RX2, "hoursAhead", "()I"⟩
abbrev cX2_isRight : ByteArray := prog_4_method_4_code
def yX2_isRight : MethodName := ⟨RX2, "isRight", "(II)Z"⟩
abbrev cX2_setRight : ByteArray := prog_4_method_5_code
def yX2_setRight : MethodName := ⟨RX2, "setRight", "(III)V"⟩
abbrev cX2_solvedHour : ByteArray := prog_4_method_6_code
def yX2_solvedHour : MethodName := ⟨RX2, "solvedHour", "(III)I"⟩
abbrev cX2_countIfSolved : ByteArray := prog_4_method_7_code
def yX2_countIfSolved : MethodName := ⟨RX2, "countIfSolved", "(III)V"⟩
abbrev cX2_daysInARow : ByteArray := prog_4_method_8_code
def yX2_daysInARow : MethodName := ⟨RX2, "daysInARow", "(I)I"⟩
abbrev cX2_dayIndex : ByteArray := prog_4_method_9_code
def yX2_dayIndex : MethodName := ⟨RX2, "dayIndex", "(I)I"⟩
def RX3 : String := "Clueyard$Puzzle"
def TX3 : u_T := fun k => match k with
  | 0 => ("Clueyard$Puzzle", "letters", "[I", true)
  | 1 => ("Clueyard$Puzzle", "cluesOf", "[I", true)
  | 2 => ("Clueyard$Puzzle", "appeared", "I", false)
  | 3 => ("Clueyard$Puzzle", "wrong", "I", false)
  | _ => ("Clueyard$Puzzle", "opened", "I", false)
def tyX3 : Nat → FieldType := fun k => match k with
  | 0 => .array .int
  | 1 => .array .int
  | 2 => .int
  | 3 => .int
  | _ => .int
abbrev wsX30 : List Cond := u_ws RX3 TX3 5
theorem nmX3 : ∀ a, a < 5 → ∀ b, b < 5 → a ≠ b → (TX3 a).2.1 ≠ (TX3 b).2.1 := by decide +kernel
theorem tyX3_ok : ∀ k, k < 5 → parseFieldDescriptor (TX3 k).2.2.1 = some (tyX3 k) := by decide +kernel
abbrev cX3_init : ByteArray := prog_5_method_1_code
def yX3_init : MethodName := ⟨RX3, "<init>", "()V"⟩
abbrev cX3_appear : ByteArray := prog_5_method_2_code
def yX3_appear : MethodName := ⟨RX3, "appear", "(I)V"⟩
abbrev cX3_hourOfAppearing : ByteArray := prog_5_method_3_code
def yX3_hourOfAppearing : MethodName := ⟨RX3, "hourOfAppearing", "()I"⟩
abbrev cX3_letter : ByteArray := prog_5_method_4_code
def yX3_letter : MethodName := ⟨RX3, "letter", "(I)I"⟩
abbrev cX3_setLetter : ByteArray := prog_5_method_5_code
def yX3_setLetter : MethodName := ⟨RX3, "setLetter", "(II)V"⟩
abbrev cX3_clueNumber : ByteArray := prog_5_method_6_code
def yX3_clueNumber : MethodName := ⟨RX3, "clueNumber", "(I)I"⟩
abbrev cX3_setClue : ByteArray := prog_5_method_7_code
def yX3_setClue : MethodName := ⟨RX3, "setClue", "(II)V"⟩
abbrev cX3_isWrong : ByteArray := prog_5_method_8_code
def yX3_isWrong : MethodName := ⟨RX3, "isWrong", "(I)Z"⟩
abbrev cX3_setWrong : ByteArray := prog_5_method_9_code
def yX3_setWrong : MethodName := ⟨RX3, "setWrong", "(I)V"⟩
abbrev cX3_openCells : ByteArray := prog_5_method_10_code
def yX3_openCells : MethodName := ⟨RX3, "openCells", "()I"⟩
abbrev cX3_isOpen : ByteArray := prog_5_method_11_code
def yX3_isOpen : MethodName := ⟨RX3, "isOpen", "(I)Z"⟩
def RX4 : String := "Clueyard$Solver"
def TX4 : u_T := fun k => match k with
  | 0 => ("Clueyard$Solver", "progress", "LClueyard$Progress;", true)
  | 1 => ("Clueyard$Solver", "paid", "[I", true)
  | 2 => ("Clueyard$Solver", "timesHelped", "[I", true)
  | _ => ("Clueyard$Solver", "coinsLeft", "I", false)
def tyX4 : Nat → FieldType := fun k => match k with
  | 0 => .object "Clueyard$Progress"
  | 1 => .array .int
  | 2 => .array .int
  | _ => .int
abbrev wsX40 : List Cond := u_ws RX4 TX4 4
theorem nmX4 : ∀ a, a < 4 → ∀ b, b < 4 → a ≠ b → (TX4 a).2.1 ≠ (TX4 b).2.1 := by decide +kernel
theorem tyX4_ok : ∀ k, k < 4 → parseFieldDescriptor (TX4 k).2.2.1 = some (tyX4 k) := by decide +kernel
abbrev cX4_init : ByteArray := prog_6_method_1_code
def yX4_init : MethodName := ⟨RX4, "<init>", "()V"⟩
abbrev cX4_join : ByteArray := prog_6_method_2_code
def yX4_join : MethodName := ⟨RX4, "join", "(II)V"⟩
abbrev cX4_progress : ByteArray := prog_6_method_3_code
def yX4_progress : MethodName := ⟨RX4, "progress", "()LClueyard$Progress;"⟩
abbrev cX4_purse : ByteArray := prog_6_method_4_code
def yX4_purse : MethodName := ⟨RX4, "purse", "()I"⟩
abbrev cX4_canPayHelp : ByteArray := prog_6_method_5_code
def yX4_canPayHelp : MethodName := ⟨RX4, "canPayHelp", "(I)Z"⟩
abbrev cX4_payHelp : ByteArray := prog_6_method_6_code
def yX4_payHelp : MethodName := ⟨RX4, "payHelp", "(II)V"⟩
abbrev cX4_payBack : ByteArray := prog_6_method_7_code
def yX4_payBack : MethodName := ⟨RX4, "payBack", "(II)V"⟩
abbrev cX4_cost : ByteArray := prog_6_method_8_code
def yX4_cost : MethodName := ⟨RX4, "cost", "(I)I"⟩
def RX5 : String := "Clueyard$Spelled"
def TX5 : u_T := fun k => match k with
  | 0 => ("Clueyard$Spelled", "letters", "[I", true)
  | _ => ("Clueyard$Spelled", "length", "I", false)
def tyX5 : Nat → FieldType := fun k => match k with
  | 0 => .array .int
  | _ => .int
abbrev wsX50 : List Cond := u_ws RX5 TX5 2
theorem nmX5 : ∀ a, a < 2 → ∀ b, b < 2 → a ≠ b → (TX5 a).2.1 ≠ (TX5 b).2.1 := by decide +kernel
theorem tyX5_ok : ∀ k, k < 2 → parseFieldDescriptor (TX5 k).2.2.1 = some (tyX5 k) := by decide +kernel
abbrev cX5_init : ByteArray := prog_7_method_1_code
def yX5_init : MethodName := ⟨RX5, "<init>", "()V"⟩
abbrev cX5_isFull : ByteArray := prog_7_method_2_code
def yX5_isFull : MethodName := ⟨RX5, "isFull", "()Z"⟩
abbrev cX5_letterCount : ByteArray := prog_7_method_3_code
def yX5_letterCount : MethodName := ⟨RX5, "letterCount", "()I"⟩
abbrev cX5_putAtEnd : ByteArray := prog_7_method_4_code
def yX5_putAtEnd : MethodName := ⟨RX5, "putAtEnd", "(I)V"⟩
abbrev cX5_putAtBeginning : ByteArray := prog_7_method_5_code
def yX5_putAtBeginning : MethodName := ⟨RX5, "putAtBeginning", "(I)V"⟩
abbrev cX5_reverse : ByteArray := prog_7_method_6_code
def yX5_reverse : MethodName := ⟨RX5, "reverse", "()V"⟩
abbrev cX5_empty : ByteArray := prog_7_method_7_code
def yX5_empty : MethodName := ⟨RX5, "empty", "()V"⟩
abbrev cX5_charCount : ByteArray := prog_7_method_8_code
def yX5_charCount : MethodName := ⟨RX5, "charCount", "()I"⟩
abbrev cX5_charOrNone : ByteArray := prog_7_method_9_code
def yX5_charOrNone : MethodName := ⟨RX5, "charOrNone", "(I)I"⟩
abbrev cX5_code : ByteArray := prog_7_method_10_code
def yX5_code : MethodName := ⟨RX5, "code", "()I"⟩
abbrev cX5_width : ByteArray := prog_7_method_11_code
def yX5_width : MethodName := ⟨RX5, "width", "(I)I"⟩
abbrev cX5_charOf : ByteArray := prog_7_method_12_code
def yX5_charOf : MethodName := ⟨RX5, "charOf", "(II)I"⟩
def RX6 : String := "Clueyard$Square"
def TX6 : u_T := fun k => match k with
  | 0 => ("Clueyard$Square", "fixed", "[I", true)
  | 1 => ("Clueyard$Square", "rows", "[I", true)
  | 2 => ("Clueyard$Square", "bestRows", "[I", true)
  | 3 => ("Clueyard$Square", "best", "I", false)
  | _ => ("Clueyard$Square", "found", "I", false)
def tyX6 : Nat → FieldType := fun k => match k with
  | 0 => .array .int
  | 1 => .array .int
  | 2 => .array .int
  | 3 => .int
  | _ => .int
abbrev wsX60 : List Cond := u_ws RX6 TX6 5
theorem nmX6 : ∀ a, a < 5 → ∀ b, b < 5 → a ≠ b → (TX6 a).2.1 ≠ (TX6 b).2.1 := by decide +kernel
theorem tyX6_ok : ∀ k, k < 5 → parseFieldDescriptor (TX6 k).2.2.1 = some (tyX6 k) := by decide +kernel
abbrev cX6_init : ByteArray := prog_8_method_1_code
def yX6_init : MethodName := ⟨RX6, "<init>", "()V"⟩
abbrev cX6_fixedLetter : ByteArray := prog_8_method_2_code
def yX6_fixedLetter : MethodName := ⟨RX6, "fixedLetter", "(I)I"⟩
abbrev cX6_setFixed : ByteArray := prog_8_method_3_code
def yX6_setFixed : MethodName := ⟨RX6, "setFixed", "(II)V"⟩
abbrev cX6_bestWeight : ByteArray := prog_8_method_4_code
def yX6_bestWeight : MethodName := ⟨RX6, "bestWeight", "()I"⟩
abbrev cX6_foundCount : ByteArray := prog_8_method_5_code
def yX6_foundCount : MethodName := ⟨RX6, "foundCount", "()I"⟩
abbrev cX6_search : ByteArray := prog_8_method_6_code
def yX6_search : MethodName := ⟨RX6, "search", "(LClueyard$Words;)V"⟩
abbrev cX6_canStand : ByteArray := prog_8_method_7_code
def yX6_canStand : MethodName := ⟨RX6, "canStand", "(LClueyard$Words;II)Z"⟩
abbrev cX6_keep : ByteArray := prog_8_method_8_code
def yX6_keep : MethodName := ⟨RX6, "keep", "(I)V"⟩
abbrev cX6_greatestWeightOfAll : ByteArray := prog_8_method_9_code
def yX6_greatestWeightOfAll : MethodName := ⟨RX6, "greatestWeightOfAll", "(LClueyard$Words;)I"⟩
abbrev cX6_weightIfFill : ByteArray := prog_8_method_10_code
def yX6_weightIfFill : MethodName := ⟨RX6, "weightIfFill", "(LClueyard$Words;)I"⟩
abbrev cX6_agreesWithFixed : ByteArray := prog_8_method_11_code
def yX6_agreesWithFixed : MethodName := ⟨RX6, "agreesWithFixed", "(LClueyard$Words;I)Z"⟩
abbrev cX6_weightOfSquare : ByteArray := prog_8_method_12_code
def yX6_weightOfSquare : MethodName := ⟨RX6, "weightOfSquare", "(LClueyard$Words;)I"⟩
abbrev cX6_columnCode : ByteArray := prog_8_method_13_code
def yX6_columnCode : MethodName := ⟨RX6, "columnCode", "(LClueyard$Words;[III)I"⟩
abbrev cX6_bestLetter : ByteArray := prog_8_method_14_code
def yX6_bestLetter : MethodName := ⟨RX6, "bestLetter", "(LClueyard$Words;I)I"⟩
abbrev cX6_bestWord : ByteArray := prog_8_method_15_code
def yX6_bestWord : MethodName := ⟨RX6, "bestWord", "(LClueyard$Words;I)I"⟩
def RX7 : String := "Clueyard$Words"
def TX7 : u_T := fun k => match k with
  | 0 => ("Clueyard$Words", "codes", "[I", true)
  | 1 => ("Clueyard$Words", "letters", "[I", true)
  | 2 => ("Clueyard$Words", "weights", "[I", true)
  | 3 => ("Clueyard$Words", "ordered", "[I", true)
  | 4 => ("Clueyard$Words", "beginnings", "[I", true)
  | 5 => ("Clueyard$Words", "numbers", "[I", true)
  | _ => ("Clueyard$Words", "count", "I", false)
def tyX7 : Nat → FieldType := fun k => match k with
  | 0 => .array .int
  | 1 => .array .int
  | 2 => .array .int
  | 3 => .array .int
  | 4 => .array .int
  | 5 => .array .int
  | _ => .int
abbrev wsX70 : List Cond := u_ws RX7 TX7 7
theorem nmX7 : ∀ a, a < 7 → ∀ b, b < 7 → a ≠ b → (TX7 a).2.1 ≠ (TX7 b).2.1 := by decide +kernel
theorem tyX7_ok : ∀ k, k < 7 → parseFieldDescriptor (TX7 k).2.2.1 = some (tyX7 k) := by decide +kernel
abbrev cX7_init : ByteArray := prog_9_method_1_code
def yX7_init : MethodName := ⟨RX7, "<init>", "()V"⟩
abbrev cX7_count : ByteArray := prog_9_method_2_code
def yX7_count : MethodName := ⟨RX7, "count", "()I"⟩
abbrev cX7_add : ByteArray := prog_9_method_3_code
def yX7_add : MethodName := ⟨RX7, "add", "(II)I"⟩
abbrev cX7_putInOrder : ByteArray := prog_9_method_4_code
def yX7_putInOrder : MethodName := ⟨RX7, "putInOrder", "(I)V"⟩
abbrev cX7_weight : ByteArray := prog_9_method_5_code
def yX7_weight : MethodName := ⟨RX7, "weight", "(I)I"⟩
abbrev cX7_weigh : ByteArray := prog_9_method_6_code
def yX7_weigh : MethodName := ⟨RX7, "weigh", "(II)V"⟩
abbrev cX7_inOrder : ByteArray := prog_9_method_7_code
def yX7_inOrder : MethodName := ⟨RX7, "inOrder", "(I)I"⟩
abbrev cX7_beginningWith : ByteArray := prog_9_method_8_code
def yX7_beginningWith : MethodName := ⟨RX7, "beginningWith", "(I)I"⟩
abbrev cX7_wordOrNone : ByteArray := prog_9_method_9_code
def yX7_wordOrNone : MethodName := ⟨RX7, "wordOrNone", "(I)I"⟩
abbrev cX7_letter : ByteArray := prog_9_method_10_code
def yX7_letter : MethodName := ⟨RX7, "letter", "(II)I"⟩
def RX8 : String := "Clueyard"
def TX8 : u_T := fun k => match k with
  | 0 => ("Clueyard", "spelled", "LClueyard$Spelled;", true)
  | 1 => ("Clueyard", "words", "LClueyard$Words;", true)
  | 2 => ("Clueyard", "square", "LClueyard$Square;", true)
  | 3 => ("Clueyard", "clues", "LClueyard$Clues;", true)
  | 4 => ("Clueyard", "puzzles", "[LClueyard$Puzzle;", true)
  | 5 => ("Clueyard", "solvers", "[LClueyard$Solver;", true)
  | 6 => ("Clueyard", "events", "LClueyard$Events;", true)
  | 7 => ("Clueyard", "replayed", "LClueyard$Progress;", true)
  | 8 => ("Clueyard", "replayedOpen", "[I", true)
  | 9 => ("Clueyard", "puzzleCount", "I", false)
  | 10 => ("Clueyard", "solverCount", "I", false)
  | _ => ("Clueyard", "hour", "I", false)
def tyX8 : Nat → FieldType := fun k => match k with
  | 0 => .object "Clueyard$Spelled"
  | 1 => .object "Clueyard$Words"
  | 2 => .object "Clueyard$Square"
  | 3 => .object "Clueyard$Clues"
  | 4 => .array (.object "Clueyard$Puzzle")
  | 5 => .array (.object "Clueyard$Solver")
  | 6 => .object "Clueyard$Events"
  | 7 => .object "Clueyard$Progress"
  | 8 => .array .int
  | 9 => .int
  | 10 => .int
  | _ => .int
abbrev wsX80 : List Cond := u_ws RX8 TX8 12
theorem nmX8 : ∀ a, a < 12 → ∀ b, b < 12 → a ≠ b → (TX8 a).2.1 ≠ (TX8 b).2.1 := by decide +kernel
theorem tyX8_ok : ∀ k, k < 12 → parseFieldDescriptor (TX8 k).2.2.1 = some (tyX8 k) := by decide +kernel
abbrev cX8_init : ByteArray := prog_1_method_1_code
def yX8_init : MethodName := ⟨RX8, "<init>", "()V"⟩
abbrev cX8_spell : ByteArray := prog_1_method_2_code
def yX8_spell : MethodName := ⟨RX8, "spell", "(I)I"⟩
abbrev cX8_insert : ByteArray := prog_1_method_3_code
def yX8_insert : MethodName := ⟨RX8, "insert", "(I)I"⟩
abbrev cX8_turn : ByteArray := prog_1_method_4_code
def yX8_turn : MethodName := ⟨RX8, "turn", "()I"⟩
abbrev cX8_clearSpelled : ByteArray := prog_1_method_5_code
def yX8_clearSpelled : MethodName := ⟨RX8, "clearSpelled", "()I"⟩
abbrev cX8_charAt : ByteArray := prog_1_method_6_code
def yX8_charAt : MethodName := ⟨RX8, "charAt", "(I)C"⟩
abbrev cX8_addWord : ByteArray := prog_1_method_7_code
def yX8_addWord : MethodName := ⟨RX8, "addWord", "(I)I"⟩
abbrev cX8_setWeight : ByteArray := prog_1_method_8_code
def yX8_setWeight : MethodName := ⟨RX8, "setWeight", "(II)I"⟩
abbrev cX8_wordAt : ByteArray := prog_1_method_9_code
def yX8_wordAt : MethodName := ⟨RX8, "wordAt", "(I)I"⟩
abbrev cX8_beginning : ByteArray := prog_1_method_10_code
def yX8_beginning : MethodName := ⟨RX8, "beginning", "()I"⟩
abbrev cX8_fix : ByteArray := prog_1_method_11_code
def yX8_fix : MethodName := ⟨RX8, "fix", "(II)I"⟩
abbrev cX8_fillWeight : ByteArray := prog_1_method_12_code
def yX8_fillWeight : MethodName := ⟨RX8, "fillWeight", "()I"⟩
abbrev cX8_fillWeightByAll : ByteArray := prog_1_method_13_code
def yX8_fillWeightByAll : MethodName := ⟨RX8, "fillWeightByAll", "()I"⟩
abbrev cX8_fills : ByteArray := prog_1_method_14_code
def yX8_fills : MethodName := ⟨RX8, "fills", "()I"⟩
abbrev cX8_fillAt : ByteArray := prog_1_method_15_code
def yX8_fillAt : MethodName := ⟨RX8, "fillAt", "(I)I"⟩
abbrev cX8_clue : ByteArray := prog_1_method_16_code
def yX8_clue : MethodName := ⟨RX8, "clue", "(I)I"⟩
abbrev cX8_edit : ByteArray := prog_1_method_17_code
def yX8_edit : MethodName := ⟨RX8, "edit", "(IZ)I"⟩
abbrev cX8_lastUsed : ByteArray := prog_1_method_18_code
def yX8_lastUsed : MethodName := ⟨RX8, "lastUsed", "(I)I"⟩
abbrev cX8_pass : ByteArray := prog_1_method_19_code
def yX8_pass : MethodName := ⟨RX8, "pass", "(I)I"⟩
abbrev cX8_now : ByteArray := prog_1_method_20_code
def yX8_now : MethodName := ⟨RX8, "now", "()I"⟩
abbrev cX8_publish : ByteArray := prog_1_method_21_code
def yX8_publish : MethodName := ⟨RX8, "publish", "()I"⟩
abbrev cX8_clueOf : ByteArray := prog_1_method_22_code
def yX8_clueOf : MethodName := ⟨RX8, "clueOf", "(II)I"⟩
abbrev cX8_addSolver : ByteArray := prog_1_method_23_code
def yX8_addSolver : MethodName := ⟨RX8, "addSolver", "(II)I"⟩
abbrev cX8_enter : ByteArray := prog_1_method_24_code
def yX8_enter : MethodName := ⟨RX8, "enter", "(IIII)Z"⟩
abbrev cX8_help : ByteArray := prog_1_method_25_code
def yX8_help : MethodName := ⟨RX8, "help", "(III)I"⟩
abbrev cX8_judge : ByteArray := prog_1_method_26_code
def yX8_judge : MethodName := ⟨RX8, "judge", "(II)I"⟩
abbrev cX8_solvedAt : ByteArray := prog_1_method_27_code
def yX8_solvedAt : MethodName := ⟨RX8, "solvedAt", "(II)I"⟩
abbrev cX8_open : ByteArray := prog_1_method_28_code
def yX8_open : MethodName := ⟨RX8, "open", "(I)I"⟩
abbrev cX8_coins : ByteArray := prog_1_method_29_code
def yX8_coins : MethodName := ⟨RX8, "coins", "(I)I"⟩
abbrev cX8_streak : ByteArray := prog_1_method_30_code
def yX8_streak : MethodName := ⟨RX8, "streak", "(I)I"⟩
abbrev cX8_streakAnew : ByteArray := prog_1_method_31_code
def yX8_streakAnew : MethodName := ⟨RX8, "streakAnew", "(I)I"⟩
abbrev cX8_solverAt : ByteArray := prog_1_method_32_code
def yX8_solverAt : MethodName := ⟨RX8, "solverAt", "(I)I"⟩
abbrev cX8_isIndex : ByteArray := prog_1_method_33_code
def yX8_isIndex : MethodName := ⟨RX8, "isIndex", "(II)Z"⟩
abbrev cX8_needIndex : ByteArray := prog_1_method_34_code
def yX8_needIndex : MethodName := ⟨RX8, "needIndex", "(II)V"⟩
abbrev cX8_needRange : ByteArray := prog_1_method_35_code
def yX8_needRange : MethodName := ⟨RX8, "needRange", "(III)V"⟩
abbrev cX8_needRoomForLetter : ByteArray := prog_1_method_36_code
def yX8_needRoomForLetter : MethodName := ⟨RX8, "needRoomForLetter", "()V"⟩
abbrev cX8_needCellOf : ByteArray := prog_1_method_37_code
def yX8_needCellOf : MethodName := ⟨RX8, "needCellOf", "(III)V"⟩
abbrev cX8_needUnfinished : ByteArray := prog_1_method_38_code
def yX8_needUnfinished : MethodName := ⟨RX8, "needUnfinished", "(III)V"⟩
abbrev cX8_today : ByteArray := prog_1_method_39_code
def yX8_today : MethodName := ⟨RX8, "today", "()I"⟩
abbrev cX8_mayPublishToday : ByteArray := prog_1_method_40_code
def yX8_mayPublishToday : MethodName := ⟨RX8, "mayPublishToday", "()Z"⟩
abbrev cX8_findClues : ByteArray := prog_1_method_41_code
def yX8_findClues : MethodName := ⟨RX8, "findClues", "()Z"⟩
abbrev cX8_cellOf : ByteArray := prog_1_method_42_code
def yX8_cellOf : MethodName := ⟨RX8, "cellOf", "(II)I"⟩
abbrev cX8_cellsOf : ByteArray := prog_1_method_43_code
def yX8_cellsOf : MethodName := ⟨RX8, "cellsOf", "(I)I"⟩
abbrev cX8_becomeRight : ByteArray := prog_1_method_44_code
def yX8_becomeRight : MethodName := ⟨RX8, "becomeRight", "(III)V"⟩
abbrev cX8_countIfSolved : ByteArray := prog_1_method_45_code
def yX8_countIfSolved : MethodName := ⟨RX8, "countIfSolved", "(II)V"⟩
abbrev cX8_keptStreak : ByteArray := prog_1_method_46_code
def yX8_keptStreak : MethodName := ⟨RX8, "keptStreak", "(I)I"⟩
abbrev cX8_replay : ByteArray := prog_1_method_47_code
def yX8_replay : MethodName := ⟨RX8, "replay", "(II)V"⟩
abbrev cX8_rank : ByteArray := prog_1_method_48_code
def yX8_rank : MethodName := ⟨RX8, "rank", "(I)I"⟩
abbrev cX8_isAhead : ByteArray := prog_1_method_49_code
def yX8_isAhead : MethodName := ⟨RX8, "isAhead", "(II)Z"⟩
def RX9 : String := "ClueyardModel"
def TX9 : u_T := fun k => match k with
  | 0 => ("ClueyardModel", "spelled", "[I", true)
  | 1 => ("ClueyardModel", "spells", "I", false)
  | 2 => ("ClueyardModel", "words", "I", false)
  | 3 => ("ClueyardModel", "byLetters", "[I", true)
  | 4 => ("ClueyardModel", "letters", "[I", true)
  | 5 => ("ClueyardModel", "weights", "[I", true)
  | 6 => ("ClueyardModel", "row", "[I", true)
  | 7 => ("ClueyardModel", "fixed", "[I", true)
  | 8 => ("ClueyardModel", "fillCount", "I", false)
  | 9 => ("ClueyardModel", "bestWeight", "I", false)
  | 10 => ("ClueyardModel", "best", "[I", true)
  | 11 => ("ClueyardModel", "clues", "I", false)
  | 12 => ("ClueyardModel", "clueWords", "[I", true)
  | 13 => ("ClueyardModel", "stages", "[I", true)
  | 14 => ("ClueyardModel", "used", "[I", true)
  | 15 => ("ClueyardModel", "now", "I", false)
  | 16 => ("ClueyardModel", "puzzles", "I", false)
  | 17 => ("ClueyardModel", "published", "[I", true)
  | 18 => ("ClueyardModel", "puzzleLetters", "[I", true)
  | 19 => ("ClueyardModel", "puzzleClues", "[I", true)
  | 20 => ("ClueyardModel", "judged", "[I", true)
  | 21 => ("ClueyardModel", "chosen", "[I", true)
  | 22 => ("ClueyardModel", "solvers", "I", false)
  | 23 => ("ClueyardModel", "offsets", "[I", true)
  | 24 => ("ClueyardModel", "purses", "[I", true)
  | 25 => ("ClueyardModel", "rights", "[I", true)
  | 26 => ("ClueyardModel", "paid", "[I", true)
  | 27 => ("ClueyardModel", "helps", "[I", true)
  | 28 => ("ClueyardModel", "counted", "[I", true)
  | _ => ("ClueyardModel", "thrown", "I", false)
def tyX9 : Nat → FieldType := fun k => match k with
  | 0 => .array .int
  | 1 => .int
  | 2 => .int
  | 3 => .array .int
  | 4 => .array .int
  | 5 => .array .int
  | 6 => .array .int
  | 7 => .array .int
  | 8 => .int
  | 9 => .int
  | 10 => .array .int
  | 11 => .int
  | 12 => .array .int
  | 13 => .array .int
  | 14 => .array .int
  | 15 => .int
  | 16 => .int
  | 17 => .array .int
  | 18 => .array .int
  | 19 => .array .int
  | 20 => .array .int
  | 21 => .array .int
  | 22 => .int
  | 23 => .array .int
  | 24 => .array .int
  | 25 => .array .int
  | 26 => .array .int
  | 27 => .array .int
  | 28 => .array .int
  | _ => .int
abbrev wsX90 : List Cond := u_ws RX9 TX9 30
theorem nmX9 : ∀ a, a < 30 → ∀ b, b < 30 → a ≠ b → (TX9 a).2.1 ≠ (TX9 b).2.1 := by decide +kernel
theorem tyX9_ok : ∀ k, k < 30 → parseFieldDescriptor (TX9 k).2.2.1 = some (tyX9 k) := by decide +kernel
abbrev cX9_init : ByteArray := prog_11_method_1_code
def yX9_init : MethodName := ⟨RX9, "<init>", "()V"⟩
abbrev cX9_thrown : ByteArray := prog_11_method_2_code
def yX9_thrown : MethodName := ⟨RX9, "thrown", "()I"⟩
abbrev cX9_fails : ByteArray := prog_11_method_3_code
def yX9_fails : MethodName := ⟨RX9, "fails", "(I)I"⟩
abbrev cX9_in : ByteArray := prog_11_method_4_code
def yX9_in : MethodName := ⟨RX9, "in", "(III)Z"⟩
abbrev cX9_chars : ByteArray := prog_11_method_5_code
def yX9_chars : MethodName := ⟨RX9, "chars", "()I"⟩
abbrev cX9_canSpell : ByteArray := prog_11_method_6_code
def yX9_canSpell : MethodName := ⟨RX9, "canSpell", "(I)Z"⟩
abbrev cX9_spell : ByteArray := prog_11_method_7_code
def yX9_spell : MethodName := ⟨RX9, "spell", "(I)I"⟩
abbrev cX9_insert : ByteArray := prog_11_method_8_code
def yX9_insert : MethodName := ⟨RX9, "insert", "(I)I"⟩
abbrev cX9_turn : ByteArray := prog_11_method_9_code
def yX9_turn : MethodName := ⟨RX9, "turn", "()I"⟩
abbrev cX9_clearSpelled : ByteArray := prog_11_method_10_code
def yX9_clearSpelled : MethodName := ⟨RX9, "clearSpelled", "()I"⟩
abbrev cX9_charAt : ByteArray := prog_11_method_11_code
def yX9_charAt : MethodName := ⟨RX9, "charAt", "(I)C"⟩
abbrev cX9_isWord : ByteArray := prog_11_method_12_code
def yX9_isWord : MethodName := ⟨RX9, "isWord", "(I)Z"⟩
abbrev cX9_addWord : ByteArray := prog_11_method_13_code
def yX9_addWord : MethodName := ⟨RX9, "addWord", "(I)I"⟩
abbrev cX9_setWeight : ByteArray := prog_11_method_14_code
def yX9_setWeight : MethodName := ⟨RX9, "setWeight", "(II)I"⟩
abbrev cX9_orders : ByteArray := prog_11_method_15_code
def yX9_orders : MethodName := ⟨RX9, "orders", "()V"⟩
abbrev cX9_wordAt : ByteArray := prog_11_method_16_code
def yX9_wordAt : MethodName := ⟨RX9, "wordAt", "(I)I"⟩
abbrev cX9_letterOf : ByteArray := prog_11_method_17_code
def yX9_letterOf : MethodName := ⟨RX9, "letterOf", "(II)I"⟩
abbrev cX9_beginning : ByteArray := prog_11_method_18_code
def yX9_beginning : MethodName := ⟨RX9, "beginning", "()I"⟩
abbrev cX9_fix : ByteArray := prog_11_method_19_code
def yX9_fix : MethodName := ⟨RX9, "fix", "(II)I"⟩
abbrev cX9_fitsRow : ByteArray := prog_11_method_20_code
def yX9_fitsRow : MethodName := ⟨RX9, "fitsRow", "(II)Z"⟩
abbrev cX9_columnOf : ByteArray := prog_11_method_21_code
def yX9_columnOf : MethodName := ⟨RX9, "columnOf", "(IIII)I"⟩
abbrev cX9_tries : ByteArray := prog_11_method_22_code
def yX9_tries : MethodName := ⟨RX9, "tries", "(III)V"⟩
abbrev cX9_findsFills : ByteArray := prog_11_method_23_code
def yX9_findsFills : MethodName := ⟨RX9, "findsFills", "()V"⟩
abbrev cX9_fillWeight : ByteArray := prog_11_method_24_code
def yX9_fillWeight : MethodName := ⟨RX9, "fillWeight", "()I"⟩
abbrev cX9_fillWeightByAll : ByteArray := prog_11_method_25_code
def yX9_fillWeightByAll : MethodName := ⟨RX9, "fillWeightByAll", "()I"⟩
abbrev cX9_fills : ByteArray := prog_11_method_26_code
def yX9_fills : MethodName := ⟨RX9, "fills", "()I"⟩
abbrev cX9_fillAt : ByteArray := prog_11_method_27_code
def yX9_fillAt : MethodName := ⟨RX9, "fillAt", "(I)I"⟩
abbrev cX9_isClue : ByteArray := prog_11_method_28_code
def yX9_isClue : MethodName := ⟨RX9, "isClue", "(I)Z"⟩
abbrev cX9_clue : ByteArray := prog_11_method_29_code
def yX9_clue : MethodName := ⟨RX9, "clue", "(I)I"⟩
abbrev cX9_edit : ByteArray := prog_11_method_30_code
def yX9_edit : MethodName := ⟨RX9, "edit", "(IZ)I"⟩
abbrev cX9_lastUsed : ByteArray := prog_11_method_31_code
def yX9_lastUsed : MethodName := ⟨RX9, "lastUsed", "(I)I"⟩
abbrev cX9_pass : ByteArray := prog_11_method_32_code
def yX9_pass : MethodName := ⟨RX9, "pass", "(I)I"⟩
abbrev cX9_now : ByteArray := prog_11_method_33_code
def yX9_now : MethodName := ⟨RX9, "now", "()I"⟩
abbrev cX9_clueFor : ByteArray := prog_11_method_34_code
def yX9_clueFor : MethodName := ⟨RX9, "clueFor", "(II)I"⟩
abbrev cX9_publish : ByteArray := prog_11_method_35_code
def yX9_publish : MethodName := ⟨RX9, "publish", "()I"⟩
abbrev cX9_isPuzzle : ByteArray := prog_11_method_36_code
def yX9_isPuzzle : MethodName := ⟨RX9, "isPuzzle", "(I)Z"⟩
abbrev cX9_clueOf : ByteArray := prog_11_method_37_code
def yX9_clueOf : MethodName := ⟨RX9, "clueOf", "(II)I"⟩
abbrev cX9_addSolver : ByteArray := prog_11_method_38_code
def yX9_addSolver : MethodName := ⟨RX9, "addSolver", "(II)I"⟩
abbrev cX9_isSolver : ByteArray := prog_11_method_39_code
def yX9_isSolver : MethodName := ⟨RX9, "isSolver", "(I)Z"⟩
abbrev cX9_dayOf : ByteArray := prog_11_method_40_code
def yX9_dayOf : MethodName := ⟨RX9, "dayOf", "(II)I"⟩
abbrev cX9_openOf : ByteArray := prog_11_method_41_code
def yX9_openOf : MethodName := ⟨RX9, "openOf", "(I)I"⟩
abbrev cX9_solved : ByteArray := prog_11_method_42_code
def yX9_solved : MethodName := ⟨RX9, "solved", "(II)I"⟩
abbrev cX9_counts : ByteArray := prog_11_method_43_code
def yX9_counts : MethodName := ⟨RX9, "counts", "(II)V"⟩
abbrev cX9_isCell : ByteArray := prog_11_method_44_code
def yX9_isCell : MethodName := ⟨RX9, "isCell", "(III)Z"⟩
abbrev cX9_isOver : ByteArray := prog_11_method_45_code
def yX9_isOver : MethodName := ⟨RX9, "isOver", "(III)Z"⟩
abbrev cX9_enter : ByteArray := prog_11_method_46_code
def yX9_enter : MethodName := ⟨RX9, "enter", "(IIII)Z"⟩
abbrev cX9_help : ByteArray := prog_11_method_47_code
def yX9_help : MethodName := ⟨RX9, "help", "(III)I"⟩
abbrev cX9_streakOf : ByteArray := prog_11_method_48_code
def yX9_streakOf : MethodName := ⟨RX9, "streakOf", "(I)I"⟩
abbrev cX9_judge : ByteArray := prog_11_method_49_code
def yX9_judge : MethodName := ⟨RX9, "judge", "(II)I"⟩
abbrev cX9_solvedAt : ByteArray := prog_11_method_50_code
def yX9_solvedAt : MethodName := ⟨RX9, "solvedAt", "(II)I"⟩
abbrev cX9_open : ByteArray := prog_11_method_51_code
def yX9_open : MethodName := ⟨RX9, "open", "(I)I"⟩
abbrev cX9_coins : ByteArray := prog_11_method_52_code
def yX9_coins : MethodName := ⟨RX9, "coins", "(I)I"⟩
abbrev cX9_streak : ByteArray := prog_11_method_53_code
def yX9_streak : MethodName := ⟨RX9, "streak", "(I)I"⟩
abbrev cX9_streakAnew : ByteArray := prog_11_method_54_code
def yX9_streakAnew : MethodName := ⟨RX9, "streakAnew", "(I)I"⟩
abbrev cX9_solverAt : ByteArray := prog_11_method_55_code
def yX9_solverAt : MethodName := ⟨RX9, "solverAt", "(I)I"⟩
def RJx145de : String := "java/io/Serializable"
def TJx145de : u_T := fun k => match k with
  | _ => ("", "", "", false)
def tyJx145de : Nat → FieldType := fun k => match k with
  | _ => .int
abbrev wsJx145de0 : List Cond := u_ws RJx145de TJx145de 0
theorem nmJx145de : ∀ a, a < 0 → ∀ b, b < 0 → a ≠ b → (TJx145de a).2.1 ≠ (TJx145de b).2.1 := by decide +kernel
theorem tyJx145de_ok : ∀ k, k < 0 → parseFieldDescriptor (TJx145de k).2.2.1 = some (tyJx145de k) := by decide +kernel
def RJ9 : String := "java/lang/Math"
def TJ9 : u_T := fun k => match k with
  | _ => ("", "", "", false)
def tyJ9 : Nat → FieldType := fun k => match k with
  | _ => .int
abbrev wsJ90 : List Cond := u_ws RJ9 TJ9 0
theorem nmJ9 : ∀ a, a < 0 → ∀ b, b < 0 → a ≠ b → (TJ9 a).2.1 ≠ (TJ9 b).2.1 := by decide +kernel
theorem tyJ9_ok : ∀ k, k < 0 → parseFieldDescriptor (TJ9 k).2.2.1 = some (tyJ9 k) := by decide +kernel
abbrev cJ9_floorDiv_7cf53 : ByteArray := prog_17_method_47_code
def yJ9_floorDiv_7cf53 : MethodName := ⟨RJ9, "floorDiv", "(II)I"⟩
abbrev cJ9_max_7cf53 : ByteArray := prog_17_method_65_code
def yJ9_max_7cf53 : MethodName := ⟨RJ9, "max", "(II)I"⟩
abbrev cJ9_min_7cf53 : ByteArray := prog_17_method_69_code
def yJ9_min_7cf53 : MethodName := ⟨RJ9, "min", "(II)I"⟩
def RJ0 : String := "java/lang/String"
def TJ0 : u_T := fun k => match k with
  | _ => ("", "", "", false)
def tyJ0 : Nat → FieldType := fun k => match k with
  | _ => .int
abbrev wsJ00 : List Cond := u_ws RJ0 TJ0 0
theorem nmJ0 : ∀ a, a < 0 → ∀ b, b < 0 → a ≠ b → (TJ0 a).2.1 ≠ (TJ0 b).2.1 := by decide +kernel
theorem tyJ0_ok : ∀ k, k < 0 → parseFieldDescriptor (TJ0 k).2.2.1 = some (tyJ0 k) := by decide +kernel
def RJ7 : String := "java/util/Arrays"
def TJ7 : u_T := fun k => match k with
  | _ => ("", "", "", false)
def tyJ7 : Nat → FieldType := fun k => match k with
  | _ => .int
abbrev wsJ70 : List Cond := u_ws RJ7 TJ7 0
theorem nmJ7 : ∀ a, a < 0 → ∀ b, b < 0 → a ≠ b → (TJ7 a).2.1 ≠ (TJ7 b).2.1 := by decide +kernel
theorem tyJ7_ok : ∀ k, k < 0 → parseFieldDescriptor (TJ7 k).2.2.1 = some (tyJ7 k) := by decide +kernel
abbrev cJ7_fill_53178 : ByteArray := prog_21_method_103_code
def yJ7_fill_53178 : MethodName := ⟨RJ7, "fill", "([II)V"⟩
def RL : String := "ClueyardLaw"
abbrev cL_spell : ByteArray := method_3_code
def yL_spell : MethodName := ⟨RL, "spell", "(LClueyard;I[J)I"⟩
abbrev cL_insert : ByteArray := method_4_code
def yL_insert : MethodName := ⟨RL, "insert", "(LClueyard;I[J)I"⟩
abbrev cL_charAt : ByteArray := method_5_code
def yL_charAt : MethodName := ⟨RL, "charAt", "(LClueyard;I[J)I"⟩
abbrev cL_addWord : ByteArray := method_6_code
def yL_addWord : MethodName := ⟨RL, "addWord", "(LClueyard;I[J)I"⟩
abbrev cL_setWeight : ByteArray := method_7_code
def yL_setWeight : MethodName := ⟨RL, "setWeight", "(LClueyard;II[J)I"⟩
abbrev cL_fix : ByteArray := method_8_code
def yL_fix : MethodName := ⟨RL, "fix", "(LClueyard;II[J)I"⟩
abbrev cL_fillAt : ByteArray := method_9_code
def yL_fillAt : MethodName := ⟨RL, "fillAt", "(LClueyard;I[J)I"⟩
abbrev cL_clue : ByteArray := method_10_code
def yL_clue : MethodName := ⟨RL, "clue", "(LClueyard;I[J)I"⟩
abbrev cL_edit : ByteArray := method_11_code
def yL_edit : MethodName := ⟨RL, "edit", "(LClueyard;IZ[J)I"⟩
abbrev cL_lastUsed : ByteArray := method_12_code
def yL_lastUsed : MethodName := ⟨RL, "lastUsed", "(LClueyard;I[J)I"⟩
abbrev cL_pass : ByteArray := method_13_code
def yL_pass : MethodName := ⟨RL, "pass", "(LClueyard;I[J)I"⟩
abbrev cL_publish : ByteArray := method_14_code
def yL_publish : MethodName := ⟨RL, "publish", "(LClueyard;[J)I"⟩
abbrev cL_clueOf : ByteArray := method_15_code
def yL_clueOf : MethodName := ⟨RL, "clueOf", "(LClueyard;II[J)I"⟩
abbrev cL_addSolver : ByteArray := method_16_code
def yL_addSolver : MethodName := ⟨RL, "addSolver", "(LClueyard;II[J)I"⟩
abbrev cL_enter : ByteArray := method_17_code
def yL_enter : MethodName := ⟨RL, "enter", "(LClueyard;IIII[J)I"⟩
abbrev cL_help : ByteArray := method_18_code
def yL_help : MethodName := ⟨RL, "help", "(LClueyard;III[J)I"⟩
abbrev cL_judge : ByteArray := method_19_code
def yL_judge : MethodName := ⟨RL, "judge", "(LClueyard;II[J)I"⟩
abbrev cL_solvedAt : ByteArray := method_20_code
def yL_solvedAt : MethodName := ⟨RL, "solvedAt", "(LClueyard;II[J)I"⟩
abbrev cL_open : ByteArray := method_21_code
def yL_open : MethodName := ⟨RL, "open", "(LClueyard;I[J)I"⟩
abbrev cL_coins : ByteArray := method_22_code
def yL_coins : MethodName := ⟨RL, "coins", "(LClueyard;I[J)I"⟩
abbrev cL_streak : ByteArray := method_23_code
def yL_streak : MethodName := ⟨RL, "streak", "(LClueyard;I[J)I"⟩
abbrev cL_streakAnew : ByteArray := method_24_code
def yL_streakAnew : MethodName := ⟨RL, "streakAnew", "(LClueyard;I[J)I"⟩
abbrev cL_law : ByteArray := code
def yL_law : MethodName := ⟨RL, "law", "([I)Z"⟩
abbrev vwCl : List vw_C := [(RX0, TX0, 5), (RX1, TX1, 5), (RX2, TX2, 3), (RX3, TX3, 5), (RX4, TX4, 4), (RX5, TX5, 2), (RX6, TX6, 5), (RX7, TX7, 7), (RX8, TX8, 12), (RX9, TX9, 30)]
end
section
/-! THE MINI MACHINE: cells by their places behind the start's heap (s0.heap.size + i), ints as Int, a memory i k ↦ Int; a shape says what each cell is -/
abbrev jv_Mem : Type := Int → Int → Int
abbrev jv_i (x : Int) : Value := .int (Int32.ofInt x)
def jv_up (g : jv_Mem) (i k v : Int) : jv_Mem := fun a b => if a = i ∧ b = k then v else g a b
theorem jv_up_s (g : jv_Mem) (i k v : Int) : jv_up g i k v i k = v := by simp [jv_up]
theorem jv_up_i {g : jv_Mem} {i k v a b : Int} (h : a ≠ i) : jv_up g i k v a b = g a b := by simp [jv_up, h]
theorem jv_up_k {g : jv_Mem} {i k v a b : Int} (h : b ≠ k) : jv_up g i k v a b = g a b := by simp [jv_up, h]
/-- what a cell is: an array (0 int, 1 boolean, 2 long, 3 puzzles, 4 solvers; its length; how many references stand in it), or an object (its class's number; its fields: none null, some none a number, some (some i) the cell i) -/
abbrev jv_Kd : Type := (Nat × Nat × Nat) ⊕ (Nat × List (Option (Option Int)))
abbrev jv_Sh : Type := Int → Option jv_Kd
def jv_fs (B : Nat) (g : jv_Mem) (i : Int) : Nat → List (Option (Option Int)) → List Value
  | _, [] => []
  | k, none :: r => .null :: jv_fs B g i (k + 1) r
  | k, some none :: r => jv_i (g i k) :: jv_fs B g i (k + 1) r
  | k, some (some t) :: r => .ref (B + t.toNat) :: jv_fs B g i (k + 1) r
def jv_fv (B : Nat) (g : jv_Mem) (i : Int) (k : Nat) : Option (Option Int) → Value
  | none => .null
  | some none => jv_i (g i k)
  | some (some t) => .ref (B + t.toNat)
/-- the cells that stand in the arrays of references -/
def jv_ra : Nat → Nat → Nat
  | 0, j => 30 + 3 * j
  | _, j => 90 + 6 * j
def jv_E (B : Nat) (ids : Nat → ClassId) (g : jv_Mem) (i : Int) : jv_Kd → va_E
  | .inl (0, n, _) => .inl (ids 0, n, .inl (fun j => Int32.ofInt (g i j)))
  | .inl (1, n, _) => .inl (ids 1, n, .inl (fun j => Int32.ofInt (g i j)))
  | .inl (2, n, _) => .inl (ids 2, n, .inr (.inl (fun j => Int64.ofInt (g i j))))
  | .inl (c + 3, n, mm) => .inl (ids (c + 3), n, .inr (.inr (.inr (.inr (fun j => if j < mm then some (B + jv_ra c j) else none)))))
  | .inr (ci, ds) => .inr (ci, jv_fs B g i 0 ds)
def jv_ty : Nat → FieldType
  | 0 => .int
  | 1 => .boolean
  | 2 => .long
  | 3 => .object RX3
  | _ => .object RX4
def jv_tys (ids : Nat → ClassId) : List (ClassId × FieldType) := [(ids 0, .int), (ids 1, .boolean), (ids 2, .long), (ids 3, .object RX3), (ids 4, .object RX4)]
def jv_H (B : Nat) (D : va_G) (ids : Nat → ClassId) (sh : jv_Sh) (g : jv_Mem) (H : Heap) : Prop := ∀ (i : Int) (k : jv_Kd), sh i = some k → 0 ≤ i ∧ va_at D vwCl (B + i.toNat, jv_E B ids g i k) H
def jv_Z (s0 : State) (b0 : Addr) (D : va_G) (ids : Nat → ClassId) : Prop := (∀ w ∈ lw_tbl, w.before #[Value.ref b0] s0 = true) ∧ va_K D vwCl (jv_tys ids) s0
def jv_G (s0 : State) (b0 : Addr) (D : va_G) (ids : Nat → ClassId) (U : State) : Prop := jv_Z s0 b0 D ids ∧ s0.WarmedH U.vm ∧ s0.heap.size ≤ U.heap.size ∧ ∀ q : Nat, q < s0.heap.size → U.heap[q]? = s0.heap[q]?
/-- a method's fixed things -/
def jv_C (p : Program) (s : State) (m : MethodId) (args : Array Value) (c : Code) (cc : ByteArray) (own : String) (s0 : State) (b0 : Addr) (D : va_G) (ids : Nat → ClassId) : Prop :=
  p.tables.exec = Jvm.exec ∧ c.code = cc ∧ s.vm.findClass own = some m.cls ∧ jv_G s0 b0 D ids s
theorem jv_G.word {s0 : State} {b0 : Addr} {D : va_G} {ids : Nat → ClassId} {U : State} (h : jv_G s0 b0 D ids U) {w : Cond} (hw : w ∈ lw_tbl) (hg : goodWord w = true) {a : Array Value} : w.before a U = true :=
  word_at h.2.1 (good_of_word hg) (h.1.1 w hw)
theorem jv_G.K {s0 : State} {b0 : Addr} {D : va_G} {ids : Nat → ClassId} {U : State} (h : jv_G s0 b0 D ids U) : va_K D vwCl (jv_tys ids) U := va_K.moved h.2.1.alike h.1.2
def jv_tb : List Cond := lw_tbl.filter goodWord
theorem jv_tb_in {w : Cond} (h : w ∈ lw_tbl) (hg : goodWord w = true) : w ∈ jv_tb := List.mem_filter.mpr ⟨h, hg⟩
theorem jv_G.hts {s0 : State} {b0 : Addr} {D : va_G} {ids : Nat → ClassId} {U : State} (h : jv_G s0 b0 D ids U) {a : Array Value} : ∀ w ∈ jv_tb, w.before a U = true := fun w hw => h.word (List.mem_filter.mp hw).1 (List.mem_filter.mp hw).2
/-- the locals as a list -/
def jv_la : Nat → List (Option Value) → List (Nat × Value)
  | _, [] => []
  | k, none :: r => jv_la (k + 1) r
  | k, some v :: r => (k, v) :: jv_la (k + 1) r
theorem jv_la_mem : ∀ (ls : List (Option Value)) (k : Nat) (q : Nat × Value), q ∈ jv_la k ls ↔ ∃ i, q.1 = k + i ∧ ls[i]? = some (some q.2) := by
  intro ls
  induction ls with
  | nil => intro k q; simp [jv_la]
  | cons a r ih =>
    intro k q
    have key : (∃ i, q.1 = k + 1 + i ∧ r[i]? = some (some q.2)) ↔ ∃ i, q.1 = k + (i + 1) ∧ (a :: r)[i + 1]? = some (some q.2) := by
      constructor
      · rintro ⟨i, h1, h2⟩; exact ⟨i, by omega, by simpa using h2⟩
      · rintro ⟨i, h1, h2⟩; exact ⟨i, by omega, by simpa using h2⟩
    have split : (∃ i, q.1 = k + i ∧ (a :: r)[i]? = some (some q.2)) ↔ (q.1 = k ∧ a = some q.2) ∨ ∃ i, q.1 = k + (i + 1) ∧ (a :: r)[i + 1]? = some (some q.2) := by
      constructor
      · rintro ⟨i, h1, h2⟩
        cases i with
        | zero => exact Or.inl ⟨by omega, by simpa using h2⟩
        | succ i => exact Or.inr ⟨i, h1, h2⟩
      · rintro (⟨h1, h2⟩ | ⟨i, h1, h2⟩)
        · exact ⟨0, by omega, by simp [h2]⟩
        · exact ⟨i + 1, h1, h2⟩
    rw [split, ← key]
    cases a with
    | none => simp [jv_la, ih]
    | some v =>
      simp only [jv_la, List.mem_cons, ih]
      constructor
      · rintro (h | h)
        · left; subst h; exact ⟨rfl, rfl⟩
        · exact Or.inr h
      · rintro (⟨h1, h2⟩ | h)
        · left
          cases h2
          obtain ⟨x, y⟩ := q
          simp_all
        · exact Or.inr h
def jv_L (arr : Array Slot) (n : Nat) (ls : List (Option Value)) : Prop := lv_has arr n (jv_la 0 ls) ∧ ∀ v, some v ∈ ls → v.category = 1
theorem jv_L.at {arr : Array Slot} {n : Nat} {ls : List (Option Value)} (h : jv_L arr n ls) {i : Nat} {v : Value} (hi : ls[i]? = some (some v)) : arr[i]? = some (.val v) :=
  h.1.2.2 (i, v) ((jv_la_mem ls 0 (i, v)).mpr ⟨i, by simp, hi⟩)
theorem jv_L.set {arr arr' : Array Slot} {n i : Nat} {v : Value} {ls ls' : List (Option Value)} (h : jv_L arr n ls) (hc : v.category = 1) (hs : ls.set i (some v) = ls') (h' : lv_has arr' n ((i, v) :: (jv_la 0 ls).filter (fun q => !(q.1 == i) && !(q.1 + 1 == i && q.2.category == 2)))) : jv_L arr' n ls' := by
  subst hs
  refine ⟨⟨h'.1, h'.2.1, fun q hq => ?_⟩, fun w hw => ?_⟩
  · obtain ⟨j, h1, h2⟩ := (jv_la_mem _ 0 q).mp hq
    refine h'.2.2 q ?_
    have hj : q.1 = j := by omega
    rw [List.getElem?_set] at h2
    by_cases hij : i = j
    · rw [if_pos hij] at h2
      split at h2
      · simp only [Option.some.injEq] at h2
        refine List.mem_cons.mpr (Or.inl ?_)
        obtain ⟨x, y⟩ := q
        simp_all
      · cases h2
    · rw [if_neg hij] at h2
      refine List.mem_cons.mpr (Or.inr (List.mem_filter.mpr ⟨(jv_la_mem _ 0 q).mpr ⟨j, h1, h2⟩, ?_⟩))
      have hcat := h.2 q.2 (List.mem_of_getElem? h2)
      have e1 : (q.1 == i) = false := by simp; omega
      simp [e1, hcat]
  · rcases List.mem_or_eq_of_mem_set hw with h1 | h1
    · exact h.2 w h1
    · cases h1; exact hc
theorem jv_L.entry (vs : List Value) {n : Nat} (h : (lg_sl vs).length ≤ n) (hc : ∀ v ∈ vs, v.category = 1) : jv_L ((lg_sl vs ++ List.replicate (n - (lg_sl vs).length) Slot.unset).toArray) n (vs.map some ++ List.replicate (n - vs.length) none) := by
  have h0 := lv_entry vs h
  refine ⟨⟨h0.1, h0.2.1, fun q hq => h0.2.2 q ?_⟩, fun v hv => ?_⟩
  · obtain ⟨j, h1, h2⟩ := (jv_la_mem _ 0 q).mp hq
    have hlt : j < vs.length := by
      rcases Nat.lt_or_ge j vs.length with h3 | h3
      · exact h3
      · rw [List.getElem?_append_right (by simpa using h3)] at h2
        have := List.mem_of_getElem? h2
        simp at this
    rw [List.getElem?_append_left (by simpa using hlt)] at h2
    have h3 : vs[j]? = some q.2 := by simpa using h2
    have key : ∀ (l : List Value) (k j : Nat) (v : Value), (∀ w ∈ l, w.category = 1) → l[j]? = some v → (k + j, v) ∈ lv_args k l := by
      intro l
      induction l with
      | nil => intro k j v _ h; simp at h
      | cons a r ih =>
        intro k j v hl h
        have ha : a.category = 1 := hl a List.mem_cons_self
        cases j with
        | zero =>
          simp only [List.getElem?_cons_zero, Option.some.injEq] at h
          subst h
          cases a <;> simp [lv_args]
        | succ j =>
          have := ih (k + 1) j v (fun w hw => hl w (List.mem_cons_of_mem _ hw)) (by simpa using h)
          have e : k + (j + 1) = k + 1 + j := by omega
          rw [e]
          cases a <;> simp_all [lv_args, Value.category]
    have := key vs 0 j q.2 hc h3
    have e : q = (0 + j, q.2) := by obtain ⟨x, y⟩ := q; simp_all
    rw [e]; exact this
  · rcases List.mem_append.mp hv with h1 | h1
    · obtain ⟨w, hw, he⟩ := List.mem_map.mp h1
      cases he; exact hc _ hw
    · have := List.eq_of_mem_replicate h1
      cases this
/-- the machine at pc with the locals ls, the stack st, over any heap that holds the memory g in the shape sh, comes to a state with Z -/
def jv_V (p : Program) (l : Launch) (e : Env) (R : Room) (s : State) (m : MethodId) (args : Array Value) (below : List Frame) (meth : Method) (c : Code) (cells slots : Nat) (Z : State → Prop) (s0 : State) (D : va_G) (ids : Nat → ClassId) (ex : Option Nat) (sh : jv_Sh) (g : jv_Mem) (pc : Nat) (ls : List (Option Value)) (st : List Value) : Prop :=
  ∀ (H : Heap) (locs : List Loc) (arr : Array Slot), jv_H s0.heap.size D ids sh g H → (∀ n, ex = some n → H.size = s0.heap.size + n) → va_S (fun q => s0.heap.size ≤ q) s.heap H locs → jv_L arr c.maxLocals ls → W p l e R s m args below meth c H locs cells slots Z (F0 m pc arr st)
end
section
section JVR
variable {p : Program} {l : Launch} {e : Env} {R : Room} {s : State} {m : MethodId} {args : Array Value} {below : List Frame} {meth : Method} {c : Code} {cells slots : Nat} {Z : State → Prop} {s0 : State} {b0 : Addr} {D : va_G} {ids : Nat → ClassId} {ex : Option Nat} {sh : jv_Sh} {g : jv_Mem} {pc : Nat} {ls ls' : List (Option Value)} {st : List Value} {cc : ByteArray} {own : String}
theorem jv_const (C : jv_C p s m args c cc own s0 b0 D ids) {n : Int} (hd : decode cc pc = .ok (.iconst n, 1)) (k : jv_V p l e R s m args below meth c cells slots Z s0 D ids ex sh g (pc + 1) ls (jv_i n :: st)) : jv_V p l e R s m args below meth c cells slots Z s0 D ids ex sh g pc ls st :=
  fun H locs arr h1 h2 h3 h4 => lv_iconst C.1 C.2.1 hd rfl (k H locs arr h1 h2 h3 h4)
theorem jv_bipush (C : jv_C p s m args c cc own s0 b0 D ids) {n : Int} (hd : decode cc pc = .ok (.bipush n, 2)) (hv : (Int8.ofInt n).toInt32 = Int32.ofInt n) (k : jv_V p l e R s m args below meth c cells slots Z s0 D ids ex sh g (pc + 2) ls (jv_i n :: st)) : jv_V p l e R s m args below meth c cells slots Z s0 D ids ex sh g pc ls st :=
  fun H locs arr h1 h2 h3 h4 => lv_bipush C.1 C.2.1 hd hv (k H locs arr h1 h2 h3 h4)
theorem jv_sipush (C : jv_C p s m args c cc own s0 b0 D ids) {n : Int} (hd : decode cc pc = .ok (.sipush n, 3)) (hv : (Int16.ofInt n).toInt32 = Int32.ofInt n) (k : jv_V p l e R s m args below meth c cells slots Z s0 D ids ex sh g (pc + 3) ls (jv_i n :: st)) : jv_V p l e R s m args below meth c cells slots Z s0 D ids ex sh g pc ls st :=
  fun H locs arr h1 h2 h3 h4 => lv_sipush C.1 C.2.1 hd hv (k H locs arr h1 h2 h3 h4)
theorem jv_ldc (C : jv_C p s m args c cc own s0 b0 D ids) {n : Int} {idx : Nat} (hd : decode cc pc = .ok (.ldc idx, 2)) (hw : Cond.constant own idx (Int32.ofInt n) ∈ jv_tb) (k : jv_V p l e R s m args below meth c cells slots Z s0 D ids ex sh g (pc + 2) ls (jv_i n :: st)) : jv_V p l e R s m args below meth c cells slots Z s0 D ids ex sh g pc ls st :=
  fun H locs arr h1 h2 h3 h4 => lv_ldc C.1 C.2.1 C.2.2.1 (C.2.2.2.hts _ hw) hd (k H locs arr h1 h2 h3 h4)
theorem jv_iload_n (C : jv_C p s m args c cc own s0 b0 D ids) {j : Fin 4} {x : Int32} (hd : decode cc pc = .ok (.iload_n j, 1)) (hl : ls[(j : Nat)]? = some (some (.int x))) (k : jv_V p l e R s m args below meth c cells slots Z s0 D ids ex sh g (pc + 1) ls (.int x :: st)) : jv_V p l e R s m args below meth c cells slots Z s0 D ids ex sh g pc ls st :=
  fun H locs arr h1 h2 h3 h4 => lv_iload_n C.1 C.2.1 hd rfl (h4.at hl) (k H locs arr h1 h2 h3 h4)
theorem jv_iload (C : jv_C p s m args c cc own s0 b0 D ids) {j : Nat} {x : Int32} (hd : decode cc pc = .ok (.iload j, 2)) (hl : ls[j]? = some (some (.int x))) (k : jv_V p l e R s m args below meth c cells slots Z s0 D ids ex sh g (pc + 2) ls (.int x :: st)) : jv_V p l e R s m args below meth c cells slots Z s0 D ids ex sh g pc ls st :=
  fun H locs arr h1 h2 h3 h4 => lv_iload C.1 C.2.1 hd (h4.at hl) (k H locs arr h1 h2 h3 h4)
theorem jv_aload_n (C : jv_C p s m args c cc own s0 b0 D ids) {j : Fin 4} {x : Addr} (hd : decode cc pc = .ok (.aload_n j, 1)) (hl : ls[(j : Nat)]? = some (some (.ref x))) (k : jv_V p l e R s m args below meth c cells slots Z s0 D ids ex sh g (pc + 1) ls (.ref x :: st)) : jv_V p l e R s m args below meth c cells slots Z s0 D ids ex sh g pc ls st :=
  fun H locs arr h1 h2 h3 h4 => lv_aload_n C.1 C.2.1 hd rfl (h4.at hl) (k H locs arr h1 h2 h3 h4)
theorem jv_aload (C : jv_C p s m args c cc own s0 b0 D ids) {j : Nat} {x : Addr} (hd : decode cc pc = .ok (.aload j, 2)) (hl : ls[j]? = some (some (.ref x))) (k : jv_V p l e R s m args below meth c cells slots Z s0 D ids ex sh g (pc + 2) ls (.ref x :: st)) : jv_V p l e R s m args below meth c cells slots Z s0 D ids ex sh g pc ls st :=
  fun H locs arr h1 h2 h3 h4 => lv_aload C.1 C.2.1 hd (h4.at hl) (k H locs arr h1 h2 h3 h4)
theorem jv_istore_n (C : jv_C p s m args c cc own s0 b0 D ids) {j : Fin 4} {x : Int32} (hd : decode cc pc = .ok (.istore_n j, 1)) (hn : (j : Nat) < c.maxLocals) (hl : ls.set (j : Nat) (some (.int x)) = ls') (k : jv_V p l e R s m args below meth c cells slots Z s0 D ids ex sh g (pc + 1) ls' st) : jv_V p l e R s m args below meth c cells slots Z s0 D ids ex sh g pc ls (.int x :: st) :=
  fun H locs arr h1 h2 h3 h4 => lv_istore_n C.1 C.2.1 hd rfl h4.1 hn rfl (fun arr' h' => k H locs arr' h1 h2 h3 (h4.set rfl hl h'))
theorem jv_istore (C : jv_C p s m args c cc own s0 b0 D ids) {j : Nat} {x : Int32} (hd : decode cc pc = .ok (.istore j, 2)) (hn : j < c.maxLocals) (hl : ls.set j (some (.int x)) = ls') (k : jv_V p l e R s m args below meth c cells slots Z s0 D ids ex sh g (pc + 2) ls' st) : jv_V p l e R s m args below meth c cells slots Z s0 D ids ex sh g pc ls (.int x :: st) :=
  fun H locs arr h1 h2 h3 h4 => lv_istore C.1 C.2.1 hd h4.1 hn rfl (fun arr' h' => k H locs arr' h1 h2 h3 (h4.set rfl hl h'))
theorem jv_astore_n (C : jv_C p s m args c cc own s0 b0 D ids) {j : Fin 4} {x : Addr} (hd : decode cc pc = .ok (.astore_n j, 1)) (hn : (j : Nat) < c.maxLocals) (hl : ls.set (j : Nat) (some (.ref x)) = ls') (k : jv_V p l e R s m args below meth c cells slots Z s0 D ids ex sh g (pc + 1) ls' st) : jv_V p l e R s m args below meth c cells slots Z s0 D ids ex sh g pc ls (.ref x :: st) :=
  fun H locs arr h1 h2 h3 h4 => lv_astore_n C.1 C.2.1 hd rfl h4.1 hn rfl (fun arr' h' => k H locs arr' h1 h2 h3 (h4.set rfl hl h'))
theorem jv_astore (C : jv_C p s m args c cc own s0 b0 D ids) {j : Nat} {x : Addr} (hd : decode cc pc = .ok (.astore j, 2)) (hn : j < c.maxLocals) (hl : ls.set j (some (.ref x)) = ls') (k : jv_V p l e R s m args below meth c cells slots Z s0 D ids ex sh g (pc + 2) ls' st) : jv_V p l e R s m args below meth c cells slots Z s0 D ids ex sh g pc ls (.ref x :: st) :=
  fun H locs arr h1 h2 h3 h4 => lv_astore C.1 C.2.1 hd h4.1 hn rfl (fun arr' h' => k H locs arr' h1 h2 h3 (h4.set rfl hl h'))
theorem jv_iinc (C : jv_C p s m args c cc own s0 b0 D ids) {j : Nat} {n x : Int} (hd : decode cc pc = .ok (.iinc j n, 3)) (hn : j < c.maxLocals) (hg : ls[j]? = some (some (jv_i x))) (hl : ls.set j (some (jv_i (x + n))) = ls') (k : jv_V p l e R s m args below meth c cells slots Z s0 D ids ex sh g (pc + 3) ls' st) : jv_V p l e R s m args below meth c cells slots Z s0 D ids ex sh g pc ls st := by
  intro H locs arr h1 h2 h3 h4
  have hm : (j, jv_i x) ∈ jv_la 0 ls := (jv_la_mem ls 0 _).mpr ⟨j, by simp, hg⟩
  obtain ⟨kk, hk⟩ := List.getElem?_of_mem hm
  exact lv_iinc C.1 C.2.1 hd h4.1 hk (Int32.ofInt_add x n).symm hn rfl (fun arr' h' => k H locs arr' h1 h2 h3 (h4.set rfl hl h'))
theorem jv_iadd (C : jv_C p s m args c cc own s0 b0 D ids) {x y : Int} (hd : decode cc pc = .ok (.iadd, 1)) (k : jv_V p l e R s m args below meth c cells slots Z s0 D ids ex sh g (pc + 1) ls (jv_i (x + y) :: st)) : jv_V p l e R s m args below meth c cells slots Z s0 D ids ex sh g pc ls (jv_i y :: jv_i x :: st) :=
  fun H locs arr h1 h2 h3 h4 => lv_iadd C.1 C.2.1 hd (by rw [← Int32.ofInt_add]; exact k H locs arr h1 h2 h3 h4)
theorem jv_isub (C : jv_C p s m args c cc own s0 b0 D ids) {x y : Int} (hd : decode cc pc = .ok (.isub, 1)) (k : jv_V p l e R s m args below meth c cells slots Z s0 D ids ex sh g (pc + 1) ls (jv_i (x - y) :: st)) : jv_V p l e R s m args below meth c cells slots Z s0 D ids ex sh g pc ls (jv_i y :: jv_i x :: st) :=
  fun H locs arr h1 h2 h3 h4 => lv_isub C.1 C.2.1 hd (by rw [← Int32.ofInt_sub]; exact k H locs arr h1 h2 h3 h4)
theorem jv_imul (C : jv_C p s m args c cc own s0 b0 D ids) {x y : Int} (hd : decode cc pc = .ok (.imul, 1)) (k : jv_V p l e R s m args below meth c cells slots Z s0 D ids ex sh g (pc + 1) ls (jv_i (x * y) :: st)) : jv_V p l e R s m args below meth c cells slots Z s0 D ids ex sh g pc ls (jv_i y :: jv_i x :: st) :=
  fun H locs arr h1 h2 h3 h4 => lv_imul C.1 C.2.1 hd (by rw [← Int32.ofInt_mul]; exact k H locs arr h1 h2 h3 h4)
/-- the machine's own operations, as numbers -/
def jv_and (x y : Int) : Int := (Int32.ofInt x &&& Int32.ofInt y).toInt
def jv_or (x y : Int) : Int := (Int32.ofInt x ||| Int32.ofInt y).toInt
def jv_xor (x y : Int) : Int := (Int32.ofInt x ^^^ Int32.ofInt y).toInt
def jv_shl (x y : Int) : Int := (Int32.ofInt x <<< (Int32.ofInt y &&& 31)).toInt
def jv_shr (x y : Int) : Int := (Int32.ofInt x >>> (Int32.ofInt y &&& 31)).toInt
def jv_div (x y : Int) : Int := (Int32.ofInt x / Int32.ofInt y).toInt
def jv_rem (x y : Int) : Int := (Int32.ofInt x - Int32.ofInt x / Int32.ofInt y * Int32.ofInt y).toInt
theorem jv_iand (C : jv_C p s m args c cc own s0 b0 D ids) {x y : Int} (hd : decode cc pc = .ok (.iand, 1)) (k : jv_V p l e R s m args below meth c cells slots Z s0 D ids ex sh g (pc + 1) ls (jv_i (jv_and x y) :: st)) : jv_V p l e R s m args below meth c cells slots Z s0 D ids ex sh g pc ls (jv_i y :: jv_i x :: st) :=
  fun H locs arr h1 h2 h3 h4 => lv_iand C.1 C.2.1 hd (by have := k H locs arr h1 h2 h3 h4; unfold jv_and jv_i at this; rwa [Int32.ofInt_toInt] at this)
theorem jv_ior (C : jv_C p s m args c cc own s0 b0 D ids) {x y : Int} (hd : decode cc pc = .ok (.ior, 1)) (k : jv_V p l e R s m args below meth c cells slots Z s0 D ids ex sh g (pc + 1) ls (jv_i (jv_or x y) :: st)) : jv_V p l e R s m args below meth c cells slots Z s0 D ids ex sh g pc ls (jv_i y :: jv_i x :: st) :=
  fun H locs arr h1 h2 h3 h4 => lv_ior C.1 C.2.1 hd (by have := k H locs arr h1 h2 h3 h4; unfold jv_or jv_i at this; rwa [Int32.ofInt_toInt] at this)
theorem jv_ixor (C : jv_C p s m args c cc own s0 b0 D ids) {x y : Int} (hd : decode cc pc = .ok (.ixor, 1)) (k : jv_V p l e R s m args below meth c cells slots Z s0 D ids ex sh g (pc + 1) ls (jv_i (jv_xor x y) :: st)) : jv_V p l e R s m args below meth c cells slots Z s0 D ids ex sh g pc ls (jv_i y :: jv_i x :: st) :=
  fun H locs arr h1 h2 h3 h4 => lv_ixor C.1 C.2.1 hd (by have := k H locs arr h1 h2 h3 h4; unfold jv_xor jv_i at this; rwa [Int32.ofInt_toInt] at this)
theorem jv_ishl (C : jv_C p s m args c cc own s0 b0 D ids) {x y : Int} (hd : decode cc pc = .ok (.ishl, 1)) (k : jv_V p l e R s m args below meth c cells slots Z s0 D ids ex sh g (pc + 1) ls (jv_i (jv_shl x y) :: st)) : jv_V p l e R s m args below meth c cells slots Z s0 D ids ex sh g pc ls (jv_i y :: jv_i x :: st) :=
  fun H locs arr h1 h2 h3 h4 => lv_ishl C.1 C.2.1 hd (by have := k H locs arr h1 h2 h3 h4; unfold jv_shl jv_i at this; rwa [Int32.ofInt_toInt] at this)
theorem jv_ishr (C : jv_C p s m args c cc own s0 b0 D ids) {x y : Int} (hd : decode cc pc = .ok (.ishr, 1)) (k : jv_V p l e R s m args below meth c cells slots Z s0 D ids ex sh g (pc + 1) ls (jv_i (jv_shr x y) :: st)) : jv_V p l e R s m args below meth c cells slots Z s0 D ids ex sh g pc ls (jv_i y :: jv_i x :: st) :=
  fun H locs arr h1 h2 h3 h4 => lv_ishr C.1 C.2.1 hd (by have := k H locs arr h1 h2 h3 h4; unfold jv_shr jv_i at this; rwa [Int32.ofInt_toInt] at this)
theorem jv_idiv (C : jv_C p s m args c cc own s0 b0 D ids) {x y : Int} (hne : ¬ Int32.ofInt y = 0) (hd : decode cc pc = .ok (.idiv, 1)) (k : jv_V p l e R s m args below meth c cells slots Z s0 D ids ex sh g (pc + 1) ls (jv_i (jv_div x y) :: st)) : jv_V p l e R s m args below meth c cells slots Z s0 D ids ex sh g pc ls (jv_i y :: jv_i x :: st) :=
  fun H locs arr h1 h2 h3 h4 => lv_idiv C.1 C.2.1 hd hne (by have := k H locs arr h1 h2 h3 h4; unfold jv_div jv_i at this; rwa [Int32.ofInt_toInt] at this)
theorem jv_irem (C : jv_C p s m args c cc own s0 b0 D ids) {x y : Int} (hne : ¬ Int32.ofInt y = 0) (hd : decode cc pc = .ok (.irem, 1)) (k : jv_V p l e R s m args below meth c cells slots Z s0 D ids ex sh g (pc + 1) ls (jv_i (jv_rem x y) :: st)) : jv_V p l e R s m args below meth c cells slots Z s0 D ids ex sh g pc ls (jv_i y :: jv_i x :: st) :=
  fun H locs arr h1 h2 h3 h4 => lv_irem C.1 C.2.1 hd hne (by have := k H locs arr h1 h2 h3 h4; unfold jv_rem jv_i at this; rwa [Int32.ofInt_toInt] at this)
theorem jv_dup (C : jv_C p s m args c cc own s0 b0 D ids) {v : Value} (hv : v.category = 1) (hd : decode cc pc = .ok (.dup, 1)) (k : jv_V p l e R s m args below meth c cells slots Z s0 D ids ex sh g (pc + 1) ls (v :: v :: st)) : jv_V p l e R s m args below meth c cells slots Z s0 D ids ex sh g pc ls (v :: st) :=
  fun H locs arr h1 h2 h3 h4 => lv_dup C.1 C.2.1 hd hv (k H locs arr h1 h2 h3 h4)
theorem jv_dup2 (C : jv_C p s m args c cc own s0 b0 D ids) {v w : Value} (hv : v.category = 1) (hw : w.category = 1) (hd : decode cc pc = .ok (.dup2, 1)) (k : jv_V p l e R s m args below meth c cells slots Z s0 D ids ex sh g (pc + 1) ls (v :: w :: v :: w :: st)) : jv_V p l e R s m args below meth c cells slots Z s0 D ids ex sh g pc ls (v :: w :: st) :=
  fun H locs arr h1 h2 h3 h4 => lv_dup2_11 C.1 C.2.1 hd hv hw (k H locs arr h1 h2 h3 h4)
theorem jv_goto (C : jv_C p s m args c cc own s0 b0 D ids) {off : Int} {tgt : Nat} (hd : decode cc pc = .ok (.goto off, 3)) (ht : (pc : Int) + off = (tgt : Int)) (k : jv_V p l e R s m args below meth c cells slots Z s0 D ids ex sh g tgt ls st) : jv_V p l e R s m args below meth c cells slots Z s0 D ids ex sh g pc ls st :=
  fun H locs arr h1 h2 h3 h4 => lv_goto C.1 C.2.1 hd ht (k H locs arr h1 h2 h3 h4)
/-- a number that an int can hold -/
def jv_r (x : Int) : Prop := -2147483648 ≤ x ∧ x < 2147483648
theorem jv_r.to {x : Int} (h : jv_r x) : (Int32.ofInt x).toInt = x := Int32.toInt_ofInt_of_le h.1 h.2
theorem jv_rlt {x y : Int} (hx : jv_r x) (hy : jv_r y) : Int32.ofInt x < Int32.ofInt y ↔ x < y := by rw [Int32.lt_iff_toInt_lt, hx.to, hy.to]
theorem jv_rle {x y : Int} (hx : jv_r x) (hy : jv_r y) : Int32.ofInt x ≤ Int32.ofInt y ↔ x ≤ y := by rw [Int32.le_iff_toInt_le, hx.to, hy.to]
theorem jv_req {x y : Int} (hx : jv_r x) (hy : jv_r y) : Int32.ofInt x = Int32.ofInt y ↔ x = y := by rw [← Int32.toInt_inj, hx.to, hy.to]
theorem jv_r0 : (0 : Int32) = Int32.ofInt 0 := rfl
theorem jv_rz : jv_r 0 := ⟨by decide, by decide⟩
theorem jv_icmp_eq (C : jv_C p s m args c cc own s0 b0 D ids) {x y : Int} {off : Int} {tgt : Nat} (hx : jv_r x) (hy : jv_r y) (hd : decode cc pc = .ok (.if_icmp .eq off, 3)) (ht : (pc : Int) + off = (tgt : Int)) (kt : x = y → jv_V p l e R s m args below meth c cells slots Z s0 D ids ex sh g tgt ls st) (kf : ¬ x = y → jv_V p l e R s m args below meth c cells slots Z s0 D ids ex sh g (pc + 3) ls st) : jv_V p l e R s m args below meth c cells slots Z s0 D ids ex sh g pc ls (jv_i y :: jv_i x :: st) :=
  fun H locs arr h1 h2 h3 h4 => lv_icmp_eq C.1 C.2.1 hd ht (fun h => kt ((jv_req hx hy).mp h) H locs arr h1 h2 h3 h4) (fun h => kf (fun h' => h ((jv_req hx hy).mpr h')) H locs arr h1 h2 h3 h4)
theorem jv_icmp_ne (C : jv_C p s m args c cc own s0 b0 D ids) {x y : Int} {off : Int} {tgt : Nat} (hx : jv_r x) (hy : jv_r y) (hd : decode cc pc = .ok (.if_icmp .ne off, 3)) (ht : (pc : Int) + off = (tgt : Int)) (kt : ¬ x = y → jv_V p l e R s m args below meth c cells slots Z s0 D ids ex sh g tgt ls st) (kf : x = y → jv_V p l e R s m args below meth c cells slots Z s0 D ids ex sh g (pc + 3) ls st) : jv_V p l e R s m args below meth c cells slots Z s0 D ids ex sh g pc ls (jv_i y :: jv_i x :: st) :=
  fun H locs arr h1 h2 h3 h4 => lv_icmp_ne C.1 C.2.1 hd ht (fun h => kt (fun h' => h ((jv_req hx hy).mpr h')) H locs arr h1 h2 h3 h4) (fun h => kf ((jv_req hx hy).mp h) H locs arr h1 h2 h3 h4)
theorem jv_icmp_lt (C : jv_C p s m args c cc own s0 b0 D ids) {x y : Int} {off : Int} {tgt : Nat} (hx : jv_r x) (hy : jv_r y) (hd : decode cc pc = .ok (.if_icmp .lt off, 3)) (ht : (pc : Int) + off = (tgt : Int)) (kt : x < y → jv_V p l e R s m args below meth c cells slots Z s0 D ids ex sh g tgt ls st) (kf : y ≤ x → jv_V p l e R s m args below meth c cells slots Z s0 D ids ex sh g (pc + 3) ls st) : jv_V p l e R s m args below meth c cells slots Z s0 D ids ex sh g pc ls (jv_i y :: jv_i x :: st) :=
  fun H locs arr h1 h2 h3 h4 => lv_icmp_lt C.1 C.2.1 hd ht (fun h => kt ((jv_rlt hx hy).mp h) H locs arr h1 h2 h3 h4) (fun h => kf (Int.not_lt.mp fun h' => h ((jv_rlt hx hy).mpr h')) H locs arr h1 h2 h3 h4)
theorem jv_icmp_ge (C : jv_C p s m args c cc own s0 b0 D ids) {x y : Int} {off : Int} {tgt : Nat} (hx : jv_r x) (hy : jv_r y) (hd : decode cc pc = .ok (.if_icmp .ge off, 3)) (ht : (pc : Int) + off = (tgt : Int)) (kt : y ≤ x → jv_V p l e R s m args below meth c cells slots Z s0 D ids ex sh g tgt ls st) (kf : x < y → jv_V p l e R s m args below meth c cells slots Z s0 D ids ex sh g (pc + 3) ls st) : jv_V p l e R s m args below meth c cells slots Z s0 D ids ex sh g pc ls (jv_i y :: jv_i x :: st) :=
  fun H locs arr h1 h2 h3 h4 => lv_icmp_ge C.1 C.2.1 hd ht (fun h => kt ((jv_rle hy hx).mp h) H locs arr h1 h2 h3 h4) (fun h => kf (Int.not_le.mp fun h' => h ((jv_rle hy hx).mpr h')) H locs arr h1 h2 h3 h4)
theorem jv_icmp_gt (C : jv_C p s m args c cc own s0 b0 D ids) {x y : Int} {off : Int} {tgt : Nat} (hx : jv_r x) (hy : jv_r y) (hd : decode cc pc = .ok (.if_icmp .gt off, 3)) (ht : (pc : Int) + off = (tgt : Int)) (kt : y < x → jv_V p l e R s m args below meth c cells slots Z s0 D ids ex sh g tgt ls st) (kf : x ≤ y → jv_V p l e R s m args below meth c cells slots Z s0 D ids ex sh g (pc + 3) ls st) : jv_V p l e R s m args below meth c cells slots Z s0 D ids ex sh g pc ls (jv_i y :: jv_i x :: st) :=
  fun H locs arr h1 h2 h3 h4 => lv_icmp_gt C.1 C.2.1 hd ht (fun h => kt ((jv_rlt hy hx).mp h) H locs arr h1 h2 h3 h4) (fun h => kf (Int.not_lt.mp fun h' => h ((jv_rlt hy hx).mpr h')) H locs arr h1 h2 h3 h4)
theorem jv_icmp_le (C : jv_C p s m args c cc own s0 b0 D ids) {x y : Int} {off : Int} {tgt : Nat} (hx : jv_r x) (hy : jv_r y) (hd : decode cc pc = .ok (.if_icmp .le off, 3)) (ht : (pc : Int) + off = (tgt : Int)) (kt : x ≤ y → jv_V p l e R s m args below meth c cells slots Z s0 D ids ex sh g tgt ls st) (kf : y < x → jv_V p l e R s m args below meth c cells slots Z s0 D ids ex sh g (pc + 3) ls st) : jv_V p l e R s m args below meth c cells slots Z s0 D ids ex sh g pc ls (jv_i y :: jv_i x :: st) :=
  fun H locs arr h1 h2 h3 h4 => lv_icmp_le C.1 C.2.1 hd ht (fun h => kt ((jv_rle hx hy).mp h) H locs arr h1 h2 h3 h4) (fun h => kf (Int.not_le.mp fun h' => h ((jv_rle hx hy).mpr h')) H locs arr h1 h2 h3 h4)
theorem jv_if_eq (C : jv_C p s m args c cc own s0 b0 D ids) {x : Int} {off : Int} {tgt : Nat} (hx : jv_r x) (hd : decode cc pc = .ok (.ifCond .eq off, 3)) (ht : (pc : Int) + off = (tgt : Int)) (kt : x = 0 → jv_V p l e R s m args below meth c cells slots Z s0 D ids ex sh g tgt ls st) (kf : ¬ x = 0 → jv_V p l e R s m args below meth c cells slots Z s0 D ids ex sh g (pc + 3) ls st) : jv_V p l e R s m args below meth c cells slots Z s0 D ids ex sh g pc ls (jv_i x :: st) :=
  fun H locs arr h1 h2 h3 h4 => lv_if_eq C.1 C.2.1 hd ht (fun h => kt ((jv_req hx jv_rz).mp h) H locs arr h1 h2 h3 h4) (fun h => kf (fun h' => h ((jv_req hx jv_rz).mpr h')) H locs arr h1 h2 h3 h4)
theorem jv_if_ne (C : jv_C p s m args c cc own s0 b0 D ids) {x : Int} {off : Int} {tgt : Nat} (hx : jv_r x) (hd : decode cc pc = .ok (.ifCond .ne off, 3)) (ht : (pc : Int) + off = (tgt : Int)) (kt : ¬ x = 0 → jv_V p l e R s m args below meth c cells slots Z s0 D ids ex sh g tgt ls st) (kf : x = 0 → jv_V p l e R s m args below meth c cells slots Z s0 D ids ex sh g (pc + 3) ls st) : jv_V p l e R s m args below meth c cells slots Z s0 D ids ex sh g pc ls (jv_i x :: st) :=
  fun H locs arr h1 h2 h3 h4 => lv_if_ne C.1 C.2.1 hd ht (fun h => kt (fun h' => h ((jv_req hx jv_rz).mpr h')) H locs arr h1 h2 h3 h4) (fun h => kf ((jv_req hx jv_rz).mp h) H locs arr h1 h2 h3 h4)
theorem jv_if_lt (C : jv_C p s m args c cc own s0 b0 D ids) {x : Int} {off : Int} {tgt : Nat} (hx : jv_r x) (hd : decode cc pc = .ok (.ifCond .lt off, 3)) (ht : (pc : Int) + off = (tgt : Int)) (kt : x < 0 → jv_V p l e R s m args below meth c cells slots Z s0 D ids ex sh g tgt ls st) (kf : 0 ≤ x → jv_V p l e R s m args below meth c cells slots Z s0 D ids ex sh g (pc + 3) ls st) : jv_V p l e R s m args below meth c cells slots Z s0 D ids ex sh g pc ls (jv_i x :: st) :=
  fun H locs arr h1 h2 h3 h4 => lv_if_lt C.1 C.2.1 hd ht (fun h => kt ((jv_rlt hx jv_rz).mp h) H locs arr h1 h2 h3 h4) (fun h => kf (Int.not_lt.mp fun h' => h ((jv_rlt hx jv_rz).mpr h')) H locs arr h1 h2 h3 h4)
theorem jv_if_ge (C : jv_C p s m args c cc own s0 b0 D ids) {x : Int} {off : Int} {tgt : Nat} (hx : jv_r x) (hd : decode cc pc = .ok (.ifCond .ge off, 3)) (ht : (pc : Int) + off = (tgt : Int)) (kt : 0 ≤ x → jv_V p l e R s m args below meth c cells slots Z s0 D ids ex sh g tgt ls st) (kf : x < 0 → jv_V p l e R s m args below meth c cells slots Z s0 D ids ex sh g (pc + 3) ls st) : jv_V p l e R s m args below meth c cells slots Z s0 D ids ex sh g pc ls (jv_i x :: st) :=
  fun H locs arr h1 h2 h3 h4 => lv_if_ge C.1 C.2.1 hd ht (fun h => kt ((jv_rle jv_rz hx).mp h) H locs arr h1 h2 h3 h4) (fun h => kf (Int.not_le.mp fun h' => h ((jv_rle jv_rz hx).mpr h')) H locs arr h1 h2 h3 h4)
theorem jv_if_gt (C : jv_C p s m args c cc own s0 b0 D ids) {x : Int} {off : Int} {tgt : Nat} (hx : jv_r x) (hd : decode cc pc = .ok (.ifCond .gt off, 3)) (ht : (pc : Int) + off = (tgt : Int)) (kt : 0 < x → jv_V p l e R s m args below meth c cells slots Z s0 D ids ex sh g tgt ls st) (kf : x ≤ 0 → jv_V p l e R s m args below meth c cells slots Z s0 D ids ex sh g (pc + 3) ls st) : jv_V p l e R s m args below meth c cells slots Z s0 D ids ex sh g pc ls (jv_i x :: st) :=
  fun H locs arr h1 h2 h3 h4 => lv_if_gt C.1 C.2.1 hd ht (fun h => kt ((jv_rlt jv_rz hx).mp h) H locs arr h1 h2 h3 h4) (fun h => kf (Int.not_lt.mp fun h' => h ((jv_rlt jv_rz hx).mpr h')) H locs arr h1 h2 h3 h4)
theorem jv_if_le (C : jv_C p s m args c cc own s0 b0 D ids) {x : Int} {off : Int} {tgt : Nat} (hx : jv_r x) (hd : decode cc pc = .ok (.ifCond .le off, 3)) (ht : (pc : Int) + off = (tgt : Int)) (kt : x ≤ 0 → jv_V p l e R s m args below meth c cells slots Z s0 D ids ex sh g tgt ls st) (kf : 0 < x → jv_V p l e R s m args below meth c cells slots Z s0 D ids ex sh g (pc + 3) ls st) : jv_V p l e R s m args below meth c cells slots Z s0 D ids ex sh g pc ls (jv_i x :: st) :=
  fun H locs arr h1 h2 h3 h4 => lv_if_le C.1 C.2.1 hd ht (fun h => kt ((jv_rle hx jv_rz).mp h) H locs arr h1 h2 h3 h4) (fun h => kf (Int.not_le.mp fun h' => h ((jv_rle hx jv_rz).mpr h')) H locs arr h1 h2 h3 h4)
end JVR
end
section
theorem jv_fs_get (B : Nat) (g : jv_Mem) (i : Int) : ∀ (ds : List (Option (Option Int))) (k j : Nat), (jv_fs B g i k ds)[j]? = (ds[j]?).map (jv_fv B g i (k + j)) := by
  intro ds
  induction ds with
  | nil => intro k j; simp [jv_fs]
  | cons d r ih =>
    intro k j
    rcases d with _ | _ | t <;> cases j with
    | zero => simp [jv_fs, jv_fv]
    | succ j => simp [jv_fs, ih]; congr 2; omega
theorem jv_fs_len (B : Nat) (g : jv_Mem) (i : Int) : ∀ (ds : List (Option (Option Int))) (k : Nat), (jv_fs B g i k ds).length = ds.length := by
  intro ds
  induction ds with
  | nil => intro k; simp [jv_fs]
  | cons d r ih => intro k; rcases d with _ | _ | t <;> simp [jv_fs, ih]
theorem jv_fs_congr {B : Nat} {g g' : jv_Mem} {i : Int} (h : ∀ a, g i a = g' i a) : ∀ (ds : List (Option (Option Int))) (k : Nat), jv_fs B g i k ds = jv_fs B g' i k ds := by
  intro ds
  induction ds with
  | nil => intro k; simp [jv_fs]
  | cons d r ih => intro k; rcases d with _ | _ | t <;> simp [jv_fs, ih, h]
theorem jv_E_congr {B : Nat} {ids : Nat → ClassId} {g g' : jv_Mem} {i : Int} (h : ∀ a, g i a = g' i a) (k : jv_Kd) : jv_E B ids g i k = jv_E B ids g' i k := by
  rcases k with ⟨_ | _ | _ | c, n, mm⟩ | ⟨ci, ds⟩
  · simp [jv_E, h]
  · simp [jv_E, h]
  · simp [jv_E, h]
  · simp [jv_E]
  · simp [jv_E, jv_fs_congr h]
def jv_su (sh : jv_Sh) (i : Int) (k : jv_Kd) : jv_Sh := fun j => if j = i then some k else sh j
theorem jv_H.put {B : Nat} {D : va_G} {ids : Nat → ClassId} {sh : jv_Sh} {g g' : jv_Mem} {H H1 : Heap} (h : jv_H B D ids sh g H) {i : Int} {k : jv_Kd} (hs : sh i = some k) (hg : ∀ j a, j ≠ i → g j a = g' j a) (he : va_at D vwCl (B + i.toNat, jv_E B ids g' i k) H1) (ho : ∀ q : Nat, q ≠ B + i.toNat → H1[q]? = H[q]?) : jv_H B D ids sh g' H1 := by
  intro j kj hj
  by_cases hji : j = i
  · subst hji
    cases hs.symm.trans hj
    exact ⟨(h j _ hj).1, he⟩
  · obtain ⟨h1, h2⟩ := h j kj hj
    obtain ⟨h3, -⟩ := h i k hs
    refine ⟨h1, ?_⟩
    rw [← jv_E_congr (fun a => hg j a hji)]
    exact h2.kept (ho _ (fun e => hji (by have e' : B + j.toNat = B + i.toNat := e; omega)))
theorem jv_H.shp {B : Nat} {D : va_G} {ids : Nat → ClassId} {sh : jv_Sh} {g : jv_Mem} {H H1 : Heap} (h : jv_H B D ids sh g H) {i : Int} {k k' : jv_Kd} (hs : sh i = some k) (he : va_at D vwCl (B + i.toNat, jv_E B ids g i k') H1) (ho : ∀ q : Nat, q ≠ B + i.toNat → H1[q]? = H[q]?) : jv_H B D ids (jv_su sh i k') g H1 := by
  intro j kj hj
  obtain ⟨h3, -⟩ := h i k hs
  unfold jv_su at hj
  by_cases hji : j = i
  · subst hji
    rw [if_pos rfl] at hj
    cases hj
    exact ⟨h3, he⟩
  · rw [if_neg hji] at hj
    obtain ⟨h1, h2⟩ := h j kj hj
    exact ⟨h1, h2.kept (ho _ (fun e => hji (by have e' : B + j.toNat = B + i.toNat := e; omega)))⟩
theorem jv_H.kept {B : Nat} {D : va_G} {ids : Nat → ClassId} {sh : jv_Sh} {g : jv_Mem} {H H1 : Heap} (h : jv_H B D ids sh g H) (ho : ∀ q : Nat, q < H.size → H1[q]? = H[q]?) : jv_H B D ids sh g H1 := fun i k hk => ⟨(h i k hk).1, (h i k hk).2.kept (ho _ (h i k hk).2.lt)⟩
/-- a field of a class by an entry of a pool -/
def jv_F (own : String) (idx ci kf : Nat) (ty : FieldType) (fin : Bool) : Prop := ∃ (K : String) (T : u_T) (N : Nat) (ty0 : Nat → FieldType), vwCl[ci]? = some (K, T, N) ∧ (∀ w ∈ u_ws K T N, w ∈ jv_tb) ∧ kf < N ∧ Cond.fieldLink own idx (T kf).1 (T kf).2.1 (T kf).2.2.1 ∈ jv_tb ∧ parseFieldDescriptor (T kf).2.2.1 = some ty ∧ (T kf).2.2.2 = fin ∧ (∀ k, k < N → parseFieldDescriptor (T k).2.2.1 = some (ty0 k)) ∧ (∀ a, a < N → ∀ b, b < N → a ≠ b → (T a).2.1 ≠ (T b).2.1) ∧ (fin = true → (T kf).1 = own)
theorem va_P.one {D : va_G} {cl : List vw_C} {q : Nat × va_E} {H : Heap} (h : va_at D cl q H) : va_P D cl [q] H := by
  intro k x hx
  cases k with
  | zero => simp at hx; subst hx; exact h
  | succ k => simp at hx
section JVH
variable {p : Program} {l : Launch} {e : Env} {R : Room} {s : State} {m : MethodId} {args : Array Value} {below : List Frame} {meth : Method} {c : Code} {cells slots : Nat} {Z : State → Prop} {s0 : State} {b0 : Addr} {D : va_G} {ids : Nat → ClassId} {ex : Option Nat} {sh : jv_Sh} {g : jv_Mem} {pc : Nat} {ls ls' : List (Option Value)} {st : List Value} {cc : ByteArray} {own : String}
theorem jv_get (C : jv_C p s m args c cc own s0 b0 D ids) {i : Int} {idx ci kf : Nat} {ty : FieldType} {fin : Bool} {ds : List (Option (Option Int))} {d : Option (Option Int)} (F : jv_F own idx ci kf ty fin) (hs : sh i = some (.inr (ci, ds))) (hf : ds[kf]? = some d) (hd : decode cc pc = .ok (.getfield idx, 3)) (k : jv_V p l e R s m args below meth c cells slots Z s0 D ids ex sh g (pc + 3) ls (jv_fv s0.heap.size g i kf d :: st)) : jv_V p l e R s m args below meth c cells slots Z s0 D ids ex sh g pc ls (.ref (s0.heap.size + i.toNat) :: st) := by
  intro H locs arr h1 h2 h3 h4
  obtain ⟨K, T, N, ty0, f1, f2, f3, f4, -⟩ := F
  refine va_get (D := D) (cl := vwCl) (tys := jv_tys ids) (Ts := jv_tb) C.1 C.2.1 C.2.2.2.hts f2 C.2.2.1 C.2.2.2.K (va_P.one (h1 i _ hs).2) 0 rfl f1 kf f3 (C.2.2.2.hts _ f4) (fun _ h => h) (v := jv_fv s0.heap.size g i kf d) ?_ hd (k H locs arr h1 h2 h3 h4)
  rw [jv_fs_get, hf]
  simp
theorem jv_geti (C : jv_C p s m args c cc own s0 b0 D ids) {i : Int} {idx ci kf : Nat} {ty : FieldType} {fin : Bool} {ds : List (Option (Option Int))} (F : jv_F own idx ci kf ty fin) (hs : sh i = some (.inr (ci, ds))) (hf : ds[kf]? = some (some none)) (hd : decode cc pc = .ok (.getfield idx, 3)) (k : jv_V p l e R s m args below meth c cells slots Z s0 D ids ex sh g (pc + 3) ls (jv_i (g i (kf : Nat)) :: st)) : jv_V p l e R s m args below meth c cells slots Z s0 D ids ex sh g pc ls (.ref (s0.heap.size + i.toNat) :: st) := jv_get C F hs hf hd k
theorem jv_getr (C : jv_C p s m args c cc own s0 b0 D ids) {i t : Int} {idx ci kf : Nat} {ty : FieldType} {fin : Bool} {ds : List (Option (Option Int))} (F : jv_F own idx ci kf ty fin) (hs : sh i = some (.inr (ci, ds))) (hf : ds[kf]? = some (some (some t))) (hd : decode cc pc = .ok (.getfield idx, 3)) (k : jv_V p l e R s m args below meth c cells slots Z s0 D ids ex sh g (pc + 3) ls (.ref (s0.heap.size + t.toNat) :: st)) : jv_V p l e R s m args below meth c cells slots Z s0 D ids ex sh g pc ls (.ref (s0.heap.size + i.toNat) :: st) := jv_get C F hs hf hd k
theorem jv_in {x : Int} {n : Nat} (h0 : 0 ≤ x) (hn : x < n) (hN : Nat.blt n 2147483648 = true) : vp_in (Int32.ofInt x) n ∧ (((Int32.ofInt x).toNatClampNeg : Nat) : Int) = x := by
  have hN' : n < 2147483648 := by simpa [Nat.blt_eq] using hN
  have hr : jv_r x := ⟨by omega, by omega⟩
  refine ⟨vp_in_iff.mpr ⟨by rw [hr.to]; exact h0, by rw [hr.to]; exact hn⟩, ?_⟩
  show (((Int32.ofInt x).toInt.toNat : Nat) : Int) = x
  rw [hr.to]; omega
theorem jv_iald (C : jv_C p s m args c cc own s0 b0 D ids) {i x : Int} {n mm : Nat} (hs : sh i = some (.inl (0, n, mm))) (hN : Nat.blt n 2147483648 = true) (hb : 0 ≤ x ∧ x < n) (hd : decode cc pc = .ok (.iaload, 1)) (k : jv_V p l e R s m args below meth c cells slots Z s0 D ids ex sh g (pc + 1) ls (jv_i (g i x) :: st)) : jv_V p l e R s m args below meth c cells slots Z s0 D ids ex sh g pc ls (jv_i x :: .ref (s0.heap.size + i.toNat) :: st) := by
  intro H locs arr h1 h2 h3 h4
  obtain ⟨a1, a2⟩ := jv_in hb.1 hb.2 hN
  refine va_iald (D := D) (cl := vwCl) (tys := jv_tys ids) C.1 C.2.1 C.2.2.2.K (va_P.one (h1 i _ hs).2) 0 0 rfl rfl a1 hd ?_
  have := k H locs arr h1 h2 h3 h4
  simp only [a2]
  exact this
theorem jv_zald (C : jv_C p s m args c cc own s0 b0 D ids) {i x : Int} {n mm : Nat} (hs : sh i = some (.inl (1, n, mm))) (hN : Nat.blt n 2147483648 = true) (hb : 0 ≤ x ∧ x < n) (hd : decode cc pc = .ok (.baload, 1)) (k : jv_V p l e R s m args below meth c cells slots Z s0 D ids ex sh g (pc + 1) ls (jv_i (g i x) :: st)) : jv_V p l e R s m args below meth c cells slots Z s0 D ids ex sh g pc ls (jv_i x :: .ref (s0.heap.size + i.toNat) :: st) := by
  intro H locs arr h1 h2 h3 h4
  obtain ⟨a1, a2⟩ := jv_in hb.1 hb.2 hN
  refine va_zald (D := D) (cl := vwCl) (tys := jv_tys ids) C.1 C.2.1 C.2.2.2.K (va_P.one (h1 i _ hs).2) 0 1 rfl rfl a1 hd ?_
  have := k H locs arr h1 h2 h3 h4
  simp only [a2]
  exact this
theorem jv_aald (C : jv_C p s m args c cc own s0 b0 D ids) {i x : Int} {cn n mm : Nat} (hcn : cn < 2) (hs : sh i = some (.inl (cn + 3, n, mm))) (hN : Nat.blt n 2147483648 = true) (hb : 0 ≤ x ∧ x < n) (hm : x < mm) (hd : decode cc pc = .ok (.aaload, 1)) (k : jv_V p l e R s m args below meth c cells slots Z s0 D ids ex sh g (pc + 1) ls (.ref (s0.heap.size + jv_ra cn x.toNat) :: st)) : jv_V p l e R s m args below meth c cells slots Z s0 D ids ex sh g pc ls (jv_i x :: .ref (s0.heap.size + i.toNat) :: st) := by
  intro H locs arr h1 h2 h3 h4
  obtain ⟨a1, a2⟩ := jv_in hb.1 hb.2 hN
  have a3 : (Int32.ofInt x).toNatClampNeg = x.toNat := by omega
  have ht : (jv_tys ids)[cn + 3]? = some (ids (cn + 3), .object (if cn = 0 then RX3 else RX4)) := by
    rcases (show cn = 0 ∨ cn = 1 by omega) with rfl | rfl <;> rfl
  refine va_aldq (D := D) (cl := vwCl) (tys := jv_tys ids) C.1 C.2.1 C.2.2.2.K (va_P.one (h1 i _ hs).2) 0 (cn + 3) rfl ht a1 hd ?_
  have := k H locs arr h1 h2 h3 h4
  rw [a3, if_pos (by omega)]
  exact this
theorem jv_lald (C : jv_C p s m args c cc own s0 b0 D ids) {i x : Int} {n mm : Nat} (hs : sh i = some (.inl (2, n, mm))) (hN : Nat.blt n 2147483648 = true) (hb : 0 ≤ x ∧ x < n) (hd : decode cc pc = .ok (.laload, 1)) (k : jv_V p l e R s m args below meth c cells slots Z s0 D ids ex sh g (pc + 1) ls (.long (Int64.ofInt (g i x)) :: st)) : jv_V p l e R s m args below meth c cells slots Z s0 D ids ex sh g pc ls (jv_i x :: .ref (s0.heap.size + i.toNat) :: st) := by
  intro H locs arr h1 h2 h3 h4
  obtain ⟨a1, a2⟩ := jv_in hb.1 hb.2 hN
  refine va_lald (D := D) (cl := vwCl) (tys := jv_tys ids) C.1 C.2.1 C.2.2.2.K (va_P.one (h1 i _ hs).2) 0 2 rfl rfl a1 hd ?_
  have := k H locs arr h1 h2 h3 h4
  simp only [a2]
  exact this
theorem jv_iast (C : jv_C p s m args c cc own s0 b0 D ids) {i x v : Int} {n mm : Nat} (hs : sh i = some (.inl (0, n, mm))) (hN : Nat.blt n 2147483648 = true) (hb : 0 ≤ x ∧ x < n) (hd : decode cc pc = .ok (.iastore, 1)) (k : jv_V p l e R s m args below meth c cells slots Z s0 D ids ex sh (jv_up g i x v) (pc + 1) ls st) : jv_V p l e R s m args below meth c cells slots Z s0 D ids ex sh g pc ls (jv_i v :: jv_i x :: .ref (s0.heap.size + i.toNat) :: st) := by
  intro H locs arr h1 h2 h3 h4
  obtain ⟨a1, a2⟩ := jv_in hb.1 hb.2 hN
  have hat : H[s0.heap.size + i.toNat]? = some (arrV (ids 0) n (fun j => .int (Int32.ofInt (g i j)))) := (h1 i _ hs).2
  refine W.iast C.1 C.2.1 hat ((C.2.2.2.K.2 0 _ rfl).1 n _) (fun q => by cases q) (by show ¬ (_ < 0 ∨ (arrV _ _ _).slots.size ≤ _); rw [arrV_size]; exact a1) rfl rfl hd fun H1 e z oq => ?_
  refine k H1 _ arr (h1.put hs (fun j a hj => (jv_up_i hj).symm) ?_ oq) (fun n hn => by rw [z]; exact h2 n hn) (h3.put z oq (Nat.le_add_right _ _)) h4
  show H1[s0.heap.size + i.toNat]? = some (vp_cell _ _)
  rw [e, arrV_store, vp_cell_i]
  congr 2
  funext j
  by_cases hj : j = (Int32.ofInt x).toNatClampNeg
  · subst hj
    simp [updV, a2, jv_up]
  · have : (j : Int) ≠ x := fun h => hj (by omega)
    simp [updV, hj, jv_up, this]
theorem jv_zast (C : jv_C p s m args c cc own s0 b0 D ids) {i x v : Int} {n mm : Nat} (hs : sh i = some (.inl (1, n, mm))) (hN : Nat.blt n 2147483648 = true) (hv : v = 0 ∨ v = 1) (hb : 0 ≤ x ∧ x < n) (hd : decode cc pc = .ok (.bastore, 1)) (k : jv_V p l e R s m args below meth c cells slots Z s0 D ids ex sh (jv_up g i x v) (pc + 1) ls st) : jv_V p l e R s m args below meth c cells slots Z s0 D ids ex sh g pc ls (jv_i v :: jv_i x :: .ref (s0.heap.size + i.toNat) :: st) := by
  intro H locs arr h1 h2 h3 h4
  obtain ⟨a1, a2⟩ := jv_in hb.1 hb.2 hN
  have hat : H[s0.heap.size + i.toNat]? = some (arrV (ids 1) n (fun j => .int (Int32.ofInt (g i j)))) := (h1 i _ hs).2
  refine W.zast C.1 C.2.1 hat ((C.2.2.2.K.2 1 _ rfl).1 n _) (fun q => by cases q) (by show ¬ (_ < 0 ∨ (arrV _ _ _).slots.size ≤ _); rw [arrV_size]; exact a1) rfl rfl hd fun H1 e z oq => ?_
  refine k H1 _ arr (h1.put hs (fun j a hj => (jv_up_i hj).symm) ?_ oq) (fun n hn => by rw [z]; exact h2 n hn) (h3.put z oq (Nat.le_add_right _ _)) h4
  have hnar : narrow .boolean (.int (Int32.ofInt v)) = .int (Int32.ofInt v) := by rcases hv with rfl | rfl <;> rfl
  show H1[s0.heap.size + i.toNat]? = some (vp_cell _ _)
  rw [e, hnar, arrV_store, vp_cell_i]
  congr 2
  funext j
  by_cases hj : j = (Int32.ofInt x).toNatClampNeg
  · subst hj
    simp [updV, a2, jv_up]
  · have : (j : Int) ≠ x := fun h => hj (by omega)
    simp [updV, hj, jv_up, this]
theorem jv_last (C : jv_C p s m args c cc own s0 b0 D ids) {i x v : Int} {n mm : Nat} (hs : sh i = some (.inl (2, n, mm))) (hN : Nat.blt n 2147483648 = true) (hb : 0 ≤ x ∧ x < n) (hd : decode cc pc = .ok (.lastore, 1)) (k : jv_V p l e R s m args below meth c cells slots Z s0 D ids ex sh (jv_up g i x v) (pc + 1) ls st) : jv_V p l e R s m args below meth c cells slots Z s0 D ids ex sh g pc ls (.long (Int64.ofInt v) :: jv_i x :: .ref (s0.heap.size + i.toNat) :: st) := by
  intro H locs arr h1 h2 h3 h4
  obtain ⟨a1, a2⟩ := jv_in hb.1 hb.2 hN
  have hat : H[s0.heap.size + i.toNat]? = some (arrV (ids 2) n (fun j => .long (Int64.ofInt (g i j)))) := (h1 i _ hs).2
  refine W.last C.1 C.2.1 hat ((C.2.2.2.K.2 2 _ rfl).1 n _) (fun q => by cases q) (by show ¬ (_ < 0 ∨ (arrV _ _ _).slots.size ≤ _); rw [arrV_size]; exact a1) rfl rfl hd fun H1 e z oq => ?_
  refine k H1 _ arr (h1.put hs (fun j a hj => (jv_up_i hj).symm) ?_ oq) (fun n hn => by rw [z]; exact h2 n hn) (h3.put z oq (Nat.le_add_right _ _)) h4
  show H1[s0.heap.size + i.toNat]? = some (vp_cell _ _)
  rw [e, arrV_store, vp_cell_l]
  congr 2
  funext j
  by_cases hj : j = (Int32.ofInt x).toNatClampNeg
  · subst hj
    simp [updV, a2, jv_up]
  · have : (j : Int) ≠ x := fun h => hj (by omega)
    simp [updV, hj, jv_up, this]
theorem jv_fs_seti {B : Nat} {g : jv_Mem} {i v : Int} {kf : Nat} {ds : List (Option (Option Int))} (hf : ds[kf]? = some (some none)) : (jv_fs B g i 0 ds).set kf (jv_i v) = jv_fs B (jv_up g i kf v) i 0 ds := by
  apply List.ext_getElem?
  intro j
  have hk : kf < ds.length := (List.getElem?_eq_some_iff.mp hf).1
  rw [List.getElem?_set, jv_fs_len, jv_fs_get, jv_fs_get]
  by_cases hj : kf = j
  · subst hj
    rw [if_pos rfl, if_pos hk, hf]
    simp [jv_fv, jv_up]
  · rw [if_neg hj]
    congr 1
    funext d
    have : ((0 + j : Nat) : Int) ≠ kf := by omega
    rcases d with _ | _ | t
    · rfl
    · simp only [jv_fv, jv_up_k this]
    · rfl
theorem jv_puti (C : jv_C p s m args c cc own s0 b0 D ids) {i v : Int} {idx ci kf : Nat} {ds : List (Option (Option Int))} (F : jv_F own idx ci kf .int false) (hs : sh i = some (.inr (ci, ds))) (hf : ds[kf]? = some (some none)) (hd : decode cc pc = .ok (.putfield idx, 3)) (k : jv_V p l e R s m args below meth c cells slots Z s0 D ids ex sh (jv_up g i (kf : Nat) v) (pc + 3) ls st) : jv_V p l e R s m args below meth c cells slots Z s0 D ids ex sh g pc ls (jv_i v :: .ref (s0.heap.size + i.toNat) :: st) := by
  intro H locs arr h1 h2 h3 h4
  obtain ⟨K, T, N, ty0, f1, f2, f3, f4, f5, f6, f7, f8, -⟩ := F
  have hK := C.2.2.2.K
  have hts := C.2.2.2.hts (a := args)
  have hap := va_apart (own := own) hts f2 ty0 f7 f8 hK f1
  obtain ⟨r, g1, cell, q1, q2, q3, q4⟩ := (h1 i _ hs).2
  have hr : r = (K, T, N) := Option.some.inj (g1.symm.trans f1)
  subst hr
  obtain ⟨hS, hfc, kC, hkC, hkind⟩ := hK.1 ci _ f1
  obtain ⟨cf, kf', fi, f, hi, hsl⟩ := hS kf f3
  have hlay := hts _ (f2 _ (u_in_lay f3))
  unfold u_lay at hlay
  rw [if_neg (by rw [f6]; decide)] at hlay
  have hst := (u_facts hfc hkC (u_lays hts f2 f3) hi).1
  have h6 := u_store hfc hkC hkind hlay hi f5 (v := jv_i v) rfl rfl
  refine W.putK C.1 C.2.1 (f := f) ⟨C.2.2.1, hts _ f4, ⟨_, _, _, hi⟩, hst⟩ (by rw [q2]; exact h6) q1 q3 (by rw [hsl]; exact k2_hasslot (q4 kf f3)) rfl rfl hd fun H' e1 e2 e3 => ?_
  rw [hsl] at e1 ⊢
  refine k H' _ arr (h1.put hs (fun j a hj => (jv_up_i hj).symm) ?_ e3) (fun n hn => by rw [e2]; exact h2 n hn) (h3.put e2 e3 (Nat.le_add_right _ _)) h4
  refine ⟨_, f1, ?_⟩
  show t_OB _ _ _ _ _ (vp_V (jv_fs _ _ _ 0 ds))
  rw [← jv_fs_seti hf]
  refine t_OB.to (V := updV (vp_V (jv_fs s0.heap.size g i 0 ds)) kf (jv_i v)) ⟨_, e1, q2, q3, t_set q4 hap f3 _⟩ (fun j _ => vp_updV_set ?_ _ j)
  rw [jv_fs_len]
  exact (List.getElem?_eq_some_iff.mp hf).1
end JVH
end
section
def jv_Pc (s0 : State) (b0 : Addr) (D : va_G) (ids : Nat → ClassId) (ex : Option Nat) (sh : jv_Sh) (g : jv_Mem) (av : List Value) : Array Value → State → Prop := fun v U => v = av.toArray ∧ jv_G s0 b0 D ids U ∧ jv_H s0.heap.size D ids sh g U.heap ∧ ∀ n, ex = some n → U.heap.size = s0.heap.size + n
def jv_Qc (s0 : State) (D : va_G) (ids : Nat → ClassId) (ex : Option Nat) (sh : jv_Sh) (Q : Option Value → jv_Mem → Prop) : Array Value → State → Outcome → State → Prop := fun _ st o t => (∃ (v : Option Value) (g : jv_Mem), o = .returned v ∧ Q v g ∧ jv_H s0.heap.size D ids sh g t.heap ∧ ∀ n, ex = some n → t.heap.size = s0.heap.size + n) ∧ va_F (fun q => s0.heap.size ≤ q) st t
def jv_Xc (s0 : State) (D : va_G) (ids : Nat → ClassId) (sh : jv_Sh) (X : String → jv_Mem → Prop) : String → State → State → Prop := fun E st t => (∃ g : jv_Mem, X E g ∧ jv_H s0.heap.size D ids sh g t.heap) ∧ va_F (fun q => s0.heap.size ≤ q) st t
abbrev jv_rm (fr lo mc ms : Nat) : Room := { frames := fr, cells := mc, slots := ms, locals := lo }
/-- a method that returns -/
def jv_M (l : Launch) (s0 : State) (b0 : Addr) (D : va_G) (ids : Nat → ClassId) (y : MethodName) (cb : ByteArray) (mL : Nat) (rt : Option FieldType) (fr lo mc ms : Nat) (ex : Option Nat) (sh : jv_Sh) (g : jv_Mem) (av : List Value) (ex' : Option Nat) (sh' : jv_Sh) (Q : Option Value → jv_Mem → Prop) : Prop :=
  Met l y [Cond.code y cb mL rt] (jv_rm fr lo mc ms) (jv_Pc s0 b0 D ids ex sh g av) (jv_Qc s0 D ids ex' sh' Q) mc ms (fun q => s0.heap.size ≤ q)
/-- a method that returns or throws -/
def jv_MX (l : Launch) (s0 : State) (b0 : Addr) (D : va_G) (ids : Nat → ClassId) (y : MethodName) (cb : ByteArray) (mL : Nat) (rt : Option FieldType) (fr lo mc ms : Nat) (sh : jv_Sh) (g : jv_Mem) (av : List Value) (Q : Option Value → jv_Mem → Prop) (X : String → jv_Mem → Prop) : Prop :=
  vx_Met l y [Cond.code y cb mL rt] (jv_rm fr lo mc ms) (jv_Pc s0 b0 D ids none sh g av) (jv_Qc s0 D ids none sh Q) (jv_Xc s0 D ids sh X) mc ms (fun q => s0.heap.size ≤ q)
theorem jv_good {L : List Cond} (h : ∀ w ∈ L, w ∈ jv_tb) : GoodIn jv_tb L := fun w hw => ⟨h w hw, good_of_word (List.mem_filter.mp (h w hw)).2⟩
/-- the words of a call: of an instance's method, of a static one; among nest mates -/
def jv_KV (own : String) (idx : Nat) (y : MethodName) (cb : ByteArray) (mL : Nat) (rt : Option FieldType) (n : Nat) : Prop := Cond.methodLink own idx y ∈ jv_tb ∧ Cond.instanceMethod y ∈ jv_tb ∧ Cond.selects y.cls y y ∈ jv_tb ∧ Cond.initialized y.cls ∈ jv_tb ∧ Cond.code y cb mL rt ∈ jv_tb ∧ (y.cls ≠ "java/lang/invoke/MethodHandle" ∧ y.cls ≠ "java/lang/invoke/VarHandle" ∧ (parseMethodDescriptor y.desc).map (fun d => d.parameters.length) = some n)
def jv_KS (own : String) (idx : Nat) (y : MethodName) (cb : ByteArray) (mL : Nat) (rt : Option FieldType) (n : Nat) : Prop := Cond.methodLink own idx y ∈ jv_tb ∧ Cond.static y ∈ jv_tb ∧ Cond.initialized y.cls ∈ jv_tb ∧ Cond.code y cb mL rt ∈ jv_tb ∧ (y.cls ≠ "java/lang/invoke/MethodHandle" ∧ y.cls ≠ "java/lang/invoke/VarHandle" ∧ (parseMethodDescriptor y.desc).map (fun d => d.parameters.length) = some n)
def jv_KSN (own : String) (idx : Nat) (y : MethodName) (host : String) (cb : ByteArray) (mL : Nat) (rt : Option FieldType) (n : Nat) : Prop := Cond.methodLinkNest own idx y host ∈ lw_tbl ∧ Cond.static y ∈ jv_tb ∧ Cond.initialized y.cls ∈ jv_tb ∧ Cond.code y cb mL rt ∈ jv_tb ∧ (y.cls ≠ "java/lang/invoke/MethodHandle" ∧ y.cls ≠ "java/lang/invoke/VarHandle" ∧ (parseMethodDescriptor y.desc).map (fun d => d.parameters.length) = some n)
theorem jv_Pc.blind {s0 : State} {b0 : Addr} {D : va_G} {ids : Nat → ClassId} {ex : Option Nat} {sh : jv_Sh} {g : jv_Mem} {av : List Value} : FrameBlind (jv_Pc s0 b0 D ids ex sh g av) := fun _ _ _ _ h => h
section JVC
variable {p : Program} {l : Launch} {e : Env} {R : Room} {s : State} {m : MethodId} {args : Array Value} {below : List Frame} {meth : Method} {c : Code} {cells slots : Nat} {Z : State → Prop} {s0 : State} {b0 : Addr} {D : va_G} {ids : Nat → ClassId} {ex ex' : Option Nat} {sh sh' : jv_Sh} {g : jv_Mem} {pc : Nat} {ls ls' : List (Option Value)} {st st0 : List Value} {cc : ByteArray} {own : String}
variable {y : MethodName} {cb : ByteArray} {mL : Nat} {rt : Option FieldType} {fr lo mc ms n idx : Nat} {Q : Option Value → jv_Mem → Prop} {X : String → jv_Mem → Prop} {av : List Value}
theorem jv_G.pre (C : jv_C p s m args c cc own s0 b0 D ids) {H : Heap} {locs : List Loc} (h1 : jv_H s0.heap.size D ids sh g H) (h2 : ∀ n, ex = some n → H.size = s0.heap.size + n) (h3 : va_S (fun q => s0.heap.size ≤ q) s.heap H locs) (U : State) (hU : U.heap = H) (hW : s.WarmedH U.vm) : jv_Pc s0 b0 D ids ex sh g av av.toArray U := by
  obtain ⟨-, -, -, hZ, hw, hsz, hk⟩ := C
  refine ⟨rfl, ⟨hZ, State.WarmedH.trans hw hW, ?_, fun q hq => ?_⟩, by rw [hU]; exact h1, fun n hn => by rw [hU]; exact h2 n hn⟩
  · rw [hU]; exact Nat.le_trans hsz h3.1
  · rw [hU, h3.2.1 q (Nat.lt_of_lt_of_le hq hsz) (Nat.not_le.mpr hq)]
    exact hk q hq
theorem jv_S.back {H H1 : Heap} {locs L : List Loc} {t st₀ : State} (h3 : va_S (fun q => s0.heap.size ≤ q) s.heap H locs) (h0 : st₀.heap = H) (e1 : H1 = t.heap) (hF : va_F (fun q => s0.heap.size ≤ q) st₀ t) (hL : ∀ q ∈ L, s0.heap.size ≤ q.base) : va_S (fun q => s0.heap.size ≤ q) s.heap H1 (locs ++ L) := by
  obtain ⟨hz, hk⟩ := hF
  rw [h0] at hz hk
  refine ⟨Nat.le_trans h3.1 (by rw [e1]; exact hz), fun q h1 h2 => by rw [e1, hk q (Nat.lt_of_lt_of_le h1 h3.1) h2]; exact h3.2.1 q h1 h2, fun q hq => ?_⟩
  rcases List.mem_append.mp hq with h | h
  · exact h3.2.2 q h
  · exact hL q h
theorem jv_back {H : Heap} {locs : List Loc} {arr : Array Slot} {a : Array Value} (hr : va_Run p l e R s m args below meth c H locs cells slots mc ms (F0 m pc arr st0) st (jv_Qc s0 D ids ex' sh' Q a) (fun q => s0.heap.size ≤ q)) (h3 : va_S (fun q => s0.heap.size ≤ q) s.heap H locs) (h4 : jv_L arr c.maxLocals ls)
    (k : ∀ v g', Q v g' → jv_V p l e R s m args below meth c (cells + mc) (slots + ms) Z s0 D ids ex' sh' g' (pc + 3) ls (v.toList ++ st)) : W p l e R s m args below meth c H locs cells slots Z (F0 m pc arr st0) := by
  intro T hT X
  obtain ⟨v, st₀, t, T', L, h0, X', hL, e1, e2, ⟨⟨v', g', hv, hp, hb, hz⟩, hF⟩, stp⟩ := hr T hT X
  cases hv
  obtain ⟨t2, a1, b1⟩ := k v g' hp T'.heap (locs ++ L) arr (by rw [e1]; exact hb) (fun n hn => by rw [e1]; exact hz n hn) (jv_S.back h3 h0 e1 hF hL) h4 T' rfl X'
  exact ⟨t2, stp t2 a1, b1⟩
/-- q of the class E thrown over this frame -/
def jv_VX (p : Program) (l : Launch) (e : Env) (R : Room) (s : State) (m : MethodId) (args : Array Value) (below : List Frame) (meth : Method) (c : Code) (cells slots : Nat) (Z : State → Prop) (s0 : State) (D : va_G) (ids : Nat → ClassId) (sh : jv_Sh) (g : jv_Mem) (pc : Nat) (ls : List (Option Value)) (st : List Value) (E : String) : Prop :=
  ∀ (H : Heap) (locs : List Loc) (arr : Array Slot) (q : Addr) (ce : Cell), jv_H s0.heap.size D ids sh g H → va_S (fun q => s0.heap.size ≤ q) s.heap H locs → jv_L arr c.maxLocals ls → H[q]? = some ce → ce.vm = .none → s.vm.findClass E = some ce.cls → vx_W p l e R s m args below meth c H locs cells slots Z (F0 m pc arr st) q
theorem jv_backX {H : Heap} {locs : List Loc} {arr : Array Slot} {a : Array Value} (hr : vx_Run p l e R s m args below meth c H locs cells slots mc ms (F0 m pc arr st0) st (jv_Qc s0 D ids none sh Q a) (jv_Xc s0 D ids sh X) (fun q => s0.heap.size ≤ q)) (h3 : va_S (fun q => s0.heap.size ≤ q) s.heap H locs) (h4 : jv_L arr c.maxLocals ls)
    (k : ∀ v g', Q v g' → jv_V p l e R s m args below meth c (cells + mc) (slots + ms) Z s0 D ids none sh g' (pc + 3) ls (v.toList ++ st)) (kx : ∀ E g', X E g' → jv_VX p l e R s m args below meth c (cells + mc) (slots + ms) Z s0 D ids sh g' pc ls st E) : W p l e R s m args below meth c H locs cells slots Z (F0 m pc arr st0) := by
  intro T hT X
  rcases hr T hT X with ⟨v, st₀, t, T', L, h0, X', hL, e1, e2, ⟨⟨v', g', hv, hp, hb, hz⟩, hF⟩, stp⟩ | ⟨q, st₀, t, T', L, E, ce, h0, X', hL, e1, e2, ⟨⟨g', hp, hb⟩, hF⟩, hce, hcv, hcl, stp⟩
  · cases hv
    obtain ⟨t2, a1, b1⟩ := k v g' hp T'.heap (locs ++ L) arr (by rw [e1]; exact hb) (fun n hn => by cases hn) (jv_S.back h3 h0 e1 hF hL) h4 T' rfl X'
    exact ⟨t2, stp t2 a1, b1⟩
  · obtain ⟨t2, a1, b1⟩ := kx E g' hp T'.heap (locs ++ L) arr q ce (by rw [e1]; exact hb) (jv_S.back h3 h0 e1 hF hL) h4 (by rw [e1]; exact hce) hcv hcl T' rfl X'
    exact ⟨t2, stp.trans a1, b1⟩
theorem jv_recv (C : jv_C p s m args c cc own s0 b0 D ids) {i : Int} {ci : Nat} {ds : List (Option (Option Int))} {K : String} {H : Heap} (hs : sh i = some (.inr (ci, ds))) (hK : (vwCl[ci]?).map (fun q => q.1) = some K) (h1 : jv_H s0.heap.size D ids sh g H) : ∃ cellB : Cell, H[s0.heap.size + i.toNat]? = some cellB ∧ cellB.vm.isStatics = false ∧ s.vm.findClass K = some cellB.cls := by
  cases hc : vwCl[ci]? with
  | none => rw [hc] at hK; cases hK
  | some q =>
    rw [hc] at hK
    have hq : q.1 = K := Option.some.inj hK
    subst hq
    exact va_recv C.2.2.2.K (va_P.one (h1 i _ hs).2) (q0 := 0) hc rfl
theorem jv_fix (C : jv_C p s m args c cc own s0 b0 D ids) : CallFix p m c cc c.maxLocals s args jv_tb own := ⟨C.1, C.2.1, rfl, C.2.2.1, C.2.2.2.hts⟩
theorem jv_cw (C : jv_C p s m args c cc own s0 b0 D ids) (hK : jv_KV own idx y cb mL rt n) (hR : Nat.ble (fr + 1) R.frames = true ∧ Nat.ble (8 + (mL + 11) + lo) R.locals = true) : CallW R s args own y.cls idx y cb mL rt [Cond.code y cb mL rt] (jv_rm fr lo mc ms) mc ms n := by
  obtain ⟨k1, k2, k3, k4, k5, k6⟩ := hK
  have hts := C.2.2.2.hts (a := args)
  exact ⟨callB_of n hts (jv_good (fun w hw => by rw [List.mem_singleton.mp hw]; exact k5)) rfl rfl rfl (hts _ k4) (hts _ k1) k6 ⟨Nat.le_of_ble_eq_true hR.1, Nat.le_of_ble_eq_true hR.2⟩, hts _ k2, hts _ k3⟩
theorem jv_cs (C : jv_C p s m args c cc own s0 b0 D ids) (hK : jv_KS own idx y cb mL rt n) (hR : Nat.ble (fr + 1) R.frames = true ∧ Nat.ble (8 + (mL + 11) + lo) R.locals = true) : CallB R s args own idx y cb mL rt [Cond.code y cb mL rt] (jv_rm fr lo mc ms) mc ms n ∧ (Cond.static y).before args s = true := by
  obtain ⟨k1, k2, k4, k5, k6⟩ := hK
  have hts := C.2.2.2.hts (a := args)
  exact ⟨callB_of n hts (jv_good (fun w hw => by rw [List.mem_singleton.mp hw]; exact k5)) rfl rfl rfl (hts _ k4) (hts _ k1) k6 ⟨Nat.le_of_ble_eq_true hR.1, Nat.le_of_ble_eq_true hR.2⟩, hts _ k2⟩
/-- a call of an instance's method that returns -/
theorem jv_callV (C : jv_C p s m args c cc own s0 b0 D ids) {i : Int} {ci : Nat} {ds : List (Option (Option Int))} {As : List Value} (M : jv_M l s0 b0 D ids y cb mL rt fr lo mc ms ex sh g (.ref (s0.heap.size + i.toNat) :: As) ex' sh' Q) (hK : jv_KV own idx y cb mL rt n) (hs : sh i = some (.inr (ci, ds))) (hcn : (vwCl[ci]?).map (fun q => q.1) = some y.cls) (hn : As.length = n) (hR : Nat.ble (fr + 1) R.frames = true ∧ Nat.ble (8 + (mL + 11) + lo) R.locals = true) (hst : st0 = As.reverse ++ .ref (s0.heap.size + i.toNat) :: st) (hroom : Nat.ble (st.map fun v => v.category).sum 8 = true) (hf : Nat.ble (cells + mc) R.cells = true ∧ Nat.ble (slots + ms) R.slots = true) (hd : decode cc pc = .ok (.invokevirtual idx, 3))
    (k : ∀ v g', Q v g' → jv_V p l e R s m args below meth c (cells + mc) (slots + ms) Z s0 D ids ex' sh' g' (pc + 3) ls (v.toList ++ st)) : jv_V p l e R s m args below meth c cells slots Z s0 D ids ex sh g pc ls st0 := by
  intro H locs arr h1 h2 h3 h4
  exact jv_back (va_runV (jv_fix C) M (jv_cw C hK hR) ⟨jv_Pc.blind, jv_recv C hs hcn h1, fun U hU hW => jv_G.pre C h1 h2 h3 U hU hW⟩ rfl hn h4.1.1 hst (lv_room (Nat.le_of_ble_eq_true hroom)) hd ⟨Nat.le_of_ble_eq_true hf.1, Nat.le_of_ble_eq_true hf.2⟩) h3 h4 k
theorem jv_callS (C : jv_C p s m args c cc own s0 b0 D ids) {As : List Value} (M : jv_M l s0 b0 D ids y cb mL rt fr lo mc ms ex sh g As ex' sh' Q) (hK : jv_KS own idx y cb mL rt n) (hn : As.length = n) (hR : Nat.ble (fr + 1) R.frames = true ∧ Nat.ble (8 + (mL + 11) + lo) R.locals = true) (hst : st0 = As.reverse ++ st) (hroom : Nat.ble (st.map fun v => v.category).sum 8 = true) (hf : Nat.ble (cells + mc) R.cells = true ∧ Nat.ble (slots + ms) R.slots = true) (hd : decode cc pc = .ok (.invokestatic idx, 3))
    (k : ∀ v g', Q v g' → jv_V p l e R s m args below meth c (cells + mc) (slots + ms) Z s0 D ids ex' sh' g' (pc + 3) ls (v.toList ++ st)) : jv_V p l e R s m args below meth c cells slots Z s0 D ids ex sh g pc ls st0 := by
  intro H locs arr h1 h2 h3 h4
  exact jv_back (va_runS (jv_fix C) M (jv_cs C hK hR) ⟨jv_Pc.blind, fun U hU hW => jv_G.pre C h1 h2 h3 U hU hW⟩ rfl hn h4.1.1 hst (lv_room (Nat.le_of_ble_eq_true hroom)) hd ⟨Nat.le_of_ble_eq_true hf.1, Nat.le_of_ble_eq_true hf.2⟩) h3 h4 k
theorem jv_callSN (C : jv_C p s m args c cc own s0 b0 D ids) {host : String} {As : List Value} (M : jv_M l s0 b0 D ids y cb mL rt fr lo mc ms ex sh g As ex' sh' Q) (hK : jv_KSN own idx y host cb mL rt n) (hn : As.length = n) (hR : Nat.ble (fr + 1) R.frames = true ∧ Nat.ble (8 + (mL + 11) + lo) R.locals = true) (hst : st0 = As.reverse ++ st) (hroom : Nat.ble (st.map fun v => v.category).sum 8 = true) (hf : Nat.ble (cells + mc) R.cells = true ∧ Nat.ble (slots + ms) R.slots = true) (hd : decode cc pc = .ok (.invokestatic idx, 3))
    (k : ∀ v g', Q v g' → jv_V p l e R s m args below meth c (cells + mc) (slots + ms) Z s0 D ids ex' sh' g' (pc + 3) ls (v.toList ++ st)) : jv_V p l e R s m args below meth c cells slots Z s0 D ids ex sh g pc ls st0 := by
  intro H locs arr h1 h2 h3 h4
  obtain ⟨k1, k2, k4, k5, k6⟩ := hK
  have hts := C.2.2.2.hts (a := args)
  have hl : va_Nw (.methodLinkNest own idx y host) s := va_Nw.warmM C.2.2.2.2.1 (va_Nw.of rfl (C.2.2.2.1.1 _ k1))
  exact jv_back (va_runSN (jv_fix C) M ⟨va_cnB n hts (jv_good (fun w hw => by rw [List.mem_singleton.mp hw]; exact k5)) rfl rfl rfl hl (hts _ k4) k6 ⟨Nat.le_of_ble_eq_true hR.1, Nat.le_of_ble_eq_true hR.2⟩, hts _ k2, trivial⟩ ⟨jv_Pc.blind, fun U hU hW => jv_G.pre C h1 h2 h3 U hU hW⟩ rfl hn h4.1.1 hst (lv_room (Nat.le_of_ble_eq_true hroom)) hd ⟨Nat.le_of_ble_eq_true hf.1, Nat.le_of_ble_eq_true hf.2⟩) h3 h4 k
/-- calls of methods that return or throw -/
theorem jv_callVX (C : jv_C p s m args c cc own s0 b0 D ids) {i : Int} {ci : Nat} {ds : List (Option (Option Int))} {As : List Value} (M : jv_MX l s0 b0 D ids y cb mL rt fr lo mc ms sh g (.ref (s0.heap.size + i.toNat) :: As) Q X) (hK : jv_KV own idx y cb mL rt n) (hs : sh i = some (.inr (ci, ds))) (hcn : (vwCl[ci]?).map (fun q => q.1) = some y.cls) (hn : As.length = n) (hR : Nat.ble (fr + 1) R.frames = true ∧ Nat.ble (8 + (mL + 11) + lo) R.locals = true) (hst : st0 = As.reverse ++ .ref (s0.heap.size + i.toNat) :: st) (hroom : Nat.ble (st.map fun v => v.category).sum 8 = true) (hf : Nat.ble (cells + mc) R.cells = true ∧ Nat.ble (slots + ms) R.slots = true) (hd : decode cc pc = .ok (.invokevirtual idx, 3))
    (k : ∀ v g', Q v g' → jv_V p l e R s m args below meth c (cells + mc) (slots + ms) Z s0 D ids none sh g' (pc + 3) ls (v.toList ++ st)) (kx : ∀ E g', X E g' → jv_VX p l e R s m args below meth c (cells + mc) (slots + ms) Z s0 D ids sh g' pc ls st E) : jv_V p l e R s m args below meth c cells slots Z s0 D ids none sh g pc ls st0 := by
  intro H locs arr h1 h2 h3 h4
  exact jv_backX (vx_runV (jv_fix C) M (jv_cw C hK hR) ⟨jv_Pc.blind, jv_recv C hs hcn h1, fun U hU hW => jv_G.pre C h1 h2 h3 U hU hW⟩ rfl hn h4.1.1 hst (lv_room (Nat.le_of_ble_eq_true hroom)) hd ⟨Nat.le_of_ble_eq_true hf.1, Nat.le_of_ble_eq_true hf.2⟩) h3 h4 k kx
theorem jv_callSX (C : jv_C p s m args c cc own s0 b0 D ids) {As : List Value} (M : jv_MX l s0 b0 D ids y cb mL rt fr lo mc ms sh g As Q X) (hK : jv_KS own idx y cb mL rt n) (hn : As.length = n) (hR : Nat.ble (fr + 1) R.frames = true ∧ Nat.ble (8 + (mL + 11) + lo) R.locals = true) (hst : st0 = As.reverse ++ st) (hroom : Nat.ble (st.map fun v => v.category).sum 8 = true) (hf : Nat.ble (cells + mc) R.cells = true ∧ Nat.ble (slots + ms) R.slots = true) (hd : decode cc pc = .ok (.invokestatic idx, 3))
    (k : ∀ v g', Q v g' → jv_V p l e R s m args below meth c (cells + mc) (slots + ms) Z s0 D ids none sh g' (pc + 3) ls (v.toList ++ st)) (kx : ∀ E g', X E g' → jv_VX p l e R s m args below meth c (cells + mc) (slots + ms) Z s0 D ids sh g' pc ls st E) : jv_V p l e R s m args below meth c cells slots Z s0 D ids none sh g pc ls st0 := by
  intro H locs arr h1 h2 h3 h4
  exact jv_backX (vx_runS (jv_fix C) M (jv_cs C hK hR) ⟨jv_Pc.blind, fun U hU hW => jv_G.pre C h1 h2 h3 U hU hW⟩ rfl hn h4.1.1 hst (lv_room (Nat.le_of_ble_eq_true hroom)) hd ⟨Nat.le_of_ble_eq_true hf.1, Nat.le_of_ble_eq_true hf.2⟩) h3 h4 k kx
theorem jv_mmax (C : jv_C p s m args c cc own s0 b0 D ids) {x z : Int} (hx : jv_r x) (hz : jv_r z) (hK : Cond.methodLink own idx Lib.Math.max.name ∈ jv_tb) (hK2 : Cond.static Lib.Math.max.name ∈ jv_tb) (hK3 : Cond.initialized "java/lang/Math" ∈ jv_tb) (hK4 : Cond.code Lib.Math.max.name Lib.Math.max.code 2 (some .int) ∈ jv_tb) (hR : Nat.ble 1 R.frames = true ∧ Nat.ble ((st.map fun v => v.category).sum + 13) R.locals = true) (hc : Nat.ble cells R.cells = true ∧ Nat.ble slots R.slots = true) (hd : decode cc pc = .ok (.invokestatic idx, 3)) (k : jv_V p l e R s m args below meth c cells slots Z s0 D ids ex sh g (pc + 3) ls (jv_i (if x < z then z else x) :: st)) : jv_V p l e R s m args below meth c cells slots Z s0 D ids ex sh g pc ls (jv_i z :: jv_i x :: st) := by
  intro H locs arr h1 h2 h3 h4
  have hts := C.2.2.2.hts (a := args)
  refine va_mmax C.1 C.2.1 h4.1.1.symm C.2.2.1 (hts _ hK) (hts _ hK2) (hts _ hK3) (hts _ hK4) (Nat.le_of_ble_eq_true hR.1) (Nat.le_of_ble_eq_true hR.2) (Nat.le_of_ble_eq_true hc.1) (Nat.le_of_ble_eq_true hc.2) hd ?_
  have h := k H locs arr h1 h2 h3 h4
  have e : (if Int32.ofInt x < Int32.ofInt z then Int32.ofInt z else Int32.ofInt x) = Int32.ofInt (if x < z then z else x) := by
    by_cases h : x < z
    · rw [if_pos h, if_pos ((jv_rlt hx hz).mpr h)]
    · rw [if_neg h, if_neg (fun h' => h ((jv_rlt hx hz).mp h'))]
  rw [e]; exact h
theorem jv_mmin (C : jv_C p s m args c cc own s0 b0 D ids) {x z : Int} (hx : jv_r x) (hz : jv_r z) (hK : Cond.methodLink own idx Lib.Math.min.name ∈ jv_tb) (hK2 : Cond.static Lib.Math.min.name ∈ jv_tb) (hK3 : Cond.initialized "java/lang/Math" ∈ jv_tb) (hK4 : Cond.code Lib.Math.min.name Lib.Math.min.code 2 (some .int) ∈ jv_tb) (hR : Nat.ble 1 R.frames = true ∧ Nat.ble ((st.map fun v => v.category).sum + 13) R.locals = true) (hc : Nat.ble cells R.cells = true ∧ Nat.ble slots R.slots = true) (hd : decode cc pc = .ok (.invokestatic idx, 3)) (k : jv_V p l e R s m args below meth c cells slots Z s0 D ids ex sh g (pc + 3) ls (jv_i (if z < x then z else x) :: st)) : jv_V p l e R s m args below meth c cells slots Z s0 D ids ex sh g pc ls (jv_i z :: jv_i x :: st) := by
  intro H locs arr h1 h2 h3 h4
  have hts := C.2.2.2.hts (a := args)
  refine va_mmin C.1 C.2.1 h4.1.1.symm C.2.2.1 (hts _ hK) (hts _ hK2) (hts _ hK3) (hts _ hK4) (Nat.le_of_ble_eq_true hR.1) (Nat.le_of_ble_eq_true hR.2) (Nat.le_of_ble_eq_true hc.1) (Nat.le_of_ble_eq_true hc.2) hd ?_
  have h := k H locs arr h1 h2 h3 h4
  have e : (if Int32.ofInt z < Int32.ofInt x then Int32.ofInt z else Int32.ofInt x) = Int32.ofInt (if z < x then z else x) := by
    by_cases h : z < x
    · rw [if_pos h, if_pos ((jv_rlt hz hx).mpr h)]
    · rw [if_neg h, if_neg (fun h' => h ((jv_rlt hz hx).mp h'))]
  rw [e]; exact h
end JVC
end
section
section JVE
variable {p : Program} {l : Launch} {e : Env} {R : Room} {s : State} {m : MethodId} {args : Array Value} {below : List Frame} {meth : Method} {c : Code} {cells slots : Nat} {Z : State → Prop} {s0 : State} {b0 : Addr} {D : va_G} {ids : Nat → ClassId} {ex ex' : Option Nat} {sh sh' : jv_Sh} {g : jv_Mem} {pc : Nat} {ls ls' : List (Option Value)} {st st0 : List Value} {cc : ByteArray} {own : String}
variable {y : MethodName} {cb : ByteArray} {mL : Nat} {rt : Option FieldType} {fr lo mc ms n idx : Nat} {Q : Option Value → jv_Mem → Prop} {X : String → jv_Mem → Prop} {av : List Value}
abbrev jv_ZM (below : List Frame) (s0 : State) (D : va_G) (ids : Nat → ClassId) (ex : Option Nat) (sh : jv_Sh) (Q : Option Value → jv_Mem → Prop) (args : Array Value) (s : State) (mc ms : Nat) : State → Prop := MQ below (jv_Qc s0 D ids ex sh Q) args s mc ms (fun q => s0.heap.size ≤ q)
abbrev jv_ZX (below : List Frame) (s0 : State) (D : va_G) (ids : Nat → ClassId) (sh : jv_Sh) (Q : Option Value → jv_Mem → Prop) (X : String → jv_Mem → Prop) (args : Array Value) (s : State) (mc ms : Nat) : State → Prop := vx_MQ below (jv_Qc s0 D ids none sh Q) (jv_Xc s0 D ids sh X) args s mc ms (fun q => s0.heap.size ≤ q)
theorem jv_endQ {v : Option Value} (hq : Q v g) {H : Heap} {locs : List Loc} (h1 : jv_H s0.heap.size D ids sh g H) (h2 : ∀ n, ex = some n → H.size = s0.heap.size + n) (h3 : va_S (fun q => s0.heap.size ≤ q) s.heap H locs) (t : State) (ht : t.heap = H) : jv_Qc s0 D ids ex sh Q args s (.returned v) t :=
  ⟨⟨v, g, rfl, hq, by rw [ht]; exact h1, fun n hn => by rw [ht]; exact h2 n hn⟩, h3.F ht⟩
theorem jv_iret (C : jv_C p s m args c cc own s0 b0 D ids) (hr : meth.sig.returnType = some .int) (hlocks : meth.locks = false) {x : Int} (hq : Q (some (jv_i x)) g) (hd : decode cc pc = .ok (.ireturn, 1)) (hc : Nat.ble cells mc = true ∧ Nat.ble slots ms = true) : jv_V p l e R s m args below meth c cells slots (jv_ZM below s0 D ids ex sh Q args s mc ms) s0 D ids ex sh g pc ls [jv_i x] :=
  fun _ _ _ h1 h2 h3 _ => W.widen (Nat.le_of_ble_eq_true hc.1) (Nat.le_of_ble_eq_true hc.2) (W.iret C.1 C.2.1 hr (fun t ht _ => jv_endQ hq h1 h2 h3 t ht) h3.2.2 hd hlocks)
theorem jv_zret (C : jv_C p s m args c cc own s0 b0 D ids) {ty : FieldType} (hr : meth.sig.returnType = some ty) (hlocks : meth.locks = false) {x : Int} (hn : narrow ty (jv_i x) = jv_i x) (hq : Q (some (jv_i x)) g) (hd : decode cc pc = .ok (.ireturn, 1)) (hc : Nat.ble cells mc = true ∧ Nat.ble slots ms = true) : jv_V p l e R s m args below meth c cells slots (jv_ZM below s0 D ids ex sh Q args s mc ms) s0 D ids ex sh g pc ls [jv_i x] :=
  fun _ _ _ h1 h2 h3 _ => W.widen (Nat.le_of_ble_eq_true hc.1) (Nat.le_of_ble_eq_true hc.2) (W.zret C.1 C.2.1 hr hn (fun t ht _ => jv_endQ hq h1 h2 h3 t ht) h3.2.2 hd hlocks)
theorem jv_vret (C : jv_C p s m args c cc own s0 b0 D ids) (hr : meth.sig.returnType = none) (hlocks : meth.locks = false) (hq : Q none g) (hd : decode cc pc = .ok (.return_, 1)) (hc : Nat.ble cells mc = true ∧ Nat.ble slots ms = true) : jv_V p l e R s m args below meth c cells slots (jv_ZM below s0 D ids ex sh Q args s mc ms) s0 D ids ex sh g pc ls [] :=
  fun _ _ _ h1 h2 h3 _ => W.widen (Nat.le_of_ble_eq_true hc.1) (Nat.le_of_ble_eq_true hc.2) (W.vret C.1 C.2.1 hr (fun t ht _ => jv_endQ hq h1 h2 h3 t ht) h3.2.2 hd hlocks)
theorem jv_aret (C : jv_C p s m args c cc own s0 b0 D ids) {K : String} (hr : meth.sig.returnType = some (.object K)) (hlocks : meth.locks = false) {a : Addr} (hq : Q (some (.ref a)) g) (hd : decode cc pc = .ok (.areturn, 1)) (hc : Nat.ble cells mc = true ∧ Nat.ble slots ms = true) : jv_V p l e R s m args below meth c cells slots (jv_ZM below s0 D ids ex sh Q args s mc ms) s0 D ids ex sh g pc ls [.ref a] :=
  fun _ _ _ h1 h2 h3 _ => W.widen (Nat.le_of_ble_eq_true hc.1) (Nat.le_of_ble_eq_true hc.2) (W.aret C.1 C.2.1 hr (Or.inl ⟨K, rfl⟩) (Or.inr ⟨a, rfl⟩) (fun t ht _ => jv_endQ hq h1 h2 h3 t ht) h3.2.2 hd hlocks)
theorem jv_xret (k : jv_V p l e R s m args below meth c cells slots (jv_ZM below s0 D ids none sh' Q args s mc ms) s0 D ids ex sh g pc ls st) : jv_V p l e R s m args below meth c cells slots (jv_ZX below s0 D ids sh' Q X args s mc ms) s0 D ids ex sh g pc ls st :=
  fun H locs arr h1 h2 h3 h4 => vx_ret (k H locs arr h1 h2 h3 h4)
/-- what is thrown here goes on to the caller -/
theorem jv_xout (ht : ∀ x ∈ c.exceptionTable.toList, False) (hlocks : meth.locks = false) {E : String} (hx : X E g) (hc : Nat.ble cells mc = true ∧ Nat.ble slots ms = true) : jv_VX p l e R s m args below meth c cells slots (jv_ZX below s0 D ids sh Q X args s mc ms) s0 D ids sh g pc ls st E :=
  fun _ _ _ _ _ h1 h3 _ hq hv hcl => vx_out (fun x hx => (ht x hx).elim) hlocks hq hv hcl (fun t ht' _ => ⟨⟨g, hx, by rw [ht']; exact h1⟩, h3.F ht'⟩) h3.2.2 (Nat.le_of_ble_eq_true hc.1) (Nat.le_of_ble_eq_true hc.2)
theorem jv_M.of (hy : plainName y.cls = true) (hl : Nat.ble (lg_sl av).length mL = true) (hca : av.all (fun v => v.category == 1) = true)
    (body : ∀ (p : Program) (e : Env) (s : State) (m : MethodId) (args : Array Value) (below : List Frame) (meth : Method) (c : Code), jv_C p s m args c cb y.cls s0 b0 D ids → mL = c.maxLocals → meth.sig.returnType = rt → meth.locks = false → meth.name = y.name → jv_V p l e (jv_rm fr lo mc ms) s m args below meth c 0 0 (jv_ZM below s0 D ids ex' sh' Q args s mc ms) s0 D ids ex sh g 0 (av.map some ++ List.replicate (mL - av.length) none) []) : jv_M l s0 b0 D ids y cb mL rt fr lo mc ms ex sh g av ex' sh' Q := by
  refine Met.ofW (cc := cb) (maxL := mL) (ret := rt) hy rfl ?_
  intro p e s m args below meth c s₁ B hml hv
  obtain ⟨rfl, hG, hH, hz⟩ := hv
  have hown : s.vm.findClass y.cls = some m.cls := findClass_of_methodNamed B.named
  have hin : meth.name = y.name := (name_of_methodNamed B.named B.method).1
  have hl' := Nat.le_of_ble_eq_true hl
  have hcat : ∀ v ∈ av, v.category = 1 := fun v hv => by have := List.all_eq_true.mp hca v hv; simpa using this
  rw [lg_entry_eq]
  exact body p e s m _ below meth c ⟨B.exec, B.bytes, hown, hG⟩ hml.symm B.returns B.notSynchronized hin s.heap [] _ hH hz va_S.rf (by rw [hml]; exact jv_L.entry av hl' hcat)
theorem jv_MX.of (hy : plainName y.cls = true) (hl : Nat.ble (lg_sl av).length mL = true) (hca : av.all (fun v => v.category == 1) = true)
    (body : ∀ (p : Program) (e : Env) (s : State) (m : MethodId) (args : Array Value) (below : List Frame) (meth : Method) (c : Code), jv_C p s m args c cb y.cls s0 b0 D ids → mL = c.maxLocals → meth.sig.returnType = rt → meth.locks = false → (∀ x ∈ c.exceptionTable.toList, False) → jv_V p l e (jv_rm fr lo mc ms) s m args below meth c 0 0 (jv_ZX below s0 D ids sh Q X args s mc ms) s0 D ids none sh g 0 (av.map some ++ List.replicate (mL - av.length) none) []) : jv_MX l s0 b0 D ids y cb mL rt fr lo mc ms sh g av Q X := by
  refine vx_ofW (cc := cb) (maxL := mL) (ret := rt) hy rfl ?_
  intro p e s m args below meth c s₁ B hml htab hv
  obtain ⟨rfl, hG, hH, hz⟩ := hv
  have hown : s.vm.findClass y.cls = some m.cls := findClass_of_methodNamed B.named
  have hl' := Nat.le_of_ble_eq_true hl
  have hcat : ∀ v ∈ av, v.category = 1 := fun v hv => by have := List.all_eq_true.mp hca v hv; simpa using this
  rw [lg_entry_eq]
  exact body p e s m _ below meth c ⟨B.exec, B.bytes, hown, hG⟩ hml.symm B.returns B.notSynchronized htab s.heap [] _ hH hz va_S.rf (by rw [hml]; exact jv_L.entry av hl' hcat)
end JVE
/-- loops: an invariant over the changed locals and the memory, with a number that falls -/
def jv_lp0 (body : (jv_Mem → Prop) → jv_Mem → Prop) (g : jv_Mem) : Prop := ∃ I : Nat → jv_Mem → Prop, (∃ n, I n g) ∧ ∀ (n : Nat) (g : jv_Mem), I n g → body (fun g' => ∃ n', n' < n ∧ I n' g') g
theorem jv_lp0.use {body : (jv_Mem → Prop) → jv_Mem → Prop} {g : jv_Mem} (h : jv_lp0 body g) (W : jv_Mem → Prop) (step : ∀ (K : jv_Mem → Prop), (∀ g, K g → W g) → ∀ g, body K g → W g) : W g := by
  obtain ⟨I, ⟨n, h0⟩, hs⟩ := h
  have key : ∀ (n : Nat) (g : jv_Mem), I n g → W g := by
    intro n
    induction n using Nat.strongRecOn with
    | ind n ih => exact fun g ha => step _ (fun g' h' => by obtain ⟨n', h1, h2⟩ := h'; exact ih n' h1 g' h2) g (hs n g ha)
  exact key n g h0
def jv_lp1 (body : (Int → jv_Mem → Prop) → Int → jv_Mem → Prop) (x1 : Int) (g : jv_Mem) : Prop := ∃ I : Nat → Int → jv_Mem → Prop, (∃ n, I n x1 g) ∧ ∀ (n : Nat) (x1 : Int) (g : jv_Mem), I n x1 g → body (fun x1' g' => ∃ n', n' < n ∧ I n' x1' g') x1 g
theorem jv_lp1.use {body : (Int → jv_Mem → Prop) → Int → jv_Mem → Prop} {x1 : Int} {g : jv_Mem} (h : jv_lp1 body x1 g) (W : Int → jv_Mem → Prop) (step : ∀ (K : Int → jv_Mem → Prop), (∀ x1 g, K x1 g → W x1 g) → ∀ x1 g, body K x1 g → W x1 g) : W x1 g := by
  obtain ⟨I, ⟨n, h0⟩, hs⟩ := h
  have key : ∀ (n : Nat) (x1 : Int) (g : jv_Mem), I n x1 g → W x1 g := by
    intro n
    induction n using Nat.strongRecOn with
    | ind n ih => exact fun x1 g ha => step _ (fun x1' g' h' => by obtain ⟨n', h1, h2⟩ := h'; exact ih n' h1 x1' g' h2) x1 g (hs n x1 g ha)
  exact key n x1 g h0
def jv_lp2 (body : (Int → Int → jv_Mem → Prop) → Int → Int → jv_Mem → Prop) (x1 x2 : Int) (g : jv_Mem) : Prop := ∃ I : Nat → Int → Int → jv_Mem → Prop, (∃ n, I n x1 x2 g) ∧ ∀ (n : Nat) (x1 x2 : Int) (g : jv_Mem), I n x1 x2 g → body (fun x1' x2' g' => ∃ n', n' < n ∧ I n' x1' x2' g') x1 x2 g
theorem jv_lp2.use {body : (Int → Int → jv_Mem → Prop) → Int → Int → jv_Mem → Prop} {x1 x2 : Int} {g : jv_Mem} (h : jv_lp2 body x1 x2 g) (W : Int → Int → jv_Mem → Prop) (step : ∀ (K : Int → Int → jv_Mem → Prop), (∀ x1 x2 g, K x1 x2 g → W x1 x2 g) → ∀ x1 x2 g, body K x1 x2 g → W x1 x2 g) : W x1 x2 g := by
  obtain ⟨I, ⟨n, h0⟩, hs⟩ := h
  have key : ∀ (n : Nat) (x1 x2 : Int) (g : jv_Mem), I n x1 x2 g → W x1 x2 g := by
    intro n
    induction n using Nat.strongRecOn with
    | ind n ih => exact fun x1 x2 g ha => step _ (fun x1' x2' g' h' => by obtain ⟨n', h1, h2⟩ := h'; exact ih n' h1 x1' x2' g' h2) x1 x2 g (hs n x1 x2 g ha)
  exact key n x1 x2 g h0
def jv_lp3 (body : (Int → Int → Int → jv_Mem → Prop) → Int → Int → Int → jv_Mem → Prop) (x1 x2 x3 : Int) (g : jv_Mem) : Prop := ∃ I : Nat → Int → Int → Int → jv_Mem → Prop, (∃ n, I n x1 x2 x3 g) ∧ ∀ (n : Nat) (x1 x2 x3 : Int) (g : jv_Mem), I n x1 x2 x3 g → body (fun x1' x2' x3' g' => ∃ n', n' < n ∧ I n' x1' x2' x3' g') x1 x2 x3 g
theorem jv_lp3.use {body : (Int → Int → Int → jv_Mem → Prop) → Int → Int → Int → jv_Mem → Prop} {x1 x2 x3 : Int} {g : jv_Mem} (h : jv_lp3 body x1 x2 x3 g) (W : Int → Int → Int → jv_Mem → Prop) (step : ∀ (K : Int → Int → Int → jv_Mem → Prop), (∀ x1 x2 x3 g, K x1 x2 x3 g → W x1 x2 x3 g) → ∀ x1 x2 x3 g, body K x1 x2 x3 g → W x1 x2 x3 g) : W x1 x2 x3 g := by
  obtain ⟨I, ⟨n, h0⟩, hs⟩ := h
  have key : ∀ (n : Nat) (x1 x2 x3 : Int) (g : jv_Mem), I n x1 x2 x3 g → W x1 x2 x3 g := by
    intro n
    induction n using Nat.strongRecOn with
    | ind n ih => exact fun x1 x2 x3 g ha => step _ (fun x1' x2' x3' g' h' => by obtain ⟨n', h1, h2⟩ := h'; exact ih n' h1 x1' x2' x3' g' h2) x1 x2 x3 g (hs n x1 x2 x3 g ha)
  exact key n x1 x2 x3 g h0
def jv_lp4 (body : (Int → Int → Int → Int → jv_Mem → Prop) → Int → Int → Int → Int → jv_Mem → Prop) (x1 x2 x3 x4 : Int) (g : jv_Mem) : Prop := ∃ I : Nat → Int → Int → Int → Int → jv_Mem → Prop, (∃ n, I n x1 x2 x3 x4 g) ∧ ∀ (n : Nat) (x1 x2 x3 x4 : Int) (g : jv_Mem), I n x1 x2 x3 x4 g → body (fun x1' x2' x3' x4' g' => ∃ n', n' < n ∧ I n' x1' x2' x3' x4' g') x1 x2 x3 x4 g
theorem jv_lp4.use {body : (Int → Int → Int → Int → jv_Mem → Prop) → Int → Int → Int → Int → jv_Mem → Prop} {x1 x2 x3 x4 : Int} {g : jv_Mem} (h : jv_lp4 body x1 x2 x3 x4 g) (W : Int → Int → Int → Int → jv_Mem → Prop) (step : ∀ (K : Int → Int → Int → Int → jv_Mem → Prop), (∀ x1 x2 x3 x4 g, K x1 x2 x3 x4 g → W x1 x2 x3 x4 g) → ∀ x1 x2 x3 x4 g, body K x1 x2 x3 x4 g → W x1 x2 x3 x4 g) : W x1 x2 x3 x4 g := by
  obtain ⟨I, ⟨n, h0⟩, hs⟩ := h
  have key : ∀ (n : Nat) (x1 x2 x3 x4 : Int) (g : jv_Mem), I n x1 x2 x3 x4 g → W x1 x2 x3 x4 g := by
    intro n
    induction n using Nat.strongRecOn with
    | ind n ih => exact fun x1 x2 x3 x4 g ha => step _ (fun x1' x2' x3' x4' g' h' => by obtain ⟨n', h1, h2⟩ := h'; exact ih n' h1 x1' x2' x3' x4' g' h2) x1 x2 x3 x4 g (hs n x1 x2 x3 x4 g ha)
  exact key n x1 x2 x3 x4 g h0
def jv_lp5 (body : (Int → Int → Int → Int → Int → jv_Mem → Prop) → Int → Int → Int → Int → Int → jv_Mem → Prop) (x1 x2 x3 x4 x5 : Int) (g : jv_Mem) : Prop := ∃ I : Nat → Int → Int → Int → Int → Int → jv_Mem → Prop, (∃ n, I n x1 x2 x3 x4 x5 g) ∧ ∀ (n : Nat) (x1 x2 x3 x4 x5 : Int) (g : jv_Mem), I n x1 x2 x3 x4 x5 g → body (fun x1' x2' x3' x4' x5' g' => ∃ n', n' < n ∧ I n' x1' x2' x3' x4' x5' g') x1 x2 x3 x4 x5 g
theorem jv_lp5.use {body : (Int → Int → Int → Int → Int → jv_Mem → Prop) → Int → Int → Int → Int → Int → jv_Mem → Prop} {x1 x2 x3 x4 x5 : Int} {g : jv_Mem} (h : jv_lp5 body x1 x2 x3 x4 x5 g) (W : Int → Int → Int → Int → Int → jv_Mem → Prop) (step : ∀ (K : Int → Int → Int → Int → Int → jv_Mem → Prop), (∀ x1 x2 x3 x4 x5 g, K x1 x2 x3 x4 x5 g → W x1 x2 x3 x4 x5 g) → ∀ x1 x2 x3 x4 x5 g, body K x1 x2 x3 x4 x5 g → W x1 x2 x3 x4 x5 g) : W x1 x2 x3 x4 x5 g := by
  obtain ⟨I, ⟨n, h0⟩, hs⟩ := h
  have key : ∀ (n : Nat) (x1 x2 x3 x4 x5 : Int) (g : jv_Mem), I n x1 x2 x3 x4 x5 g → W x1 x2 x3 x4 x5 g := by
    intro n
    induction n using Nat.strongRecOn with
    | ind n ih => exact fun x1 x2 x3 x4 x5 g ha => step _ (fun x1' x2' x3' x4' x5' g' h' => by obtain ⟨n', h1, h2⟩ := h'; exact ih n' h1 x1' x2' x3' x4' x5' g' h2) x1 x2 x3 x4 x5 g (hs n x1 x2 x3 x4 x5 g ha)
  exact key n x1 x2 x3 x4 x5 g h0
def jv_lp6 (body : (Int → Int → Int → Int → Int → Int → jv_Mem → Prop) → Int → Int → Int → Int → Int → Int → jv_Mem → Prop) (x1 x2 x3 x4 x5 x6 : Int) (g : jv_Mem) : Prop := ∃ I : Nat → Int → Int → Int → Int → Int → Int → jv_Mem → Prop, (∃ n, I n x1 x2 x3 x4 x5 x6 g) ∧ ∀ (n : Nat) (x1 x2 x3 x4 x5 x6 : Int) (g : jv_Mem), I n x1 x2 x3 x4 x5 x6 g → body (fun x1' x2' x3' x4' x5' x6' g' => ∃ n', n' < n ∧ I n' x1' x2' x3' x4' x5' x6' g') x1 x2 x3 x4 x5 x6 g
theorem jv_lp6.use {body : (Int → Int → Int → Int → Int → Int → jv_Mem → Prop) → Int → Int → Int → Int → Int → Int → jv_Mem → Prop} {x1 x2 x3 x4 x5 x6 : Int} {g : jv_Mem} (h : jv_lp6 body x1 x2 x3 x4 x5 x6 g) (W : Int → Int → Int → Int → Int → Int → jv_Mem → Prop) (step : ∀ (K : Int → Int → Int → Int → Int → Int → jv_Mem → Prop), (∀ x1 x2 x3 x4 x5 x6 g, K x1 x2 x3 x4 x5 x6 g → W x1 x2 x3 x4 x5 x6 g) → ∀ x1 x2 x3 x4 x5 x6 g, body K x1 x2 x3 x4 x5 x6 g → W x1 x2 x3 x4 x5 x6 g) : W x1 x2 x3 x4 x5 x6 g := by
  obtain ⟨I, ⟨n, h0⟩, hs⟩ := h
  have key : ∀ (n : Nat) (x1 x2 x3 x4 x5 x6 : Int) (g : jv_Mem), I n x1 x2 x3 x4 x5 x6 g → W x1 x2 x3 x4 x5 x6 g := by
    intro n
    induction n using Nat.strongRecOn with
    | ind n ih => exact fun x1 x2 x3 x4 x5 x6 g ha => step _ (fun x1' x2' x3' x4' x5' x6' g' h' => by obtain ⟨n', h1, h2⟩ := h'; exact ih n' h1 x1' x2' x3' x4' x5' x6' g' h2) x1 x2 x3 x4 x5 x6 g (hs n x1 x2 x3 x4 x5 x6 g ha)
  exact key n x1 x2 x3 x4 x5 x6 g h0
def jv_lp7 (body : (Int → Int → Int → Int → Int → Int → Int → jv_Mem → Prop) → Int → Int → Int → Int → Int → Int → Int → jv_Mem → Prop) (x1 x2 x3 x4 x5 x6 x7 : Int) (g : jv_Mem) : Prop := ∃ I : Nat → Int → Int → Int → Int → Int → Int → Int → jv_Mem → Prop, (∃ n, I n x1 x2 x3 x4 x5 x6 x7 g) ∧ ∀ (n : Nat) (x1 x2 x3 x4 x5 x6 x7 : Int) (g : jv_Mem), I n x1 x2 x3 x4 x5 x6 x7 g → body (fun x1' x2' x3' x4' x5' x6' x7' g' => ∃ n', n' < n ∧ I n' x1' x2' x3' x4' x5' x6' x7' g') x1 x2 x3 x4 x5 x6 x7 g
theorem jv_lp7.use {body : (Int → Int → Int → Int → Int → Int → Int → jv_Mem → Prop) → Int → Int → Int → Int → Int → Int → Int → jv_Mem → Prop} {x1 x2 x3 x4 x5 x6 x7 : Int} {g : jv_Mem} (h : jv_lp7 body x1 x2 x3 x4 x5 x6 x7 g) (W : Int → Int → Int → Int → Int → Int → Int → jv_Mem → Prop) (step : ∀ (K : Int → Int → Int → Int → Int → Int → Int → jv_Mem → Prop), (∀ x1 x2 x3 x4 x5 x6 x7 g, K x1 x2 x3 x4 x5 x6 x7 g → W x1 x2 x3 x4 x5 x6 x7 g) → ∀ x1 x2 x3 x4 x5 x6 x7 g, body K x1 x2 x3 x4 x5 x6 x7 g → W x1 x2 x3 x4 x5 x6 x7 g) : W x1 x2 x3 x4 x5 x6 x7 g := by
  obtain ⟨I, ⟨n, h0⟩, hs⟩ := h
  have key : ∀ (n : Nat) (x1 x2 x3 x4 x5 x6 x7 : Int) (g : jv_Mem), I n x1 x2 x3 x4 x5 x6 x7 g → W x1 x2 x3 x4 x5 x6 x7 g := by
    intro n
    induction n using Nat.strongRecOn with
    | ind n ih => exact fun x1 x2 x3 x4 x5 x6 x7 g ha => step _ (fun x1' x2' x3' x4' x5' x6' x7' g' h' => by obtain ⟨n', h1, h2⟩ := h'; exact ih n' h1 x1' x2' x3' x4' x5' x6' x7' g' h2) x1 x2 x3 x4 x5 x6 x7 g (hs n x1 x2 x3 x4 x5 x6 x7 g ha)
  exact key n x1 x2 x3 x4 x5 x6 x7 g h0
/-- fewer locals known -/
def jv_sub : List (Option Value) → List (Option Value) → Prop
  | [], _ => True
  | none :: r, _ :: r' => jv_sub r r'
  | some v :: r, x :: r' => x = some v ∧ jv_sub r r'
  | _ :: _, [] => False
theorem jv_sub.get : ∀ {ls ls' : List (Option Value)}, jv_sub ls ls' → ∀ {i : Nat} {v : Value}, ls[i]? = some (some v) → ls'[i]? = some (some v) := by
  intro ls
  induction ls with
  | nil => intro ls' _ i v h; simp at h
  | cons a r ih =>
    intro ls' h i v hi
    cases ls' with
    | nil => cases a <;> exact absurd h (by simp [jv_sub])
    | cons b r' =>
      cases a with
      | none =>
        cases i with
        | zero => simp at hi
        | succ i => simpa using ih (by simpa [jv_sub] using h) (by simpa using hi)
      | some w =>
        have h' : b = some w ∧ jv_sub r r' := by simpa [jv_sub] using h
        cases i with
        | zero => simp at hi; subst hi; simp [h'.1]
        | succ i => simpa using ih h'.2 (by simpa using hi)
theorem jv_L.sub {arr : Array Slot} {n : Nat} {ls ls' : List (Option Value)} (h : jv_L arr n ls') (hs : jv_sub ls ls') : jv_L arr n ls := by
  refine ⟨⟨h.1.1, h.1.2.1, fun q hq => ?_⟩, fun v hv => ?_⟩
  · obtain ⟨j, h1, h2⟩ := (jv_la_mem _ 0 q).mp hq
    exact h.1.2.2 q ((jv_la_mem _ 0 q).mpr ⟨j, h1, hs.get h2⟩)
  · obtain ⟨j, hj⟩ := List.getElem?_of_mem hv
    exact h.2 v (List.mem_of_getElem? (hs.get hj))
section JVN
variable {p : Program} {l : Launch} {e : Env} {R : Room} {s : State} {m : MethodId} {args : Array Value} {below : List Frame} {meth : Method} {c : Code} {cells slots : Nat} {Z : State → Prop} {s0 : State} {b0 : Addr} {D : va_G} {ids : Nat → ClassId} {ex : Option Nat} {sh : jv_Sh} {g : jv_Mem} {pc : Nat} {ls ls' : List (Option Value)} {st : List Value}
theorem jv_less (hs : jv_sub ls' ls) (k : jv_V p l e R s m args below meth c cells slots Z s0 D ids ex sh g pc ls' st) : jv_V p l e R s m args below meth c cells slots Z s0 D ids ex sh g pc ls st :=
  fun H locs arr h1 h2 h3 h4 => k H locs arr h1 h2 h3 (h4.sub hs)
/-- names for the number on top, for the memory -/
theorem jv_top {x : Int} (k : ∀ v : Int, v = x → jv_V p l e R s m args below meth c cells slots Z s0 D ids ex sh g pc ls (jv_i v :: st)) : jv_V p l e R s m args below meth c cells slots Z s0 D ids ex sh g pc ls (jv_i x :: st) := k x rfl
theorem jv_gm (k : ∀ g' : jv_Mem, g' = g → jv_V p l e R s m args below meth c cells slots Z s0 D ids ex sh g' pc ls st) : jv_V p l e R s m args below meth c cells slots Z s0 D ids ex sh g pc ls st := k g rfl
theorem jv_wd {k n : Nat} (h1 : Nat.ble cells k = true) (h2 : Nat.ble slots n = true) (kk : jv_V p l e R s m args below meth c k n Z s0 D ids ex sh g pc ls st) : jv_V p l e R s m args below meth c cells slots Z s0 D ids ex sh g pc ls st :=
  fun H locs arr a1 a2 a3 a4 => W.widen (Nat.le_of_ble_eq_true h1) (Nat.le_of_ble_eq_true h2) (kk H locs arr a1 a2 a3 a4)
end JVN
def jv_qi (Q : Int → jv_Mem → Prop) : Option Value → jv_Mem → Prop := fun v g => ∃ r : Int, v = some (jv_i r) ∧ Q r g
def jv_qv (Q : jv_Mem → Prop) : Option Value → jv_Mem → Prop := fun v g => v = none ∧ Q g
end
section
def jv_S1 : List jv_Kd := [
  .inr (8, [some (some 1), some (some 3), some (some 10), some (some 14), some (some 19), some (some 20), some (some 21), some (some 26), some (some 29), some none, some none, some none]),
  .inr (5, [some (some 2), some none]),
  .inl (0, 3, 0),
  .inr (7, [some (some 4), some (some 5), some (some 6), some (some 7), some (some 8), some (some 9), some none]),
  .inl (0, 30, 0),
  .inl (0, 90, 0),
  .inl (0, 30, 0),
  .inl (0, 30, 0),
  .inl (0, 1458, 0),
  .inl (0, 1458, 0),
  .inr (6, [some (some 11), some (some 12), some (some 13), some none, some none]),
  .inl (0, 9, 0),
  .inl (0, 3, 0),
  .inl (0, 3, 0),
  .inr (0, [some (some 15), some (some 16), some (some 17), some (some 18), some none]),
  .inl (0, 60, 0),
  .inl (0, 60, 0),
  .inl (0, 60, 0),
  .inl (0, 6, 0),
  .inl (3, 20, 20),
  .inl (4, 6, 6),
  .inr (1, [some (some 22), some (some 23), some (some 24), some (some 25), some none]),
  .inl (0, 1200, 0),
  .inl (0, 1200, 0),
  .inl (0, 1200, 0),
  .inl (0, 1200, 0),
  .inr (2, [some (some 27), some (some 28), some none]),
  .inl (0, 180, 0),
  .inl (1, 1252, 0),
  .inl (0, 20, 0)]
def jv_S2 : List jv_Kd := [
  .inr (9, [some (some 127), some none, some none, some (some 128), some (some 129), some (some 130), some (some 131), some (some 132), some none, some none, some (some 133), some none, some (some 134), some (some 135), some (some 136), some none, some none, some (some 137), some (some 138), some (some 139), some (some 140), some (some 141), some none, some (some 142), some (some 143), some (some 144), some (some 145), some (some 146), some (some 147), some none]),
  .inl (0, 3, 0),
  .inl (0, 729, 0),
  .inl (0, 30, 0),
  .inl (0, 30, 0),
  .inl (0, 30, 0),
  .inl (0, 9, 0),
  .inl (0, 3, 0),
  .inl (0, 60, 0),
  .inl (0, 60, 0),
  .inl (0, 60, 0),
  .inl (0, 20, 0),
  .inl (0, 180, 0),
  .inl (0, 120, 0),
  .inl (0, 20, 0),
  .inl (0, 6, 0),
  .inl (0, 6, 0),
  .inl (0, 6, 0),
  .inl (0, 1080, 0),
  .inl (0, 1080, 0),
  .inl (0, 120, 0),
  .inl (0, 7560, 0),
  .inl (2, 1, 0)]
/-- the places: 0..29 the house's own, then 20 puzzles of 3 cells, 6 solvers of 6 cells, from 126 on the reference's, last the law's row -/
def jv_SH : jv_Sh := fun i => if i < 0 then none else if i < 30 then jv_S1[i.toNat]? else if i < 90 then
    (if (i - 30) % 3 = 0 then some (.inr (3, [some (some (i + 1)), some (some (i + 2)), some none, some none, some none])) else if (i - 30) % 3 = 1 then some (.inl (0, 9, 0)) else some (.inl (0, 6, 0)))
  else if i < 126 then
    (if (i - 90) % 6 = 0 then some (.inr (4, [some (some (i + 1)), some (some (i + 4)), some (some (i + 5)), some none])) else if (i - 90) % 6 = 1 then some (.inr (2, [some (some (i + 1)), some (some (i + 2)), some none])) else if (i - 90) % 6 = 2 then some (.inl (0, 180, 0)) else if (i - 90) % 6 = 3 then some (.inl (1, 1252, 0)) else if (i - 90) % 6 = 4 then some (.inl (0, 180, 0)) else some (.inl (0, 20, 0)))
  else jv_S2[(i - 126).toNat]?
theorem sS_0 : jv_SH 0 = some (.inr (8, [some (some 1), some (some 3), some (some 10), some (some 14), some (some 19), some (some 20), some (some 21), some (some 26), some (some 29), some none, some none, some none])) := rfl
theorem sS_1 : jv_SH 1 = some (.inr (5, [some (some 2), some none])) := rfl
theorem sS_2 : jv_SH 2 = some (.inl (0, 3, 0)) := rfl
theorem sS_3 : jv_SH 3 = some (.inr (7, [some (some 4), some (some 5), some (some 6), some (some 7), some (some 8), some (some 9), some none])) := rfl
theorem sS_4 : jv_SH 4 = some (.inl (0, 30, 0)) := rfl
theorem sS_5 : jv_SH 5 = some (.inl (0, 90, 0)) := rfl
theorem sS_6 : jv_SH 6 = some (.inl (0, 30, 0)) := rfl
theorem sS_7 : jv_SH 7 = some (.inl (0, 30, 0)) := rfl
theorem sS_8 : jv_SH 8 = some (.inl (0, 1458, 0)) := rfl
theorem sS_9 : jv_SH 9 = some (.inl (0, 1458, 0)) := rfl
theorem sS_10 : jv_SH 10 = some (.inr (6, [some (some 11), some (some 12), some (some 13), some none, some none])) := rfl
theorem sS_11 : jv_SH 11 = some (.inl (0, 9, 0)) := rfl
theorem sS_12 : jv_SH 12 = some (.inl (0, 3, 0)) := rfl
theorem sS_13 : jv_SH 13 = some (.inl (0, 3, 0)) := rfl
theorem sS_14 : jv_SH 14 = some (.inr (0, [some (some 15), some (some 16), some (some 17), some (some 18), some none])) := rfl
theorem sS_15 : jv_SH 15 = some (.inl (0, 60, 0)) := rfl
theorem sS_16 : jv_SH 16 = some (.inl (0, 60, 0)) := rfl
theorem sS_17 : jv_SH 17 = some (.inl (0, 60, 0)) := rfl
theorem sS_18 : jv_SH 18 = some (.inl (0, 6, 0)) := rfl
theorem sS_19 : jv_SH 19 = some (.inl (3, 20, 20)) := rfl
theorem sS_20 : jv_SH 20 = some (.inl (4, 6, 6)) := rfl
theorem sS_21 : jv_SH 21 = some (.inr (1, [some (some 22), some (some 23), some (some 24), some (some 25), some none])) := rfl
theorem sS_22 : jv_SH 22 = some (.inl (0, 1200, 0)) := rfl
theorem sS_23 : jv_SH 23 = some (.inl (0, 1200, 0)) := rfl
theorem sS_24 : jv_SH 24 = some (.inl (0, 1200, 0)) := rfl
theorem sS_25 : jv_SH 25 = some (.inl (0, 1200, 0)) := rfl
theorem sS_26 : jv_SH 26 = some (.inr (2, [some (some 27), some (some 28), some none])) := rfl
theorem sS_27 : jv_SH 27 = some (.inl (0, 180, 0)) := rfl
theorem sS_28 : jv_SH 28 = some (.inl (1, 1252, 0)) := rfl
theorem sS_29 : jv_SH 29 = some (.inl (0, 20, 0)) := rfl
theorem sS_126 : jv_SH 126 = some (.inr (9, [some (some 127), some none, some none, some (some 128), some (some 129), some (some 130), some (some 131), some (some 132), some none, some none, some (some 133), some none, some (some 134), some (some 135), some (some 136), some none, some none, some (some 137), some (some 138), some (some 139), some (some 140), some (some 141), some none, some (some 142), some (some 143), some (some 144), some (some 145), some (some 146), some (some 147), some none])) := rfl
theorem sS_127 : jv_SH 127 = some (.inl (0, 3, 0)) := rfl
theorem sS_128 : jv_SH 128 = some (.inl (0, 729, 0)) := rfl
theorem sS_129 : jv_SH 129 = some (.inl (0, 30, 0)) := rfl
theorem sS_130 : jv_SH 130 = some (.inl (0, 30, 0)) := rfl
theorem sS_131 : jv_SH 131 = some (.inl (0, 30, 0)) := rfl
theorem sS_132 : jv_SH 132 = some (.inl (0, 9, 0)) := rfl
theorem sS_133 : jv_SH 133 = some (.inl (0, 3, 0)) := rfl
theorem sS_134 : jv_SH 134 = some (.inl (0, 60, 0)) := rfl
theorem sS_135 : jv_SH 135 = some (.inl (0, 60, 0)) := rfl
theorem sS_136 : jv_SH 136 = some (.inl (0, 60, 0)) := rfl
theorem sS_137 : jv_SH 137 = some (.inl (0, 20, 0)) := rfl
theorem sS_138 : jv_SH 138 = some (.inl (0, 180, 0)) := rfl
theorem sS_139 : jv_SH 139 = some (.inl (0, 120, 0)) := rfl
theorem sS_140 : jv_SH 140 = some (.inl (0, 20, 0)) := rfl
theorem sS_141 : jv_SH 141 = some (.inl (0, 6, 0)) := rfl
theorem sS_142 : jv_SH 142 = some (.inl (0, 6, 0)) := rfl
theorem sS_143 : jv_SH 143 = some (.inl (0, 6, 0)) := rfl
theorem sS_144 : jv_SH 144 = some (.inl (0, 1080, 0)) := rfl
theorem sS_145 : jv_SH 145 = some (.inl (0, 1080, 0)) := rfl
theorem sS_146 : jv_SH 146 = some (.inl (0, 120, 0)) := rfl
theorem sS_147 : jv_SH 147 = some (.inl (0, 7560, 0)) := rfl
theorem sS_148 : jv_SH 148 = some (.inl (2, 1, 0)) := rfl
def jv_isPg (t : Int) : Prop := jv_SH t = some (.inr (2, [some (some (t + 1)), some (some (t + 2)), some none])) ∧ jv_SH (t + 1) = some (.inl (0, 180, 0)) ∧ jv_SH (t + 2) = some (.inl (1, 1252, 0))
def jv_isPz (t : Int) : Prop := jv_SH t = some (.inr (3, [some (some (t + 1)), some (some (t + 2)), some none, some none, some none])) ∧ jv_SH (t + 1) = some (.inl (0, 9, 0)) ∧ jv_SH (t + 2) = some (.inl (0, 6, 0))
def jv_isSv (t : Int) : Prop := jv_SH t = some (.inr (4, [some (some (t + 1)), some (some (t + 4)), some (some (t + 5)), some none])) ∧ jv_SH (t + 4) = some (.inl (0, 180, 0)) ∧ jv_SH (t + 5) = some (.inl (0, 20, 0)) ∧ jv_isPg (t + 1)
theorem jv_pg26 : jv_isPg 26 := ⟨rfl, rfl, rfl⟩
theorem jv_pz {x : Int} (h0 : 0 ≤ x) (h1 : x < 20) : jv_isPz (30 + 3 * x) := by
  have e : ∀ d : Int, 0 ≤ d → d < 3 → (30 + 3 * x + d - 30) % 3 = d := fun d a b => by omega
  have e0 := e 0 (by omega) (by omega)
  have e1 := e 1 (by omega) (by omega)
  have e2 := e 2 (by omega) (by omega)
  simp only [Int.add_zero] at e0
  have a : ∀ d : Int, 0 ≤ d → d < 3 → ¬ (30 + 3 * x + d < 0) ∧ ¬ (30 + 3 * x + d < 30) ∧ 30 + 3 * x + d < 90 := fun d a b => by omega
  have a0 := a 0 (by omega) (by omega)
  simp only [Int.add_zero] at a0
  have a1 := a 1 (by omega) (by omega)
  have a2 := a 2 (by omega) (by omega)
  refine ⟨?_, ?_, ?_⟩
  · unfold jv_SH; rw [if_neg a0.1, if_neg a0.2.1, if_pos a0.2.2, if_pos e0]
  · unfold jv_SH; rw [if_neg a1.1, if_neg a1.2.1, if_pos a1.2.2, if_neg (by rw [e1]; decide), if_pos e1]
  · unfold jv_SH; rw [if_neg a2.1, if_neg a2.2.1, if_pos a2.2.2, if_neg (by rw [e2]; decide), if_neg (by rw [e2]; decide)]
theorem jv_sv {x : Int} (h0 : 0 ≤ x) (h1 : x < 6) : jv_isSv (90 + 6 * x) := by
  have e : ∀ d : Int, 0 ≤ d → d < 6 → (90 + 6 * x + d - 90) % 6 = d := fun d a b => by omega
  have a : ∀ d : Int, 0 ≤ d → d < 6 → ¬ (90 + 6 * x + d < 0) ∧ ¬ (90 + 6 * x + d < 30) ∧ ¬ (90 + 6 * x + d < 90) ∧ 90 + 6 * x + d < 126 := fun d a b => by omega
  have e0 := e 0 (by omega) (by omega)
  have a0 := a 0 (by omega) (by omega)
  simp only [Int.add_zero] at e0 a0
  have e1 := e 1 (by omega) (by omega)
  have a1 := a 1 (by omega) (by omega)
  have e2 := e 2 (by omega) (by omega)
  have a2 := a 2 (by omega) (by omega)
  have e3 := e 3 (by omega) (by omega)
  have a3 := a 3 (by omega) (by omega)
  have e4 := e 4 (by omega) (by omega)
  have a4 := a 4 (by omega) (by omega)
  have e5 := e 5 (by omega) (by omega)
  have a5 := a 5 (by omega) (by omega)
  have s1 : 90 + 6 * x + 1 + 1 = 90 + 6 * x + 2 := by omega
  have s2 : 90 + 6 * x + 1 + 2 = 90 + 6 * x + 3 := by omega
  refine ⟨?_, ?_, ?_, ?_, ?_, ?_⟩
  · unfold jv_SH; rw [if_neg a0.1, if_neg a0.2.1, if_neg a0.2.2.1, if_pos a0.2.2.2, if_pos e0]
  · unfold jv_SH; rw [if_neg a4.1, if_neg a4.2.1, if_neg a4.2.2.1, if_pos a4.2.2.2, if_neg (by rw [e4]; decide), if_neg (by rw [e4]; decide), if_neg (by rw [e4]; decide), if_neg (by rw [e4]; decide), if_pos e4]
  · unfold jv_SH; rw [if_neg a5.1, if_neg a5.2.1, if_neg a5.2.2.1, if_pos a5.2.2.2, if_neg (by rw [e5]; decide), if_neg (by rw [e5]; decide), if_neg (by rw [e5]; decide), if_neg (by rw [e5]; decide), if_neg (by rw [e5]; decide)]
  · unfold jv_SH; rw [if_neg a1.1, if_neg a1.2.1, if_neg a1.2.2.1, if_pos a1.2.2.2, if_neg (by rw [e1]; decide), if_pos e1]
  · rw [s1]; unfold jv_SH; rw [if_neg a2.1, if_neg a2.2.1, if_neg a2.2.2.1, if_pos a2.2.2.2, if_neg (by rw [e2]; decide), if_neg (by rw [e2]; decide), if_pos e2]
  · rw [s2]; unfold jv_SH; rw [if_neg a3.1, if_neg a3.2.1, if_neg a3.2.2.1, if_pos a3.2.2.2, if_neg (by rw [e3]; decide), if_neg (by rw [e3]; decide), if_neg (by rw [e3]; decide), if_pos e3]
theorem jv_raP {B : Nat} {x : Int} (h : 0 ≤ x) : B + jv_ra 0 x.toNat = B + (30 + 3 * x).toNat := by simp only [jv_ra]; omega
theorem jv_raS {B : Nat} {x : Int} (h : 0 ≤ x) : B + jv_ra 1 x.toNat = B + (90 + 6 * x).toNat := by simp only [jv_ra]; omega
section JVS
variable {p : Program} {l : Launch} {e : Env} {R : Room} {s : State} {m : MethodId} {args : Array Value} {below : List Frame} {meth : Method} {c : Code} {cells slots : Nat} {Z : State → Prop} {s0 : State} {b0 : Addr} {D : va_G} {ids : Nat → ClassId} {ex : Option Nat} {g : jv_Mem} {pc : Nat} {ls ls' : List (Option Value)} {st : List Value} {cc : ByteArray} {own : String}
theorem jv_aaldP (C : jv_C p s m args c cc own s0 b0 D ids) {x : Int} (hb : 0 ≤ x ∧ x < 20) (hd : decode cc pc = .ok (.aaload, 1)) (k : jv_V p l e R s m args below meth c cells slots Z s0 D ids ex jv_SH g (pc + 1) ls (.ref (s0.heap.size + (30 + 3 * x).toNat) :: st)) : jv_V p l e R s m args below meth c cells slots Z s0 D ids ex jv_SH g pc ls (jv_i x :: .ref (s0.heap.size + (19 : Int).toNat) :: st) :=
  jv_aald C (cn := 0) (by decide) sS_19 rfl hb hb.2 hd (by rw [jv_raP hb.1]; exact k)
theorem jv_aaldS (C : jv_C p s m args c cc own s0 b0 D ids) {x : Int} (hb : 0 ≤ x ∧ x < 6) (hd : decode cc pc = .ok (.aaload, 1)) (k : jv_V p l e R s m args below meth c cells slots Z s0 D ids ex jv_SH g (pc + 1) ls (.ref (s0.heap.size + (90 + 6 * x).toNat) :: st)) : jv_V p l e R s m args below meth c cells slots Z s0 D ids ex jv_SH g pc ls (jv_i x :: .ref (s0.heap.size + (20 : Int).toNat) :: st) :=
  jv_aald C (cn := 1) (by decide) sS_20 rfl hb hb.2 hd (by rw [jv_raS hb.1]; exact k)
end JVS
end
section
theorem jv_lc0 (a b : Int64) : lg_cmp a b = 0 ↔ a = b := by
  unfold lg_cmp
  by_cases h1 : b < a
  · rw [if_pos h1]
    constructor
    · intro h; exact absurd h (by decide)
    · intro h; subst h; rw [Int64.lt_iff_toInt_lt] at h1; omega
  · rw [if_neg h1]
    by_cases h2 : a = b
    · simp [h2]
    · simp [h2]
section JVX
variable {p : Program} {l : Launch} {e : Env} {R : Room} {s : State} {m : MethodId} {args : Array Value} {below : List Frame} {meth : Method} {c : Code} {cells slots : Nat} {Z : State → Prop} {s0 : State} {b0 : Addr} {D : va_G} {ids : Nat → ClassId} {ex ex' : Option Nat} {sh sh' : jv_Sh} {g : jv_Mem} {pc : Nat} {ls ls' : List (Option Value)} {st st0 : List Value} {cc : ByteArray} {own : String}
variable {y : MethodName} {cb : ByteArray} {mL : Nat} {rt : Option FieldType} {fr lo mc ms n idx : Nat}
theorem jv_iincn (C : jv_C p s m args c cc own s0 b0 D ids) {j : Nat} {n x : Int} (hd : decode cc pc = .ok (.iinc j n, 3)) (hn : j < c.maxLocals) (hg : ls[j]? = some (some (jv_i x))) (k : ∀ v : Int, v = x + n → jv_V p l e R s m args below meth c cells slots Z s0 D ids ex sh g (pc + 3) (ls.set j (some (jv_i v))) st) : jv_V p l e R s m args below meth c cells slots Z s0 D ids ex sh g pc ls st := jv_iinc C hd hn hg rfl (k _ rfl)
theorem jv_lset (h : ls = ls') (k : jv_V p l e R s m args below meth c cells slots Z s0 D ids ex sh g pc ls' st) : jv_V p l e R s m args below meth c cells slots Z s0 D ids ex sh g pc ls st := by rw [h]; exact k
theorem jv_i2c (C : jv_C p s m args c cc own s0 b0 D ids) {x : Int} (hb : 0 ≤ x ∧ x < 65536) (hd : decode cc pc = .ok (.i2c, 1)) (k : jv_V p l e R s m args below meth c cells slots Z s0 D ids ex sh g (pc + 1) ls (jv_i x :: st)) : jv_V p l e R s m args below meth c cells slots Z s0 D ids ex sh g pc ls (jv_i x :: st) := by
  intro H locs arr h1 h2 h3 h4
  refine lv_i2c C.1 C.2.1 hd ?_ (k H locs arr h1 h2 h3 h4)
  have hx : x = ((x.toNat : Nat) : Int) := by omega
  have hn : x.toNat < 65536 := by omega
  rw [hx]
  have e : Int32.ofInt ((x.toNat : Nat) : Int) = nI x.toNat := rfl
  rw [e, pk_char, pk_tn (by omega), Nat.mod_eq_of_lt hn]
theorem jv_i2l (C : jv_C p s m args c cc own s0 b0 D ids) {x : Int} (hr : jv_r x) (hd : decode cc pc = .ok (.i2l, 1)) (k : jv_V p l e R s m args below meth c cells slots Z s0 D ids ex sh g (pc + 1) ls (.long (Int64.ofInt x) :: st)) : jv_V p l e R s m args below meth c cells slots Z s0 D ids ex sh g pc ls (jv_i x :: st) := by
  intro H locs arr h1 h2 h3 h4
  refine lv_i2l C.1 C.2.1 hd ?_ (k H locs arr h1 h2 h3 h4)
  apply Int64.toInt_inj.mp
  rw [Int32.toInt_toInt64, hr.to, Int64.toInt_ofInt_of_le (by have := hr.1; omega) (by have := hr.2; omega)]
theorem jv_lconst (C : jv_C p s m args c cc own s0 b0 D ids) {n : Fin 2} (hd : decode cc pc = .ok (.lconst n, 1)) (k : jv_V p l e R s m args below meth c cells slots Z s0 D ids ex sh g (pc + 1) ls (.long (Int64.ofInt ((n : Nat) : Int)) :: st)) : jv_V p l e R s m args below meth c cells slots Z s0 D ids ex sh g pc ls st :=
  fun H locs arr h1 h2 h3 h4 => lv_lconst C.1 C.2.1 hd rfl (k H locs arr h1 h2 h3 h4)
/-- two longs are compared, and if they differ (are the same) .. -/
theorem jv_lne (C : jv_C p s m args c cc own s0 b0 D ids) {x z off : Int} {tgt : Nat} (hx : jv_r x) (hz : jv_r z) (hd : decode cc pc = .ok (.lcmp, 1)) (hd2 : decode cc (pc + 1) = .ok (.ifCond .ne off, 3)) (ht : ((pc + 1 : Nat) : Int) + off = (tgt : Int)) (kt : ¬ x = z → jv_V p l e R s m args below meth c cells slots Z s0 D ids ex sh g tgt ls st) (kf : x = z → jv_V p l e R s m args below meth c cells slots Z s0 D ids ex sh g (pc + 1 + 3) ls st) : jv_V p l e R s m args below meth c cells slots Z s0 D ids ex sh g pc ls (.long (Int64.ofInt z) :: .long (Int64.ofInt x) :: st) := by
  intro H locs arr h1 h2 h3 h4
  have ex : (Int64.ofInt x).toInt = x := Int64.toInt_ofInt_of_le (by have := hx.1; omega) (by have := hx.2; omega)
  have ez : (Int64.ofInt z).toInt = z := Int64.toInt_ofInt_of_le (by have := hz.1; omega) (by have := hz.2; omega)
  have e : lg_cmp (Int64.ofInt x) (Int64.ofInt z) = 0 ↔ x = z := by
    rw [jv_lc0]
    exact ⟨fun h => by rw [← ex, ← ez, h], fun h => by rw [h]⟩
  refine W.lcmp C.1 C.2.1 hd ?_
  refine lv_if_ne C.1 C.2.1 hd2 ht (fun h => kt (fun h' => h (e.mpr h')) H locs arr h1 h2 h3 h4) (fun h => kf (e.mp h) H locs arr h1 h2 h3 h4)
theorem jv_leq (C : jv_C p s m args c cc own s0 b0 D ids) {x z off : Int} {tgt : Nat} (hx : jv_r x) (hz : jv_r z) (hd : decode cc pc = .ok (.lcmp, 1)) (hd2 : decode cc (pc + 1) = .ok (.ifCond .eq off, 3)) (ht : ((pc + 1 : Nat) : Int) + off = (tgt : Int)) (kt : x = z → jv_V p l e R s m args below meth c cells slots Z s0 D ids ex sh g tgt ls st) (kf : ¬ x = z → jv_V p l e R s m args below meth c cells slots Z s0 D ids ex sh g (pc + 1 + 3) ls st) : jv_V p l e R s m args below meth c cells slots Z s0 D ids ex sh g pc ls (.long (Int64.ofInt z) :: .long (Int64.ofInt x) :: st) := by
  intro H locs arr h1 h2 h3 h4
  have ex : (Int64.ofInt x).toInt = x := Int64.toInt_ofInt_of_le (by have := hx.1; omega) (by have := hx.2; omega)
  have ez : (Int64.ofInt z).toInt = z := Int64.toInt_ofInt_of_le (by have := hz.1; omega) (by have := hz.2; omega)
  have e : lg_cmp (Int64.ofInt x) (Int64.ofInt z) = 0 ↔ x = z := by
    rw [jv_lc0]
    exact ⟨fun h => by rw [← ex, ← ez, h], fun h => by rw [h]⟩
  refine W.lcmp C.1 C.2.1 hd ?_
  refine lv_if_eq C.1 C.2.1 hd2 ht (fun h => kt (e.mp h) H locs arr h1 h2 h3 h4) (fun h => kf (fun h' => h (e.mpr h')) H locs arr h1 h2 h3 h4)
end JVX
theorem jv_nz {x : Int} (h : x = 0 ∨ x = 1) : narrow .boolean (jv_i x) = jv_i x := by rcases h with rfl | rfl <;> rfl
theorem jv_nc {x : Int} (h : 0 ≤ x ∧ x < 65536) : narrow .char (jv_i x) = jv_i x := by
  have hx : x = ((x.toNat : Nat) : Int) := by omega
  have hn : x.toNat < 65536 := by omega
  rw [hx]
  exact (pk_charN hn).1
section JVY
variable {p : Program} {l : Launch} {e : Env} {R : Room} {s : State} {m : MethodId} {args : Array Value} {below : List Frame} {meth : Method} {c : Code} {cells slots : Nat} {Z : State → Prop} {s0 : State} {b0 : Addr} {D : va_G} {ids : Nat → ClassId} {ex : Option Nat} {sh : jv_Sh} {g : jv_Mem} {pc : Nat} {ls ls' : List (Option Value)} {st st0 : List Value} {cc : ByteArray} {own : String}
variable {y : MethodName} {cb : ByteArray} {mL : Nat} {rt : Option FieldType} {fr lo mc ms n idx : Nat} {X : String → jv_Mem → Prop} {As : List Value} {host : String}
theorem jv_callVi (C : jv_C p s m args c cc own s0 b0 D ids) {i : Int} {ci : Nat} {ds : List (Option (Option Int))} {Q : Int → jv_Mem → Prop} (M : jv_M l s0 b0 D ids y cb mL rt fr lo 0 0 ex sh g (.ref (s0.heap.size + i.toNat) :: As) ex sh (jv_qi Q)) (hK : jv_KV own idx y cb mL rt n) (hs : sh i = some (.inr (ci, ds))) (hcn : (vwCl[ci]?).map (fun q => q.1) = some y.cls) (hn : As.length = n) (hR : Nat.ble (fr + 1) R.frames = true ∧ Nat.ble (8 + (mL + 11) + lo) R.locals = true) (hst : st0 = As.reverse ++ .ref (s0.heap.size + i.toNat) :: st) (hroom : Nat.ble (st.map fun v => v.category).sum 8 = true) (hf : Nat.ble (cells + 0) R.cells = true ∧ Nat.ble (slots + 0) R.slots = true) (hd : decode cc pc = .ok (.invokevirtual idx, 3)) (k : ∀ (r : Int) (g' : jv_Mem), Q r g' → jv_V p l e R s m args below meth c cells slots Z s0 D ids ex sh g' (pc + 3) ls (jv_i r :: st)) : jv_V p l e R s m args below meth c cells slots Z s0 D ids ex sh g pc ls st0 :=
  jv_callV C M hK hs hcn hn hR hst hroom hf hd (fun v g' hq => by obtain ⟨r, rfl, hq⟩ := hq; exact k r g' hq)
theorem jv_callVv (C : jv_C p s m args c cc own s0 b0 D ids) {i : Int} {ci : Nat} {ds : List (Option (Option Int))} {Q : jv_Mem → Prop} (M : jv_M l s0 b0 D ids y cb mL rt fr lo 0 0 ex sh g (.ref (s0.heap.size + i.toNat) :: As) ex sh (jv_qv Q)) (hK : jv_KV own idx y cb mL rt n) (hs : sh i = some (.inr (ci, ds))) (hcn : (vwCl[ci]?).map (fun q => q.1) = some y.cls) (hn : As.length = n) (hR : Nat.ble (fr + 1) R.frames = true ∧ Nat.ble (8 + (mL + 11) + lo) R.locals = true) (hst : st0 = As.reverse ++ .ref (s0.heap.size + i.toNat) :: st) (hroom : Nat.ble (st.map fun v => v.category).sum 8 = true) (hf : Nat.ble (cells + 0) R.cells = true ∧ Nat.ble (slots + 0) R.slots = true) (hd : decode cc pc = .ok (.invokevirtual idx, 3)) (k : ∀ g' : jv_Mem, Q g' → jv_V p l e R s m args below meth c cells slots Z s0 D ids ex sh g' (pc + 3) ls st) : jv_V p l e R s m args below meth c cells slots Z s0 D ids ex sh g pc ls st0 :=
  jv_callV C M hK hs hcn hn hR hst hroom hf hd (fun v g' hq => by obtain ⟨rfl, hq⟩ := hq; exact k g' hq)
theorem jv_callVXi (C : jv_C p s m args c cc own s0 b0 D ids) {i : Int} {ci : Nat} {ds : List (Option (Option Int))} {Q : Int → jv_Mem → Prop} (M : jv_MX l s0 b0 D ids y cb mL rt fr lo mc ms sh g (.ref (s0.heap.size + i.toNat) :: As) (jv_qi Q) X) (hK : jv_KV own idx y cb mL rt n) (hs : sh i = some (.inr (ci, ds))) (hcn : (vwCl[ci]?).map (fun q => q.1) = some y.cls) (hn : As.length = n) (hR : Nat.ble (fr + 1) R.frames = true ∧ Nat.ble (8 + (mL + 11) + lo) R.locals = true) (hst : st0 = As.reverse ++ .ref (s0.heap.size + i.toNat) :: st) (hroom : Nat.ble (st.map fun v => v.category).sum 8 = true) (hf : Nat.ble (cells + mc) R.cells = true ∧ Nat.ble (slots + ms) R.slots = true) (hd : decode cc pc = .ok (.invokevirtual idx, 3)) (k : ∀ (r : Int) (g' : jv_Mem), Q r g' → jv_V p l e R s m args below meth c (cells + mc) (slots + ms) Z s0 D ids none sh g' (pc + 3) ls (jv_i r :: st)) (kx : ∀ (E : String) (g' : jv_Mem), X E g' → jv_VX p l e R s m args below meth c (cells + mc) (slots + ms) Z s0 D ids sh g' pc ls st E) : jv_V p l e R s m args below meth c cells slots Z s0 D ids none sh g pc ls st0 :=
  jv_callVX C M hK hs hcn hn hR hst hroom hf hd (fun v g' hq => by obtain ⟨r, rfl, hq⟩ := hq; exact k r g' hq) kx
theorem jv_callVXv (C : jv_C p s m args c cc own s0 b0 D ids) {i : Int} {ci : Nat} {ds : List (Option (Option Int))} {Q : jv_Mem → Prop} (M : jv_MX l s0 b0 D ids y cb mL rt fr lo mc ms sh g (.ref (s0.heap.size + i.toNat) :: As) (jv_qv Q) X) (hK : jv_KV own idx y cb mL rt n) (hs : sh i = some (.inr (ci, ds))) (hcn : (vwCl[ci]?).map (fun q => q.1) = some y.cls) (hn : As.length = n) (hR : Nat.ble (fr + 1) R.frames = true ∧ Nat.ble (8 + (mL + 11) + lo) R.locals = true) (hst : st0 = As.reverse ++ .ref (s0.heap.size + i.toNat) :: st) (hroom : Nat.ble (st.map fun v => v.category).sum 8 = true) (hf : Nat.ble (cells + mc) R.cells = true ∧ Nat.ble (slots + ms) R.slots = true) (hd : decode cc pc = .ok (.invokevirtual idx, 3)) (k : ∀ g' : jv_Mem, Q g' → jv_V p l e R s m args below meth c (cells + mc) (slots + ms) Z s0 D ids none sh g' (pc + 3) ls st) (kx : ∀ (E : String) (g' : jv_Mem), X E g' → jv_VX p l e R s m args below meth c (cells + mc) (slots + ms) Z s0 D ids sh g' pc ls st E) : jv_V p l e R s m args below meth c cells slots Z s0 D ids none sh g pc ls st0 :=
  jv_callVX C M hK hs hcn hn hR hst hroom hf hd (fun v g' hq => by obtain ⟨rfl, hq⟩ := hq; exact k g' hq) kx
theorem jv_callSi (C : jv_C p s m args c cc own s0 b0 D ids) {Q : Int → jv_Mem → Prop} (M : jv_M l s0 b0 D ids y cb mL rt fr lo 0 0 ex sh g As ex sh (jv_qi Q)) (hK : jv_KS own idx y cb mL rt n) (hn : As.length = n) (hR : Nat.ble (fr + 1) R.frames = true ∧ Nat.ble (8 + (mL + 11) + lo) R.locals = true) (hst : st0 = As.reverse ++ st) (hroom : Nat.ble (st.map fun v => v.category).sum 8 = true) (hf : Nat.ble (cells + 0) R.cells = true ∧ Nat.ble (slots + 0) R.slots = true) (hd : decode cc pc = .ok (.invokestatic idx, 3)) (k : ∀ (r : Int) (g' : jv_Mem), Q r g' → jv_V p l e R s m args below meth c cells slots Z s0 D ids ex sh g' (pc + 3) ls (jv_i r :: st)) : jv_V p l e R s m args below meth c cells slots Z s0 D ids ex sh g pc ls st0 :=
  jv_callS C M hK hn hR hst hroom hf hd (fun v g' hq => by obtain ⟨r, rfl, hq⟩ := hq; exact k r g' hq)
theorem jv_callSv (C : jv_C p s m args c cc own s0 b0 D ids) {Q : jv_Mem → Prop} (M : jv_M l s0 b0 D ids y cb mL rt fr lo 0 0 ex sh g As ex sh (jv_qv Q)) (hK : jv_KS own idx y cb mL rt n) (hn : As.length = n) (hR : Nat.ble (fr + 1) R.frames = true ∧ Nat.ble (8 + (mL + 11) + lo) R.locals = true) (hst : st0 = As.reverse ++ st) (hroom : Nat.ble (st.map fun v => v.category).sum 8 = true) (hf : Nat.ble (cells + 0) R.cells = true ∧ Nat.ble (slots + 0) R.slots = true) (hd : decode cc pc = .ok (.invokestatic idx, 3)) (k : ∀ g' : jv_Mem, Q g' → jv_V p l e R s m args below meth c cells slots Z s0 D ids ex sh g' (pc + 3) ls st) : jv_V p l e R s m args below meth c cells slots Z s0 D ids ex sh g pc ls st0 :=
  jv_callS C M hK hn hR hst hroom hf hd (fun v g' hq => by obtain ⟨rfl, hq⟩ := hq; exact k g' hq)
theorem jv_callSXi (C : jv_C p s m args c cc own s0 b0 D ids) {Q : Int → jv_Mem → Prop} (M : jv_MX l s0 b0 D ids y cb mL rt fr lo mc ms sh g As (jv_qi Q) X) (hK : jv_KS own idx y cb mL rt n) (hn : As.length = n) (hR : Nat.ble (fr + 1) R.frames = true ∧ Nat.ble (8 + (mL + 11) + lo) R.locals = true) (hst : st0 = As.reverse ++ st) (hroom : Nat.ble (st.map fun v => v.category).sum 8 = true) (hf : Nat.ble (cells + mc) R.cells = true ∧ Nat.ble (slots + ms) R.slots = true) (hd : decode cc pc = .ok (.invokestatic idx, 3)) (k : ∀ (r : Int) (g' : jv_Mem), Q r g' → jv_V p l e R s m args below meth c (cells + mc) (slots + ms) Z s0 D ids none sh g' (pc + 3) ls (jv_i r :: st)) (kx : ∀ (E : String) (g' : jv_Mem), X E g' → jv_VX p l e R s m args below meth c (cells + mc) (slots + ms) Z s0 D ids sh g' pc ls st E) : jv_V p l e R s m args below meth c cells slots Z s0 D ids none sh g pc ls st0 :=
  jv_callSX C M hK hn hR hst hroom hf hd (fun v g' hq => by obtain ⟨r, rfl, hq⟩ := hq; exact k r g' hq) kx
theorem jv_callSXv (C : jv_C p s m args c cc own s0 b0 D ids) {Q : jv_Mem → Prop} (M : jv_MX l s0 b0 D ids y cb mL rt fr lo mc ms sh g As (jv_qv Q) X) (hK : jv_KS own idx y cb mL rt n) (hn : As.length = n) (hR : Nat.ble (fr + 1) R.frames = true ∧ Nat.ble (8 + (mL + 11) + lo) R.locals = true) (hst : st0 = As.reverse ++ st) (hroom : Nat.ble (st.map fun v => v.category).sum 8 = true) (hf : Nat.ble (cells + mc) R.cells = true ∧ Nat.ble (slots + ms) R.slots = true) (hd : decode cc pc = .ok (.invokestatic idx, 3)) (k : ∀ g' : jv_Mem, Q g' → jv_V p l e R s m args below meth c (cells + mc) (slots + ms) Z s0 D ids none sh g' (pc + 3) ls st) (kx : ∀ (E : String) (g' : jv_Mem), X E g' → jv_VX p l e R s m args below meth c (cells + mc) (slots + ms) Z s0 D ids sh g' pc ls st E) : jv_V p l e R s m args below meth c cells slots Z s0 D ids none sh g pc ls st0 :=
  jv_callSX C M hK hn hR hst hroom hf hd (fun v g' hq => by obtain ⟨rfl, hq⟩ := hq; exact k g' hq) kx
theorem jv_callSNi (C : jv_C p s m args c cc own s0 b0 D ids) {Q : Int → jv_Mem → Prop} (M : jv_M l s0 b0 D ids y cb mL rt fr lo 0 0 ex sh g As ex sh (jv_qi Q)) (hK : jv_KSN own idx y host cb mL rt n) (hn : As.length = n) (hR : Nat.ble (fr + 1) R.frames = true ∧ Nat.ble (8 + (mL + 11) + lo) R.locals = true) (hst : st0 = As.reverse ++ st) (hroom : Nat.ble (st.map fun v => v.category).sum 8 = true) (hf : Nat.ble (cells + 0) R.cells = true ∧ Nat.ble (slots + 0) R.slots = true) (hd : decode cc pc = .ok (.invokestatic idx, 3)) (k : ∀ (r : Int) (g' : jv_Mem), Q r g' → jv_V p l e R s m args below meth c cells slots Z s0 D ids ex sh g' (pc + 3) ls (jv_i r :: st)) : jv_V p l e R s m args below meth c cells slots Z s0 D ids ex sh g pc ls st0 :=
  jv_callSN C M hK hn hR hst hroom hf hd (fun v g' hq => by obtain ⟨r, rfl, hq⟩ := hq; exact k r g' hq)
theorem jv_callSNv (C : jv_C p s m args c cc own s0 b0 D ids) {Q : jv_Mem → Prop} (M : jv_M l s0 b0 D ids y cb mL rt fr lo 0 0 ex sh g As ex sh (jv_qv Q)) (hK : jv_KSN own idx y host cb mL rt n) (hn : As.length = n) (hR : Nat.ble (fr + 1) R.frames = true ∧ Nat.ble (8 + (mL + 11) + lo) R.locals = true) (hst : st0 = As.reverse ++ st) (hroom : Nat.ble (st.map fun v => v.category).sum 8 = true) (hf : Nat.ble (cells + 0) R.cells = true ∧ Nat.ble (slots + 0) R.slots = true) (hd : decode cc pc = .ok (.invokestatic idx, 3)) (k : ∀ g' : jv_Mem, Q g' → jv_V p l e R s m args below meth c cells slots Z s0 D ids ex sh g' (pc + 3) ls st) : jv_V p l e R s m args below meth c cells slots Z s0 D ids ex sh g pc ls st0 :=
  jv_callSN C M hK hn hR hst hroom hf hd (fun v g' hq => by obtain ⟨rfl, hq⟩ := hq; exact k g' hq)
end JVY
end
section
theorem jv_tm {w : Cond} {k : Nat} (h : tables_1[k]? = some w) : w ∈ lw_tbl := List.mem_append_right _ (List.mem_of_getElem? h)
theorem jv_tp {w : Cond} {k : Nat} (h : (k2_sels lw_privs)[k]? = some w) : w ∈ lw_tbl := List.mem_append_left _ (List.mem_of_getElem? h)
theorem ku_X0 : ∀ w ∈ u_ws RX0 TX0 5, w ∈ jv_tb := by decide +kernel
theorem ku_X1 : ∀ w ∈ u_ws RX1 TX1 5, w ∈ jv_tb := by decide +kernel
theorem ku_X2 : ∀ w ∈ u_ws RX2 TX2 3, w ∈ jv_tb := by decide +kernel
theorem ku_X3 : ∀ w ∈ u_ws RX3 TX3 5, w ∈ jv_tb := by decide +kernel
theorem ku_X4 : ∀ w ∈ u_ws RX4 TX4 4, w ∈ jv_tb := by decide +kernel
theorem ku_X5 : ∀ w ∈ u_ws RX5 TX5 2, w ∈ jv_tb := by decide +kernel
theorem ku_X6 : ∀ w ∈ u_ws RX6 TX6 5, w ∈ jv_tb := by decide +kernel
theorem ku_X7 : ∀ w ∈ u_ws RX7 TX7 7, w ∈ jv_tb := by decide +kernel
theorem ku_X8 : ∀ w ∈ u_ws RX8 TX8 12, w ∈ jv_tb := by decide +kernel
theorem ku_X9 : ∀ w ∈ u_ws RX9 TX9 30, w ∈ jv_tb := by decide +kernel
theorem kf_X0_9 : jv_F RX0 9 0 0 (.array .int) true := ⟨RX0, TX0, 5, tyX0, rfl, ku_X0, by decide, (jv_tb_in (jv_tm (k := 102) (by decide +kernel)) (by decide +kernel)), by decide +kernel, rfl, tyX0_ok, nmX0, (fun _ => rfl)⟩
theorem kf_X0_15 : jv_F RX0 15 0 1 (.array .int) true := ⟨RX0, TX0, 5, tyX0, rfl, ku_X0, by decide, (jv_tb_in (jv_tm (k := 103) (by decide +kernel)) (by decide +kernel)), by decide +kernel, rfl, tyX0_ok, nmX0, (fun _ => rfl)⟩
theorem kf_X0_18 : jv_F RX0 18 0 2 (.array .int) true := ⟨RX0, TX0, 5, tyX0, rfl, ku_X0, by decide, (jv_tb_in (jv_tm (k := 104) (by decide +kernel)) (by decide +kernel)), by decide +kernel, rfl, tyX0_ok, nmX0, (fun _ => rfl)⟩
theorem kf_X0_21 : jv_F RX0 21 0 3 (.array .int) true := ⟨RX0, TX0, 5, tyX0, rfl, ku_X0, by decide, (jv_tb_in (jv_tm (k := 105) (by decide +kernel)) (by decide +kernel)), by decide +kernel, rfl, tyX0_ok, nmX0, (fun _ => rfl)⟩
theorem kf_X0_24 : jv_F RX0 24 0 4 .int false := ⟨RX0, TX0, 5, tyX0, rfl, ku_X0, by decide, (jv_tb_in (jv_tm (k := 106) (by decide +kernel)) (by decide +kernel)), by decide +kernel, rfl, tyX0_ok, nmX0, (fun h => absurd h (by decide))⟩
theorem kw_X0_28 : jv_KV RX0 28 yX0_canBeUsed cX0_canBeUsed 3 (some .boolean) 2 := ⟨(jv_tb_in (jv_tm (k := 711) (by decide +kernel)) (by decide +kernel)), (jv_tb_in (jv_tm (k := 713) (by decide +kernel)) (by decide +kernel)), (jv_tb_in (jv_tp (k := 15) (by decide +kernel)) (by decide +kernel)), (jv_tb_in (jv_tm (k := 6) (by decide +kernel)) (by decide +kernel)), (jv_tb_in (jv_tm (k := 714) (by decide +kernel)) (by decide +kernel)), by decide +kernel, by decide +kernel, by decide +kernel⟩
theorem kw_X0_32 : jv_KV RX0 32 yX0_isChosenAhead cX0_isChosenAhead 4 (some .boolean) 2 := ⟨(jv_tb_in (jv_tm (k := 716) (by decide +kernel)) (by decide +kernel)), (jv_tb_in (jv_tm (k := 718) (by decide +kernel)) (by decide +kernel)), (jv_tb_in (jv_tp (k := 16) (by decide +kernel)) (by decide +kernel)), (jv_tb_in (jv_tm (k := 6) (by decide +kernel)) (by decide +kernel)), (jv_tb_in (jv_tm (k := 719) (by decide +kernel)) (by decide +kernel)), by decide +kernel, by decide +kernel, by decide +kernel⟩
theorem kw_X0_35 : jv_KV RX0 35 yX0_isReady cX0_isReady 2 (some .boolean) 1 := ⟨(jv_tb_in (jv_tm (k := 715) (by decide +kernel)) (by decide +kernel)), (jv_tb_in (jv_tm (k := 653) (by decide +kernel)) (by decide +kernel)), (jv_tb_in (jv_tm (k := 654) (by decide +kernel)) (by decide +kernel)), (jv_tb_in (jv_tm (k := 6) (by decide +kernel)) (by decide +kernel)), (jv_tb_in (jv_tm (k := 655) (by decide +kernel)) (by decide +kernel)), by decide +kernel, by decide +kernel, by decide +kernel⟩
theorem kf_X1_9 : jv_F RX1 9 1 0 (.array .int) true := ⟨RX1, TX1, 5, tyX1, rfl, ku_X1, by decide, (jv_tb_in (jv_tm (k := 128) (by decide +kernel)) (by decide +kernel)), by decide +kernel, rfl, tyX1_ok, nmX1, (fun _ => rfl)⟩
theorem kf_X1_15 : jv_F RX1 15 1 1 (.array .int) true := ⟨RX1, TX1, 5, tyX1, rfl, ku_X1, by decide, (jv_tb_in (jv_tm (k := 129) (by decide +kernel)) (by decide +kernel)), by decide +kernel, rfl, tyX1_ok, nmX1, (fun _ => rfl)⟩
theorem kf_X1_18 : jv_F RX1 18 1 2 (.array .int) true := ⟨RX1, TX1, 5, tyX1, rfl, ku_X1, by decide, (jv_tb_in (jv_tm (k := 130) (by decide +kernel)) (by decide +kernel)), by decide +kernel, rfl, tyX1_ok, nmX1, (fun _ => rfl)⟩
theorem kf_X1_21 : jv_F RX1 21 1 3 (.array .int) true := ⟨RX1, TX1, 5, tyX1, rfl, ku_X1, by decide, (jv_tb_in (jv_tm (k := 131) (by decide +kernel)) (by decide +kernel)), by decide +kernel, rfl, tyX1_ok, nmX1, (fun _ => rfl)⟩
theorem kf_X1_24 : jv_F RX1 24 1 4 .int false := ⟨RX1, TX1, 5, tyX1, rfl, ku_X1, by decide, (jv_tb_in (jv_tm (k := 132) (by decide +kernel)) (by decide +kernel)), by decide +kernel, rfl, tyX1_ok, nmX1, (fun h => absurd h (by decide))⟩
theorem kf_X2_9 : jv_F RX2 9 2 0 (.array .int) true := ⟨RX2, TX2, 3, tyX2, rfl, ku_X2, by decide, (jv_tb_in (jv_tm (k := 150) (by decide +kernel)) (by decide +kernel)), by decide +kernel, rfl, tyX2_ok, nmX2, (fun _ => rfl)⟩
theorem kf_X2_15 : jv_F RX2 15 2 1 (.array .boolean) true := ⟨RX2, TX2, 3, tyX2, rfl, ku_X2, by decide, (jv_tb_in (jv_tm (k := 151) (by decide +kernel)) (by decide +kernel)), by decide +kernel, rfl, tyX2_ok, nmX2, (fun _ => rfl)⟩
theorem kf_X2_19 : jv_F RX2 19 2 2 .int false := ⟨RX2, TX2, 3, tyX2, rfl, ku_X2, by decide, (jv_tb_in (jv_tm (k := 152) (by decide +kernel)) (by decide +kernel)), by decide +kernel, rfl, tyX2_ok, nmX2, (fun h => absurd h (by decide))⟩
theorem kw_X2_23 : jv_KS RX2 23 yJ7_fill_53178 cJ7_fill_53178 4 none 2 := ⟨(jv_tb_in (jv_tm (k := 768) (by decide +kernel)) (by decide +kernel)), (jv_tb_in (jv_tm (k := 49) (by decide +kernel)) (by decide +kernel)), (jv_tb_in (jv_tm (k := 4) (by decide +kernel)) (by decide +kernel)), (jv_tb_in (jv_tm (k := 50) (by decide +kernel)) (by decide +kernel)), by decide +kernel, by decide +kernel, by decide +kernel⟩
theorem kw_X2_29 : jv_KV RX2 29 yX2_isRight cX2_isRight 3 (some .boolean) 2 := ⟨(jv_tb_in (jv_tm (k := 825) (by decide +kernel)) (by decide +kernel)), (jv_tb_in (jv_tm (k := 785) (by decide +kernel)) (by decide +kernel)), (jv_tb_in (jv_tm (k := 786) (by decide +kernel)) (by decide +kernel)), (jv_tb_in (jv_tm (k := 8) (by decide +kernel)) (by decide +kernel)), (jv_tb_in (jv_tm (k := 787) (by decide +kernel)) (by decide +kernel)), by decide +kernel, by decide +kernel, by decide +kernel⟩
theorem kw_X2_33 : Cond.methodLink RX2 33 Lib.Math.max.name ∈ jv_tb := (jv_tb_in (jv_tm (k := 826) (by decide +kernel)) (by decide +kernel))
theorem kw_X2_39 : jv_KV RX2 39 yX2_solvedHour cX2_solvedHour 9 (some .int) 3 := ⟨(jv_tb_in (jv_tm (k := 821) (by decide +kernel)) (by decide +kernel)), (jv_tb_in (jv_tm (k := 822) (by decide +kernel)) (by decide +kernel)), (jv_tb_in (jv_tm (k := 823) (by decide +kernel)) (by decide +kernel)), (jv_tb_in (jv_tm (k := 8) (by decide +kernel)) (by decide +kernel)), (jv_tb_in (jv_tm (k := 824) (by decide +kernel)) (by decide +kernel)), by decide +kernel, by decide +kernel, by decide +kernel⟩
theorem kw_X2_43 : jv_KV RX2 43 yX2_dayIndex cX2_dayIndex 2 (some .int) 1 := ⟨(jv_tb_in (jv_tm (k := 383) (by decide +kernel)) (by decide +kernel)), (jv_tb_in (jv_tm (k := 385) (by decide +kernel)) (by decide +kernel)), (jv_tb_in (jv_tp (k := 8) (by decide +kernel)) (by decide +kernel)), (jv_tb_in (jv_tm (k := 8) (by decide +kernel)) (by decide +kernel)), (jv_tb_in (jv_tm (k := 386) (by decide +kernel)) (by decide +kernel)), by decide +kernel, by decide +kernel, by decide +kernel⟩
theorem kw_X2_47 : jv_KS RX2 47 yJ9_floorDiv_7cf53 cJ9_floorDiv_7cf53 3 (some .int) 2 := ⟨(jv_tb_in (jv_tm (k := 387) (by decide +kernel)) (by decide +kernel)), (jv_tb_in (jv_tm (k := 388) (by decide +kernel)) (by decide +kernel)), (jv_tb_in (jv_tm (k := 19) (by decide +kernel)) (by decide +kernel)), (jv_tb_in (jv_tm (k := 389) (by decide +kernel)) (by decide +kernel)), by decide +kernel, by decide +kernel, by decide +kernel⟩
theorem kf_X3_9 : jv_F RX3 9 3 0 (.array .int) true := ⟨RX3, TX3, 5, tyX3, rfl, ku_X3, by decide, (jv_tb_in (jv_tm (k := 166) (by decide +kernel)) (by decide +kernel)), by decide +kernel, rfl, tyX3_ok, nmX3, (fun _ => rfl)⟩
theorem kf_X3_15 : jv_F RX3 15 3 1 (.array .int) true := ⟨RX3, TX3, 5, tyX3, rfl, ku_X3, by decide, (jv_tb_in (jv_tm (k := 167) (by decide +kernel)) (by decide +kernel)), by decide +kernel, rfl, tyX3_ok, nmX3, (fun _ => rfl)⟩
theorem kf_X3_18 : jv_F RX3 18 3 2 .int false := ⟨RX3, TX3, 5, tyX3, rfl, ku_X3, by decide, (jv_tb_in (jv_tm (k := 168) (by decide +kernel)) (by decide +kernel)), by decide +kernel, rfl, tyX3_ok, nmX3, (fun h => absurd h (by decide))⟩
theorem kf_X3_22 : jv_F RX3 22 3 3 .int false := ⟨RX3, TX3, 5, tyX3, rfl, ku_X3, by decide, (jv_tb_in (jv_tm (k := 169) (by decide +kernel)) (by decide +kernel)), by decide +kernel, rfl, tyX3_ok, nmX3, (fun h => absurd h (by decide))⟩
theorem kf_X3_25 : jv_F RX3 25 3 4 .int false := ⟨RX3, TX3, 5, tyX3, rfl, ku_X3, by decide, (jv_tb_in (jv_tm (k := 170) (by decide +kernel)) (by decide +kernel)), by decide +kernel, rfl, tyX3_ok, nmX3, (fun h => absurd h (by decide))⟩
theorem kw_X3_28 : jv_KSN RX3 28 yX8_cellsOf "Clueyard" cX8_cellsOf 3 (some .int) 1 := ⟨(jv_tm (k := 872) (by decide +kernel)), (jv_tb_in (jv_tm (k := 863) (by decide +kernel)) (by decide +kernel)), (jv_tb_in (jv_tm (k := 1) (by decide +kernel)) (by decide +kernel)), (jv_tb_in (jv_tm (k := 864) (by decide +kernel)) (by decide +kernel)), by decide +kernel, by decide +kernel, by decide +kernel⟩
theorem kf_X4_12 : jv_F RX4 12 4 0 (.object "Clueyard$Progress") true := ⟨RX4, TX4, 4, tyX4, rfl, ku_X4, by decide, (jv_tb_in (jv_tm (k := 189) (by decide +kernel)) (by decide +kernel)), by decide +kernel, rfl, tyX4_ok, nmX4, (fun _ => rfl)⟩
theorem kf_X4_18 : jv_F RX4 18 4 1 (.array .int) true := ⟨RX4, TX4, 4, tyX4, rfl, ku_X4, by decide, (jv_tb_in (jv_tm (k := 190) (by decide +kernel)) (by decide +kernel)), by decide +kernel, rfl, tyX4_ok, nmX4, (fun _ => rfl)⟩
theorem kf_X4_22 : jv_F RX4 22 4 2 (.array .int) true := ⟨RX4, TX4, 4, tyX4, rfl, ku_X4, by decide, (jv_tb_in (jv_tm (k := 191) (by decide +kernel)) (by decide +kernel)), by decide +kernel, rfl, tyX4_ok, nmX4, (fun _ => rfl)⟩
theorem kw_X4_25 : jv_KV RX4 25 yX2_begin cX2_begin 3 none 1 := ⟨(jv_tb_in (jv_tm (k := 764) (by decide +kernel)) (by decide +kernel)), (jv_tb_in (jv_tm (k := 765) (by decide +kernel)) (by decide +kernel)), (jv_tb_in (jv_tm (k := 766) (by decide +kernel)) (by decide +kernel)), (jv_tb_in (jv_tm (k := 8) (by decide +kernel)) (by decide +kernel)), (jv_tb_in (jv_tm (k := 767) (by decide +kernel)) (by decide +kernel)), by decide +kernel, by decide +kernel, by decide +kernel⟩
theorem kf_X4_29 : jv_F RX4 29 4 3 .int false := ⟨RX4, TX4, 4, tyX4, rfl, ku_X4, by decide, (jv_tb_in (jv_tm (k := 192) (by decide +kernel)) (by decide +kernel)), by decide +kernel, rfl, tyX4_ok, nmX4, (fun h => absurd h (by decide))⟩
theorem kw_X4_33 : jv_KV RX4 33 yX4_cost cX4_cost 4 (some .int) 1 := ⟨(jv_tb_in (jv_tm (k := 838) (by decide +kernel)) (by decide +kernel)), (jv_tb_in (jv_tm (k := 840) (by decide +kernel)) (by decide +kernel)), (jv_tb_in (jv_tp (k := 21) (by decide +kernel)) (by decide +kernel)), (jv_tb_in (jv_tm (k := 10) (by decide +kernel)) (by decide +kernel)), (jv_tb_in (jv_tm (k := 841) (by decide +kernel)) (by decide +kernel)), by decide +kernel, by decide +kernel, by decide +kernel⟩
theorem kw_X4_37 : Cond.methodLink RX4 37 Lib.Math.min.name ∈ jv_tb := (jv_tb_in (jv_tm (k := 842) (by decide +kernel)) (by decide +kernel))
theorem kf_X5_9 : jv_F RX5 9 5 0 (.array .int) true := ⟨RX5, TX5, 2, tyX5, rfl, ku_X5, by decide, (jv_tb_in (jv_tm (k := 34) (by decide +kernel)) (by decide +kernel)), by decide +kernel, rfl, tyX5_ok, nmX5, (fun _ => rfl)⟩
theorem kf_X5_15 : jv_F RX5 15 5 1 .int false := ⟨RX5, TX5, 2, tyX5, rfl, ku_X5, by decide, (jv_tb_in (jv_tm (k := 35) (by decide +kernel)) (by decide +kernel)), by decide +kernel, rfl, tyX5_ok, nmX5, (fun h => absurd h (by decide))⟩
theorem kw_X5_19 : jv_KS RX5 19 yX5_width cX5_width 1 (some .int) 1 := ⟨(jv_tb_in (jv_tm (k := 507) (by decide +kernel)) (by decide +kernel)), (jv_tb_in (jv_tm (k := 508) (by decide +kernel)) (by decide +kernel)), (jv_tb_in (jv_tm (k := 2) (by decide +kernel)) (by decide +kernel)), (jv_tb_in (jv_tm (k := 509) (by decide +kernel)) (by decide +kernel)), by decide +kernel, by decide +kernel, by decide +kernel⟩
theorem kw_X5_23 : jv_KS RX5 23 yX5_charOf cX5_charOf 2 (some .int) 2 := ⟨(jv_tb_in (jv_tm (k := 533) (by decide +kernel)) (by decide +kernel)), (jv_tb_in (jv_tm (k := 534) (by decide +kernel)) (by decide +kernel)), (jv_tb_in (jv_tm (k := 2) (by decide +kernel)) (by decide +kernel)), (jv_tb_in (jv_tm (k := 535) (by decide +kernel)) (by decide +kernel)), by decide +kernel, by decide +kernel, by decide +kernel⟩
theorem kc_X5_27 : Cond.constant RX5 27 (Int32.ofInt 55348) ∈ jv_tb := (jv_tb_in (jv_tm (k := 536) (by decide +kernel)) (by decide +kernel))
theorem kc_X5_28 : Cond.constant RX5 28 (Int32.ofInt 56606) ∈ jv_tb := (jv_tb_in (jv_tm (k := 537) (by decide +kernel)) (by decide +kernel))
theorem kf_X6_9 : jv_F RX6 9 6 0 (.array .int) true := ⟨RX6, TX6, 5, tyX6, rfl, ku_X6, by decide, (jv_tb_in (jv_tm (k := 80) (by decide +kernel)) (by decide +kernel)), by decide +kernel, rfl, tyX6_ok, nmX6, (fun _ => rfl)⟩
theorem kf_X6_15 : jv_F RX6 15 6 1 (.array .int) true := ⟨RX6, TX6, 5, tyX6, rfl, ku_X6, by decide, (jv_tb_in (jv_tm (k := 81) (by decide +kernel)) (by decide +kernel)), by decide +kernel, rfl, tyX6_ok, nmX6, (fun _ => rfl)⟩
theorem kf_X6_18 : jv_F RX6 18 6 2 (.array .int) true := ⟨RX6, TX6, 5, tyX6, rfl, ku_X6, by decide, (jv_tb_in (jv_tm (k := 82) (by decide +kernel)) (by decide +kernel)), by decide +kernel, rfl, tyX6_ok, nmX6, (fun _ => rfl)⟩
theorem kw_X6_21 : jv_KS RX6 21 yJ7_fill_53178 cJ7_fill_53178 4 none 2 := ⟨(jv_tb_in (jv_tm (k := 79) (by decide +kernel)) (by decide +kernel)), (jv_tb_in (jv_tm (k := 49) (by decide +kernel)) (by decide +kernel)), (jv_tb_in (jv_tm (k := 4) (by decide +kernel)) (by decide +kernel)), (jv_tb_in (jv_tm (k := 50) (by decide +kernel)) (by decide +kernel)), by decide +kernel, by decide +kernel, by decide +kernel⟩
theorem kf_X6_27 : jv_F RX6 27 6 3 .int false := ⟨RX6, TX6, 5, tyX6, rfl, ku_X6, by decide, (jv_tb_in (jv_tm (k := 83) (by decide +kernel)) (by decide +kernel)), by decide +kernel, rfl, tyX6_ok, nmX6, (fun h => absurd h (by decide))⟩
theorem kf_X6_31 : jv_F RX6 31 6 4 .int false := ⟨RX6, TX6, 5, tyX6, rfl, ku_X6, by decide, (jv_tb_in (jv_tm (k := 84) (by decide +kernel)) (by decide +kernel)), by decide +kernel, rfl, tyX6_ok, nmX6, (fun h => absurd h (by decide))⟩
theorem kw_X6_34 : jv_KV RX6 34 yX7_count cX7_count 1 (some .int) 0 := ⟨(jv_tb_in (jv_tm (k := 294) (by decide +kernel)) (by decide +kernel)), (jv_tb_in (jv_tm (k := 264) (by decide +kernel)) (by decide +kernel)), (jv_tb_in (jv_tm (k := 265) (by decide +kernel)) (by decide +kernel)), (jv_tb_in (jv_tm (k := 3) (by decide +kernel)) (by decide +kernel)), (jv_tb_in (jv_tm (k := 266) (by decide +kernel)) (by decide +kernel)), by decide +kernel, by decide +kernel, by decide +kernel⟩
theorem kw_X6_40 : jv_KV RX6 40 yX7_inOrder cX7_inOrder 2 (some .int) 1 := ⟨(jv_tb_in (jv_tm (k := 295) (by decide +kernel)) (by decide +kernel)), (jv_tb_in (jv_tm (k := 271) (by decide +kernel)) (by decide +kernel)), (jv_tb_in (jv_tm (k := 272) (by decide +kernel)) (by decide +kernel)), (jv_tb_in (jv_tm (k := 3) (by decide +kernel)) (by decide +kernel)), (jv_tb_in (jv_tm (k := 273) (by decide +kernel)) (by decide +kernel)), by decide +kernel, by decide +kernel, by decide +kernel⟩
theorem kw_X6_44 : jv_KV RX6 44 yX6_canStand cX6_canStand 5 (some .boolean) 3 := ⟨(jv_tb_in (jv_tm (k := 296) (by decide +kernel)) (by decide +kernel)), (jv_tb_in (jv_tm (k := 298) (by decide +kernel)) (by decide +kernel)), (jv_tb_in (jv_tp (k := 0) (by decide +kernel)) (by decide +kernel)), (jv_tb_in (jv_tm (k := 5) (by decide +kernel)) (by decide +kernel)), (jv_tb_in (jv_tm (k := 299) (by decide +kernel)) (by decide +kernel)), by decide +kernel, by decide +kernel, by decide +kernel⟩
theorem kw_X6_48 : jv_KV RX6 48 yX6_weightOfSquare cX6_weightOfSquare 5 (some .int) 1 := ⟨(jv_tb_in (jv_tm (k := 312) (by decide +kernel)) (by decide +kernel)), (jv_tb_in (jv_tm (k := 314) (by decide +kernel)) (by decide +kernel)), (jv_tb_in (jv_tp (k := 2) (by decide +kernel)) (by decide +kernel)), (jv_tb_in (jv_tm (k := 5) (by decide +kernel)) (by decide +kernel)), (jv_tb_in (jv_tm (k := 315) (by decide +kernel)) (by decide +kernel)), by decide +kernel, by decide +kernel, by decide +kernel⟩
theorem kw_X6_52 : jv_KV RX6 52 yX6_keep cX6_keep 3 none 1 := ⟨(jv_tb_in (jv_tm (k := 324) (by decide +kernel)) (by decide +kernel)), (jv_tb_in (jv_tm (k := 326) (by decide +kernel)) (by decide +kernel)), (jv_tb_in (jv_tp (k := 3) (by decide +kernel)) (by decide +kernel)), (jv_tb_in (jv_tm (k := 5) (by decide +kernel)) (by decide +kernel)), (jv_tb_in (jv_tm (k := 327) (by decide +kernel)) (by decide +kernel)), by decide +kernel, by decide +kernel, by decide +kernel⟩
theorem kw_X6_56 : jv_KV RX6 56 yX6_agreesWithFixed cX6_agreesWithFixed 5 (some .boolean) 2 := ⟨(jv_tb_in (jv_tm (k := 300) (by decide +kernel)) (by decide +kernel)), (jv_tb_in (jv_tm (k := 302) (by decide +kernel)) (by decide +kernel)), (jv_tb_in (jv_tp (k := 1) (by decide +kernel)) (by decide +kernel)), (jv_tb_in (jv_tm (k := 5) (by decide +kernel)) (by decide +kernel)), (jv_tb_in (jv_tm (k := 303) (by decide +kernel)) (by decide +kernel)), by decide +kernel, by decide +kernel, by decide +kernel⟩
theorem kw_X6_60 : jv_KS RX6 60 yX6_columnCode cX6_columnCode 6 (some .int) 4 := ⟨(jv_tb_in (jv_tm (k := 308) (by decide +kernel)) (by decide +kernel)), (jv_tb_in (jv_tm (k := 309) (by decide +kernel)) (by decide +kernel)), (jv_tb_in (jv_tm (k := 5) (by decide +kernel)) (by decide +kernel)), (jv_tb_in (jv_tm (k := 310) (by decide +kernel)) (by decide +kernel)), by decide +kernel, by decide +kernel, by decide +kernel⟩
theorem kw_X6_64 : jv_KV RX6 64 yX7_beginningWith cX7_beginningWith 2 (some .int) 1 := ⟨(jv_tb_in (jv_tm (k := 311) (by decide +kernel)) (by decide +kernel)), (jv_tb_in (jv_tm (k := 283) (by decide +kernel)) (by decide +kernel)), (jv_tb_in (jv_tm (k := 284) (by decide +kernel)) (by decide +kernel)), (jv_tb_in (jv_tm (k := 3) (by decide +kernel)) (by decide +kernel)), (jv_tb_in (jv_tm (k := 285) (by decide +kernel)) (by decide +kernel)), by decide +kernel, by decide +kernel, by decide +kernel⟩
theorem kw_X6_67 : jv_KV RX6 67 yX6_weightIfFill cX6_weightIfFill 3 (some .int) 1 := ⟨(jv_tb_in (jv_tm (k := 340) (by decide +kernel)) (by decide +kernel)), (jv_tb_in (jv_tm (k := 342) (by decide +kernel)) (by decide +kernel)), (jv_tb_in (jv_tp (k := 4) (by decide +kernel)) (by decide +kernel)), (jv_tb_in (jv_tm (k := 5) (by decide +kernel)) (by decide +kernel)), (jv_tb_in (jv_tm (k := 343) (by decide +kernel)) (by decide +kernel)), by decide +kernel, by decide +kernel, by decide +kernel⟩
theorem kw_X6_70 : Cond.methodLink RX6 70 Lib.Math.max.name ∈ jv_tb := (jv_tb_in (jv_tm (k := 344) (by decide +kernel)) (by decide +kernel))
theorem kw_X6_76 : jv_KV RX6 76 yX7_wordOrNone cX7_wordOrNone 2 (some .int) 1 := ⟨(jv_tb_in (jv_tm (k := 320) (by decide +kernel)) (by decide +kernel)), (jv_tb_in (jv_tm (k := 321) (by decide +kernel)) (by decide +kernel)), (jv_tb_in (jv_tm (k := 322) (by decide +kernel)) (by decide +kernel)), (jv_tb_in (jv_tm (k := 3) (by decide +kernel)) (by decide +kernel)), (jv_tb_in (jv_tm (k := 323) (by decide +kernel)) (by decide +kernel)), by decide +kernel, by decide +kernel, by decide +kernel⟩
theorem kw_X6_79 : jv_KV RX6 79 yX7_letter cX7_letter 3 (some .int) 2 := ⟨(jv_tb_in (jv_tm (k := 304) (by decide +kernel)) (by decide +kernel)), (jv_tb_in (jv_tm (k := 305) (by decide +kernel)) (by decide +kernel)), (jv_tb_in (jv_tm (k := 306) (by decide +kernel)) (by decide +kernel)), (jv_tb_in (jv_tm (k := 3) (by decide +kernel)) (by decide +kernel)), (jv_tb_in (jv_tm (k := 307) (by decide +kernel)) (by decide +kernel)), by decide +kernel, by decide +kernel, by decide +kernel⟩
theorem kw_X6_82 : jv_KV RX6 82 yX7_weight cX7_weight 2 (some .int) 1 := ⟨(jv_tb_in (jv_tm (k := 316) (by decide +kernel)) (by decide +kernel)), (jv_tb_in (jv_tm (k := 317) (by decide +kernel)) (by decide +kernel)), (jv_tb_in (jv_tm (k := 318) (by decide +kernel)) (by decide +kernel)), (jv_tb_in (jv_tm (k := 3) (by decide +kernel)) (by decide +kernel)), (jv_tb_in (jv_tm (k := 319) (by decide +kernel)) (by decide +kernel)), by decide +kernel, by decide +kernel, by decide +kernel⟩
theorem kf_X7_9 : jv_F RX7 9 7 0 (.array .int) true := ⟨RX7, TX7, 7, tyX7, rfl, ku_X7, by decide, (jv_tb_in (jv_tm (k := 51) (by decide +kernel)) (by decide +kernel)), by decide +kernel, rfl, tyX7_ok, nmX7, (fun _ => rfl)⟩
theorem kf_X7_15 : jv_F RX7 15 7 1 (.array .int) true := ⟨RX7, TX7, 7, tyX7, rfl, ku_X7, by decide, (jv_tb_in (jv_tm (k := 52) (by decide +kernel)) (by decide +kernel)), by decide +kernel, rfl, tyX7_ok, nmX7, (fun _ => rfl)⟩
theorem kf_X7_18 : jv_F RX7 18 7 2 (.array .int) true := ⟨RX7, TX7, 7, tyX7, rfl, ku_X7, by decide, (jv_tb_in (jv_tm (k := 53) (by decide +kernel)) (by decide +kernel)), by decide +kernel, rfl, tyX7_ok, nmX7, (fun _ => rfl)⟩
theorem kf_X7_21 : jv_F RX7 21 7 3 (.array .int) true := ⟨RX7, TX7, 7, tyX7, rfl, ku_X7, by decide, (jv_tb_in (jv_tm (k := 54) (by decide +kernel)) (by decide +kernel)), by decide +kernel, rfl, tyX7_ok, nmX7, (fun _ => rfl)⟩
theorem kf_X7_24 : jv_F RX7 24 7 4 (.array .int) true := ⟨RX7, TX7, 7, tyX7, rfl, ku_X7, by decide, (jv_tb_in (jv_tm (k := 55) (by decide +kernel)) (by decide +kernel)), by decide +kernel, rfl, tyX7_ok, nmX7, (fun _ => rfl)⟩
theorem kf_X7_27 : jv_F RX7 27 7 5 (.array .int) true := ⟨RX7, TX7, 7, tyX7, rfl, ku_X7, by decide, (jv_tb_in (jv_tm (k := 56) (by decide +kernel)) (by decide +kernel)), by decide +kernel, rfl, tyX7_ok, nmX7, (fun _ => rfl)⟩
theorem kw_X7_30 : jv_KS RX7 30 yJ7_fill_53178 cJ7_fill_53178 4 none 2 := ⟨(jv_tb_in (jv_tm (k := 48) (by decide +kernel)) (by decide +kernel)), (jv_tb_in (jv_tm (k := 49) (by decide +kernel)) (by decide +kernel)), (jv_tb_in (jv_tm (k := 4) (by decide +kernel)) (by decide +kernel)), (jv_tb_in (jv_tm (k := 50) (by decide +kernel)) (by decide +kernel)), by decide +kernel, by decide +kernel, by decide +kernel⟩
theorem kf_X7_36 : jv_F RX7 36 7 6 .int false := ⟨RX7, TX7, 7, tyX7, rfl, ku_X7, by decide, (jv_tb_in (jv_tm (k := 57) (by decide +kernel)) (by decide +kernel)), by decide +kernel, rfl, tyX7_ok, nmX7, (fun h => absurd h (by decide))⟩
theorem kw_X7_40 : jv_KV RX7 40 yX7_putInOrder cX7_putInOrder 3 none 1 := ⟨(jv_tb_in (jv_tm (k := 586) (by decide +kernel)) (by decide +kernel)), (jv_tb_in (jv_tm (k := 588) (by decide +kernel)) (by decide +kernel)), (jv_tb_in (jv_tp (k := 11) (by decide +kernel)) (by decide +kernel)), (jv_tb_in (jv_tm (k := 3) (by decide +kernel)) (by decide +kernel)), (jv_tb_in (jv_tm (k := 589) (by decide +kernel)) (by decide +kernel)), by decide +kernel, by decide +kernel, by decide +kernel⟩
theorem kf_X8_10 : jv_F RX8 10 8 0 (.object "Clueyard$Spelled") true := ⟨RX8, TX8, 12, tyX8, rfl, ku_X8, by decide, (jv_tb_in (jv_tm (k := 202) (by decide +kernel)) (by decide +kernel)), by decide +kernel, rfl, tyX8_ok, nmX8, (fun _ => rfl)⟩
theorem kf_X8_19 : jv_F RX8 19 8 1 (.object "Clueyard$Words") true := ⟨RX8, TX8, 12, tyX8, rfl, ku_X8, by decide, (jv_tb_in (jv_tm (k := 203) (by decide +kernel)) (by decide +kernel)), by decide +kernel, rfl, tyX8_ok, nmX8, (fun _ => rfl)⟩
theorem kf_X8_26 : jv_F RX8 26 8 2 (.object "Clueyard$Square") true := ⟨RX8, TX8, 12, tyX8, rfl, ku_X8, by decide, (jv_tb_in (jv_tm (k := 204) (by decide +kernel)) (by decide +kernel)), by decide +kernel, rfl, tyX8_ok, nmX8, (fun _ => rfl)⟩
theorem kf_X8_33 : jv_F RX8 33 8 3 (.object "Clueyard$Clues") true := ⟨RX8, TX8, 12, tyX8, rfl, ku_X8, by decide, (jv_tb_in (jv_tm (k := 205) (by decide +kernel)) (by decide +kernel)), by decide +kernel, rfl, tyX8_ok, nmX8, (fun _ => rfl)⟩
theorem kf_X8_39 : jv_F RX8 39 8 4 (.array (.object "Clueyard$Puzzle")) true := ⟨RX8, TX8, 12, tyX8, rfl, ku_X8, by decide, (jv_tb_in (jv_tm (k := 206) (by decide +kernel)) (by decide +kernel)), by decide +kernel, rfl, tyX8_ok, nmX8, (fun _ => rfl)⟩
theorem kf_X8_45 : jv_F RX8 45 8 5 (.array (.object "Clueyard$Solver")) true := ⟨RX8, TX8, 12, tyX8, rfl, ku_X8, by decide, (jv_tb_in (jv_tm (k := 207) (by decide +kernel)) (by decide +kernel)), by decide +kernel, rfl, tyX8_ok, nmX8, (fun _ => rfl)⟩
theorem kf_X8_52 : jv_F RX8 52 8 6 (.object "Clueyard$Events") true := ⟨RX8, TX8, 12, tyX8, rfl, ku_X8, by decide, (jv_tb_in (jv_tm (k := 208) (by decide +kernel)) (by decide +kernel)), by decide +kernel, rfl, tyX8_ok, nmX8, (fun _ => rfl)⟩
theorem kf_X8_59 : jv_F RX8 59 8 7 (.object "Clueyard$Progress") true := ⟨RX8, TX8, 12, tyX8, rfl, ku_X8, by decide, (jv_tb_in (jv_tm (k := 209) (by decide +kernel)) (by decide +kernel)), by decide +kernel, rfl, tyX8_ok, nmX8, (fun _ => rfl)⟩
theorem kf_X8_63 : jv_F RX8 63 8 8 (.array .int) true := ⟨RX8, TX8, 12, tyX8, rfl, ku_X8, by decide, (jv_tb_in (jv_tm (k := 210) (by decide +kernel)) (by decide +kernel)), by decide +kernel, rfl, tyX8_ok, nmX8, (fun _ => rfl)⟩
theorem kw_X8_69 : jv_KS RX8 69 yX8_needIndex cX8_needIndex 2 none 2 := ⟨(jv_tb_in (jv_tm (k := 403) (by decide +kernel)) (by decide +kernel)), (jv_tb_in (jv_tm (k := 404) (by decide +kernel)) (by decide +kernel)), (jv_tb_in (jv_tm (k := 1) (by decide +kernel)) (by decide +kernel)), (jv_tb_in (jv_tm (k := 405) (by decide +kernel)) (by decide +kernel)), by decide +kernel, by decide +kernel, by decide +kernel⟩
theorem kw_X8_73 : jv_KV RX8 73 yX8_needRoomForLetter cX8_needRoomForLetter 1 none 0 := ⟨(jv_tb_in (jv_tm (k := 475) (by decide +kernel)) (by decide +kernel)), (jv_tb_in (jv_tm (k := 477) (by decide +kernel)) (by decide +kernel)), (jv_tb_in (jv_tp (k := 10) (by decide +kernel)) (by decide +kernel)), (jv_tb_in (jv_tm (k := 1) (by decide +kernel)) (by decide +kernel)), (jv_tb_in (jv_tm (k := 478) (by decide +kernel)) (by decide +kernel)), by decide +kernel, by decide +kernel, by decide +kernel⟩
theorem kw_X8_76 : jv_KV RX8 76 yX5_putAtEnd cX5_putAtEnd 2 none 1 := ⟨(jv_tb_in (jv_tm (k := 499) (by decide +kernel)) (by decide +kernel)), (jv_tb_in (jv_tm (k := 500) (by decide +kernel)) (by decide +kernel)), (jv_tb_in (jv_tm (k := 501) (by decide +kernel)) (by decide +kernel)), (jv_tb_in (jv_tm (k := 2) (by decide +kernel)) (by decide +kernel)), (jv_tb_in (jv_tm (k := 502) (by decide +kernel)) (by decide +kernel)), by decide +kernel, by decide +kernel, by decide +kernel⟩
theorem kw_X8_80 : jv_KV RX8 80 yX5_charCount cX5_charCount 3 (some .int) 0 := ⟨(jv_tb_in (jv_tm (k := 503) (by decide +kernel)) (by decide +kernel)), (jv_tb_in (jv_tm (k := 504) (by decide +kernel)) (by decide +kernel)), (jv_tb_in (jv_tm (k := 505) (by decide +kernel)) (by decide +kernel)), (jv_tb_in (jv_tm (k := 2) (by decide +kernel)) (by decide +kernel)), (jv_tb_in (jv_tm (k := 506) (by decide +kernel)) (by decide +kernel)), by decide +kernel, by decide +kernel, by decide +kernel⟩
theorem kw_X8_84 : jv_KV RX8 84 yX5_putAtBeginning cX5_putAtBeginning 3 none 1 := ⟨(jv_tb_in (jv_tm (k := 517) (by decide +kernel)) (by decide +kernel)), (jv_tb_in (jv_tm (k := 518) (by decide +kernel)) (by decide +kernel)), (jv_tb_in (jv_tm (k := 519) (by decide +kernel)) (by decide +kernel)), (jv_tb_in (jv_tm (k := 2) (by decide +kernel)) (by decide +kernel)), (jv_tb_in (jv_tm (k := 520) (by decide +kernel)) (by decide +kernel)), by decide +kernel, by decide +kernel, by decide +kernel⟩
theorem kw_X8_87 : jv_KV RX8 87 yX5_reverse cX5_reverse 2 none 0 := ⟨(jv_tb_in (jv_tm (k := 243) (by decide +kernel)) (by decide +kernel)), (jv_tb_in (jv_tm (k := 244) (by decide +kernel)) (by decide +kernel)), (jv_tb_in (jv_tm (k := 245) (by decide +kernel)) (by decide +kernel)), (jv_tb_in (jv_tm (k := 2) (by decide +kernel)) (by decide +kernel)), (jv_tb_in (jv_tm (k := 246) (by decide +kernel)) (by decide +kernel)), by decide +kernel, by decide +kernel, by decide +kernel⟩
theorem kw_X8_90 : jv_KV RX8 90 yX5_letterCount cX5_letterCount 1 (some .int) 0 := ⟨(jv_tb_in (jv_tm (k := 247) (by decide +kernel)) (by decide +kernel)), (jv_tb_in (jv_tm (k := 248) (by decide +kernel)) (by decide +kernel)), (jv_tb_in (jv_tm (k := 249) (by decide +kernel)) (by decide +kernel)), (jv_tb_in (jv_tm (k := 2) (by decide +kernel)) (by decide +kernel)), (jv_tb_in (jv_tm (k := 250) (by decide +kernel)) (by decide +kernel)), by decide +kernel, by decide +kernel, by decide +kernel⟩
theorem kw_X8_93 : jv_KV RX8 93 yX5_empty cX5_empty 1 none 0 := ⟨(jv_tb_in (jv_tm (k := 255) (by decide +kernel)) (by decide +kernel)), (jv_tb_in (jv_tm (k := 256) (by decide +kernel)) (by decide +kernel)), (jv_tb_in (jv_tm (k := 257) (by decide +kernel)) (by decide +kernel)), (jv_tb_in (jv_tm (k := 2) (by decide +kernel)) (by decide +kernel)), (jv_tb_in (jv_tm (k := 258) (by decide +kernel)) (by decide +kernel)), by decide +kernel, by decide +kernel, by decide +kernel⟩
theorem kw_X8_96 : jv_KV RX8 96 yX5_charOrNone cX5_charOrNone 5 (some .int) 1 := ⟨(jv_tb_in (jv_tm (k := 529) (by decide +kernel)) (by decide +kernel)), (jv_tb_in (jv_tm (k := 530) (by decide +kernel)) (by decide +kernel)), (jv_tb_in (jv_tm (k := 531) (by decide +kernel)) (by decide +kernel)), (jv_tb_in (jv_tm (k := 2) (by decide +kernel)) (by decide +kernel)), (jv_tb_in (jv_tm (k := 532) (by decide +kernel)) (by decide +kernel)), by decide +kernel, by decide +kernel, by decide +kernel⟩
theorem kw_X8_107 : jv_KS RX8 107 yX8_needRange cX8_needRange 3 none 3 := ⟨(jv_tb_in (jv_tm (k := 562) (by decide +kernel)) (by decide +kernel)), (jv_tb_in (jv_tm (k := 563) (by decide +kernel)) (by decide +kernel)), (jv_tb_in (jv_tm (k := 1) (by decide +kernel)) (by decide +kernel)), (jv_tb_in (jv_tm (k := 564) (by decide +kernel)) (by decide +kernel)), by decide +kernel, by decide +kernel, by decide +kernel⟩
theorem kw_X8_111 : jv_KV RX8 111 yX5_isFull cX5_isFull 1 (some .boolean) 0 := ⟨(jv_tb_in (jv_tm (k := 479) (by decide +kernel)) (by decide +kernel)), (jv_tb_in (jv_tm (k := 480) (by decide +kernel)) (by decide +kernel)), (jv_tb_in (jv_tm (k := 481) (by decide +kernel)) (by decide +kernel)), (jv_tb_in (jv_tm (k := 2) (by decide +kernel)) (by decide +kernel)), (jv_tb_in (jv_tm (k := 482) (by decide +kernel)) (by decide +kernel)), by decide +kernel, by decide +kernel, by decide +kernel⟩
theorem kw_X8_115 : jv_KV RX8 115 yX5_code cX5_code 3 (some .int) 0 := ⟨(jv_tb_in (jv_tm (k := 278) (by decide +kernel)) (by decide +kernel)), (jv_tb_in (jv_tm (k := 279) (by decide +kernel)) (by decide +kernel)), (jv_tb_in (jv_tm (k := 280) (by decide +kernel)) (by decide +kernel)), (jv_tb_in (jv_tm (k := 2) (by decide +kernel)) (by decide +kernel)), (jv_tb_in (jv_tm (k := 281) (by decide +kernel)) (by decide +kernel)), by decide +kernel, by decide +kernel, by decide +kernel⟩
theorem kw_X8_118 : jv_KV RX8 118 yX7_beginningWith cX7_beginningWith 2 (some .int) 1 := ⟨(jv_tb_in (jv_tm (k := 282) (by decide +kernel)) (by decide +kernel)), (jv_tb_in (jv_tm (k := 283) (by decide +kernel)) (by decide +kernel)), (jv_tb_in (jv_tm (k := 284) (by decide +kernel)) (by decide +kernel)), (jv_tb_in (jv_tm (k := 3) (by decide +kernel)) (by decide +kernel)), (jv_tb_in (jv_tm (k := 285) (by decide +kernel)) (by decide +kernel)), by decide +kernel, by decide +kernel, by decide +kernel⟩
theorem kw_X8_121 : jv_KV RX8 121 yX7_count cX7_count 1 (some .int) 0 := ⟨(jv_tb_in (jv_tm (k := 263) (by decide +kernel)) (by decide +kernel)), (jv_tb_in (jv_tm (k := 264) (by decide +kernel)) (by decide +kernel)), (jv_tb_in (jv_tm (k := 265) (by decide +kernel)) (by decide +kernel)), (jv_tb_in (jv_tm (k := 3) (by decide +kernel)) (by decide +kernel)), (jv_tb_in (jv_tm (k := 266) (by decide +kernel)) (by decide +kernel)), by decide +kernel, by decide +kernel, by decide +kernel⟩
theorem kw_X8_129 : jv_KV RX8 129 yX7_add cX7_add 6 (some .int) 2 := ⟨(jv_tb_in (jv_tm (k := 582) (by decide +kernel)) (by decide +kernel)), (jv_tb_in (jv_tm (k := 583) (by decide +kernel)) (by decide +kernel)), (jv_tb_in (jv_tm (k := 584) (by decide +kernel)) (by decide +kernel)), (jv_tb_in (jv_tm (k := 3) (by decide +kernel)) (by decide +kernel)), (jv_tb_in (jv_tm (k := 585) (by decide +kernel)) (by decide +kernel)), by decide +kernel, by decide +kernel, by decide +kernel⟩
theorem kw_X8_133 : jv_KV RX8 133 yX7_weight cX7_weight 2 (some .int) 1 := ⟨(jv_tb_in (jv_tm (k := 597) (by decide +kernel)) (by decide +kernel)), (jv_tb_in (jv_tm (k := 317) (by decide +kernel)) (by decide +kernel)), (jv_tb_in (jv_tm (k := 318) (by decide +kernel)) (by decide +kernel)), (jv_tb_in (jv_tm (k := 3) (by decide +kernel)) (by decide +kernel)), (jv_tb_in (jv_tm (k := 319) (by decide +kernel)) (by decide +kernel)), by decide +kernel, by decide +kernel, by decide +kernel⟩
theorem kw_X8_136 : jv_KV RX8 136 yX7_weigh cX7_weigh 3 none 2 := ⟨(jv_tb_in (jv_tm (k := 598) (by decide +kernel)) (by decide +kernel)), (jv_tb_in (jv_tm (k := 599) (by decide +kernel)) (by decide +kernel)), (jv_tb_in (jv_tm (k := 600) (by decide +kernel)) (by decide +kernel)), (jv_tb_in (jv_tm (k := 3) (by decide +kernel)) (by decide +kernel)), (jv_tb_in (jv_tm (k := 601) (by decide +kernel)) (by decide +kernel)), by decide +kernel, by decide +kernel, by decide +kernel⟩
theorem kw_X8_139 : jv_KS RX8 139 yX8_isIndex cX8_isIndex 2 (some .boolean) 2 := ⟨(jv_tb_in (jv_tm (k := 267) (by decide +kernel)) (by decide +kernel)), (jv_tb_in (jv_tm (k := 268) (by decide +kernel)) (by decide +kernel)), (jv_tb_in (jv_tm (k := 1) (by decide +kernel)) (by decide +kernel)), (jv_tb_in (jv_tm (k := 269) (by decide +kernel)) (by decide +kernel)), by decide +kernel, by decide +kernel, by decide +kernel⟩
theorem kw_X8_143 : jv_KV RX8 143 yX7_inOrder cX7_inOrder 2 (some .int) 1 := ⟨(jv_tb_in (jv_tm (k := 270) (by decide +kernel)) (by decide +kernel)), (jv_tb_in (jv_tm (k := 271) (by decide +kernel)) (by decide +kernel)), (jv_tb_in (jv_tm (k := 272) (by decide +kernel)) (by decide +kernel)), (jv_tb_in (jv_tm (k := 3) (by decide +kernel)) (by decide +kernel)), (jv_tb_in (jv_tm (k := 273) (by decide +kernel)) (by decide +kernel)), by decide +kernel, by decide +kernel, by decide +kernel⟩
theorem kw_X8_146 : jv_KV RX8 146 yX6_fixedLetter cX6_fixedLetter 2 (some .int) 1 := ⟨(jv_tb_in (jv_tm (k := 609) (by decide +kernel)) (by decide +kernel)), (jv_tb_in (jv_tm (k := 610) (by decide +kernel)) (by decide +kernel)), (jv_tb_in (jv_tm (k := 611) (by decide +kernel)) (by decide +kernel)), (jv_tb_in (jv_tm (k := 5) (by decide +kernel)) (by decide +kernel)), (jv_tb_in (jv_tm (k := 612) (by decide +kernel)) (by decide +kernel)), by decide +kernel, by decide +kernel, by decide +kernel⟩
theorem kw_X8_149 : jv_KV RX8 149 yX6_setFixed cX6_setFixed 3 none 2 := ⟨(jv_tb_in (jv_tm (k := 613) (by decide +kernel)) (by decide +kernel)), (jv_tb_in (jv_tm (k := 614) (by decide +kernel)) (by decide +kernel)), (jv_tb_in (jv_tm (k := 615) (by decide +kernel)) (by decide +kernel)), (jv_tb_in (jv_tm (k := 5) (by decide +kernel)) (by decide +kernel)), (jv_tb_in (jv_tm (k := 616) (by decide +kernel)) (by decide +kernel)), by decide +kernel, by decide +kernel, by decide +kernel⟩
theorem kw_X8_152 : jv_KV RX8 152 yX6_search cX6_search 5 none 1 := ⟨(jv_tb_in (jv_tm (k := 290) (by decide +kernel)) (by decide +kernel)), (jv_tb_in (jv_tm (k := 291) (by decide +kernel)) (by decide +kernel)), (jv_tb_in (jv_tm (k := 292) (by decide +kernel)) (by decide +kernel)), (jv_tb_in (jv_tm (k := 5) (by decide +kernel)) (by decide +kernel)), (jv_tb_in (jv_tm (k := 293) (by decide +kernel)) (by decide +kernel)), by decide +kernel, by decide +kernel, by decide +kernel⟩
theorem kw_X8_156 : jv_KV RX8 156 yX6_bestWeight cX6_bestWeight 1 (some .int) 0 := ⟨(jv_tb_in (jv_tm (k := 328) (by decide +kernel)) (by decide +kernel)), (jv_tb_in (jv_tm (k := 329) (by decide +kernel)) (by decide +kernel)), (jv_tb_in (jv_tm (k := 330) (by decide +kernel)) (by decide +kernel)), (jv_tb_in (jv_tm (k := 5) (by decide +kernel)) (by decide +kernel)), (jv_tb_in (jv_tm (k := 331) (by decide +kernel)) (by decide +kernel)), by decide +kernel, by decide +kernel, by decide +kernel⟩
theorem kw_X8_159 : jv_KV RX8 159 yX6_greatestWeightOfAll cX6_greatestWeightOfAll 6 (some .int) 1 := ⟨(jv_tb_in (jv_tm (k := 336) (by decide +kernel)) (by decide +kernel)), (jv_tb_in (jv_tm (k := 337) (by decide +kernel)) (by decide +kernel)), (jv_tb_in (jv_tm (k := 338) (by decide +kernel)) (by decide +kernel)), (jv_tb_in (jv_tm (k := 5) (by decide +kernel)) (by decide +kernel)), (jv_tb_in (jv_tm (k := 339) (by decide +kernel)) (by decide +kernel)), by decide +kernel, by decide +kernel, by decide +kernel⟩
theorem kw_X8_163 : jv_KV RX8 163 yX6_foundCount cX6_foundCount 1 (some .int) 0 := ⟨(jv_tb_in (jv_tm (k := 351) (by decide +kernel)) (by decide +kernel)), (jv_tb_in (jv_tm (k := 352) (by decide +kernel)) (by decide +kernel)), (jv_tb_in (jv_tm (k := 353) (by decide +kernel)) (by decide +kernel)), (jv_tb_in (jv_tm (k := 5) (by decide +kernel)) (by decide +kernel)), (jv_tb_in (jv_tm (k := 354) (by decide +kernel)) (by decide +kernel)), by decide +kernel, by decide +kernel, by decide +kernel⟩
theorem kw_X8_168 : jv_KV RX8 168 yX6_bestLetter cX6_bestLetter 3 (some .int) 2 := ⟨(jv_tb_in (jv_tm (k := 625) (by decide +kernel)) (by decide +kernel)), (jv_tb_in (jv_tm (k := 626) (by decide +kernel)) (by decide +kernel)), (jv_tb_in (jv_tm (k := 627) (by decide +kernel)) (by decide +kernel)), (jv_tb_in (jv_tm (k := 5) (by decide +kernel)) (by decide +kernel)), (jv_tb_in (jv_tm (k := 628) (by decide +kernel)) (by decide +kernel)), by decide +kernel, by decide +kernel, by decide +kernel⟩
theorem kw_X8_172 : jv_KV RX8 172 yX0_count cX0_count 1 (some .int) 0 := ⟨(jv_tb_in (jv_tm (k := 636) (by decide +kernel)) (by decide +kernel)), (jv_tb_in (jv_tm (k := 637) (by decide +kernel)) (by decide +kernel)), (jv_tb_in (jv_tm (k := 638) (by decide +kernel)) (by decide +kernel)), (jv_tb_in (jv_tm (k := 6) (by decide +kernel)) (by decide +kernel)), (jv_tb_in (jv_tm (k := 639) (by decide +kernel)) (by decide +kernel)), by decide +kernel, by decide +kernel, by decide +kernel⟩
theorem kw_X8_175 : jv_KV RX8 175 yX0_add cX0_add 2 (some .int) 1 := ⟨(jv_tb_in (jv_tm (k := 641) (by decide +kernel)) (by decide +kernel)), (jv_tb_in (jv_tm (k := 642) (by decide +kernel)) (by decide +kernel)), (jv_tb_in (jv_tm (k := 643) (by decide +kernel)) (by decide +kernel)), (jv_tb_in (jv_tm (k := 6) (by decide +kernel)) (by decide +kernel)), (jv_tb_in (jv_tm (k := 644) (by decide +kernel)) (by decide +kernel)), by decide +kernel, by decide +kernel, by decide +kernel⟩
theorem kw_X8_177 : jv_KV RX8 177 yX0_isReady cX0_isReady 2 (some .boolean) 1 := ⟨(jv_tb_in (jv_tm (k := 652) (by decide +kernel)) (by decide +kernel)), (jv_tb_in (jv_tm (k := 653) (by decide +kernel)) (by decide +kernel)), (jv_tb_in (jv_tm (k := 654) (by decide +kernel)) (by decide +kernel)), (jv_tb_in (jv_tm (k := 6) (by decide +kernel)) (by decide +kernel)), (jv_tb_in (jv_tm (k := 655) (by decide +kernel)) (by decide +kernel)), by decide +kernel, by decide +kernel, by decide +kernel⟩
theorem kw_X8_183 : jv_KV RX8 183 yX0_look cX0_look 3 (some .int) 2 := ⟨(jv_tb_in (jv_tm (k := 657) (by decide +kernel)) (by decide +kernel)), (jv_tb_in (jv_tm (k := 658) (by decide +kernel)) (by decide +kernel)), (jv_tb_in (jv_tm (k := 659) (by decide +kernel)) (by decide +kernel)), (jv_tb_in (jv_tm (k := 6) (by decide +kernel)) (by decide +kernel)), (jv_tb_in (jv_tm (k := 660) (by decide +kernel)) (by decide +kernel)), by decide +kernel, by decide +kernel, by decide +kernel⟩
theorem kw_X8_187 : jv_KV RX8 187 yX0_lastDay cX0_lastDay 2 (some .int) 1 := ⟨(jv_tb_in (jv_tm (k := 668) (by decide +kernel)) (by decide +kernel)), (jv_tb_in (jv_tm (k := 669) (by decide +kernel)) (by decide +kernel)), (jv_tb_in (jv_tm (k := 670) (by decide +kernel)) (by decide +kernel)), (jv_tb_in (jv_tm (k := 6) (by decide +kernel)) (by decide +kernel)), (jv_tb_in (jv_tm (k := 671) (by decide +kernel)) (by decide +kernel)), by decide +kernel, by decide +kernel, by decide +kernel⟩
theorem kf_X8_190 : jv_F RX8 190 8 11 .int false := ⟨RX8, TX8, 12, tyX8, rfl, ku_X8, by decide, (jv_tb_in (jv_tm (k := 213) (by decide +kernel)) (by decide +kernel)), by decide +kernel, rfl, tyX8_ok, nmX8, (fun h => absurd h (by decide))⟩
theorem kw_X8_196 : jv_KV RX8 196 yX8_mayPublishToday cX8_mayPublishToday 1 (some .boolean) 0 := ⟨(jv_tb_in (jv_tm (k := 687) (by decide +kernel)) (by decide +kernel)), (jv_tb_in (jv_tm (k := 689) (by decide +kernel)) (by decide +kernel)), (jv_tb_in (jv_tp (k := 12) (by decide +kernel)) (by decide +kernel)), (jv_tb_in (jv_tm (k := 1) (by decide +kernel)) (by decide +kernel)), (jv_tb_in (jv_tm (k := 690) (by decide +kernel)) (by decide +kernel)), by decide +kernel, by decide +kernel, by decide +kernel⟩
theorem kw_X8_199 : jv_KV RX8 199 yX8_findClues cX8_findClues 2 (some .boolean) 0 := ⟨(jv_tb_in (jv_tm (k := 699) (by decide +kernel)) (by decide +kernel)), (jv_tb_in (jv_tm (k := 701) (by decide +kernel)) (by decide +kernel)), (jv_tb_in (jv_tp (k := 14) (by decide +kernel)) (by decide +kernel)), (jv_tb_in (jv_tm (k := 1) (by decide +kernel)) (by decide +kernel)), (jv_tb_in (jv_tm (k := 702) (by decide +kernel)) (by decide +kernel)), by decide +kernel, by decide +kernel, by decide +kernel⟩
theorem kf_X8_204 : jv_F RX8 204 8 9 .int false := ⟨RX8, TX8, 12, tyX8, rfl, ku_X8, by decide, (jv_tb_in (jv_tm (k := 211) (by decide +kernel)) (by decide +kernel)), by decide +kernel, rfl, tyX8_ok, nmX8, (fun h => absurd h (by decide))⟩
theorem kw_X8_207 : jv_KV RX8 207 yX3_appear cX3_appear 2 none 1 := ⟨(jv_tb_in (jv_tm (k := 721) (by decide +kernel)) (by decide +kernel)), (jv_tb_in (jv_tm (k := 722) (by decide +kernel)) (by decide +kernel)), (jv_tb_in (jv_tm (k := 723) (by decide +kernel)) (by decide +kernel)), (jv_tb_in (jv_tm (k := 9) (by decide +kernel)) (by decide +kernel)), (jv_tb_in (jv_tm (k := 724) (by decide +kernel)) (by decide +kernel)), by decide +kernel, by decide +kernel, by decide +kernel⟩
theorem kw_X8_210 : jv_KV RX8 210 yX3_setLetter cX3_setLetter 3 none 2 := ⟨(jv_tb_in (jv_tm (k := 725) (by decide +kernel)) (by decide +kernel)), (jv_tb_in (jv_tm (k := 726) (by decide +kernel)) (by decide +kernel)), (jv_tb_in (jv_tm (k := 727) (by decide +kernel)) (by decide +kernel)), (jv_tb_in (jv_tm (k := 9) (by decide +kernel)) (by decide +kernel)), (jv_tb_in (jv_tm (k := 728) (by decide +kernel)) (by decide +kernel)), by decide +kernel, by decide +kernel, by decide +kernel⟩
theorem kw_X8_213 : jv_KV RX8 213 yX0_chosen cX0_chosen 2 (some .int) 1 := ⟨(jv_tb_in (jv_tm (k := 729) (by decide +kernel)) (by decide +kernel)), (jv_tb_in (jv_tm (k := 730) (by decide +kernel)) (by decide +kernel)), (jv_tb_in (jv_tm (k := 731) (by decide +kernel)) (by decide +kernel)), (jv_tb_in (jv_tm (k := 6) (by decide +kernel)) (by decide +kernel)), (jv_tb_in (jv_tm (k := 732) (by decide +kernel)) (by decide +kernel)), by decide +kernel, by decide +kernel, by decide +kernel⟩
theorem kw_X8_216 : jv_KV RX8 216 yX3_setClue cX3_setClue 3 none 2 := ⟨(jv_tb_in (jv_tm (k := 733) (by decide +kernel)) (by decide +kernel)), (jv_tb_in (jv_tm (k := 734) (by decide +kernel)) (by decide +kernel)), (jv_tb_in (jv_tm (k := 735) (by decide +kernel)) (by decide +kernel)), (jv_tb_in (jv_tm (k := 9) (by decide +kernel)) (by decide +kernel)), (jv_tb_in (jv_tm (k := 736) (by decide +kernel)) (by decide +kernel)), by decide +kernel, by decide +kernel, by decide +kernel⟩
theorem kw_X8_219 : jv_KV RX8 219 yX8_today cX8_today 1 (some .int) 0 := ⟨(jv_tb_in (jv_tm (k := 695) (by decide +kernel)) (by decide +kernel)), (jv_tb_in (jv_tm (k := 697) (by decide +kernel)) (by decide +kernel)), (jv_tb_in (jv_tp (k := 13) (by decide +kernel)) (by decide +kernel)), (jv_tb_in (jv_tm (k := 1) (by decide +kernel)) (by decide +kernel)), (jv_tb_in (jv_tm (k := 698) (by decide +kernel)) (by decide +kernel)), by decide +kernel, by decide +kernel, by decide +kernel⟩
theorem kw_X8_222 : jv_KV RX8 222 yX0_useChosen cX0_useChosen 3 none 1 := ⟨(jv_tb_in (jv_tm (k := 737) (by decide +kernel)) (by decide +kernel)), (jv_tb_in (jv_tm (k := 738) (by decide +kernel)) (by decide +kernel)), (jv_tb_in (jv_tm (k := 739) (by decide +kernel)) (by decide +kernel)), (jv_tb_in (jv_tm (k := 6) (by decide +kernel)) (by decide +kernel)), (jv_tb_in (jv_tm (k := 740) (by decide +kernel)) (by decide +kernel)), by decide +kernel, by decide +kernel, by decide +kernel⟩
theorem kw_X8_225 : jv_KV RX8 225 yX3_clueNumber cX3_clueNumber 2 (some .int) 1 := ⟨(jv_tb_in (jv_tm (k := 748) (by decide +kernel)) (by decide +kernel)), (jv_tb_in (jv_tm (k := 749) (by decide +kernel)) (by decide +kernel)), (jv_tb_in (jv_tm (k := 750) (by decide +kernel)) (by decide +kernel)), (jv_tb_in (jv_tm (k := 9) (by decide +kernel)) (by decide +kernel)), (jv_tb_in (jv_tm (k := 751) (by decide +kernel)) (by decide +kernel)), by decide +kernel, by decide +kernel, by decide +kernel⟩
theorem kf_X8_228 : jv_F RX8 228 8 10 .int false := ⟨RX8, TX8, 12, tyX8, rfl, ku_X8, by decide, (jv_tb_in (jv_tm (k := 212) (by decide +kernel)) (by decide +kernel)), by decide +kernel, rfl, tyX8_ok, nmX8, (fun h => absurd h (by decide))⟩
theorem kw_X8_233 : jv_KV RX8 233 yX4_join cX4_join 3 none 2 := ⟨(jv_tb_in (jv_tm (k := 760) (by decide +kernel)) (by decide +kernel)), (jv_tb_in (jv_tm (k := 761) (by decide +kernel)) (by decide +kernel)), (jv_tb_in (jv_tm (k := 762) (by decide +kernel)) (by decide +kernel)), (jv_tb_in (jv_tm (k := 10) (by decide +kernel)) (by decide +kernel)), (jv_tb_in (jv_tm (k := 763) (by decide +kernel)) (by decide +kernel)), by decide +kernel, by decide +kernel, by decide +kernel⟩
theorem kw_X8_236 : jv_KV RX8 236 yX8_needCellOf cX8_needCellOf 4 none 3 := ⟨(jv_tb_in (jv_tm (k := 776) (by decide +kernel)) (by decide +kernel)), (jv_tb_in (jv_tm (k := 778) (by decide +kernel)) (by decide +kernel)), (jv_tb_in (jv_tp (k := 17) (by decide +kernel)) (by decide +kernel)), (jv_tb_in (jv_tm (k := 1) (by decide +kernel)) (by decide +kernel)), (jv_tb_in (jv_tm (k := 779) (by decide +kernel)) (by decide +kernel)), by decide +kernel, by decide +kernel, by decide +kernel⟩
theorem kw_X8_239 : jv_KV RX8 239 yX8_needUnfinished cX8_needUnfinished 4 none 3 := ⟨(jv_tb_in (jv_tm (k := 780) (by decide +kernel)) (by decide +kernel)), (jv_tb_in (jv_tm (k := 782) (by decide +kernel)) (by decide +kernel)), (jv_tb_in (jv_tp (k := 18) (by decide +kernel)) (by decide +kernel)), (jv_tb_in (jv_tm (k := 1) (by decide +kernel)) (by decide +kernel)), (jv_tb_in (jv_tm (k := 783) (by decide +kernel)) (by decide +kernel)), by decide +kernel, by decide +kernel, by decide +kernel⟩
theorem kw_X8_242 : jv_KV RX8 242 yX3_letter cX3_letter 2 (some .int) 1 := ⟨(jv_tb_in (jv_tm (k := 793) (by decide +kernel)) (by decide +kernel)), (jv_tb_in (jv_tm (k := 794) (by decide +kernel)) (by decide +kernel)), (jv_tb_in (jv_tm (k := 795) (by decide +kernel)) (by decide +kernel)), (jv_tb_in (jv_tm (k := 9) (by decide +kernel)) (by decide +kernel)), (jv_tb_in (jv_tm (k := 796) (by decide +kernel)) (by decide +kernel)), by decide +kernel, by decide +kernel, by decide +kernel⟩
theorem kw_X8_245 : jv_KV RX8 245 yX8_becomeRight cX8_becomeRight 4 none 3 := ⟨(jv_tb_in (jv_tm (k := 797) (by decide +kernel)) (by decide +kernel)), (jv_tb_in (jv_tm (k := 799) (by decide +kernel)) (by decide +kernel)), (jv_tb_in (jv_tp (k := 19) (by decide +kernel)) (by decide +kernel)), (jv_tb_in (jv_tm (k := 1) (by decide +kernel)) (by decide +kernel)), (jv_tb_in (jv_tm (k := 800) (by decide +kernel)) (by decide +kernel)), by decide +kernel, by decide +kernel, by decide +kernel⟩
theorem kw_X8_248 : jv_KV RX8 248 yX4_canPayHelp cX4_canPayHelp 2 (some .boolean) 1 := ⟨(jv_tb_in (jv_tm (k := 834) (by decide +kernel)) (by decide +kernel)), (jv_tb_in (jv_tm (k := 835) (by decide +kernel)) (by decide +kernel)), (jv_tb_in (jv_tm (k := 836) (by decide +kernel)) (by decide +kernel)), (jv_tb_in (jv_tm (k := 10) (by decide +kernel)) (by decide +kernel)), (jv_tb_in (jv_tm (k := 837) (by decide +kernel)) (by decide +kernel)), by decide +kernel, by decide +kernel, by decide +kernel⟩
theorem kw_X8_253 : jv_KV RX8 253 yX4_payHelp cX4_payHelp 4 none 2 := ⟨(jv_tb_in (jv_tm (k := 846) (by decide +kernel)) (by decide +kernel)), (jv_tb_in (jv_tm (k := 847) (by decide +kernel)) (by decide +kernel)), (jv_tb_in (jv_tm (k := 848) (by decide +kernel)) (by decide +kernel)), (jv_tb_in (jv_tm (k := 10) (by decide +kernel)) (by decide +kernel)), (jv_tb_in (jv_tm (k := 849) (by decide +kernel)) (by decide +kernel)), by decide +kernel, by decide +kernel, by decide +kernel⟩
theorem kw_X8_256 : jv_KV RX8 256 yX3_isWrong cX3_isWrong 2 (some .boolean) 1 := ⟨(jv_tb_in (jv_tm (k := 857) (by decide +kernel)) (by decide +kernel)), (jv_tb_in (jv_tm (k := 858) (by decide +kernel)) (by decide +kernel)), (jv_tb_in (jv_tm (k := 859) (by decide +kernel)) (by decide +kernel)), (jv_tb_in (jv_tm (k := 9) (by decide +kernel)) (by decide +kernel)), (jv_tb_in (jv_tm (k := 860) (by decide +kernel)) (by decide +kernel)), by decide +kernel, by decide +kernel, by decide +kernel⟩
theorem kw_X8_261 : jv_KS RX8 261 yX8_cellsOf cX8_cellsOf 3 (some .int) 1 := ⟨(jv_tb_in (jv_tm (k := 862) (by decide +kernel)) (by decide +kernel)), (jv_tb_in (jv_tm (k := 863) (by decide +kernel)) (by decide +kernel)), (jv_tb_in (jv_tm (k := 1) (by decide +kernel)) (by decide +kernel)), (jv_tb_in (jv_tm (k := 864) (by decide +kernel)) (by decide +kernel)), by decide +kernel, by decide +kernel, by decide +kernel⟩
theorem kw_X8_264 : jv_KV RX8 264 yX3_openCells cX3_openCells 1 (some .int) 0 := ⟨(jv_tb_in (jv_tm (k := 813) (by decide +kernel)) (by decide +kernel)), (jv_tb_in (jv_tm (k := 814) (by decide +kernel)) (by decide +kernel)), (jv_tb_in (jv_tm (k := 815) (by decide +kernel)) (by decide +kernel)), (jv_tb_in (jv_tm (k := 9) (by decide +kernel)) (by decide +kernel)), (jv_tb_in (jv_tm (k := 816) (by decide +kernel)) (by decide +kernel)), by decide +kernel, by decide +kernel, by decide +kernel⟩
theorem kw_X8_267 : jv_KV RX8 267 yX3_setWrong cX3_setWrong 2 none 1 := ⟨(jv_tb_in (jv_tm (k := 868) (by decide +kernel)) (by decide +kernel)), (jv_tb_in (jv_tm (k := 869) (by decide +kernel)) (by decide +kernel)), (jv_tb_in (jv_tm (k := 870) (by decide +kernel)) (by decide +kernel)), (jv_tb_in (jv_tm (k := 9) (by decide +kernel)) (by decide +kernel)), (jv_tb_in (jv_tm (k := 871) (by decide +kernel)) (by decide +kernel)), by decide +kernel, by decide +kernel, by decide +kernel⟩
theorem kw_X8_270 : jv_KV RX8 270 yX1_add cX1_add 5 none 4 := ⟨(jv_tb_in (jv_tm (k := 801) (by decide +kernel)) (by decide +kernel)), (jv_tb_in (jv_tm (k := 802) (by decide +kernel)) (by decide +kernel)), (jv_tb_in (jv_tm (k := 803) (by decide +kernel)) (by decide +kernel)), (jv_tb_in (jv_tm (k := 7) (by decide +kernel)) (by decide +kernel)), (jv_tb_in (jv_tm (k := 804) (by decide +kernel)) (by decide +kernel)), by decide +kernel, by decide +kernel, by decide +kernel⟩
theorem kw_X8_273 : jv_KV RX8 273 yX8_keptStreak cX8_keptStreak 2 (some .int) 1 := ⟨(jv_tb_in (jv_tm (k := 371) (by decide +kernel)) (by decide +kernel)), (jv_tb_in (jv_tm (k := 373) (by decide +kernel)) (by decide +kernel)), (jv_tb_in (jv_tp (k := 7) (by decide +kernel)) (by decide +kernel)), (jv_tb_in (jv_tm (k := 1) (by decide +kernel)) (by decide +kernel)), (jv_tb_in (jv_tm (k := 374) (by decide +kernel)) (by decide +kernel)), by decide +kernel, by decide +kernel, by decide +kernel⟩
theorem kw_X8_276 : jv_KV RX8 276 yX4_payBack cX4_payBack 4 none 2 := ⟨(jv_tb_in (jv_tm (k := 873) (by decide +kernel)) (by decide +kernel)), (jv_tb_in (jv_tm (k := 874) (by decide +kernel)) (by decide +kernel)), (jv_tb_in (jv_tm (k := 875) (by decide +kernel)) (by decide +kernel)), (jv_tb_in (jv_tm (k := 10) (by decide +kernel)) (by decide +kernel)), (jv_tb_in (jv_tm (k := 876) (by decide +kernel)) (by decide +kernel)), by decide +kernel, by decide +kernel, by decide +kernel⟩
theorem kw_X8_279 : jv_KV RX8 279 yX8_countIfSolved cX8_countIfSolved 4 none 2 := ⟨(jv_tb_in (jv_tm (k := 809) (by decide +kernel)) (by decide +kernel)), (jv_tb_in (jv_tm (k := 811) (by decide +kernel)) (by decide +kernel)), (jv_tb_in (jv_tp (k := 20) (by decide +kernel)) (by decide +kernel)), (jv_tb_in (jv_tm (k := 1) (by decide +kernel)) (by decide +kernel)), (jv_tb_in (jv_tm (k := 812) (by decide +kernel)) (by decide +kernel)), by decide +kernel, by decide +kernel, by decide +kernel⟩
theorem kw_X8_282 : jv_KV RX8 282 yX4_progress cX4_progress 1 (some (.object "Clueyard$Progress")) 0 := ⟨(jv_tb_in (jv_tm (k := 375) (by decide +kernel)) (by decide +kernel)), (jv_tb_in (jv_tm (k := 376) (by decide +kernel)) (by decide +kernel)), (jv_tb_in (jv_tm (k := 377) (by decide +kernel)) (by decide +kernel)), (jv_tb_in (jv_tm (k := 10) (by decide +kernel)) (by decide +kernel)), (jv_tb_in (jv_tm (k := 378) (by decide +kernel)) (by decide +kernel)), by decide +kernel, by decide +kernel, by decide +kernel⟩
theorem kw_X8_286 : jv_KV RX8 286 yX3_hourOfAppearing cX3_hourOfAppearing 1 (some .int) 0 := ⟨(jv_tb_in (jv_tm (k := 691) (by decide +kernel)) (by decide +kernel)), (jv_tb_in (jv_tm (k := 692) (by decide +kernel)) (by decide +kernel)), (jv_tb_in (jv_tm (k := 693) (by decide +kernel)) (by decide +kernel)), (jv_tb_in (jv_tm (k := 9) (by decide +kernel)) (by decide +kernel)), (jv_tb_in (jv_tm (k := 694) (by decide +kernel)) (by decide +kernel)), by decide +kernel, by decide +kernel, by decide +kernel⟩
theorem kw_X8_289 : jv_KV RX8 289 yX2_solvedHour cX2_solvedHour 9 (some .int) 3 := ⟨(jv_tb_in (jv_tm (k := 884) (by decide +kernel)) (by decide +kernel)), (jv_tb_in (jv_tm (k := 822) (by decide +kernel)) (by decide +kernel)), (jv_tb_in (jv_tm (k := 823) (by decide +kernel)) (by decide +kernel)), (jv_tb_in (jv_tm (k := 8) (by decide +kernel)) (by decide +kernel)), (jv_tb_in (jv_tm (k := 824) (by decide +kernel)) (by decide +kernel)), by decide +kernel, by decide +kernel, by decide +kernel⟩
theorem kw_X8_293 : jv_KV RX8 293 yX4_purse cX4_purse 1 (some .int) 0 := ⟨(jv_tb_in (jv_tm (k := 390) (by decide +kernel)) (by decide +kernel)), (jv_tb_in (jv_tm (k := 391) (by decide +kernel)) (by decide +kernel)), (jv_tb_in (jv_tm (k := 392) (by decide +kernel)) (by decide +kernel)), (jv_tb_in (jv_tm (k := 10) (by decide +kernel)) (by decide +kernel)), (jv_tb_in (jv_tm (k := 393) (by decide +kernel)) (by decide +kernel)), by decide +kernel, by decide +kernel, by decide +kernel⟩
theorem kw_X8_296 : jv_KV RX8 296 yX2_hoursAhead cX2_hoursAhead 1 (some .int) 0 := ⟨(jv_tb_in (jv_tm (k := 913) (by decide +kernel)) (by decide +kernel)), (jv_tb_in (jv_tm (k := 914) (by decide +kernel)) (by decide +kernel)), (jv_tb_in (jv_tm (k := 915) (by decide +kernel)) (by decide +kernel)), (jv_tb_in (jv_tm (k := 8) (by decide +kernel)) (by decide +kernel)), (jv_tb_in (jv_tm (k := 916) (by decide +kernel)) (by decide +kernel)), by decide +kernel, by decide +kernel, by decide +kernel⟩
theorem kw_X8_299 : jv_KV RX8 299 yX2_begin cX2_begin 3 none 1 := ⟨(jv_tb_in (jv_tm (k := 917) (by decide +kernel)) (by decide +kernel)), (jv_tb_in (jv_tm (k := 765) (by decide +kernel)) (by decide +kernel)), (jv_tb_in (jv_tm (k := 766) (by decide +kernel)) (by decide +kernel)), (jv_tb_in (jv_tm (k := 8) (by decide +kernel)) (by decide +kernel)), (jv_tb_in (jv_tm (k := 767) (by decide +kernel)) (by decide +kernel)), by decide +kernel, by decide +kernel, by decide +kernel⟩
theorem kw_X8_302 : jv_KS RX8 302 yJ7_fill_53178 cJ7_fill_53178 4 none 2 := ⟨(jv_tb_in (jv_tm (k := 918) (by decide +kernel)) (by decide +kernel)), (jv_tb_in (jv_tm (k := 49) (by decide +kernel)) (by decide +kernel)), (jv_tb_in (jv_tm (k := 4) (by decide +kernel)) (by decide +kernel)), (jv_tb_in (jv_tm (k := 50) (by decide +kernel)) (by decide +kernel)), by decide +kernel, by decide +kernel, by decide +kernel⟩
theorem kw_X8_308 : jv_KV RX8 308 yX1_count cX1_count 1 (some .int) 0 := ⟨(jv_tb_in (jv_tm (k := 919) (by decide +kernel)) (by decide +kernel)), (jv_tb_in (jv_tm (k := 920) (by decide +kernel)) (by decide +kernel)), (jv_tb_in (jv_tm (k := 921) (by decide +kernel)) (by decide +kernel)), (jv_tb_in (jv_tm (k := 7) (by decide +kernel)) (by decide +kernel)), (jv_tb_in (jv_tm (k := 922) (by decide +kernel)) (by decide +kernel)), by decide +kernel, by decide +kernel, by decide +kernel⟩
theorem kw_X8_309 : jv_KV RX8 309 yX8_replay cX8_replay 4 none 2 := ⟨(jv_tb_in (jv_tm (k := 923) (by decide +kernel)) (by decide +kernel)), (jv_tb_in (jv_tm (k := 925) (by decide +kernel)) (by decide +kernel)), (jv_tb_in (jv_tp (k := 22) (by decide +kernel)) (by decide +kernel)), (jv_tb_in (jv_tm (k := 1) (by decide +kernel)) (by decide +kernel)), (jv_tb_in (jv_tm (k := 926) (by decide +kernel)) (by decide +kernel)), by decide +kernel, by decide +kernel, by decide +kernel⟩
theorem kw_X8_312 : jv_KV RX8 312 yX2_daysInARow cX2_daysInARow 5 (some .int) 1 := ⟨(jv_tb_in (jv_tm (k := 379) (by decide +kernel)) (by decide +kernel)), (jv_tb_in (jv_tm (k := 380) (by decide +kernel)) (by decide +kernel)), (jv_tb_in (jv_tm (k := 381) (by decide +kernel)) (by decide +kernel)), (jv_tb_in (jv_tm (k := 8) (by decide +kernel)) (by decide +kernel)), (jv_tb_in (jv_tm (k := 382) (by decide +kernel)) (by decide +kernel)), by decide +kernel, by decide +kernel, by decide +kernel⟩
theorem kw_X8_315 : jv_KV RX8 315 yX8_rank cX8_rank 4 (some .int) 1 := ⟨(jv_tb_in (jv_tm (k := 363) (by decide +kernel)) (by decide +kernel)), (jv_tb_in (jv_tm (k := 365) (by decide +kernel)) (by decide +kernel)), (jv_tb_in (jv_tp (k := 5) (by decide +kernel)) (by decide +kernel)), (jv_tb_in (jv_tm (k := 1) (by decide +kernel)) (by decide +kernel)), (jv_tb_in (jv_tm (k := 366) (by decide +kernel)) (by decide +kernel)), by decide +kernel, by decide +kernel, by decide +kernel⟩
theorem kw_X8_330 : jv_KV RX8 330 yX2_isRight cX2_isRight 3 (some .boolean) 2 := ⟨(jv_tb_in (jv_tm (k := 784) (by decide +kernel)) (by decide +kernel)), (jv_tb_in (jv_tm (k := 785) (by decide +kernel)) (by decide +kernel)), (jv_tb_in (jv_tm (k := 786) (by decide +kernel)) (by decide +kernel)), (jv_tb_in (jv_tm (k := 8) (by decide +kernel)) (by decide +kernel)), (jv_tb_in (jv_tm (k := 787) (by decide +kernel)) (by decide +kernel)), by decide +kernel, by decide +kernel, by decide +kernel⟩
theorem kw_X8_333 : jv_KV RX8 333 yX3_isOpen cX3_isOpen 2 (some .boolean) 1 := ⟨(jv_tb_in (jv_tm (k := 788) (by decide +kernel)) (by decide +kernel)), (jv_tb_in (jv_tm (k := 789) (by decide +kernel)) (by decide +kernel)), (jv_tb_in (jv_tm (k := 790) (by decide +kernel)) (by decide +kernel)), (jv_tb_in (jv_tm (k := 9) (by decide +kernel)) (by decide +kernel)), (jv_tb_in (jv_tm (k := 791) (by decide +kernel)) (by decide +kernel)), by decide +kernel, by decide +kernel, by decide +kernel⟩
theorem kw_X8_338 : jv_KV RX8 338 yX6_bestWord cX6_bestWord 3 (some .int) 2 := ⟨(jv_tb_in (jv_tm (k := 703) (by decide +kernel)) (by decide +kernel)), (jv_tb_in (jv_tm (k := 704) (by decide +kernel)) (by decide +kernel)), (jv_tb_in (jv_tm (k := 705) (by decide +kernel)) (by decide +kernel)), (jv_tb_in (jv_tm (k := 5) (by decide +kernel)) (by decide +kernel)), (jv_tb_in (jv_tm (k := 706) (by decide +kernel)) (by decide +kernel)), by decide +kernel, by decide +kernel, by decide +kernel⟩
theorem kw_X8_341 : jv_KV RX8 341 yX0_choose cX0_choose 7 (some .boolean) 3 := ⟨(jv_tb_in (jv_tm (k := 707) (by decide +kernel)) (by decide +kernel)), (jv_tb_in (jv_tm (k := 708) (by decide +kernel)) (by decide +kernel)), (jv_tb_in (jv_tm (k := 709) (by decide +kernel)) (by decide +kernel)), (jv_tb_in (jv_tm (k := 6) (by decide +kernel)) (by decide +kernel)), (jv_tb_in (jv_tm (k := 710) (by decide +kernel)) (by decide +kernel)), by decide +kernel, by decide +kernel, by decide +kernel⟩
theorem kw_X8_345 : jv_KS RX8 345 yX8_cellOf cX8_cellOf 2 (some .int) 2 := ⟨(jv_tb_in (jv_tm (k := 865) (by decide +kernel)) (by decide +kernel)), (jv_tb_in (jv_tm (k := 866) (by decide +kernel)) (by decide +kernel)), (jv_tb_in (jv_tm (k := 1) (by decide +kernel)) (by decide +kernel)), (jv_tb_in (jv_tm (k := 867) (by decide +kernel)) (by decide +kernel)), by decide +kernel, by decide +kernel, by decide +kernel⟩
theorem kw_X8_348 : jv_KV RX8 348 yX2_setRight cX2_setRight 4 none 3 := ⟨(jv_tb_in (jv_tm (k := 805) (by decide +kernel)) (by decide +kernel)), (jv_tb_in (jv_tm (k := 806) (by decide +kernel)) (by decide +kernel)), (jv_tb_in (jv_tm (k := 807) (by decide +kernel)) (by decide +kernel)), (jv_tb_in (jv_tm (k := 8) (by decide +kernel)) (by decide +kernel)), (jv_tb_in (jv_tm (k := 808) (by decide +kernel)) (by decide +kernel)), by decide +kernel, by decide +kernel, by decide +kernel⟩
theorem kw_X8_351 : jv_KV RX8 351 yX2_countIfSolved cX2_countIfSolved 5 none 3 := ⟨(jv_tb_in (jv_tm (k := 817) (by decide +kernel)) (by decide +kernel)), (jv_tb_in (jv_tm (k := 818) (by decide +kernel)) (by decide +kernel)), (jv_tb_in (jv_tm (k := 819) (by decide +kernel)) (by decide +kernel)), (jv_tb_in (jv_tm (k := 8) (by decide +kernel)) (by decide +kernel)), (jv_tb_in (jv_tm (k := 820) (by decide +kernel)) (by decide +kernel)), by decide +kernel, by decide +kernel, by decide +kernel⟩
theorem kw_X8_353 : jv_KV RX8 353 yX1_puzzle cX1_puzzle 2 (some .int) 1 := ⟨(jv_tb_in (jv_tm (k := 927) (by decide +kernel)) (by decide +kernel)), (jv_tb_in (jv_tm (k := 928) (by decide +kernel)) (by decide +kernel)), (jv_tb_in (jv_tm (k := 929) (by decide +kernel)) (by decide +kernel)), (jv_tb_in (jv_tm (k := 7) (by decide +kernel)) (by decide +kernel)), (jv_tb_in (jv_tm (k := 930) (by decide +kernel)) (by decide +kernel)), by decide +kernel, by decide +kernel, by decide +kernel⟩
theorem kw_X8_356 : jv_KV RX8 356 yX1_solver cX1_solver 2 (some .int) 1 := ⟨(jv_tb_in (jv_tm (k := 931) (by decide +kernel)) (by decide +kernel)), (jv_tb_in (jv_tm (k := 932) (by decide +kernel)) (by decide +kernel)), (jv_tb_in (jv_tm (k := 933) (by decide +kernel)) (by decide +kernel)), (jv_tb_in (jv_tm (k := 7) (by decide +kernel)) (by decide +kernel)), (jv_tb_in (jv_tm (k := 934) (by decide +kernel)) (by decide +kernel)), by decide +kernel, by decide +kernel, by decide +kernel⟩
theorem kw_X8_359 : jv_KV RX8 359 yX1_part cX1_part 2 (some .int) 1 := ⟨(jv_tb_in (jv_tm (k := 935) (by decide +kernel)) (by decide +kernel)), (jv_tb_in (jv_tm (k := 936) (by decide +kernel)) (by decide +kernel)), (jv_tb_in (jv_tm (k := 937) (by decide +kernel)) (by decide +kernel)), (jv_tb_in (jv_tm (k := 7) (by decide +kernel)) (by decide +kernel)), (jv_tb_in (jv_tm (k := 938) (by decide +kernel)) (by decide +kernel)), by decide +kernel, by decide +kernel, by decide +kernel⟩
theorem kw_X8_362 : jv_KV RX8 362 yX1_hourOf cX1_hourOf 2 (some .int) 1 := ⟨(jv_tb_in (jv_tm (k := 939) (by decide +kernel)) (by decide +kernel)), (jv_tb_in (jv_tm (k := 940) (by decide +kernel)) (by decide +kernel)), (jv_tb_in (jv_tm (k := 941) (by decide +kernel)) (by decide +kernel)), (jv_tb_in (jv_tm (k := 7) (by decide +kernel)) (by decide +kernel)), (jv_tb_in (jv_tm (k := 942) (by decide +kernel)) (by decide +kernel)), by decide +kernel, by decide +kernel, by decide +kernel⟩
theorem kw_X8_365 : jv_KV RX8 365 yX8_isAhead cX8_isAhead 7 (some .boolean) 2 := ⟨(jv_tb_in (jv_tm (k := 367) (by decide +kernel)) (by decide +kernel)), (jv_tb_in (jv_tm (k := 369) (by decide +kernel)) (by decide +kernel)), (jv_tb_in (jv_tp (k := 6) (by decide +kernel)) (by decide +kernel)), (jv_tb_in (jv_tm (k := 1) (by decide +kernel)) (by decide +kernel)), (jv_tb_in (jv_tm (k := 370) (by decide +kernel)) (by decide +kernel)), by decide +kernel, by decide +kernel, by decide +kernel⟩
theorem kf_X9_7 : jv_F RX9 7 9 0 (.array .int) true := ⟨RX9, TX9, 30, tyX9, rfl, ku_X9, by decide, (jv_tb_in (jv_tm (k := 949) (by decide +kernel)) (by decide +kernel)), by decide +kernel, rfl, tyX9_ok, nmX9, (fun _ => rfl)⟩
theorem kf_X9_13 : jv_F RX9 13 9 3 (.array .int) true := ⟨RX9, TX9, 30, tyX9, rfl, ku_X9, by decide, (jv_tb_in (jv_tm (k := 952) (by decide +kernel)) (by decide +kernel)), by decide +kernel, rfl, tyX9_ok, nmX9, (fun _ => rfl)⟩
theorem kf_X9_16 : jv_F RX9 16 9 4 (.array .int) true := ⟨RX9, TX9, 30, tyX9, rfl, ku_X9, by decide, (jv_tb_in (jv_tm (k := 953) (by decide +kernel)) (by decide +kernel)), by decide +kernel, rfl, tyX9_ok, nmX9, (fun _ => rfl)⟩
theorem kf_X9_19 : jv_F RX9 19 9 5 (.array .int) true := ⟨RX9, TX9, 30, tyX9, rfl, ku_X9, by decide, (jv_tb_in (jv_tm (k := 954) (by decide +kernel)) (by decide +kernel)), by decide +kernel, rfl, tyX9_ok, nmX9, (fun _ => rfl)⟩
theorem kf_X9_22 : jv_F RX9 22 9 6 (.array .int) true := ⟨RX9, TX9, 30, tyX9, rfl, ku_X9, by decide, (jv_tb_in (jv_tm (k := 955) (by decide +kernel)) (by decide +kernel)), by decide +kernel, rfl, tyX9_ok, nmX9, (fun _ => rfl)⟩
theorem kf_X9_25 : jv_F RX9 25 9 7 (.array .int) true := ⟨RX9, TX9, 30, tyX9, rfl, ku_X9, by decide, (jv_tb_in (jv_tm (k := 956) (by decide +kernel)) (by decide +kernel)), by decide +kernel, rfl, tyX9_ok, nmX9, (fun _ => rfl)⟩
theorem kf_X9_28 : jv_F RX9 28 9 10 (.array .int) true := ⟨RX9, TX9, 30, tyX9, rfl, ku_X9, by decide, (jv_tb_in (jv_tm (k := 959) (by decide +kernel)) (by decide +kernel)), by decide +kernel, rfl, tyX9_ok, nmX9, (fun _ => rfl)⟩
theorem kf_X9_31 : jv_F RX9 31 9 12 (.array .int) true := ⟨RX9, TX9, 30, tyX9, rfl, ku_X9, by decide, (jv_tb_in (jv_tm (k := 961) (by decide +kernel)) (by decide +kernel)), by decide +kernel, rfl, tyX9_ok, nmX9, (fun _ => rfl)⟩
theorem kf_X9_34 : jv_F RX9 34 9 13 (.array .int) true := ⟨RX9, TX9, 30, tyX9, rfl, ku_X9, by decide, (jv_tb_in (jv_tm (k := 962) (by decide +kernel)) (by decide +kernel)), by decide +kernel, rfl, tyX9_ok, nmX9, (fun _ => rfl)⟩
theorem kf_X9_37 : jv_F RX9 37 9 14 (.array .int) true := ⟨RX9, TX9, 30, tyX9, rfl, ku_X9, by decide, (jv_tb_in (jv_tm (k := 963) (by decide +kernel)) (by decide +kernel)), by decide +kernel, rfl, tyX9_ok, nmX9, (fun _ => rfl)⟩
theorem kf_X9_40 : jv_F RX9 40 9 17 (.array .int) true := ⟨RX9, TX9, 30, tyX9, rfl, ku_X9, by decide, (jv_tb_in (jv_tm (k := 966) (by decide +kernel)) (by decide +kernel)), by decide +kernel, rfl, tyX9_ok, nmX9, (fun _ => rfl)⟩
theorem kf_X9_43 : jv_F RX9 43 9 18 (.array .int) true := ⟨RX9, TX9, 30, tyX9, rfl, ku_X9, by decide, (jv_tb_in (jv_tm (k := 967) (by decide +kernel)) (by decide +kernel)), by decide +kernel, rfl, tyX9_ok, nmX9, (fun _ => rfl)⟩
theorem kf_X9_46 : jv_F RX9 46 9 19 (.array .int) true := ⟨RX9, TX9, 30, tyX9, rfl, ku_X9, by decide, (jv_tb_in (jv_tm (k := 968) (by decide +kernel)) (by decide +kernel)), by decide +kernel, rfl, tyX9_ok, nmX9, (fun _ => rfl)⟩
theorem kf_X9_49 : jv_F RX9 49 9 20 (.array .int) true := ⟨RX9, TX9, 30, tyX9, rfl, ku_X9, by decide, (jv_tb_in (jv_tm (k := 969) (by decide +kernel)) (by decide +kernel)), by decide +kernel, rfl, tyX9_ok, nmX9, (fun _ => rfl)⟩
theorem kf_X9_52 : jv_F RX9 52 9 21 (.array .int) true := ⟨RX9, TX9, 30, tyX9, rfl, ku_X9, by decide, (jv_tb_in (jv_tm (k := 970) (by decide +kernel)) (by decide +kernel)), by decide +kernel, rfl, tyX9_ok, nmX9, (fun _ => rfl)⟩
theorem kf_X9_55 : jv_F RX9 55 9 23 (.array .int) true := ⟨RX9, TX9, 30, tyX9, rfl, ku_X9, by decide, (jv_tb_in (jv_tm (k := 972) (by decide +kernel)) (by decide +kernel)), by decide +kernel, rfl, tyX9_ok, nmX9, (fun _ => rfl)⟩
theorem kf_X9_58 : jv_F RX9 58 9 24 (.array .int) true := ⟨RX9, TX9, 30, tyX9, rfl, ku_X9, by decide, (jv_tb_in (jv_tm (k := 973) (by decide +kernel)) (by decide +kernel)), by decide +kernel, rfl, tyX9_ok, nmX9, (fun _ => rfl)⟩
theorem kf_X9_61 : jv_F RX9 61 9 25 (.array .int) true := ⟨RX9, TX9, 30, tyX9, rfl, ku_X9, by decide, (jv_tb_in (jv_tm (k := 974) (by decide +kernel)) (by decide +kernel)), by decide +kernel, rfl, tyX9_ok, nmX9, (fun _ => rfl)⟩
theorem kf_X9_64 : jv_F RX9 64 9 26 (.array .int) true := ⟨RX9, TX9, 30, tyX9, rfl, ku_X9, by decide, (jv_tb_in (jv_tm (k := 975) (by decide +kernel)) (by decide +kernel)), by decide +kernel, rfl, tyX9_ok, nmX9, (fun _ => rfl)⟩
theorem kf_X9_67 : jv_F RX9 67 9 27 (.array .int) true := ⟨RX9, TX9, 30, tyX9, rfl, ku_X9, by decide, (jv_tb_in (jv_tm (k := 976) (by decide +kernel)) (by decide +kernel)), by decide +kernel, rfl, tyX9_ok, nmX9, (fun _ => rfl)⟩
theorem kf_X9_70 : jv_F RX9 70 9 28 (.array .int) true := ⟨RX9, TX9, 30, tyX9, rfl, ku_X9, by decide, (jv_tb_in (jv_tm (k := 977) (by decide +kernel)) (by decide +kernel)), by decide +kernel, rfl, tyX9_ok, nmX9, (fun _ => rfl)⟩
theorem kf_X9_73 : jv_F RX9 73 9 29 .int false := ⟨RX9, TX9, 30, tyX9, rfl, ku_X9, by decide, (jv_tb_in (jv_tm (k := 978) (by decide +kernel)) (by decide +kernel)), by decide +kernel, rfl, tyX9_ok, nmX9, (fun h => absurd h (by decide))⟩
theorem kf_X9_77 : jv_F RX9 77 9 1 .int false := ⟨RX9, TX9, 30, tyX9, rfl, ku_X9, by decide, (jv_tb_in (jv_tm (k := 950) (by decide +kernel)) (by decide +kernel)), by decide +kernel, rfl, tyX9_ok, nmX9, (fun h => absurd h (by decide))⟩
theorem kw_X9_80 : jv_KS RX9 80 yX9_in cX9_in 3 (some .boolean) 3 := ⟨(jv_tb_in (jv_tm (k := 1052) (by decide +kernel)) (by decide +kernel)), (jv_tb_in (jv_tm (k := 1053) (by decide +kernel)) (by decide +kernel)), (jv_tb_in (jv_tm (k := 11) (by decide +kernel)) (by decide +kernel)), (jv_tb_in (jv_tm (k := 1054) (by decide +kernel)) (by decide +kernel)), by decide +kernel, by decide +kernel, by decide +kernel⟩
theorem kw_X9_84 : jv_KV RX9 84 yX9_canSpell cX9_canSpell 2 (some .boolean) 1 := ⟨(jv_tb_in (jv_tm (k := 1048) (by decide +kernel)) (by decide +kernel)), (jv_tb_in (jv_tm (k := 1050) (by decide +kernel)) (by decide +kernel)), (jv_tb_in (jv_tp (k := 23) (by decide +kernel)) (by decide +kernel)), (jv_tb_in (jv_tm (k := 11) (by decide +kernel)) (by decide +kernel)), (jv_tb_in (jv_tm (k := 1051) (by decide +kernel)) (by decide +kernel)), by decide +kernel, by decide +kernel, by decide +kernel⟩
theorem kw_X9_88 : jv_KV RX9 88 yX9_chars cX9_chars 3 (some .int) 0 := ⟨(jv_tb_in (jv_tm (k := 1055) (by decide +kernel)) (by decide +kernel)), (jv_tb_in (jv_tm (k := 1057) (by decide +kernel)) (by decide +kernel)), (jv_tb_in (jv_tp (k := 24) (by decide +kernel)) (by decide +kernel)), (jv_tb_in (jv_tm (k := 11) (by decide +kernel)) (by decide +kernel)), (jv_tb_in (jv_tm (k := 1058) (by decide +kernel)) (by decide +kernel)), by decide +kernel, by decide +kernel, by decide +kernel⟩
theorem kc_X9_92 : Cond.constant RX9 92 (Int32.ofInt 55348) ∈ jv_tb := (jv_tb_in (jv_tm (k := 1075) (by decide +kernel)) (by decide +kernel))
theorem kc_X9_93 : Cond.constant RX9 93 (Int32.ofInt 56606) ∈ jv_tb := (jv_tb_in (jv_tm (k := 1076) (by decide +kernel)) (by decide +kernel))
theorem kf_X9_94 : jv_F RX9 94 9 2 .int false := ⟨RX9, TX9, 30, tyX9, rfl, ku_X9, by decide, (jv_tb_in (jv_tm (k := 951) (by decide +kernel)) (by decide +kernel)), by decide +kernel, rfl, tyX9_ok, nmX9, (fun h => absurd h (by decide))⟩
theorem kw_X9_97 : jv_KV RX9 97 yX9_fails cX9_fails 2 (some .int) 1 := ⟨(jv_tb_in (jv_tm (k := 1081) (by decide +kernel)) (by decide +kernel)), (jv_tb_in (jv_tm (k := 1083) (by decide +kernel)) (by decide +kernel)), (jv_tb_in (jv_tp (k := 25) (by decide +kernel)) (by decide +kernel)), (jv_tb_in (jv_tm (k := 11) (by decide +kernel)) (by decide +kernel)), (jv_tb_in (jv_tm (k := 1084) (by decide +kernel)) (by decide +kernel)), by decide +kernel, by decide +kernel, by decide +kernel⟩
theorem kw_X9_101 : jv_KV RX9 101 yX9_isWord cX9_isWord 2 (some .boolean) 1 := ⟨(jv_tb_in (jv_tm (k := 1089) (by decide +kernel)) (by decide +kernel)), (jv_tb_in (jv_tm (k := 1091) (by decide +kernel)) (by decide +kernel)), (jv_tb_in (jv_tp (k := 26) (by decide +kernel)) (by decide +kernel)), (jv_tb_in (jv_tm (k := 11) (by decide +kernel)) (by decide +kernel)), (jv_tb_in (jv_tm (k := 1092) (by decide +kernel)) (by decide +kernel)), by decide +kernel, by decide +kernel, by decide +kernel⟩
theorem kw_X9_104 : jv_KV RX9 104 yX9_orders cX9_orders 3 none 0 := ⟨(jv_tb_in (jv_tm (k := 1097) (by decide +kernel)) (by decide +kernel)), (jv_tb_in (jv_tm (k := 1099) (by decide +kernel)) (by decide +kernel)), (jv_tb_in (jv_tp (k := 27) (by decide +kernel)) (by decide +kernel)), (jv_tb_in (jv_tm (k := 11) (by decide +kernel)) (by decide +kernel)), (jv_tb_in (jv_tm (k := 1100) (by decide +kernel)) (by decide +kernel)), by decide +kernel, by decide +kernel, by decide +kernel⟩
theorem kw_X9_107 : jv_KS RX9 107 yX9_letterOf cX9_letterOf 2 (some .int) 2 := ⟨(jv_tb_in (jv_tm (k := 1105) (by decide +kernel)) (by decide +kernel)), (jv_tb_in (jv_tm (k := 1106) (by decide +kernel)) (by decide +kernel)), (jv_tb_in (jv_tm (k := 11) (by decide +kernel)) (by decide +kernel)), (jv_tb_in (jv_tm (k := 1107) (by decide +kernel)) (by decide +kernel)), by decide +kernel, by decide +kernel, by decide +kernel⟩
theorem kw_X9_111 : jv_KV RX9 111 yX9_columnOf cX9_columnOf 5 (some .int) 4 := ⟨(jv_tb_in (jv_tm (k := 1128) (by decide +kernel)) (by decide +kernel)), (jv_tb_in (jv_tm (k := 1130) (by decide +kernel)) (by decide +kernel)), (jv_tb_in (jv_tp (k := 31) (by decide +kernel)) (by decide +kernel)), (jv_tb_in (jv_tm (k := 11) (by decide +kernel)) (by decide +kernel)), (jv_tb_in (jv_tm (k := 1131) (by decide +kernel)) (by decide +kernel)), by decide +kernel, by decide +kernel, by decide +kernel⟩
theorem kf_X9_115 : jv_F RX9 115 9 8 .int false := ⟨RX9, TX9, 30, tyX9, rfl, ku_X9, by decide, (jv_tb_in (jv_tm (k := 957) (by decide +kernel)) (by decide +kernel)), by decide +kernel, rfl, tyX9_ok, nmX9, (fun h => absurd h (by decide))⟩
theorem kf_X9_118 : jv_F RX9 118 9 9 .int false := ⟨RX9, TX9, 30, tyX9, rfl, ku_X9, by decide, (jv_tb_in (jv_tm (k := 958) (by decide +kernel)) (by decide +kernel)), by decide +kernel, rfl, tyX9_ok, nmX9, (fun h => absurd h (by decide))⟩
theorem kw_X9_121 : jv_KV RX9 121 yX9_fitsRow cX9_fitsRow 6 (some .boolean) 2 := ⟨(jv_tb_in (jv_tm (k := 1120) (by decide +kernel)) (by decide +kernel)), (jv_tb_in (jv_tm (k := 1122) (by decide +kernel)) (by decide +kernel)), (jv_tb_in (jv_tp (k := 29) (by decide +kernel)) (by decide +kernel)), (jv_tb_in (jv_tm (k := 11) (by decide +kernel)) (by decide +kernel)), (jv_tb_in (jv_tm (k := 1123) (by decide +kernel)) (by decide +kernel)), by decide +kernel, by decide +kernel, by decide +kernel⟩
theorem kw_X9_125 : jv_KV RX9 125 yX9_tries cX9_tries 7 none 3 := ⟨(jv_tb_in (jv_tm (k := 1124) (by decide +kernel)) (by decide +kernel)), (jv_tb_in (jv_tm (k := 1126) (by decide +kernel)) (by decide +kernel)), (jv_tb_in (jv_tp (k := 30) (by decide +kernel)) (by decide +kernel)), (jv_tb_in (jv_tm (k := 11) (by decide +kernel)) (by decide +kernel)), (jv_tb_in (jv_tm (k := 1127) (by decide +kernel)) (by decide +kernel)), by decide +kernel, by decide +kernel, by decide +kernel⟩
theorem kw_X9_129 : jv_KV RX9 129 yX9_findsFills cX9_findsFills 4 none 0 := ⟨(jv_tb_in (jv_tm (k := 1116) (by decide +kernel)) (by decide +kernel)), (jv_tb_in (jv_tm (k := 1118) (by decide +kernel)) (by decide +kernel)), (jv_tb_in (jv_tp (k := 28) (by decide +kernel)) (by decide +kernel)), (jv_tb_in (jv_tm (k := 11) (by decide +kernel)) (by decide +kernel)), (jv_tb_in (jv_tm (k := 1119) (by decide +kernel)) (by decide +kernel)), by decide +kernel, by decide +kernel, by decide +kernel⟩
theorem kw_X9_132 : jv_KV RX9 132 yX9_fillWeight cX9_fillWeight 1 (some .int) 0 := ⟨(jv_tb_in (jv_tm (k := 1136) (by decide +kernel)) (by decide +kernel)), (jv_tb_in (jv_tm (k := 1113) (by decide +kernel)) (by decide +kernel)), (jv_tb_in (jv_tm (k := 1114) (by decide +kernel)) (by decide +kernel)), (jv_tb_in (jv_tm (k := 11) (by decide +kernel)) (by decide +kernel)), (jv_tb_in (jv_tm (k := 1115) (by decide +kernel)) (by decide +kernel)), by decide +kernel, by decide +kernel, by decide +kernel⟩
theorem kf_X9_135 : jv_F RX9 135 9 11 .int false := ⟨RX9, TX9, 30, tyX9, rfl, ku_X9, by decide, (jv_tb_in (jv_tm (k := 960) (by decide +kernel)) (by decide +kernel)), by decide +kernel, rfl, tyX9_ok, nmX9, (fun h => absurd h (by decide))⟩
theorem kw_X9_138 : jv_KV RX9 138 yX9_isClue cX9_isClue 2 (some .boolean) 1 := ⟨(jv_tb_in (jv_tm (k := 1153) (by decide +kernel)) (by decide +kernel)), (jv_tb_in (jv_tm (k := 1155) (by decide +kernel)) (by decide +kernel)), (jv_tb_in (jv_tp (k := 32) (by decide +kernel)) (by decide +kernel)), (jv_tb_in (jv_tm (k := 11) (by decide +kernel)) (by decide +kernel)), (jv_tb_in (jv_tm (k := 1156) (by decide +kernel)) (by decide +kernel)), by decide +kernel, by decide +kernel, by decide +kernel⟩
theorem kf_X9_141 : jv_F RX9 141 9 15 .int false := ⟨RX9, TX9, 30, tyX9, rfl, ku_X9, by decide, (jv_tb_in (jv_tm (k := 964) (by decide +kernel)) (by decide +kernel)), by decide +kernel, rfl, tyX9_ok, nmX9, (fun h => absurd h (by decide))⟩
theorem kf_X9_144 : jv_F RX9 144 9 16 .int false := ⟨RX9, TX9, 30, tyX9, rfl, ku_X9, by decide, (jv_tb_in (jv_tm (k := 965) (by decide +kernel)) (by decide +kernel)), by decide +kernel, rfl, tyX9_ok, nmX9, (fun h => absurd h (by decide))⟩
theorem kw_X9_147 : jv_KV RX9 147 yX9_clueFor cX9_clueFor 7 (some .int) 2 := ⟨(jv_tb_in (jv_tm (k := 1173) (by decide +kernel)) (by decide +kernel)), (jv_tb_in (jv_tm (k := 1175) (by decide +kernel)) (by decide +kernel)), (jv_tb_in (jv_tp (k := 33) (by decide +kernel)) (by decide +kernel)), (jv_tb_in (jv_tm (k := 11) (by decide +kernel)) (by decide +kernel)), (jv_tb_in (jv_tm (k := 1176) (by decide +kernel)) (by decide +kernel)), by decide +kernel, by decide +kernel, by decide +kernel⟩
theorem kw_X9_150 : jv_KV RX9 150 yX9_isPuzzle cX9_isPuzzle 2 (some .boolean) 1 := ⟨(jv_tb_in (jv_tm (k := 1181) (by decide +kernel)) (by decide +kernel)), (jv_tb_in (jv_tm (k := 1183) (by decide +kernel)) (by decide +kernel)), (jv_tb_in (jv_tp (k := 34) (by decide +kernel)) (by decide +kernel)), (jv_tb_in (jv_tm (k := 11) (by decide +kernel)) (by decide +kernel)), (jv_tb_in (jv_tm (k := 1184) (by decide +kernel)) (by decide +kernel)), by decide +kernel, by decide +kernel, by decide +kernel⟩
theorem kf_X9_153 : jv_F RX9 153 9 22 .int false := ⟨RX9, TX9, 30, tyX9, rfl, ku_X9, by decide, (jv_tb_in (jv_tm (k := 971) (by decide +kernel)) (by decide +kernel)), by decide +kernel, rfl, tyX9_ok, nmX9, (fun h => absurd h (by decide))⟩
theorem kw_X9_156 : jv_KV RX9 156 yX9_openOf cX9_openOf 5 (some .int) 1 := ⟨(jv_tb_in (jv_tm (k := 1205) (by decide +kernel)) (by decide +kernel)), (jv_tb_in (jv_tm (k := 1207) (by decide +kernel)) (by decide +kernel)), (jv_tb_in (jv_tp (k := 38) (by decide +kernel)) (by decide +kernel)), (jv_tb_in (jv_tm (k := 11) (by decide +kernel)) (by decide +kernel)), (jv_tb_in (jv_tm (k := 1208) (by decide +kernel)) (by decide +kernel)), by decide +kernel, by decide +kernel, by decide +kernel⟩
theorem kw_X9_159 : jv_KV RX9 159 yX9_solved cX9_solved 9 (some .int) 2 := ⟨(jv_tb_in (jv_tm (k := 1213) (by decide +kernel)) (by decide +kernel)), (jv_tb_in (jv_tm (k := 1215) (by decide +kernel)) (by decide +kernel)), (jv_tb_in (jv_tp (k := 40) (by decide +kernel)) (by decide +kernel)), (jv_tb_in (jv_tm (k := 11) (by decide +kernel)) (by decide +kernel)), (jv_tb_in (jv_tm (k := 1216) (by decide +kernel)) (by decide +kernel)), by decide +kernel, by decide +kernel, by decide +kernel⟩
theorem kw_X9_162 : jv_KV RX9 162 yX9_dayOf cX9_dayOf 3 (some .int) 2 := ⟨(jv_tb_in (jv_tm (k := 1217) (by decide +kernel)) (by decide +kernel)), (jv_tb_in (jv_tm (k := 1219) (by decide +kernel)) (by decide +kernel)), (jv_tb_in (jv_tp (k := 41) (by decide +kernel)) (by decide +kernel)), (jv_tb_in (jv_tm (k := 11) (by decide +kernel)) (by decide +kernel)), (jv_tb_in (jv_tm (k := 1220) (by decide +kernel)) (by decide +kernel)), by decide +kernel, by decide +kernel, by decide +kernel⟩
theorem kw_X9_165 : jv_KV RX9 165 yX9_isSolver cX9_isSolver 2 (some .boolean) 1 := ⟨(jv_tb_in (jv_tm (k := 1197) (by decide +kernel)) (by decide +kernel)), (jv_tb_in (jv_tm (k := 1199) (by decide +kernel)) (by decide +kernel)), (jv_tb_in (jv_tp (k := 36) (by decide +kernel)) (by decide +kernel)), (jv_tb_in (jv_tm (k := 11) (by decide +kernel)) (by decide +kernel)), (jv_tb_in (jv_tm (k := 1200) (by decide +kernel)) (by decide +kernel)), by decide +kernel, by decide +kernel, by decide +kernel⟩
theorem kw_X9_168 : jv_KV RX9 168 yX9_isCell cX9_isCell 4 (some .boolean) 3 := ⟨(jv_tb_in (jv_tm (k := 1193) (by decide +kernel)) (by decide +kernel)), (jv_tb_in (jv_tm (k := 1195) (by decide +kernel)) (by decide +kernel)), (jv_tb_in (jv_tp (k := 35) (by decide +kernel)) (by decide +kernel)), (jv_tb_in (jv_tm (k := 11) (by decide +kernel)) (by decide +kernel)), (jv_tb_in (jv_tm (k := 1196) (by decide +kernel)) (by decide +kernel)), by decide +kernel, by decide +kernel, by decide +kernel⟩
theorem kw_X9_171 : jv_KV RX9 171 yX9_isOver cX9_isOver 4 (some .boolean) 3 := ⟨(jv_tb_in (jv_tm (k := 1201) (by decide +kernel)) (by decide +kernel)), (jv_tb_in (jv_tm (k := 1203) (by decide +kernel)) (by decide +kernel)), (jv_tb_in (jv_tp (k := 37) (by decide +kernel)) (by decide +kernel)), (jv_tb_in (jv_tm (k := 11) (by decide +kernel)) (by decide +kernel)), (jv_tb_in (jv_tm (k := 1204) (by decide +kernel)) (by decide +kernel)), by decide +kernel, by decide +kernel, by decide +kernel⟩
theorem kw_X9_174 : jv_KV RX9 174 yX9_counts cX9_counts 4 none 2 := ⟨(jv_tb_in (jv_tm (k := 1209) (by decide +kernel)) (by decide +kernel)), (jv_tb_in (jv_tm (k := 1211) (by decide +kernel)) (by decide +kernel)), (jv_tb_in (jv_tp (k := 39) (by decide +kernel)) (by decide +kernel)), (jv_tb_in (jv_tm (k := 11) (by decide +kernel)) (by decide +kernel)), (jv_tb_in (jv_tm (k := 1212) (by decide +kernel)) (by decide +kernel)), by decide +kernel, by decide +kernel, by decide +kernel⟩
theorem kw_X9_178 : jv_KV RX9 178 yX9_streakOf cX9_streakOf 4 (some .int) 1 := ⟨(jv_tb_in (jv_tm (k := 1229) (by decide +kernel)) (by decide +kernel)), (jv_tb_in (jv_tm (k := 1231) (by decide +kernel)) (by decide +kernel)), (jv_tb_in (jv_tp (k := 42) (by decide +kernel)) (by decide +kernel)), (jv_tb_in (jv_tm (k := 11) (by decide +kernel)) (by decide +kernel)), (jv_tb_in (jv_tm (k := 1232) (by decide +kernel)) (by decide +kernel)), by decide +kernel, by decide +kernel, by decide +kernel⟩
theorem kw_X9_181 : jv_KV RX9 181 yX9_streak cX9_streak 2 (some .int) 1 := ⟨(jv_tb_in (jv_tm (k := 1253) (by decide +kernel)) (by decide +kernel)), (jv_tb_in (jv_tm (k := 1246) (by decide +kernel)) (by decide +kernel)), (jv_tb_in (jv_tm (k := 1247) (by decide +kernel)) (by decide +kernel)), (jv_tb_in (jv_tm (k := 11) (by decide +kernel)) (by decide +kernel)), (jv_tb_in (jv_tm (k := 1248) (by decide +kernel)) (by decide +kernel)), by decide +kernel, by decide +kernel, by decide +kernel⟩
theorem kw_L_7 : jv_KV RL 7 yX8_spell cX8_spell 2 (some .int) 1 := ⟨(jv_tb_in (jv_tm (k := 399) (by decide +kernel)) (by decide +kernel)), (jv_tb_in (jv_tm (k := 400) (by decide +kernel)) (by decide +kernel)), (jv_tb_in (jv_tm (k := 401) (by decide +kernel)) (by decide +kernel)), (jv_tb_in (jv_tm (k := 1) (by decide +kernel)) (by decide +kernel)), (jv_tb_in (jv_tm (k := 402) (by decide +kernel)) (by decide +kernel)), by decide +kernel, by decide +kernel, by decide +kernel⟩
theorem kw_L_17 : jv_KV RL 17 yX8_insert cX8_insert 2 (some .int) 1 := ⟨(jv_tb_in (jv_tm (k := 513) (by decide +kernel)) (by decide +kernel)), (jv_tb_in (jv_tm (k := 514) (by decide +kernel)) (by decide +kernel)), (jv_tb_in (jv_tm (k := 515) (by decide +kernel)) (by decide +kernel)), (jv_tb_in (jv_tm (k := 1) (by decide +kernel)) (by decide +kernel)), (jv_tb_in (jv_tm (k := 516) (by decide +kernel)) (by decide +kernel)), by decide +kernel, by decide +kernel, by decide +kernel⟩
theorem kw_L_20 : jv_KV RL 20 yX8_charAt cX8_charAt 3 (some .char) 1 := ⟨(jv_tb_in (jv_tm (k := 525) (by decide +kernel)) (by decide +kernel)), (jv_tb_in (jv_tm (k := 526) (by decide +kernel)) (by decide +kernel)), (jv_tb_in (jv_tm (k := 527) (by decide +kernel)) (by decide +kernel)), (jv_tb_in (jv_tm (k := 1) (by decide +kernel)) (by decide +kernel)), (jv_tb_in (jv_tm (k := 528) (by decide +kernel)) (by decide +kernel)), by decide +kernel, by decide +kernel, by decide +kernel⟩
theorem kw_L_26 : jv_KV RL 26 yX8_addWord cX8_addWord 2 (some .int) 1 := ⟨(jv_tb_in (jv_tm (k := 558) (by decide +kernel)) (by decide +kernel)), (jv_tb_in (jv_tm (k := 559) (by decide +kernel)) (by decide +kernel)), (jv_tb_in (jv_tm (k := 560) (by decide +kernel)) (by decide +kernel)), (jv_tb_in (jv_tm (k := 1) (by decide +kernel)) (by decide +kernel)), (jv_tb_in (jv_tm (k := 561) (by decide +kernel)) (by decide +kernel)), by decide +kernel, by decide +kernel, by decide +kernel⟩
theorem kw_L_31 : jv_KV RL 31 yX8_setWeight cX8_setWeight 4 (some .int) 2 := ⟨(jv_tb_in (jv_tm (k := 593) (by decide +kernel)) (by decide +kernel)), (jv_tb_in (jv_tm (k := 594) (by decide +kernel)) (by decide +kernel)), (jv_tb_in (jv_tm (k := 595) (by decide +kernel)) (by decide +kernel)), (jv_tb_in (jv_tm (k := 1) (by decide +kernel)) (by decide +kernel)), (jv_tb_in (jv_tm (k := 596) (by decide +kernel)) (by decide +kernel)), by decide +kernel, by decide +kernel, by decide +kernel⟩
theorem kw_L_35 : jv_KV RL 35 yX8_fix cX8_fix 4 (some .int) 2 := ⟨(jv_tb_in (jv_tm (k := 605) (by decide +kernel)) (by decide +kernel)), (jv_tb_in (jv_tm (k := 606) (by decide +kernel)) (by decide +kernel)), (jv_tb_in (jv_tm (k := 607) (by decide +kernel)) (by decide +kernel)), (jv_tb_in (jv_tm (k := 1) (by decide +kernel)) (by decide +kernel)), (jv_tb_in (jv_tm (k := 608) (by decide +kernel)) (by decide +kernel)), by decide +kernel, by decide +kernel, by decide +kernel⟩
theorem kw_L_38 : jv_KV RL 38 yX8_fillAt cX8_fillAt 2 (some .int) 1 := ⟨(jv_tb_in (jv_tm (k := 620) (by decide +kernel)) (by decide +kernel)), (jv_tb_in (jv_tm (k := 621) (by decide +kernel)) (by decide +kernel)), (jv_tb_in (jv_tm (k := 622) (by decide +kernel)) (by decide +kernel)), (jv_tb_in (jv_tm (k := 1) (by decide +kernel)) (by decide +kernel)), (jv_tb_in (jv_tm (k := 623) (by decide +kernel)) (by decide +kernel)), by decide +kernel, by decide +kernel, by decide +kernel⟩
theorem kw_L_41 : jv_KV RL 41 yX8_clue cX8_clue 2 (some .int) 1 := ⟨(jv_tb_in (jv_tm (k := 632) (by decide +kernel)) (by decide +kernel)), (jv_tb_in (jv_tm (k := 633) (by decide +kernel)) (by decide +kernel)), (jv_tb_in (jv_tm (k := 634) (by decide +kernel)) (by decide +kernel)), (jv_tb_in (jv_tm (k := 1) (by decide +kernel)) (by decide +kernel)), (jv_tb_in (jv_tm (k := 635) (by decide +kernel)) (by decide +kernel)), by decide +kernel, by decide +kernel, by decide +kernel⟩
theorem kw_L_44 : jv_KV RL 44 yX8_edit cX8_edit 3 (some .int) 2 := ⟨(jv_tb_in (jv_tm (k := 648) (by decide +kernel)) (by decide +kernel)), (jv_tb_in (jv_tm (k := 649) (by decide +kernel)) (by decide +kernel)), (jv_tb_in (jv_tm (k := 650) (by decide +kernel)) (by decide +kernel)), (jv_tb_in (jv_tm (k := 1) (by decide +kernel)) (by decide +kernel)), (jv_tb_in (jv_tm (k := 651) (by decide +kernel)) (by decide +kernel)), by decide +kernel, by decide +kernel, by decide +kernel⟩
theorem kw_L_48 : jv_KV RL 48 yX8_lastUsed cX8_lastUsed 2 (some .int) 1 := ⟨(jv_tb_in (jv_tm (k := 664) (by decide +kernel)) (by decide +kernel)), (jv_tb_in (jv_tm (k := 665) (by decide +kernel)) (by decide +kernel)), (jv_tb_in (jv_tm (k := 666) (by decide +kernel)) (by decide +kernel)), (jv_tb_in (jv_tm (k := 1) (by decide +kernel)) (by decide +kernel)), (jv_tb_in (jv_tm (k := 667) (by decide +kernel)) (by decide +kernel)), by decide +kernel, by decide +kernel, by decide +kernel⟩
theorem kw_L_51 : jv_KV RL 51 yX8_pass cX8_pass 2 (some .int) 1 := ⟨(jv_tb_in (jv_tm (k := 675) (by decide +kernel)) (by decide +kernel)), (jv_tb_in (jv_tm (k := 676) (by decide +kernel)) (by decide +kernel)), (jv_tb_in (jv_tm (k := 677) (by decide +kernel)) (by decide +kernel)), (jv_tb_in (jv_tm (k := 1) (by decide +kernel)) (by decide +kernel)), (jv_tb_in (jv_tm (k := 678) (by decide +kernel)) (by decide +kernel)), by decide +kernel, by decide +kernel, by decide +kernel⟩
theorem kw_L_54 : jv_KV RL 54 yX8_publish cX8_publish 3 (some .int) 0 := ⟨(jv_tb_in (jv_tm (k := 683) (by decide +kernel)) (by decide +kernel)), (jv_tb_in (jv_tm (k := 684) (by decide +kernel)) (by decide +kernel)), (jv_tb_in (jv_tm (k := 685) (by decide +kernel)) (by decide +kernel)), (jv_tb_in (jv_tm (k := 1) (by decide +kernel)) (by decide +kernel)), (jv_tb_in (jv_tm (k := 686) (by decide +kernel)) (by decide +kernel)), by decide +kernel, by decide +kernel, by decide +kernel⟩
theorem kw_L_58 : jv_KV RL 58 yX8_clueOf cX8_clueOf 3 (some .int) 2 := ⟨(jv_tb_in (jv_tm (k := 744) (by decide +kernel)) (by decide +kernel)), (jv_tb_in (jv_tm (k := 745) (by decide +kernel)) (by decide +kernel)), (jv_tb_in (jv_tm (k := 746) (by decide +kernel)) (by decide +kernel)), (jv_tb_in (jv_tm (k := 1) (by decide +kernel)) (by decide +kernel)), (jv_tb_in (jv_tm (k := 747) (by decide +kernel)) (by decide +kernel)), by decide +kernel, by decide +kernel, by decide +kernel⟩
theorem kw_L_61 : jv_KV RL 61 yX8_addSolver cX8_addSolver 3 (some .int) 2 := ⟨(jv_tb_in (jv_tm (k := 755) (by decide +kernel)) (by decide +kernel)), (jv_tb_in (jv_tm (k := 756) (by decide +kernel)) (by decide +kernel)), (jv_tb_in (jv_tm (k := 757) (by decide +kernel)) (by decide +kernel)), (jv_tb_in (jv_tm (k := 1) (by decide +kernel)) (by decide +kernel)), (jv_tb_in (jv_tm (k := 758) (by decide +kernel)) (by decide +kernel)), by decide +kernel, by decide +kernel, by decide +kernel⟩
theorem kw_L_64 : jv_KV RL 64 yX8_enter cX8_enter 6 (some .boolean) 4 := ⟨(jv_tb_in (jv_tm (k := 772) (by decide +kernel)) (by decide +kernel)), (jv_tb_in (jv_tm (k := 773) (by decide +kernel)) (by decide +kernel)), (jv_tb_in (jv_tm (k := 774) (by decide +kernel)) (by decide +kernel)), (jv_tb_in (jv_tm (k := 1) (by decide +kernel)) (by decide +kernel)), (jv_tb_in (jv_tm (k := 775) (by decide +kernel)) (by decide +kernel)), by decide +kernel, by decide +kernel, by decide +kernel⟩
theorem kw_L_68 : jv_KV RL 68 yX8_help cX8_help 4 (some .int) 3 := ⟨(jv_tb_in (jv_tm (k := 830) (by decide +kernel)) (by decide +kernel)), (jv_tb_in (jv_tm (k := 831) (by decide +kernel)) (by decide +kernel)), (jv_tb_in (jv_tm (k := 832) (by decide +kernel)) (by decide +kernel)), (jv_tb_in (jv_tm (k := 1) (by decide +kernel)) (by decide +kernel)), (jv_tb_in (jv_tm (k := 833) (by decide +kernel)) (by decide +kernel)), by decide +kernel, by decide +kernel, by decide +kernel⟩
theorem kw_L_72 : jv_KV RL 72 yX8_judge cX8_judge 7 (some .int) 2 := ⟨(jv_tb_in (jv_tm (k := 853) (by decide +kernel)) (by decide +kernel)), (jv_tb_in (jv_tm (k := 854) (by decide +kernel)) (by decide +kernel)), (jv_tb_in (jv_tm (k := 855) (by decide +kernel)) (by decide +kernel)), (jv_tb_in (jv_tm (k := 1) (by decide +kernel)) (by decide +kernel)), (jv_tb_in (jv_tm (k := 856) (by decide +kernel)) (by decide +kernel)), by decide +kernel, by decide +kernel, by decide +kernel⟩
theorem kw_L_75 : jv_KV RL 75 yX8_solvedAt cX8_solvedAt 4 (some .int) 2 := ⟨(jv_tb_in (jv_tm (k := 880) (by decide +kernel)) (by decide +kernel)), (jv_tb_in (jv_tm (k := 881) (by decide +kernel)) (by decide +kernel)), (jv_tb_in (jv_tm (k := 882) (by decide +kernel)) (by decide +kernel)), (jv_tb_in (jv_tm (k := 1) (by decide +kernel)) (by decide +kernel)), (jv_tb_in (jv_tm (k := 883) (by decide +kernel)) (by decide +kernel)), by decide +kernel, by decide +kernel, by decide +kernel⟩
theorem kw_L_78 : jv_KV RL 78 yX8_open cX8_open 2 (some .int) 1 := ⟨(jv_tb_in (jv_tm (k := 888) (by decide +kernel)) (by decide +kernel)), (jv_tb_in (jv_tm (k := 889) (by decide +kernel)) (by decide +kernel)), (jv_tb_in (jv_tm (k := 890) (by decide +kernel)) (by decide +kernel)), (jv_tb_in (jv_tm (k := 1) (by decide +kernel)) (by decide +kernel)), (jv_tb_in (jv_tm (k := 891) (by decide +kernel)) (by decide +kernel)), by decide +kernel, by decide +kernel, by decide +kernel⟩
theorem kw_L_81 : jv_KV RL 81 yX8_coins cX8_coins 2 (some .int) 1 := ⟨(jv_tb_in (jv_tm (k := 895) (by decide +kernel)) (by decide +kernel)), (jv_tb_in (jv_tm (k := 896) (by decide +kernel)) (by decide +kernel)), (jv_tb_in (jv_tm (k := 897) (by decide +kernel)) (by decide +kernel)), (jv_tb_in (jv_tm (k := 1) (by decide +kernel)) (by decide +kernel)), (jv_tb_in (jv_tm (k := 898) (by decide +kernel)) (by decide +kernel)), by decide +kernel, by decide +kernel, by decide +kernel⟩
theorem kw_L_84 : jv_KV RL 84 yX8_streak cX8_streak 2 (some .int) 1 := ⟨(jv_tb_in (jv_tm (k := 902) (by decide +kernel)) (by decide +kernel)), (jv_tb_in (jv_tm (k := 903) (by decide +kernel)) (by decide +kernel)), (jv_tb_in (jv_tm (k := 904) (by decide +kernel)) (by decide +kernel)), (jv_tb_in (jv_tm (k := 1) (by decide +kernel)) (by decide +kernel)), (jv_tb_in (jv_tm (k := 905) (by decide +kernel)) (by decide +kernel)), by decide +kernel, by decide +kernel, by decide +kernel⟩
theorem kw_L_87 : jv_KV RL 87 yX8_streakAnew cX8_streakAnew 3 (some .int) 1 := ⟨(jv_tb_in (jv_tm (k := 909) (by decide +kernel)) (by decide +kernel)), (jv_tb_in (jv_tm (k := 910) (by decide +kernel)) (by decide +kernel)), (jv_tb_in (jv_tm (k := 911) (by decide +kernel)) (by decide +kernel)), (jv_tb_in (jv_tm (k := 1) (by decide +kernel)) (by decide +kernel)), (jv_tb_in (jv_tm (k := 912) (by decide +kernel)) (by decide +kernel)), by decide +kernel, by decide +kernel, by decide +kernel⟩
theorem kw_L_99 : jv_KV RL 99 yX9_spell cX9_spell 2 (some .int) 1 := ⟨(jv_tb_in (jv_tm (k := 1044) (by decide +kernel)) (by decide +kernel)), (jv_tb_in (jv_tm (k := 1045) (by decide +kernel)) (by decide +kernel)), (jv_tb_in (jv_tm (k := 1046) (by decide +kernel)) (by decide +kernel)), (jv_tb_in (jv_tm (k := 11) (by decide +kernel)) (by decide +kernel)), (jv_tb_in (jv_tm (k := 1047) (by decide +kernel)) (by decide +kernel)), by decide +kernel, by decide +kernel, by decide +kernel⟩
theorem kw_L_100 : jv_KV RL 100 yX9_thrown cX9_thrown 1 (some .int) 0 := ⟨(jv_tb_in (jv_tm (k := 1040) (by decide +kernel)) (by decide +kernel)), (jv_tb_in (jv_tm (k := 1041) (by decide +kernel)) (by decide +kernel)), (jv_tb_in (jv_tm (k := 1042) (by decide +kernel)) (by decide +kernel)), (jv_tb_in (jv_tm (k := 11) (by decide +kernel)) (by decide +kernel)), (jv_tb_in (jv_tm (k := 1043) (by decide +kernel)) (by decide +kernel)), by decide +kernel, by decide +kernel, by decide +kernel⟩
theorem kw_L_105 : jv_KV RL 105 yX9_insert cX9_insert 3 (some .int) 1 := ⟨(jv_tb_in (jv_tm (k := 1059) (by decide +kernel)) (by decide +kernel)), (jv_tb_in (jv_tm (k := 1060) (by decide +kernel)) (by decide +kernel)), (jv_tb_in (jv_tm (k := 1061) (by decide +kernel)) (by decide +kernel)), (jv_tb_in (jv_tm (k := 11) (by decide +kernel)) (by decide +kernel)), (jv_tb_in (jv_tm (k := 1062) (by decide +kernel)) (by decide +kernel)), by decide +kernel, by decide +kernel, by decide +kernel⟩
theorem kw_L_106 : jv_KV RL 106 yX8_turn cX8_turn 1 (some .int) 0 := ⟨(jv_tb_in (jv_tm (k := 239) (by decide +kernel)) (by decide +kernel)), (jv_tb_in (jv_tm (k := 240) (by decide +kernel)) (by decide +kernel)), (jv_tb_in (jv_tm (k := 241) (by decide +kernel)) (by decide +kernel)), (jv_tb_in (jv_tm (k := 1) (by decide +kernel)) (by decide +kernel)), (jv_tb_in (jv_tm (k := 242) (by decide +kernel)) (by decide +kernel)), by decide +kernel, by decide +kernel, by decide +kernel⟩
theorem kw_L_109 : jv_KV RL 109 yX9_turn cX9_turn 3 (some .int) 0 := ⟨(jv_tb_in (jv_tm (k := 1063) (by decide +kernel)) (by decide +kernel)), (jv_tb_in (jv_tm (k := 1064) (by decide +kernel)) (by decide +kernel)), (jv_tb_in (jv_tm (k := 1065) (by decide +kernel)) (by decide +kernel)), (jv_tb_in (jv_tm (k := 11) (by decide +kernel)) (by decide +kernel)), (jv_tb_in (jv_tm (k := 1066) (by decide +kernel)) (by decide +kernel)), by decide +kernel, by decide +kernel, by decide +kernel⟩
theorem kw_L_110 : jv_KV RL 110 yX8_clearSpelled cX8_clearSpelled 2 (some .int) 0 := ⟨(jv_tb_in (jv_tm (k := 251) (by decide +kernel)) (by decide +kernel)), (jv_tb_in (jv_tm (k := 252) (by decide +kernel)) (by decide +kernel)), (jv_tb_in (jv_tm (k := 253) (by decide +kernel)) (by decide +kernel)), (jv_tb_in (jv_tm (k := 1) (by decide +kernel)) (by decide +kernel)), (jv_tb_in (jv_tm (k := 254) (by decide +kernel)) (by decide +kernel)), by decide +kernel, by decide +kernel, by decide +kernel⟩
theorem kw_L_113 : jv_KV RL 113 yX9_clearSpelled cX9_clearSpelled 2 (some .int) 0 := ⟨(jv_tb_in (jv_tm (k := 1067) (by decide +kernel)) (by decide +kernel)), (jv_tb_in (jv_tm (k := 1068) (by decide +kernel)) (by decide +kernel)), (jv_tb_in (jv_tm (k := 1069) (by decide +kernel)) (by decide +kernel)), (jv_tb_in (jv_tm (k := 11) (by decide +kernel)) (by decide +kernel)), (jv_tb_in (jv_tm (k := 1070) (by decide +kernel)) (by decide +kernel)), by decide +kernel, by decide +kernel, by decide +kernel⟩
theorem kw_L_116 : jv_KV RL 116 yX9_charAt cX9_charAt 4 (some .char) 1 := ⟨(jv_tb_in (jv_tm (k := 1071) (by decide +kernel)) (by decide +kernel)), (jv_tb_in (jv_tm (k := 1072) (by decide +kernel)) (by decide +kernel)), (jv_tb_in (jv_tm (k := 1073) (by decide +kernel)) (by decide +kernel)), (jv_tb_in (jv_tm (k := 11) (by decide +kernel)) (by decide +kernel)), (jv_tb_in (jv_tm (k := 1074) (by decide +kernel)) (by decide +kernel)), by decide +kernel, by decide +kernel, by decide +kernel⟩
theorem kw_L_119 : jv_KV RL 119 yX9_addWord cX9_addWord 3 (some .int) 1 := ⟨(jv_tb_in (jv_tm (k := 1077) (by decide +kernel)) (by decide +kernel)), (jv_tb_in (jv_tm (k := 1078) (by decide +kernel)) (by decide +kernel)), (jv_tb_in (jv_tm (k := 1079) (by decide +kernel)) (by decide +kernel)), (jv_tb_in (jv_tm (k := 11) (by decide +kernel)) (by decide +kernel)), (jv_tb_in (jv_tm (k := 1080) (by decide +kernel)) (by decide +kernel)), by decide +kernel, by decide +kernel, by decide +kernel⟩
theorem kw_L_123 : jv_KV RL 123 yX9_setWeight cX9_setWeight 4 (some .int) 2 := ⟨(jv_tb_in (jv_tm (k := 1085) (by decide +kernel)) (by decide +kernel)), (jv_tb_in (jv_tm (k := 1086) (by decide +kernel)) (by decide +kernel)), (jv_tb_in (jv_tm (k := 1087) (by decide +kernel)) (by decide +kernel)), (jv_tb_in (jv_tm (k := 11) (by decide +kernel)) (by decide +kernel)), (jv_tb_in (jv_tm (k := 1088) (by decide +kernel)) (by decide +kernel)), by decide +kernel, by decide +kernel, by decide +kernel⟩
theorem kw_L_124 : jv_KV RL 124 yX8_wordAt cX8_wordAt 2 (some .int) 1 := ⟨(jv_tb_in (jv_tm (k := 259) (by decide +kernel)) (by decide +kernel)), (jv_tb_in (jv_tm (k := 260) (by decide +kernel)) (by decide +kernel)), (jv_tb_in (jv_tm (k := 261) (by decide +kernel)) (by decide +kernel)), (jv_tb_in (jv_tm (k := 1) (by decide +kernel)) (by decide +kernel)), (jv_tb_in (jv_tm (k := 262) (by decide +kernel)) (by decide +kernel)), by decide +kernel, by decide +kernel, by decide +kernel⟩
theorem kw_L_127 : jv_KV RL 127 yX9_wordAt cX9_wordAt 2 (some .int) 1 := ⟨(jv_tb_in (jv_tm (k := 1093) (by decide +kernel)) (by decide +kernel)), (jv_tb_in (jv_tm (k := 1094) (by decide +kernel)) (by decide +kernel)), (jv_tb_in (jv_tm (k := 1095) (by decide +kernel)) (by decide +kernel)), (jv_tb_in (jv_tm (k := 11) (by decide +kernel)) (by decide +kernel)), (jv_tb_in (jv_tm (k := 1096) (by decide +kernel)) (by decide +kernel)), by decide +kernel, by decide +kernel, by decide +kernel⟩
theorem kw_L_128 : jv_KV RL 128 yX8_beginning cX8_beginning 1 (some .int) 0 := ⟨(jv_tb_in (jv_tm (k := 274) (by decide +kernel)) (by decide +kernel)), (jv_tb_in (jv_tm (k := 275) (by decide +kernel)) (by decide +kernel)), (jv_tb_in (jv_tm (k := 276) (by decide +kernel)) (by decide +kernel)), (jv_tb_in (jv_tm (k := 1) (by decide +kernel)) (by decide +kernel)), (jv_tb_in (jv_tm (k := 277) (by decide +kernel)) (by decide +kernel)), by decide +kernel, by decide +kernel, by decide +kernel⟩
theorem kw_L_131 : jv_KV RL 131 yX9_beginning cX9_beginning 5 (some .int) 0 := ⟨(jv_tb_in (jv_tm (k := 1101) (by decide +kernel)) (by decide +kernel)), (jv_tb_in (jv_tm (k := 1102) (by decide +kernel)) (by decide +kernel)), (jv_tb_in (jv_tm (k := 1103) (by decide +kernel)) (by decide +kernel)), (jv_tb_in (jv_tm (k := 11) (by decide +kernel)) (by decide +kernel)), (jv_tb_in (jv_tm (k := 1104) (by decide +kernel)) (by decide +kernel)), by decide +kernel, by decide +kernel, by decide +kernel⟩
theorem kw_L_134 : jv_KV RL 134 yX9_fix cX9_fix 4 (some .int) 2 := ⟨(jv_tb_in (jv_tm (k := 1108) (by decide +kernel)) (by decide +kernel)), (jv_tb_in (jv_tm (k := 1109) (by decide +kernel)) (by decide +kernel)), (jv_tb_in (jv_tm (k := 1110) (by decide +kernel)) (by decide +kernel)), (jv_tb_in (jv_tm (k := 11) (by decide +kernel)) (by decide +kernel)), (jv_tb_in (jv_tm (k := 1111) (by decide +kernel)) (by decide +kernel)), by decide +kernel, by decide +kernel, by decide +kernel⟩
theorem kw_L_135 : jv_KV RL 135 yX8_fillWeight cX8_fillWeight 1 (some .int) 0 := ⟨(jv_tb_in (jv_tm (k := 286) (by decide +kernel)) (by decide +kernel)), (jv_tb_in (jv_tm (k := 287) (by decide +kernel)) (by decide +kernel)), (jv_tb_in (jv_tm (k := 288) (by decide +kernel)) (by decide +kernel)), (jv_tb_in (jv_tm (k := 1) (by decide +kernel)) (by decide +kernel)), (jv_tb_in (jv_tm (k := 289) (by decide +kernel)) (by decide +kernel)), by decide +kernel, by decide +kernel, by decide +kernel⟩
theorem kw_L_138 : jv_KV RL 138 yX9_fillWeight cX9_fillWeight 1 (some .int) 0 := ⟨(jv_tb_in (jv_tm (k := 1112) (by decide +kernel)) (by decide +kernel)), (jv_tb_in (jv_tm (k := 1113) (by decide +kernel)) (by decide +kernel)), (jv_tb_in (jv_tm (k := 1114) (by decide +kernel)) (by decide +kernel)), (jv_tb_in (jv_tm (k := 11) (by decide +kernel)) (by decide +kernel)), (jv_tb_in (jv_tm (k := 1115) (by decide +kernel)) (by decide +kernel)), by decide +kernel, by decide +kernel, by decide +kernel⟩
theorem kw_L_139 : jv_KV RL 139 yX8_fillWeightByAll cX8_fillWeightByAll 1 (some .int) 0 := ⟨(jv_tb_in (jv_tm (k := 332) (by decide +kernel)) (by decide +kernel)), (jv_tb_in (jv_tm (k := 333) (by decide +kernel)) (by decide +kernel)), (jv_tb_in (jv_tm (k := 334) (by decide +kernel)) (by decide +kernel)), (jv_tb_in (jv_tm (k := 1) (by decide +kernel)) (by decide +kernel)), (jv_tb_in (jv_tm (k := 335) (by decide +kernel)) (by decide +kernel)), by decide +kernel, by decide +kernel, by decide +kernel⟩
theorem kw_L_142 : jv_KV RL 142 yX9_fillWeightByAll cX9_fillWeightByAll 1 (some .int) 0 := ⟨(jv_tb_in (jv_tm (k := 1132) (by decide +kernel)) (by decide +kernel)), (jv_tb_in (jv_tm (k := 1133) (by decide +kernel)) (by decide +kernel)), (jv_tb_in (jv_tm (k := 1134) (by decide +kernel)) (by decide +kernel)), (jv_tb_in (jv_tm (k := 11) (by decide +kernel)) (by decide +kernel)), (jv_tb_in (jv_tm (k := 1135) (by decide +kernel)) (by decide +kernel)), by decide +kernel, by decide +kernel, by decide +kernel⟩
theorem kw_L_143 : jv_KV RL 143 yX8_fills cX8_fills 1 (some .int) 0 := ⟨(jv_tb_in (jv_tm (k := 347) (by decide +kernel)) (by decide +kernel)), (jv_tb_in (jv_tm (k := 348) (by decide +kernel)) (by decide +kernel)), (jv_tb_in (jv_tm (k := 349) (by decide +kernel)) (by decide +kernel)), (jv_tb_in (jv_tm (k := 1) (by decide +kernel)) (by decide +kernel)), (jv_tb_in (jv_tm (k := 350) (by decide +kernel)) (by decide +kernel)), by decide +kernel, by decide +kernel, by decide +kernel⟩
theorem kw_L_146 : jv_KV RL 146 yX9_fills cX9_fills 1 (some .int) 0 := ⟨(jv_tb_in (jv_tm (k := 1137) (by decide +kernel)) (by decide +kernel)), (jv_tb_in (jv_tm (k := 1138) (by decide +kernel)) (by decide +kernel)), (jv_tb_in (jv_tm (k := 1139) (by decide +kernel)) (by decide +kernel)), (jv_tb_in (jv_tm (k := 11) (by decide +kernel)) (by decide +kernel)), (jv_tb_in (jv_tm (k := 1140) (by decide +kernel)) (by decide +kernel)), by decide +kernel, by decide +kernel, by decide +kernel⟩
theorem kw_L_149 : jv_KV RL 149 yX9_fillAt cX9_fillAt 2 (some .int) 1 := ⟨(jv_tb_in (jv_tm (k := 1141) (by decide +kernel)) (by decide +kernel)), (jv_tb_in (jv_tm (k := 1142) (by decide +kernel)) (by decide +kernel)), (jv_tb_in (jv_tm (k := 1143) (by decide +kernel)) (by decide +kernel)), (jv_tb_in (jv_tm (k := 11) (by decide +kernel)) (by decide +kernel)), (jv_tb_in (jv_tm (k := 1144) (by decide +kernel)) (by decide +kernel)), by decide +kernel, by decide +kernel, by decide +kernel⟩
theorem kw_L_152 : jv_KV RL 152 yX9_clue cX9_clue 2 (some .int) 1 := ⟨(jv_tb_in (jv_tm (k := 1145) (by decide +kernel)) (by decide +kernel)), (jv_tb_in (jv_tm (k := 1146) (by decide +kernel)) (by decide +kernel)), (jv_tb_in (jv_tm (k := 1147) (by decide +kernel)) (by decide +kernel)), (jv_tb_in (jv_tm (k := 11) (by decide +kernel)) (by decide +kernel)), (jv_tb_in (jv_tm (k := 1148) (by decide +kernel)) (by decide +kernel)), by decide +kernel, by decide +kernel, by decide +kernel⟩
theorem kw_L_156 : jv_KV RL 156 yX9_edit cX9_edit 3 (some .int) 2 := ⟨(jv_tb_in (jv_tm (k := 1149) (by decide +kernel)) (by decide +kernel)), (jv_tb_in (jv_tm (k := 1150) (by decide +kernel)) (by decide +kernel)), (jv_tb_in (jv_tm (k := 1151) (by decide +kernel)) (by decide +kernel)), (jv_tb_in (jv_tm (k := 11) (by decide +kernel)) (by decide +kernel)), (jv_tb_in (jv_tm (k := 1152) (by decide +kernel)) (by decide +kernel)), by decide +kernel, by decide +kernel, by decide +kernel⟩
theorem kw_L_159 : jv_KV RL 159 yX9_lastUsed cX9_lastUsed 2 (some .int) 1 := ⟨(jv_tb_in (jv_tm (k := 1157) (by decide +kernel)) (by decide +kernel)), (jv_tb_in (jv_tm (k := 1158) (by decide +kernel)) (by decide +kernel)), (jv_tb_in (jv_tm (k := 1159) (by decide +kernel)) (by decide +kernel)), (jv_tb_in (jv_tm (k := 11) (by decide +kernel)) (by decide +kernel)), (jv_tb_in (jv_tm (k := 1160) (by decide +kernel)) (by decide +kernel)), by decide +kernel, by decide +kernel, by decide +kernel⟩
theorem kw_L_162 : jv_KV RL 162 yX9_pass cX9_pass 2 (some .int) 1 := ⟨(jv_tb_in (jv_tm (k := 1161) (by decide +kernel)) (by decide +kernel)), (jv_tb_in (jv_tm (k := 1162) (by decide +kernel)) (by decide +kernel)), (jv_tb_in (jv_tm (k := 1163) (by decide +kernel)) (by decide +kernel)), (jv_tb_in (jv_tm (k := 11) (by decide +kernel)) (by decide +kernel)), (jv_tb_in (jv_tm (k := 1164) (by decide +kernel)) (by decide +kernel)), by decide +kernel, by decide +kernel, by decide +kernel⟩
theorem kw_L_163 : jv_KV RL 163 yX8_now cX8_now 1 (some .int) 0 := ⟨(jv_tb_in (jv_tm (k := 355) (by decide +kernel)) (by decide +kernel)), (jv_tb_in (jv_tm (k := 356) (by decide +kernel)) (by decide +kernel)), (jv_tb_in (jv_tm (k := 357) (by decide +kernel)) (by decide +kernel)), (jv_tb_in (jv_tm (k := 1) (by decide +kernel)) (by decide +kernel)), (jv_tb_in (jv_tm (k := 358) (by decide +kernel)) (by decide +kernel)), by decide +kernel, by decide +kernel, by decide +kernel⟩
theorem kw_L_166 : jv_KV RL 166 yX9_now cX9_now 1 (some .int) 0 := ⟨(jv_tb_in (jv_tm (k := 1165) (by decide +kernel)) (by decide +kernel)), (jv_tb_in (jv_tm (k := 1166) (by decide +kernel)) (by decide +kernel)), (jv_tb_in (jv_tm (k := 1167) (by decide +kernel)) (by decide +kernel)), (jv_tb_in (jv_tm (k := 11) (by decide +kernel)) (by decide +kernel)), (jv_tb_in (jv_tm (k := 1168) (by decide +kernel)) (by decide +kernel)), by decide +kernel, by decide +kernel, by decide +kernel⟩
theorem kw_L_170 : jv_KV RL 170 yX9_publish cX9_publish 4 (some .int) 0 := ⟨(jv_tb_in (jv_tm (k := 1169) (by decide +kernel)) (by decide +kernel)), (jv_tb_in (jv_tm (k := 1170) (by decide +kernel)) (by decide +kernel)), (jv_tb_in (jv_tm (k := 1171) (by decide +kernel)) (by decide +kernel)), (jv_tb_in (jv_tm (k := 11) (by decide +kernel)) (by decide +kernel)), (jv_tb_in (jv_tm (k := 1172) (by decide +kernel)) (by decide +kernel)), by decide +kernel, by decide +kernel, by decide +kernel⟩
theorem kw_L_173 : jv_KV RL 173 yX9_clueOf cX9_clueOf 3 (some .int) 2 := ⟨(jv_tb_in (jv_tm (k := 1177) (by decide +kernel)) (by decide +kernel)), (jv_tb_in (jv_tm (k := 1178) (by decide +kernel)) (by decide +kernel)), (jv_tb_in (jv_tm (k := 1179) (by decide +kernel)) (by decide +kernel)), (jv_tb_in (jv_tm (k := 11) (by decide +kernel)) (by decide +kernel)), (jv_tb_in (jv_tm (k := 1180) (by decide +kernel)) (by decide +kernel)), by decide +kernel, by decide +kernel, by decide +kernel⟩
theorem kw_L_176 : jv_KV RL 176 yX9_addSolver cX9_addSolver 3 (some .int) 2 := ⟨(jv_tb_in (jv_tm (k := 1185) (by decide +kernel)) (by decide +kernel)), (jv_tb_in (jv_tm (k := 1186) (by decide +kernel)) (by decide +kernel)), (jv_tb_in (jv_tm (k := 1187) (by decide +kernel)) (by decide +kernel)), (jv_tb_in (jv_tm (k := 11) (by decide +kernel)) (by decide +kernel)), (jv_tb_in (jv_tm (k := 1188) (by decide +kernel)) (by decide +kernel)), by decide +kernel, by decide +kernel, by decide +kernel⟩
theorem kw_L_180 : jv_KV RL 180 yX9_enter cX9_enter 5 (some .boolean) 4 := ⟨(jv_tb_in (jv_tm (k := 1189) (by decide +kernel)) (by decide +kernel)), (jv_tb_in (jv_tm (k := 1190) (by decide +kernel)) (by decide +kernel)), (jv_tb_in (jv_tm (k := 1191) (by decide +kernel)) (by decide +kernel)), (jv_tb_in (jv_tm (k := 11) (by decide +kernel)) (by decide +kernel)), (jv_tb_in (jv_tm (k := 1192) (by decide +kernel)) (by decide +kernel)), by decide +kernel, by decide +kernel, by decide +kernel⟩
theorem kw_L_184 : jv_KV RL 184 yX9_help cX9_help 6 (some .int) 3 := ⟨(jv_tb_in (jv_tm (k := 1221) (by decide +kernel)) (by decide +kernel)), (jv_tb_in (jv_tm (k := 1222) (by decide +kernel)) (by decide +kernel)), (jv_tb_in (jv_tm (k := 1223) (by decide +kernel)) (by decide +kernel)), (jv_tb_in (jv_tm (k := 11) (by decide +kernel)) (by decide +kernel)), (jv_tb_in (jv_tm (k := 1224) (by decide +kernel)) (by decide +kernel)), by decide +kernel, by decide +kernel, by decide +kernel⟩
theorem kw_L_187 : jv_KV RL 187 yX9_judge cX9_judge 9 (some .int) 2 := ⟨(jv_tb_in (jv_tm (k := 1225) (by decide +kernel)) (by decide +kernel)), (jv_tb_in (jv_tm (k := 1226) (by decide +kernel)) (by decide +kernel)), (jv_tb_in (jv_tm (k := 1227) (by decide +kernel)) (by decide +kernel)), (jv_tb_in (jv_tm (k := 11) (by decide +kernel)) (by decide +kernel)), (jv_tb_in (jv_tm (k := 1228) (by decide +kernel)) (by decide +kernel)), by decide +kernel, by decide +kernel, by decide +kernel⟩
theorem kw_L_190 : jv_KV RL 190 yX9_solvedAt cX9_solvedAt 3 (some .int) 2 := ⟨(jv_tb_in (jv_tm (k := 1233) (by decide +kernel)) (by decide +kernel)), (jv_tb_in (jv_tm (k := 1234) (by decide +kernel)) (by decide +kernel)), (jv_tb_in (jv_tm (k := 1235) (by decide +kernel)) (by decide +kernel)), (jv_tb_in (jv_tm (k := 11) (by decide +kernel)) (by decide +kernel)), (jv_tb_in (jv_tm (k := 1236) (by decide +kernel)) (by decide +kernel)), by decide +kernel, by decide +kernel, by decide +kernel⟩
theorem kw_L_193 : jv_KV RL 193 yX9_open cX9_open 2 (some .int) 1 := ⟨(jv_tb_in (jv_tm (k := 1237) (by decide +kernel)) (by decide +kernel)), (jv_tb_in (jv_tm (k := 1238) (by decide +kernel)) (by decide +kernel)), (jv_tb_in (jv_tm (k := 1239) (by decide +kernel)) (by decide +kernel)), (jv_tb_in (jv_tm (k := 11) (by decide +kernel)) (by decide +kernel)), (jv_tb_in (jv_tm (k := 1240) (by decide +kernel)) (by decide +kernel)), by decide +kernel, by decide +kernel, by decide +kernel⟩
theorem kw_L_196 : jv_KV RL 196 yX9_coins cX9_coins 2 (some .int) 1 := ⟨(jv_tb_in (jv_tm (k := 1241) (by decide +kernel)) (by decide +kernel)), (jv_tb_in (jv_tm (k := 1242) (by decide +kernel)) (by decide +kernel)), (jv_tb_in (jv_tm (k := 1243) (by decide +kernel)) (by decide +kernel)), (jv_tb_in (jv_tm (k := 11) (by decide +kernel)) (by decide +kernel)), (jv_tb_in (jv_tm (k := 1244) (by decide +kernel)) (by decide +kernel)), by decide +kernel, by decide +kernel, by decide +kernel⟩
theorem kw_L_199 : jv_KV RL 199 yX9_streak cX9_streak 2 (some .int) 1 := ⟨(jv_tb_in (jv_tm (k := 1245) (by decide +kernel)) (by decide +kernel)), (jv_tb_in (jv_tm (k := 1246) (by decide +kernel)) (by decide +kernel)), (jv_tb_in (jv_tm (k := 1247) (by decide +kernel)) (by decide +kernel)), (jv_tb_in (jv_tm (k := 11) (by decide +kernel)) (by decide +kernel)), (jv_tb_in (jv_tm (k := 1248) (by decide +kernel)) (by decide +kernel)), by decide +kernel, by decide +kernel, by decide +kernel⟩
theorem kw_L_202 : jv_KV RL 202 yX9_streakAnew cX9_streakAnew 2 (some .int) 1 := ⟨(jv_tb_in (jv_tm (k := 1249) (by decide +kernel)) (by decide +kernel)), (jv_tb_in (jv_tm (k := 1250) (by decide +kernel)) (by decide +kernel)), (jv_tb_in (jv_tm (k := 1251) (by decide +kernel)) (by decide +kernel)), (jv_tb_in (jv_tm (k := 11) (by decide +kernel)) (by decide +kernel)), (jv_tb_in (jv_tm (k := 1252) (by decide +kernel)) (by decide +kernel)), by decide +kernel, by decide +kernel, by decide +kernel⟩
theorem kw_L_203 : jv_KV RL 203 yX8_solverAt cX8_solverAt 3 (some .int) 1 := ⟨(jv_tb_in (jv_tm (k := 359) (by decide +kernel)) (by decide +kernel)), (jv_tb_in (jv_tm (k := 360) (by decide +kernel)) (by decide +kernel)), (jv_tb_in (jv_tm (k := 361) (by decide +kernel)) (by decide +kernel)), (jv_tb_in (jv_tm (k := 1) (by decide +kernel)) (by decide +kernel)), (jv_tb_in (jv_tm (k := 362) (by decide +kernel)) (by decide +kernel)), by decide +kernel, by decide +kernel, by decide +kernel⟩
theorem kw_L_206 : jv_KV RL 206 yX9_solverAt cX9_solverAt 6 (some .int) 1 := ⟨(jv_tb_in (jv_tm (k := 1254) (by decide +kernel)) (by decide +kernel)), (jv_tb_in (jv_tm (k := 1255) (by decide +kernel)) (by decide +kernel)), (jv_tb_in (jv_tm (k := 1256) (by decide +kernel)) (by decide +kernel)), (jv_tb_in (jv_tm (k := 11) (by decide +kernel)) (by decide +kernel)), (jv_tb_in (jv_tm (k := 1257) (by decide +kernel)) (by decide +kernel)), by decide +kernel, by decide +kernel, by decide +kernel⟩
theorem ks_max : Cond.static Lib.Math.max.name ∈ jv_tb := (jv_tb_in (jv_tm (k := 345) (by decide +kernel)) (by decide +kernel))
theorem kd_max : Cond.code Lib.Math.max.name Lib.Math.max.code 2 (some .int) ∈ jv_tb := (jv_tb_in (jv_tm (k := 346) (by decide +kernel)) (by decide +kernel))
theorem ks_min : Cond.static Lib.Math.min.name ∈ jv_tb := (jv_tb_in (jv_tm (k := 843) (by decide +kernel)) (by decide +kernel))
theorem kd_min : Cond.code Lib.Math.min.name Lib.Math.min.code 2 (some .int) ∈ jv_tb := (jv_tb_in (jv_tm (k := 844) (by decide +kernel)) (by decide +kernel))
theorem ki_Math : Cond.initialized "java/lang/Math" ∈ jv_tb := (jv_tb_in (jv_tm (k := 19) (by decide +kernel)) (by decide +kernel))
end
section
theorem dX0_init_0 : decode cX0_init 0 = .ok (.aload_n 0, 1) := by decide +kernel
theorem dX0_init_1 : decode cX0_init 1 = .ok (.invokespecial 3, 3) := by decide +kernel
theorem dX0_init_4 : decode cX0_init 4 = .ok (.aload_n 0, 1) := by decide +kernel
theorem dX0_init_5 : decode cX0_init 5 = .ok (.bipush 60, 2) := by decide +kernel
theorem dX0_init_7 : decode cX0_init 7 = .ok (.newarray .int, 2) := by decide +kernel
theorem dX0_init_9 : decode cX0_init 9 = .ok (.putfield 9, 3) := by decide +kernel
theorem dX0_init_12 : decode cX0_init 12 = .ok (.aload_n 0, 1) := by decide +kernel
theorem dX0_init_13 : decode cX0_init 13 = .ok (.bipush 60, 2) := by decide +kernel
theorem dX0_init_15 : decode cX0_init 15 = .ok (.newarray .int, 2) := by decide +kernel
theorem dX0_init_17 : decode cX0_init 17 = .ok (.putfield 15, 3) := by decide +kernel
theorem dX0_init_20 : decode cX0_init 20 = .ok (.aload_n 0, 1) := by decide +kernel
theorem dX0_init_21 : decode cX0_init 21 = .ok (.bipush 60, 2) := by decide +kernel
theorem dX0_init_23 : decode cX0_init 23 = .ok (.newarray .int, 2) := by decide +kernel
theorem dX0_init_25 : decode cX0_init 25 = .ok (.putfield 18, 3) := by decide +kernel
theorem dX0_init_28 : decode cX0_init 28 = .ok (.aload_n 0, 1) := by decide +kernel
theorem dX0_init_29 : decode cX0_init 29 = .ok (.bipush 6, 2) := by decide +kernel
theorem dX0_init_31 : decode cX0_init 31 = .ok (.newarray .int, 2) := by decide +kernel
theorem dX0_init_33 : decode cX0_init 33 = .ok (.putfield 21, 3) := by decide +kernel
theorem dX0_init_36 : decode cX0_init 36 = .ok (.return_, 1) := by decide +kernel
theorem dX0_count_0 : decode cX0_count 0 = .ok (.aload_n 0, 1) := by decide +kernel
theorem dX0_count_1 : decode cX0_count 1 = .ok (.getfield 24, 3) := by decide +kernel
theorem dX0_count_4 : decode cX0_count 4 = .ok (.ireturn, 1) := by decide +kernel
theorem dX0_add_0 : decode cX0_add 0 = .ok (.aload_n 0, 1) := by decide +kernel
theorem dX0_add_1 : decode cX0_add 1 = .ok (.getfield 9, 3) := by decide +kernel
theorem dX0_add_4 : decode cX0_add 4 = .ok (.aload_n 0, 1) := by decide +kernel
theorem dX0_add_5 : decode cX0_add 5 = .ok (.getfield 24, 3) := by decide +kernel
theorem dX0_add_8 : decode cX0_add 8 = .ok (.iload_n 1, 1) := by decide +kernel
theorem dX0_add_9 : decode cX0_add 9 = .ok (.iastore, 1) := by decide +kernel
theorem dX0_add_10 : decode cX0_add 10 = .ok (.aload_n 0, 1) := by decide +kernel
theorem dX0_add_11 : decode cX0_add 11 = .ok (.getfield 18, 3) := by decide +kernel
theorem dX0_add_14 : decode cX0_add 14 = .ok (.aload_n 0, 1) := by decide +kernel
theorem dX0_add_15 : decode cX0_add 15 = .ok (.getfield 24, 3) := by decide +kernel
theorem dX0_add_18 : decode cX0_add 18 = .ok (.iconst (-1), 1) := by decide +kernel
theorem dX0_add_19 : decode cX0_add 19 = .ok (.iastore, 1) := by decide +kernel
theorem dX0_add_20 : decode cX0_add 20 = .ok (.aload_n 0, 1) := by decide +kernel
theorem dX0_add_21 : decode cX0_add 21 = .ok (.dup, 1) := by decide +kernel
theorem dX0_add_22 : decode cX0_add 22 = .ok (.getfield 24, 3) := by decide +kernel
theorem dX0_add_25 : decode cX0_add 25 = .ok (.iconst 1, 1) := by decide +kernel
theorem dX0_add_26 : decode cX0_add 26 = .ok (.iadd, 1) := by decide +kernel
theorem dX0_add_27 : decode cX0_add 27 = .ok (.putfield 24, 3) := by decide +kernel
theorem dX0_add_30 : decode cX0_add 30 = .ok (.aload_n 0, 1) := by decide +kernel
theorem dX0_add_31 : decode cX0_add 31 = .ok (.getfield 24, 3) := by decide +kernel
theorem dX0_add_34 : decode cX0_add 34 = .ok (.iconst 1, 1) := by decide +kernel
theorem dX0_add_35 : decode cX0_add 35 = .ok (.isub, 1) := by decide +kernel
theorem dX0_add_36 : decode cX0_add 36 = .ok (.ireturn, 1) := by decide +kernel
theorem dX0_isReady_0 : decode cX0_isReady 0 = .ok (.aload_n 0, 1) := by decide +kernel
theorem dX0_isReady_1 : decode cX0_isReady 1 = .ok (.getfield 15, 3) := by decide +kernel
theorem dX0_isReady_4 : decode cX0_isReady 4 = .ok (.iload_n 1, 1) := by decide +kernel
theorem dX0_isReady_5 : decode cX0_isReady 5 = .ok (.iaload, 1) := by decide +kernel
theorem dX0_isReady_6 : decode cX0_isReady 6 = .ok (.iconst 2, 1) := by decide +kernel
theorem dX0_isReady_7 : decode cX0_isReady 7 = .ok (.if_icmp .lt 7, 3) := by decide +kernel
theorem dX0_isReady_10 : decode cX0_isReady 10 = .ok (.iconst 1, 1) := by decide +kernel
theorem dX0_isReady_11 : decode cX0_isReady 11 = .ok (.goto 4, 3) := by decide +kernel
theorem dX0_isReady_14 : decode cX0_isReady 14 = .ok (.iconst 0, 1) := by decide +kernel
theorem dX0_isReady_15 : decode cX0_isReady 15 = .ok (.ireturn, 1) := by decide +kernel
theorem dX0_look_0 : decode cX0_look 0 = .ok (.aload_n 0, 1) := by decide +kernel
theorem dX0_look_1 : decode cX0_look 1 = .ok (.getfield 15, 3) := by decide +kernel
theorem dX0_look_4 : decode cX0_look 4 = .ok (.iload_n 1, 1) := by decide +kernel
theorem dX0_look_5 : decode cX0_look 5 = .ok (.iload_n 2, 1) := by decide +kernel
theorem dX0_look_6 : decode cX0_look 6 = .ok (.ifCond .eq 14, 3) := by decide +kernel
theorem dX0_look_9 : decode cX0_look 9 = .ok (.aload_n 0, 1) := by decide +kernel
theorem dX0_look_10 : decode cX0_look 10 = .ok (.getfield 15, 3) := by decide +kernel
theorem dX0_look_13 : decode cX0_look 13 = .ok (.iload_n 1, 1) := by decide +kernel
theorem dX0_look_14 : decode cX0_look 14 = .ok (.iaload, 1) := by decide +kernel
theorem dX0_look_15 : decode cX0_look 15 = .ok (.iconst 1, 1) := by decide +kernel
theorem dX0_look_16 : decode cX0_look 16 = .ok (.iadd, 1) := by decide +kernel
theorem dX0_look_17 : decode cX0_look 17 = .ok (.goto 4, 3) := by decide +kernel
theorem dX0_look_20 : decode cX0_look 20 = .ok (.iconst 0, 1) := by decide +kernel
theorem dX0_look_21 : decode cX0_look 21 = .ok (.iastore, 1) := by decide +kernel
theorem dX0_look_22 : decode cX0_look 22 = .ok (.aload_n 0, 1) := by decide +kernel
theorem dX0_look_23 : decode cX0_look 23 = .ok (.getfield 15, 3) := by decide +kernel
theorem dX0_look_26 : decode cX0_look 26 = .ok (.iload_n 1, 1) := by decide +kernel
theorem dX0_look_27 : decode cX0_look 27 = .ok (.iaload, 1) := by decide +kernel
theorem dX0_look_28 : decode cX0_look 28 = .ok (.ireturn, 1) := by decide +kernel
theorem dX0_lastDay_0 : decode cX0_lastDay 0 = .ok (.aload_n 0, 1) := by decide +kernel
theorem dX0_lastDay_1 : decode cX0_lastDay 1 = .ok (.getfield 18, 3) := by decide +kernel
theorem dX0_lastDay_4 : decode cX0_lastDay 4 = .ok (.iload_n 1, 1) := by decide +kernel
theorem dX0_lastDay_5 : decode cX0_lastDay 5 = .ok (.iaload, 1) := by decide +kernel
theorem dX0_lastDay_6 : decode cX0_lastDay 6 = .ok (.ireturn, 1) := by decide +kernel
theorem dX0_chosen_0 : decode cX0_chosen 0 = .ok (.aload_n 0, 1) := by decide +kernel
theorem dX0_chosen_1 : decode cX0_chosen 1 = .ok (.getfield 21, 3) := by decide +kernel
theorem dX0_chosen_4 : decode cX0_chosen 4 = .ok (.iload_n 1, 1) := by decide +kernel
theorem dX0_chosen_5 : decode cX0_chosen 5 = .ok (.iaload, 1) := by decide +kernel
theorem dX0_chosen_6 : decode cX0_chosen 6 = .ok (.ireturn, 1) := by decide +kernel
theorem dX0_choose_0 : decode cX0_choose 0 = .ok (.iconst (-1), 1) := by decide +kernel
theorem dX0_choose_1 : decode cX0_choose 1 = .ok (.istore 4, 2) := by decide +kernel
theorem dX0_choose_3 : decode cX0_choose 3 = .ok (.iconst 0, 1) := by decide +kernel
theorem dX0_choose_4 : decode cX0_choose 4 = .ok (.istore 5, 2) := by decide +kernel
theorem dX0_choose_6 : decode cX0_choose 6 = .ok (.iload 5, 2) := by decide +kernel
theorem dX0_choose_8 : decode cX0_choose 8 = .ok (.aload_n 0, 1) := by decide +kernel
theorem dX0_choose_9 : decode cX0_choose 9 = .ok (.getfield 24, 3) := by decide +kernel
theorem dX0_choose_12 : decode cX0_choose 12 = .ok (.if_icmp .ge 79, 3) := by decide +kernel
theorem dX0_choose_15 : decode cX0_choose 15 = .ok (.aload_n 0, 1) := by decide +kernel
theorem dX0_choose_16 : decode cX0_choose 16 = .ok (.getfield 9, 3) := by decide +kernel
theorem dX0_choose_19 : decode cX0_choose 19 = .ok (.iload 5, 2) := by decide +kernel
theorem dX0_choose_21 : decode cX0_choose 21 = .ok (.iaload, 1) := by decide +kernel
theorem dX0_choose_22 : decode cX0_choose 22 = .ok (.iload_n 2, 1) := by decide +kernel
theorem dX0_choose_23 : decode cX0_choose 23 = .ok (.if_icmp .ne 27, 3) := by decide +kernel
theorem dX0_choose_26 : decode cX0_choose 26 = .ok (.aload_n 0, 1) := by decide +kernel
theorem dX0_choose_27 : decode cX0_choose 27 = .ok (.iload 5, 2) := by decide +kernel
theorem dX0_choose_29 : decode cX0_choose 29 = .ok (.iload_n 3, 1) := by decide +kernel
theorem dX0_choose_30 : decode cX0_choose 30 = .ok (.invokevirtual 28, 3) := by decide +kernel
theorem dX0_choose_33 : decode cX0_choose 33 = .ok (.ifCond .eq 17, 3) := by decide +kernel
theorem dX0_choose_36 : decode cX0_choose 36 = .ok (.aload_n 0, 1) := by decide +kernel
theorem dX0_choose_37 : decode cX0_choose 37 = .ok (.iload 5, 2) := by decide +kernel
theorem dX0_choose_39 : decode cX0_choose 39 = .ok (.iload_n 1, 1) := by decide +kernel
theorem dX0_choose_40 : decode cX0_choose 40 = .ok (.invokevirtual 32, 3) := by decide +kernel
theorem dX0_choose_43 : decode cX0_choose 43 = .ok (.ifCond .ne 7, 3) := by decide +kernel
theorem dX0_choose_46 : decode cX0_choose 46 = .ok (.iconst 1, 1) := by decide +kernel
theorem dX0_choose_47 : decode cX0_choose 47 = .ok (.goto 4, 3) := by decide +kernel
theorem dX0_choose_50 : decode cX0_choose 50 = .ok (.iconst 0, 1) := by decide +kernel
theorem dX0_choose_51 : decode cX0_choose 51 = .ok (.istore 6, 2) := by decide +kernel
theorem dX0_choose_53 : decode cX0_choose 53 = .ok (.iload 6, 2) := by decide +kernel
theorem dX0_choose_55 : decode cX0_choose 55 = .ok (.ifCond .eq 30, 3) := by decide +kernel
theorem dX0_choose_58 : decode cX0_choose 58 = .ok (.iload 4, 2) := by decide +kernel
theorem dX0_choose_60 : decode cX0_choose 60 = .ok (.iconst (-1), 1) := by decide +kernel
theorem dX0_choose_61 : decode cX0_choose 61 = .ok (.if_icmp .eq 20, 3) := by decide +kernel
theorem dX0_choose_64 : decode cX0_choose 64 = .ok (.aload_n 0, 1) := by decide +kernel
theorem dX0_choose_65 : decode cX0_choose 65 = .ok (.getfield 18, 3) := by decide +kernel
theorem dX0_choose_68 : decode cX0_choose 68 = .ok (.iload 5, 2) := by decide +kernel
theorem dX0_choose_70 : decode cX0_choose 70 = .ok (.iaload, 1) := by decide +kernel
theorem dX0_choose_71 : decode cX0_choose 71 = .ok (.aload_n 0, 1) := by decide +kernel
theorem dX0_choose_72 : decode cX0_choose 72 = .ok (.getfield 18, 3) := by decide +kernel
theorem dX0_choose_75 : decode cX0_choose 75 = .ok (.iload 4, 2) := by decide +kernel
theorem dX0_choose_77 : decode cX0_choose 77 = .ok (.iaload, 1) := by decide +kernel
theorem dX0_choose_78 : decode cX0_choose 78 = .ok (.if_icmp .ge 7, 3) := by decide +kernel
theorem dX0_choose_81 : decode cX0_choose 81 = .ok (.iload 5, 2) := by decide +kernel
theorem dX0_choose_83 : decode cX0_choose 83 = .ok (.istore 4, 2) := by decide +kernel
theorem dX0_choose_85 : decode cX0_choose 85 = .ok (.iinc 5 1, 3) := by decide +kernel
theorem dX0_choose_88 : decode cX0_choose 88 = .ok (.goto (-82), 3) := by decide +kernel
theorem dX0_choose_91 : decode cX0_choose 91 = .ok (.aload_n 0, 1) := by decide +kernel
theorem dX0_choose_92 : decode cX0_choose 92 = .ok (.getfield 21, 3) := by decide +kernel
theorem dX0_choose_95 : decode cX0_choose 95 = .ok (.iload_n 1, 1) := by decide +kernel
theorem dX0_choose_96 : decode cX0_choose 96 = .ok (.iload 4, 2) := by decide +kernel
theorem dX0_choose_98 : decode cX0_choose 98 = .ok (.iastore, 1) := by decide +kernel
theorem dX0_choose_99 : decode cX0_choose 99 = .ok (.iload 4, 2) := by decide +kernel
theorem dX0_choose_101 : decode cX0_choose 101 = .ok (.iconst (-1), 1) := by decide +kernel
theorem dX0_choose_102 : decode cX0_choose 102 = .ok (.if_icmp .eq 7, 3) := by decide +kernel
theorem dX0_choose_105 : decode cX0_choose 105 = .ok (.iconst 1, 1) := by decide +kernel
theorem dX0_choose_106 : decode cX0_choose 106 = .ok (.goto 4, 3) := by decide +kernel
theorem dX0_choose_109 : decode cX0_choose 109 = .ok (.iconst 0, 1) := by decide +kernel
theorem dX0_choose_110 : decode cX0_choose 110 = .ok (.ireturn, 1) := by decide +kernel
theorem dX0_canBeUsed_0 : decode cX0_canBeUsed 0 = .ok (.aload_n 0, 1) := by decide +kernel
theorem dX0_canBeUsed_1 : decode cX0_canBeUsed 1 = .ok (.iload_n 1, 1) := by decide +kernel
theorem dX0_canBeUsed_2 : decode cX0_canBeUsed 2 = .ok (.invokevirtual 35, 3) := by decide +kernel
theorem dX0_canBeUsed_5 : decode cX0_canBeUsed 5 = .ok (.ifCond .ne 5, 3) := by decide +kernel
theorem dX0_canBeUsed_8 : decode cX0_canBeUsed 8 = .ok (.iconst 0, 1) := by decide +kernel
theorem dX0_canBeUsed_9 : decode cX0_canBeUsed 9 = .ok (.ireturn, 1) := by decide +kernel
theorem dX0_canBeUsed_10 : decode cX0_canBeUsed 10 = .ok (.aload_n 0, 1) := by decide +kernel
theorem dX0_canBeUsed_11 : decode cX0_canBeUsed 11 = .ok (.getfield 18, 3) := by decide +kernel
theorem dX0_canBeUsed_14 : decode cX0_canBeUsed 14 = .ok (.iload_n 1, 1) := by decide +kernel
theorem dX0_canBeUsed_15 : decode cX0_canBeUsed 15 = .ok (.iaload, 1) := by decide +kernel
theorem dX0_canBeUsed_16 : decode cX0_canBeUsed 16 = .ok (.iconst (-1), 1) := by decide +kernel
theorem dX0_canBeUsed_17 : decode cX0_canBeUsed 17 = .ok (.if_icmp .eq 17, 3) := by decide +kernel
theorem dX0_canBeUsed_20 : decode cX0_canBeUsed 20 = .ok (.iload_n 2, 1) := by decide +kernel
theorem dX0_canBeUsed_21 : decode cX0_canBeUsed 21 = .ok (.aload_n 0, 1) := by decide +kernel
theorem dX0_canBeUsed_22 : decode cX0_canBeUsed 22 = .ok (.getfield 18, 3) := by decide +kernel
theorem dX0_canBeUsed_25 : decode cX0_canBeUsed 25 = .ok (.iload_n 1, 1) := by decide +kernel
theorem dX0_canBeUsed_26 : decode cX0_canBeUsed 26 = .ok (.iaload, 1) := by decide +kernel
theorem dX0_canBeUsed_27 : decode cX0_canBeUsed 27 = .ok (.isub, 1) := by decide +kernel
theorem dX0_canBeUsed_28 : decode cX0_canBeUsed 28 = .ok (.sipush 364, 3) := by decide +kernel
theorem dX0_canBeUsed_31 : decode cX0_canBeUsed 31 = .ok (.if_icmp .le 7, 3) := by decide +kernel
theorem dX0_canBeUsed_34 : decode cX0_canBeUsed 34 = .ok (.iconst 1, 1) := by decide +kernel
theorem dX0_canBeUsed_35 : decode cX0_canBeUsed 35 = .ok (.goto 4, 3) := by decide +kernel
theorem dX0_canBeUsed_38 : decode cX0_canBeUsed 38 = .ok (.iconst 0, 1) := by decide +kernel
theorem dX0_canBeUsed_39 : decode cX0_canBeUsed 39 = .ok (.ireturn, 1) := by decide +kernel
theorem dX0_isChosenAhead_0 : decode cX0_isChosenAhead 0 = .ok (.iconst 0, 1) := by decide +kernel
theorem dX0_isChosenAhead_1 : decode cX0_isChosenAhead 1 = .ok (.istore_n 3, 1) := by decide +kernel
theorem dX0_isChosenAhead_2 : decode cX0_isChosenAhead 2 = .ok (.iload_n 3, 1) := by decide +kernel
theorem dX0_isChosenAhead_3 : decode cX0_isChosenAhead 3 = .ok (.iload_n 2, 1) := by decide +kernel
theorem dX0_isChosenAhead_4 : decode cX0_isChosenAhead 4 = .ok (.if_icmp .ge 21, 3) := by decide +kernel
theorem dX0_isChosenAhead_7 : decode cX0_isChosenAhead 7 = .ok (.aload_n 0, 1) := by decide +kernel
theorem dX0_isChosenAhead_8 : decode cX0_isChosenAhead 8 = .ok (.getfield 21, 3) := by decide +kernel
theorem dX0_isChosenAhead_11 : decode cX0_isChosenAhead 11 = .ok (.iload_n 3, 1) := by decide +kernel
theorem dX0_isChosenAhead_12 : decode cX0_isChosenAhead 12 = .ok (.iaload, 1) := by decide +kernel
theorem dX0_isChosenAhead_13 : decode cX0_isChosenAhead 13 = .ok (.iload_n 1, 1) := by decide +kernel
theorem dX0_isChosenAhead_14 : decode cX0_isChosenAhead 14 = .ok (.if_icmp .ne 5, 3) := by decide +kernel
theorem dX0_isChosenAhead_17 : decode cX0_isChosenAhead 17 = .ok (.iconst 1, 1) := by decide +kernel
theorem dX0_isChosenAhead_18 : decode cX0_isChosenAhead 18 = .ok (.ireturn, 1) := by decide +kernel
theorem dX0_isChosenAhead_19 : decode cX0_isChosenAhead 19 = .ok (.iinc 3 1, 3) := by decide +kernel
theorem dX0_isChosenAhead_22 : decode cX0_isChosenAhead 22 = .ok (.goto (-20), 3) := by decide +kernel
theorem dX0_isChosenAhead_25 : decode cX0_isChosenAhead 25 = .ok (.iconst 0, 1) := by decide +kernel
theorem dX0_isChosenAhead_26 : decode cX0_isChosenAhead 26 = .ok (.ireturn, 1) := by decide +kernel
theorem dX0_useChosen_0 : decode cX0_useChosen 0 = .ok (.iconst 0, 1) := by decide +kernel
theorem dX0_useChosen_1 : decode cX0_useChosen 1 = .ok (.istore_n 2, 1) := by decide +kernel
theorem dX0_useChosen_2 : decode cX0_useChosen 2 = .ok (.iload_n 2, 1) := by decide +kernel
theorem dX0_useChosen_3 : decode cX0_useChosen 3 = .ok (.bipush 6, 2) := by decide +kernel
theorem dX0_useChosen_5 : decode cX0_useChosen 5 = .ok (.if_icmp .ge 21, 3) := by decide +kernel
theorem dX0_useChosen_8 : decode cX0_useChosen 8 = .ok (.aload_n 0, 1) := by decide +kernel
theorem dX0_useChosen_9 : decode cX0_useChosen 9 = .ok (.getfield 18, 3) := by decide +kernel
theorem dX0_useChosen_12 : decode cX0_useChosen 12 = .ok (.aload_n 0, 1) := by decide +kernel
theorem dX0_useChosen_13 : decode cX0_useChosen 13 = .ok (.getfield 21, 3) := by decide +kernel
theorem dX0_useChosen_16 : decode cX0_useChosen 16 = .ok (.iload_n 2, 1) := by decide +kernel
theorem dX0_useChosen_17 : decode cX0_useChosen 17 = .ok (.iaload, 1) := by decide +kernel
theorem dX0_useChosen_18 : decode cX0_useChosen 18 = .ok (.iload_n 1, 1) := by decide +kernel
theorem dX0_useChosen_19 : decode cX0_useChosen 19 = .ok (.iastore, 1) := by decide +kernel
theorem dX0_useChosen_20 : decode cX0_useChosen 20 = .ok (.iinc 2 1, 3) := by decide +kernel
theorem dX0_useChosen_23 : decode cX0_useChosen 23 = .ok (.goto (-21), 3) := by decide +kernel
theorem dX0_useChosen_26 : decode cX0_useChosen 26 = .ok (.return_, 1) := by decide +kernel
theorem dX1_init_0 : decode cX1_init 0 = .ok (.aload_n 0, 1) := by decide +kernel
theorem dX1_init_1 : decode cX1_init 1 = .ok (.invokespecial 3, 3) := by decide +kernel
theorem dX1_init_4 : decode cX1_init 4 = .ok (.aload_n 0, 1) := by decide +kernel
theorem dX1_init_5 : decode cX1_init 5 = .ok (.sipush 1200, 3) := by decide +kernel
theorem dX1_init_8 : decode cX1_init 8 = .ok (.newarray .int, 2) := by decide +kernel
theorem dX1_init_10 : decode cX1_init 10 = .ok (.putfield 9, 3) := by decide +kernel
theorem dX1_init_13 : decode cX1_init 13 = .ok (.aload_n 0, 1) := by decide +kernel
theorem dX1_init_14 : decode cX1_init 14 = .ok (.sipush 1200, 3) := by decide +kernel
theorem dX1_init_17 : decode cX1_init 17 = .ok (.newarray .int, 2) := by decide +kernel
theorem dX1_init_19 : decode cX1_init 19 = .ok (.putfield 15, 3) := by decide +kernel
theorem dX1_init_22 : decode cX1_init 22 = .ok (.aload_n 0, 1) := by decide +kernel
theorem dX1_init_23 : decode cX1_init 23 = .ok (.sipush 1200, 3) := by decide +kernel
theorem dX1_init_26 : decode cX1_init 26 = .ok (.newarray .int, 2) := by decide +kernel
theorem dX1_init_28 : decode cX1_init 28 = .ok (.putfield 18, 3) := by decide +kernel
theorem dX1_init_31 : decode cX1_init 31 = .ok (.aload_n 0, 1) := by decide +kernel
theorem dX1_init_32 : decode cX1_init 32 = .ok (.sipush 1200, 3) := by decide +kernel
theorem dX1_init_35 : decode cX1_init 35 = .ok (.newarray .int, 2) := by decide +kernel
theorem dX1_init_37 : decode cX1_init 37 = .ok (.putfield 21, 3) := by decide +kernel
theorem dX1_init_40 : decode cX1_init 40 = .ok (.return_, 1) := by decide +kernel
theorem dX1_count_0 : decode cX1_count 0 = .ok (.aload_n 0, 1) := by decide +kernel
theorem dX1_count_1 : decode cX1_count 1 = .ok (.getfield 24, 3) := by decide +kernel
theorem dX1_count_4 : decode cX1_count 4 = .ok (.ireturn, 1) := by decide +kernel
theorem dX1_add_0 : decode cX1_add 0 = .ok (.aload_n 0, 1) := by decide +kernel
theorem dX1_add_1 : decode cX1_add 1 = .ok (.getfield 24, 3) := by decide +kernel
theorem dX1_add_4 : decode cX1_add 4 = .ok (.sipush 1200, 3) := by decide +kernel
theorem dX1_add_7 : decode cX1_add 7 = .ok (.if_icmp .ge 54, 3) := by decide +kernel
theorem dX1_add_10 : decode cX1_add 10 = .ok (.aload_n 0, 1) := by decide +kernel
theorem dX1_add_11 : decode cX1_add 11 = .ok (.getfield 9, 3) := by decide +kernel
theorem dX1_add_14 : decode cX1_add 14 = .ok (.aload_n 0, 1) := by decide +kernel
theorem dX1_add_15 : decode cX1_add 15 = .ok (.getfield 24, 3) := by decide +kernel
theorem dX1_add_18 : decode cX1_add 18 = .ok (.iload_n 1, 1) := by decide +kernel
theorem dX1_add_19 : decode cX1_add 19 = .ok (.iastore, 1) := by decide +kernel
theorem dX1_add_20 : decode cX1_add 20 = .ok (.aload_n 0, 1) := by decide +kernel
theorem dX1_add_21 : decode cX1_add 21 = .ok (.getfield 15, 3) := by decide +kernel
theorem dX1_add_24 : decode cX1_add 24 = .ok (.aload_n 0, 1) := by decide +kernel
theorem dX1_add_25 : decode cX1_add 25 = .ok (.getfield 24, 3) := by decide +kernel
theorem dX1_add_28 : decode cX1_add 28 = .ok (.iload_n 2, 1) := by decide +kernel
theorem dX1_add_29 : decode cX1_add 29 = .ok (.iastore, 1) := by decide +kernel
theorem dX1_add_30 : decode cX1_add 30 = .ok (.aload_n 0, 1) := by decide +kernel
theorem dX1_add_31 : decode cX1_add 31 = .ok (.getfield 18, 3) := by decide +kernel
theorem dX1_add_34 : decode cX1_add 34 = .ok (.aload_n 0, 1) := by decide +kernel
theorem dX1_add_35 : decode cX1_add 35 = .ok (.getfield 24, 3) := by decide +kernel
theorem dX1_add_38 : decode cX1_add 38 = .ok (.iload_n 3, 1) := by decide +kernel
theorem dX1_add_39 : decode cX1_add 39 = .ok (.iastore, 1) := by decide +kernel
theorem dX1_add_40 : decode cX1_add 40 = .ok (.aload_n 0, 1) := by decide +kernel
theorem dX1_add_41 : decode cX1_add 41 = .ok (.getfield 21, 3) := by decide +kernel
theorem dX1_add_44 : decode cX1_add 44 = .ok (.aload_n 0, 1) := by decide +kernel
theorem dX1_add_45 : decode cX1_add 45 = .ok (.getfield 24, 3) := by decide +kernel
theorem dX1_add_48 : decode cX1_add 48 = .ok (.iload 4, 2) := by decide +kernel
theorem dX1_add_50 : decode cX1_add 50 = .ok (.iastore, 1) := by decide +kernel
theorem dX1_add_51 : decode cX1_add 51 = .ok (.aload_n 0, 1) := by decide +kernel
theorem dX1_add_52 : decode cX1_add 52 = .ok (.dup, 1) := by decide +kernel
theorem dX1_add_53 : decode cX1_add 53 = .ok (.getfield 24, 3) := by decide +kernel
theorem dX1_add_56 : decode cX1_add 56 = .ok (.iconst 1, 1) := by decide +kernel
theorem dX1_add_57 : decode cX1_add 57 = .ok (.iadd, 1) := by decide +kernel
theorem dX1_add_58 : decode cX1_add 58 = .ok (.putfield 24, 3) := by decide +kernel
theorem dX1_add_61 : decode cX1_add 61 = .ok (.return_, 1) := by decide +kernel
theorem dX1_solver_0 : decode cX1_solver 0 = .ok (.aload_n 0, 1) := by decide +kernel
theorem dX1_solver_1 : decode cX1_solver 1 = .ok (.getfield 9, 3) := by decide +kernel
theorem dX1_solver_4 : decode cX1_solver 4 = .ok (.iload_n 1, 1) := by decide +kernel
theorem dX1_solver_5 : decode cX1_solver 5 = .ok (.iaload, 1) := by decide +kernel
theorem dX1_solver_6 : decode cX1_solver 6 = .ok (.ireturn, 1) := by decide +kernel
theorem dX1_puzzle_0 : decode cX1_puzzle 0 = .ok (.aload_n 0, 1) := by decide +kernel
theorem dX1_puzzle_1 : decode cX1_puzzle 1 = .ok (.getfield 15, 3) := by decide +kernel
theorem dX1_puzzle_4 : decode cX1_puzzle 4 = .ok (.iload_n 1, 1) := by decide +kernel
theorem dX1_puzzle_5 : decode cX1_puzzle 5 = .ok (.iaload, 1) := by decide +kernel
theorem dX1_puzzle_6 : decode cX1_puzzle 6 = .ok (.ireturn, 1) := by decide +kernel
theorem dX1_part_0 : decode cX1_part 0 = .ok (.aload_n 0, 1) := by decide +kernel
theorem dX1_part_1 : decode cX1_part 1 = .ok (.getfield 18, 3) := by decide +kernel
theorem dX1_part_4 : decode cX1_part 4 = .ok (.iload_n 1, 1) := by decide +kernel
theorem dX1_part_5 : decode cX1_part 5 = .ok (.iaload, 1) := by decide +kernel
theorem dX1_part_6 : decode cX1_part 6 = .ok (.ireturn, 1) := by decide +kernel
theorem dX1_hourOf_0 : decode cX1_hourOf 0 = .ok (.aload_n 0, 1) := by decide +kernel
theorem dX1_hourOf_1 : decode cX1_hourOf 1 = .ok (.getfield 21, 3) := by decide +kernel
theorem dX1_hourOf_4 : decode cX1_hourOf 4 = .ok (.iload_n 1, 1) := by decide +kernel
theorem dX1_hourOf_5 : decode cX1_hourOf 5 = .ok (.iaload, 1) := by decide +kernel
theorem dX1_hourOf_6 : decode cX1_hourOf 6 = .ok (.ireturn, 1) := by decide +kernel
theorem dX2_init_0 : decode cX2_init 0 = .ok (.aload_n 0, 1) := by decide +kernel
theorem dX2_init_1 : decode cX2_init 1 = .ok (.invokespecial 3, 3) := by decide +kernel
theorem dX2_init_4 : decode cX2_init 4 = .ok (.aload_n 0, 1) := by decide +kernel
theorem dX2_init_5 : decode cX2_init 5 = .ok (.sipush 180, 3) := by decide +kernel
theorem dX2_init_8 : decode cX2_init 8 = .ok (.newarray .int, 2) := by decide +kernel
theorem dX2_init_10 : decode cX2_init 10 = .ok (.putfield 9, 3) := by decide +kernel
theorem dX2_init_13 : decode cX2_init 13 = .ok (.aload_n 0, 1) := by decide +kernel
theorem dX2_init_14 : decode cX2_init 14 = .ok (.sipush 1252, 3) := by decide +kernel
theorem dX2_init_17 : decode cX2_init 17 = .ok (.newarray .boolean, 2) := by decide +kernel
theorem dX2_init_19 : decode cX2_init 19 = .ok (.putfield 15, 3) := by decide +kernel
theorem dX2_init_22 : decode cX2_init 22 = .ok (.return_, 1) := by decide +kernel
theorem dX2_begin_0 : decode cX2_begin 0 = .ok (.aload_n 0, 1) := by decide +kernel
theorem dX2_begin_1 : decode cX2_begin 1 = .ok (.iload_n 1, 1) := by decide +kernel
theorem dX2_begin_2 : decode cX2_begin 2 = .ok (.putfield 19, 3) := by decide +kernel
theorem dX2_begin_5 : decode cX2_begin 5 = .ok (.aload_n 0, 1) := by decide +kernel
theorem dX2_begin_6 : decode cX2_begin 6 = .ok (.getfield 9, 3) := by decide +kernel
theorem dX2_begin_9 : decode cX2_begin 9 = .ok (.iconst (-1), 1) := by decide +kernel
theorem dX2_begin_10 : decode cX2_begin 10 = .ok (.invokestatic 23, 3) := by decide +kernel
theorem dX2_begin_13 : decode cX2_begin 13 = .ok (.iconst 0, 1) := by decide +kernel
theorem dX2_begin_14 : decode cX2_begin 14 = .ok (.istore_n 2, 1) := by decide +kernel
theorem dX2_begin_15 : decode cX2_begin 15 = .ok (.iload_n 2, 1) := by decide +kernel
theorem dX2_begin_16 : decode cX2_begin 16 = .ok (.sipush 1252, 3) := by decide +kernel
theorem dX2_begin_19 : decode cX2_begin 19 = .ok (.if_icmp .ge 16, 3) := by decide +kernel
theorem dX2_begin_22 : decode cX2_begin 22 = .ok (.aload_n 0, 1) := by decide +kernel
theorem dX2_begin_23 : decode cX2_begin 23 = .ok (.getfield 15, 3) := by decide +kernel
theorem dX2_begin_26 : decode cX2_begin 26 = .ok (.iload_n 2, 1) := by decide +kernel
theorem dX2_begin_27 : decode cX2_begin 27 = .ok (.iconst 0, 1) := by decide +kernel
theorem dX2_begin_28 : decode cX2_begin 28 = .ok (.bastore, 1) := by decide +kernel
theorem dX2_begin_29 : decode cX2_begin 29 = .ok (.iinc 2 1, 3) := by decide +kernel
theorem dX2_begin_32 : decode cX2_begin 32 = .ok (.goto (-17), 3) := by decide +kernel
theorem dX2_begin_35 : decode cX2_begin 35 = .ok (.return_, 1) := by decide +kernel
theorem dX2_hoursAhead_0 : decode cX2_hoursAhead 0 = .ok (.aload_n 0, 1) := by decide +kernel
theorem dX2_hoursAhead_1 : decode cX2_hoursAhead 1 = .ok (.getfield 19, 3) := by decide +kernel
theorem dX2_hoursAhead_4 : decode cX2_hoursAhead 4 = .ok (.ireturn, 1) := by decide +kernel
theorem dX2_isRight_0 : decode cX2_isRight 0 = .ok (.aload_n 0, 1) := by decide +kernel
theorem dX2_isRight_1 : decode cX2_isRight 1 = .ok (.getfield 9, 3) := by decide +kernel
theorem dX2_isRight_4 : decode cX2_isRight 4 = .ok (.iload_n 1, 1) := by decide +kernel
theorem dX2_isRight_5 : decode cX2_isRight 5 = .ok (.bipush 9, 2) := by decide +kernel
theorem dX2_isRight_7 : decode cX2_isRight 7 = .ok (.imul, 1) := by decide +kernel
theorem dX2_isRight_8 : decode cX2_isRight 8 = .ok (.iload_n 2, 1) := by decide +kernel
theorem dX2_isRight_9 : decode cX2_isRight 9 = .ok (.iadd, 1) := by decide +kernel
theorem dX2_isRight_10 : decode cX2_isRight 10 = .ok (.iaload, 1) := by decide +kernel
theorem dX2_isRight_11 : decode cX2_isRight 11 = .ok (.iconst (-1), 1) := by decide +kernel
theorem dX2_isRight_12 : decode cX2_isRight 12 = .ok (.if_icmp .eq 7, 3) := by decide +kernel
theorem dX2_isRight_15 : decode cX2_isRight 15 = .ok (.iconst 1, 1) := by decide +kernel
theorem dX2_isRight_16 : decode cX2_isRight 16 = .ok (.goto 4, 3) := by decide +kernel
theorem dX2_isRight_19 : decode cX2_isRight 19 = .ok (.iconst 0, 1) := by decide +kernel
theorem dX2_isRight_20 : decode cX2_isRight 20 = .ok (.ireturn, 1) := by decide +kernel
theorem dX2_setRight_0 : decode cX2_setRight 0 = .ok (.aload_n 0, 1) := by decide +kernel
theorem dX2_setRight_1 : decode cX2_setRight 1 = .ok (.getfield 9, 3) := by decide +kernel
theorem dX2_setRight_4 : decode cX2_setRight 4 = .ok (.iload_n 1, 1) := by decide +kernel
theorem dX2_setRight_5 : decode cX2_setRight 5 = .ok (.bipush 9, 2) := by decide +kernel
theorem dX2_setRight_7 : decode cX2_setRight 7 = .ok (.imul, 1) := by decide +kernel
theorem dX2_setRight_8 : decode cX2_setRight 8 = .ok (.iload_n 2, 1) := by decide +kernel
theorem dX2_setRight_9 : decode cX2_setRight 9 = .ok (.iadd, 1) := by decide +kernel
theorem dX2_setRight_10 : decode cX2_setRight 10 = .ok (.iload_n 3, 1) := by decide +kernel
theorem dX2_setRight_11 : decode cX2_setRight 11 = .ok (.iastore, 1) := by decide +kernel
theorem dX2_setRight_12 : decode cX2_setRight 12 = .ok (.return_, 1) := by decide +kernel
theorem dX2_solvedHour_0 : decode cX2_solvedHour 0 = .ok (.iconst 0, 1) := by decide +kernel
theorem dX2_solvedHour_1 : decode cX2_solvedHour 1 = .ok (.istore 4, 2) := by decide +kernel
theorem dX2_solvedHour_3 : decode cX2_solvedHour 3 = .ok (.iconst (-1), 1) := by decide +kernel
theorem dX2_solvedHour_4 : decode cX2_solvedHour 4 = .ok (.istore 5, 2) := by decide +kernel
theorem dX2_solvedHour_6 : decode cX2_solvedHour 6 = .ok (.iconst 0, 1) := by decide +kernel
theorem dX2_solvedHour_7 : decode cX2_solvedHour 7 = .ok (.istore 6, 2) := by decide +kernel
theorem dX2_solvedHour_9 : decode cX2_solvedHour 9 = .ok (.iload 6, 2) := by decide +kernel
theorem dX2_solvedHour_11 : decode cX2_solvedHour 11 = .ok (.bipush 9, 2) := by decide +kernel
theorem dX2_solvedHour_13 : decode cX2_solvedHour 13 = .ok (.if_icmp .ge 78, 3) := by decide +kernel
theorem dX2_solvedHour_16 : decode cX2_solvedHour 16 = .ok (.iload_n 2, 1) := by decide +kernel
theorem dX2_solvedHour_17 : decode cX2_solvedHour 17 = .ok (.iload 6, 2) := by decide +kernel
theorem dX2_solvedHour_19 : decode cX2_solvedHour 19 = .ok (.ishr, 1) := by decide +kernel
theorem dX2_solvedHour_20 : decode cX2_solvedHour 20 = .ok (.iconst 1, 1) := by decide +kernel
theorem dX2_solvedHour_21 : decode cX2_solvedHour 21 = .ok (.iand, 1) := by decide +kernel
theorem dX2_solvedHour_22 : decode cX2_solvedHour 22 = .ok (.ifCond .eq 7, 3) := by decide +kernel
theorem dX2_solvedHour_25 : decode cX2_solvedHour 25 = .ok (.iconst 1, 1) := by decide +kernel
theorem dX2_solvedHour_26 : decode cX2_solvedHour 26 = .ok (.goto 4, 3) := by decide +kernel
theorem dX2_solvedHour_29 : decode cX2_solvedHour 29 = .ok (.iconst 0, 1) := by decide +kernel
theorem dX2_solvedHour_30 : decode cX2_solvedHour 30 = .ok (.istore 7, 2) := by decide +kernel
theorem dX2_solvedHour_32 : decode cX2_solvedHour 32 = .ok (.aload_n 0, 1) := by decide +kernel
theorem dX2_solvedHour_33 : decode cX2_solvedHour 33 = .ok (.iload_n 1, 1) := by decide +kernel
theorem dX2_solvedHour_34 : decode cX2_solvedHour 34 = .ok (.iload 6, 2) := by decide +kernel
theorem dX2_solvedHour_36 : decode cX2_solvedHour 36 = .ok (.invokevirtual 29, 3) := by decide +kernel
theorem dX2_solvedHour_39 : decode cX2_solvedHour 39 = .ok (.istore 8, 2) := by decide +kernel
theorem dX2_solvedHour_41 : decode cX2_solvedHour 41 = .ok (.iload 8, 2) := by decide +kernel
theorem dX2_solvedHour_43 : decode cX2_solvedHour 43 = .ok (.ifCond .ne 10, 3) := by decide +kernel
theorem dX2_solvedHour_46 : decode cX2_solvedHour 46 = .ok (.iload 7, 2) := by decide +kernel
theorem dX2_solvedHour_48 : decode cX2_solvedHour 48 = .ok (.ifCond .ne 5, 3) := by decide +kernel
theorem dX2_solvedHour_51 : decode cX2_solvedHour 51 = .ok (.iconst (-1), 1) := by decide +kernel
theorem dX2_solvedHour_52 : decode cX2_solvedHour 52 = .ok (.ireturn, 1) := by decide +kernel
theorem dX2_solvedHour_53 : decode cX2_solvedHour 53 = .ok (.iload 8, 2) := by decide +kernel
theorem dX2_solvedHour_55 : decode cX2_solvedHour 55 = .ok (.ifCond .eq 6, 3) := by decide +kernel
theorem dX2_solvedHour_58 : decode cX2_solvedHour 58 = .ok (.iconst 1, 1) := by decide +kernel
theorem dX2_solvedHour_59 : decode cX2_solvedHour 59 = .ok (.istore 4, 2) := by decide +kernel
theorem dX2_solvedHour_61 : decode cX2_solvedHour 61 = .ok (.iload 7, 2) := by decide +kernel
theorem dX2_solvedHour_63 : decode cX2_solvedHour 63 = .ok (.ifCond .ne 22, 3) := by decide +kernel
theorem dX2_solvedHour_66 : decode cX2_solvedHour 66 = .ok (.iload 5, 2) := by decide +kernel
theorem dX2_solvedHour_68 : decode cX2_solvedHour 68 = .ok (.aload_n 0, 1) := by decide +kernel
theorem dX2_solvedHour_69 : decode cX2_solvedHour 69 = .ok (.getfield 9, 3) := by decide +kernel
theorem dX2_solvedHour_72 : decode cX2_solvedHour 72 = .ok (.iload_n 1, 1) := by decide +kernel
theorem dX2_solvedHour_73 : decode cX2_solvedHour 73 = .ok (.bipush 9, 2) := by decide +kernel
theorem dX2_solvedHour_75 : decode cX2_solvedHour 75 = .ok (.imul, 1) := by decide +kernel
theorem dX2_solvedHour_76 : decode cX2_solvedHour 76 = .ok (.iload 6, 2) := by decide +kernel
theorem dX2_solvedHour_78 : decode cX2_solvedHour 78 = .ok (.iadd, 1) := by decide +kernel
theorem dX2_solvedHour_79 : decode cX2_solvedHour 79 = .ok (.iaload, 1) := by decide +kernel
theorem dX2_solvedHour_80 : decode cX2_solvedHour 80 = .ok (.invokestatic 33, 3) := by decide +kernel
theorem dX2_solvedHour_83 : decode cX2_solvedHour 83 = .ok (.istore 5, 2) := by decide +kernel
theorem dX2_solvedHour_85 : decode cX2_solvedHour 85 = .ok (.iinc 6 1, 3) := by decide +kernel
theorem dX2_solvedHour_88 : decode cX2_solvedHour 88 = .ok (.goto (-79), 3) := by decide +kernel
theorem dX2_solvedHour_91 : decode cX2_solvedHour 91 = .ok (.iload 4, 2) := by decide +kernel
theorem dX2_solvedHour_93 : decode cX2_solvedHour 93 = .ok (.ifCond .ne 5, 3) := by decide +kernel
theorem dX2_solvedHour_96 : decode cX2_solvedHour 96 = .ok (.iconst (-1), 1) := by decide +kernel
theorem dX2_solvedHour_97 : decode cX2_solvedHour 97 = .ok (.ireturn, 1) := by decide +kernel
theorem dX2_solvedHour_98 : decode cX2_solvedHour 98 = .ok (.iload_n 2, 1) := by decide +kernel
theorem dX2_solvedHour_99 : decode cX2_solvedHour 99 = .ok (.sipush 511, 3) := by decide +kernel
theorem dX2_solvedHour_102 : decode cX2_solvedHour 102 = .ok (.if_icmp .ne 7, 3) := by decide +kernel
theorem dX2_solvedHour_105 : decode cX2_solvedHour 105 = .ok (.iload_n 3, 1) := by decide +kernel
theorem dX2_solvedHour_106 : decode cX2_solvedHour 106 = .ok (.goto 5, 3) := by decide +kernel
theorem dX2_solvedHour_109 : decode cX2_solvedHour 109 = .ok (.iload 5, 2) := by decide +kernel
theorem dX2_solvedHour_111 : decode cX2_solvedHour 111 = .ok (.ireturn, 1) := by decide +kernel
theorem dX2_countIfSolved_0 : decode cX2_countIfSolved 0 = .ok (.aload_n 0, 1) := by decide +kernel
theorem dX2_countIfSolved_1 : decode cX2_countIfSolved 1 = .ok (.iload_n 1, 1) := by decide +kernel
theorem dX2_countIfSolved_2 : decode cX2_countIfSolved 2 = .ok (.iload_n 2, 1) := by decide +kernel
theorem dX2_countIfSolved_3 : decode cX2_countIfSolved 3 = .ok (.iload_n 3, 1) := by decide +kernel
theorem dX2_countIfSolved_4 : decode cX2_countIfSolved 4 = .ok (.invokevirtual 39, 3) := by decide +kernel
theorem dX2_countIfSolved_7 : decode cX2_countIfSolved 7 = .ok (.istore 4, 2) := by decide +kernel
theorem dX2_countIfSolved_9 : decode cX2_countIfSolved 9 = .ok (.iload 4, 2) := by decide +kernel
theorem dX2_countIfSolved_11 : decode cX2_countIfSolved 11 = .ok (.iconst (-1), 1) := by decide +kernel
theorem dX2_countIfSolved_12 : decode cX2_countIfSolved 12 = .ok (.if_icmp .eq 15, 3) := by decide +kernel
theorem dX2_countIfSolved_15 : decode cX2_countIfSolved 15 = .ok (.aload_n 0, 1) := by decide +kernel
theorem dX2_countIfSolved_16 : decode cX2_countIfSolved 16 = .ok (.getfield 15, 3) := by decide +kernel
theorem dX2_countIfSolved_19 : decode cX2_countIfSolved 19 = .ok (.aload_n 0, 1) := by decide +kernel
theorem dX2_countIfSolved_20 : decode cX2_countIfSolved 20 = .ok (.iload 4, 2) := by decide +kernel
theorem dX2_countIfSolved_22 : decode cX2_countIfSolved 22 = .ok (.invokevirtual 43, 3) := by decide +kernel
theorem dX2_countIfSolved_25 : decode cX2_countIfSolved 25 = .ok (.iconst 1, 1) := by decide +kernel
theorem dX2_countIfSolved_26 : decode cX2_countIfSolved 26 = .ok (.bastore, 1) := by decide +kernel
theorem dX2_countIfSolved_27 : decode cX2_countIfSolved 27 = .ok (.return_, 1) := by decide +kernel
theorem dX2_daysInARow_0 : decode cX2_daysInARow 0 = .ok (.aload_n 0, 1) := by decide +kernel
theorem dX2_daysInARow_1 : decode cX2_daysInARow 1 = .ok (.iload_n 1, 1) := by decide +kernel
theorem dX2_daysInARow_2 : decode cX2_daysInARow 2 = .ok (.invokevirtual 43, 3) := by decide +kernel
theorem dX2_daysInARow_5 : decode cX2_daysInARow 5 = .ok (.istore_n 2, 1) := by decide +kernel
theorem dX2_daysInARow_6 : decode cX2_daysInARow 6 = .ok (.iconst 0, 1) := by decide +kernel
theorem dX2_daysInARow_7 : decode cX2_daysInARow 7 = .ok (.istore_n 3, 1) := by decide +kernel
theorem dX2_daysInARow_8 : decode cX2_daysInARow 8 = .ok (.aload_n 0, 1) := by decide +kernel
theorem dX2_daysInARow_9 : decode cX2_daysInARow 9 = .ok (.getfield 15, 3) := by decide +kernel
theorem dX2_daysInARow_12 : decode cX2_daysInARow 12 = .ok (.iload_n 2, 1) := by decide +kernel
theorem dX2_daysInARow_13 : decode cX2_daysInARow 13 = .ok (.baload, 1) := by decide +kernel
theorem dX2_daysInARow_14 : decode cX2_daysInARow 14 = .ok (.ifCond .eq 7, 3) := by decide +kernel
theorem dX2_daysInARow_17 : decode cX2_daysInARow 17 = .ok (.iload_n 2, 1) := by decide +kernel
theorem dX2_daysInARow_18 : decode cX2_daysInARow 18 = .ok (.goto 6, 3) := by decide +kernel
theorem dX2_daysInARow_21 : decode cX2_daysInARow 21 = .ok (.iload_n 2, 1) := by decide +kernel
theorem dX2_daysInARow_22 : decode cX2_daysInARow 22 = .ok (.iconst 1, 1) := by decide +kernel
theorem dX2_daysInARow_23 : decode cX2_daysInARow 23 = .ok (.isub, 1) := by decide +kernel
theorem dX2_daysInARow_24 : decode cX2_daysInARow 24 = .ok (.istore 4, 2) := by decide +kernel
theorem dX2_daysInARow_26 : decode cX2_daysInARow 26 = .ok (.iload 4, 2) := by decide +kernel
theorem dX2_daysInARow_28 : decode cX2_daysInARow 28 = .ok (.ifCond .lt 22, 3) := by decide +kernel
theorem dX2_daysInARow_31 : decode cX2_daysInARow 31 = .ok (.aload_n 0, 1) := by decide +kernel
theorem dX2_daysInARow_32 : decode cX2_daysInARow 32 = .ok (.getfield 15, 3) := by decide +kernel
theorem dX2_daysInARow_35 : decode cX2_daysInARow 35 = .ok (.iload 4, 2) := by decide +kernel
theorem dX2_daysInARow_37 : decode cX2_daysInARow 37 = .ok (.baload, 1) := by decide +kernel
theorem dX2_daysInARow_38 : decode cX2_daysInARow 38 = .ok (.ifCond .eq 12, 3) := by decide +kernel
theorem dX2_daysInARow_41 : decode cX2_daysInARow 41 = .ok (.iinc 3 1, 3) := by decide +kernel
theorem dX2_daysInARow_44 : decode cX2_daysInARow 44 = .ok (.iinc 4 (-1), 3) := by decide +kernel
theorem dX2_daysInARow_47 : decode cX2_daysInARow 47 = .ok (.goto (-21), 3) := by decide +kernel
theorem dX2_daysInARow_50 : decode cX2_daysInARow 50 = .ok (.iload_n 3, 1) := by decide +kernel
theorem dX2_daysInARow_51 : decode cX2_daysInARow 51 = .ok (.ireturn, 1) := by decide +kernel
theorem dX2_dayIndex_0 : decode cX2_dayIndex 0 = .ok (.iload_n 1, 1) := by decide +kernel
theorem dX2_dayIndex_1 : decode cX2_dayIndex 1 = .ok (.aload_n 0, 1) := by decide +kernel
theorem dX2_dayIndex_2 : decode cX2_dayIndex 2 = .ok (.getfield 19, 3) := by decide +kernel
theorem dX2_dayIndex_5 : decode cX2_dayIndex 5 = .ok (.iadd, 1) := by decide +kernel
theorem dX2_dayIndex_6 : decode cX2_dayIndex 6 = .ok (.bipush 24, 2) := by decide +kernel
theorem dX2_dayIndex_8 : decode cX2_dayIndex 8 = .ok (.invokestatic 47, 3) := by decide +kernel
theorem dX2_dayIndex_11 : decode cX2_dayIndex 11 = .ok (.iconst (-1), 1) := by decide +kernel
theorem dX2_dayIndex_12 : decode cX2_dayIndex 12 = .ok (.isub, 1) := by decide +kernel
theorem dX2_dayIndex_13 : decode cX2_dayIndex 13 = .ok (.ireturn, 1) := by decide +kernel
theorem dX3_init_0 : decode cX3_init 0 = .ok (.aload_n 0, 1) := by decide +kernel
theorem dX3_init_1 : decode cX3_init 1 = .ok (.invokespecial 3, 3) := by decide +kernel
theorem dX3_init_4 : decode cX3_init 4 = .ok (.aload_n 0, 1) := by decide +kernel
theorem dX3_init_5 : decode cX3_init 5 = .ok (.bipush 9, 2) := by decide +kernel
theorem dX3_init_7 : decode cX3_init 7 = .ok (.newarray .int, 2) := by decide +kernel
theorem dX3_init_9 : decode cX3_init 9 = .ok (.putfield 9, 3) := by decide +kernel
theorem dX3_init_12 : decode cX3_init 12 = .ok (.aload_n 0, 1) := by decide +kernel
theorem dX3_init_13 : decode cX3_init 13 = .ok (.bipush 6, 2) := by decide +kernel
theorem dX3_init_15 : decode cX3_init 15 = .ok (.newarray .int, 2) := by decide +kernel
theorem dX3_init_17 : decode cX3_init 17 = .ok (.putfield 15, 3) := by decide +kernel
theorem dX3_init_20 : decode cX3_init 20 = .ok (.return_, 1) := by decide +kernel
theorem dX3_appear_0 : decode cX3_appear 0 = .ok (.aload_n 0, 1) := by decide +kernel
theorem dX3_appear_1 : decode cX3_appear 1 = .ok (.iload_n 1, 1) := by decide +kernel
theorem dX3_appear_2 : decode cX3_appear 2 = .ok (.putfield 18, 3) := by decide +kernel
theorem dX3_appear_5 : decode cX3_appear 5 = .ok (.return_, 1) := by decide +kernel
theorem dX3_hourOfAppearing_0 : decode cX3_hourOfAppearing 0 = .ok (.aload_n 0, 1) := by decide +kernel
theorem dX3_hourOfAppearing_1 : decode cX3_hourOfAppearing 1 = .ok (.getfield 18, 3) := by decide +kernel
theorem dX3_hourOfAppearing_4 : decode cX3_hourOfAppearing 4 = .ok (.ireturn, 1) := by decide +kernel
theorem dX3_letter_0 : decode cX3_letter 0 = .ok (.aload_n 0, 1) := by decide +kernel
theorem dX3_letter_1 : decode cX3_letter 1 = .ok (.getfield 9, 3) := by decide +kernel
theorem dX3_letter_4 : decode cX3_letter 4 = .ok (.iload_n 1, 1) := by decide +kernel
theorem dX3_letter_5 : decode cX3_letter 5 = .ok (.iaload, 1) := by decide +kernel
theorem dX3_letter_6 : decode cX3_letter 6 = .ok (.ireturn, 1) := by decide +kernel
theorem dX3_setLetter_0 : decode cX3_setLetter 0 = .ok (.aload_n 0, 1) := by decide +kernel
theorem dX3_setLetter_1 : decode cX3_setLetter 1 = .ok (.getfield 9, 3) := by decide +kernel
theorem dX3_setLetter_4 : decode cX3_setLetter 4 = .ok (.iload_n 1, 1) := by decide +kernel
theorem dX3_setLetter_5 : decode cX3_setLetter 5 = .ok (.iload_n 2, 1) := by decide +kernel
theorem dX3_setLetter_6 : decode cX3_setLetter 6 = .ok (.iastore, 1) := by decide +kernel
theorem dX3_setLetter_7 : decode cX3_setLetter 7 = .ok (.return_, 1) := by decide +kernel
theorem dX3_clueNumber_0 : decode cX3_clueNumber 0 = .ok (.aload_n 0, 1) := by decide +kernel
theorem dX3_clueNumber_1 : decode cX3_clueNumber 1 = .ok (.getfield 15, 3) := by decide +kernel
theorem dX3_clueNumber_4 : decode cX3_clueNumber 4 = .ok (.iload_n 1, 1) := by decide +kernel
theorem dX3_clueNumber_5 : decode cX3_clueNumber 5 = .ok (.iaload, 1) := by decide +kernel
theorem dX3_clueNumber_6 : decode cX3_clueNumber 6 = .ok (.ireturn, 1) := by decide +kernel
theorem dX3_setClue_0 : decode cX3_setClue 0 = .ok (.aload_n 0, 1) := by decide +kernel
theorem dX3_setClue_1 : decode cX3_setClue 1 = .ok (.getfield 15, 3) := by decide +kernel
theorem dX3_setClue_4 : decode cX3_setClue 4 = .ok (.iload_n 1, 1) := by decide +kernel
theorem dX3_setClue_5 : decode cX3_setClue 5 = .ok (.iload_n 2, 1) := by decide +kernel
theorem dX3_setClue_6 : decode cX3_setClue 6 = .ok (.iastore, 1) := by decide +kernel
theorem dX3_setClue_7 : decode cX3_setClue 7 = .ok (.return_, 1) := by decide +kernel
theorem dX3_isWrong_0 : decode cX3_isWrong 0 = .ok (.aload_n 0, 1) := by decide +kernel
theorem dX3_isWrong_1 : decode cX3_isWrong 1 = .ok (.getfield 22, 3) := by decide +kernel
theorem dX3_isWrong_4 : decode cX3_isWrong 4 = .ok (.iload_n 1, 1) := by decide +kernel
theorem dX3_isWrong_5 : decode cX3_isWrong 5 = .ok (.ishr, 1) := by decide +kernel
theorem dX3_isWrong_6 : decode cX3_isWrong 6 = .ok (.iconst 1, 1) := by decide +kernel
theorem dX3_isWrong_7 : decode cX3_isWrong 7 = .ok (.iand, 1) := by decide +kernel
theorem dX3_isWrong_8 : decode cX3_isWrong 8 = .ok (.ifCond .eq 7, 3) := by decide +kernel
theorem dX3_isWrong_11 : decode cX3_isWrong 11 = .ok (.iconst 1, 1) := by decide +kernel
theorem dX3_isWrong_12 : decode cX3_isWrong 12 = .ok (.goto 4, 3) := by decide +kernel
theorem dX3_isWrong_15 : decode cX3_isWrong 15 = .ok (.iconst 0, 1) := by decide +kernel
theorem dX3_isWrong_16 : decode cX3_isWrong 16 = .ok (.ireturn, 1) := by decide +kernel
theorem dX3_setWrong_0 : decode cX3_setWrong 0 = .ok (.aload_n 0, 1) := by decide +kernel
theorem dX3_setWrong_1 : decode cX3_setWrong 1 = .ok (.dup, 1) := by decide +kernel
theorem dX3_setWrong_2 : decode cX3_setWrong 2 = .ok (.getfield 22, 3) := by decide +kernel
theorem dX3_setWrong_5 : decode cX3_setWrong 5 = .ok (.iconst 1, 1) := by decide +kernel
theorem dX3_setWrong_6 : decode cX3_setWrong 6 = .ok (.iload_n 1, 1) := by decide +kernel
theorem dX3_setWrong_7 : decode cX3_setWrong 7 = .ok (.ishl, 1) := by decide +kernel
theorem dX3_setWrong_8 : decode cX3_setWrong 8 = .ok (.ior, 1) := by decide +kernel
theorem dX3_setWrong_9 : decode cX3_setWrong 9 = .ok (.putfield 22, 3) := by decide +kernel
theorem dX3_setWrong_12 : decode cX3_setWrong 12 = .ok (.aload_n 0, 1) := by decide +kernel
theorem dX3_setWrong_13 : decode cX3_setWrong 13 = .ok (.dup, 1) := by decide +kernel
theorem dX3_setWrong_14 : decode cX3_setWrong 14 = .ok (.getfield 25, 3) := by decide +kernel
theorem dX3_setWrong_17 : decode cX3_setWrong 17 = .ok (.iload_n 1, 1) := by decide +kernel
theorem dX3_setWrong_18 : decode cX3_setWrong 18 = .ok (.invokestatic 28, 3) := by decide +kernel
theorem dX3_setWrong_21 : decode cX3_setWrong 21 = .ok (.ior, 1) := by decide +kernel
theorem dX3_setWrong_22 : decode cX3_setWrong 22 = .ok (.putfield 25, 3) := by decide +kernel
theorem dX3_setWrong_25 : decode cX3_setWrong 25 = .ok (.return_, 1) := by decide +kernel
theorem dX3_openCells_0 : decode cX3_openCells 0 = .ok (.aload_n 0, 1) := by decide +kernel
theorem dX3_openCells_1 : decode cX3_openCells 1 = .ok (.getfield 25, 3) := by decide +kernel
theorem dX3_openCells_4 : decode cX3_openCells 4 = .ok (.ireturn, 1) := by decide +kernel
theorem dX3_isOpen_0 : decode cX3_isOpen 0 = .ok (.aload_n 0, 1) := by decide +kernel
theorem dX3_isOpen_1 : decode cX3_isOpen 1 = .ok (.getfield 25, 3) := by decide +kernel
theorem dX3_isOpen_4 : decode cX3_isOpen 4 = .ok (.iload_n 1, 1) := by decide +kernel
theorem dX3_isOpen_5 : decode cX3_isOpen 5 = .ok (.ishr, 1) := by decide +kernel
theorem dX3_isOpen_6 : decode cX3_isOpen 6 = .ok (.iconst 1, 1) := by decide +kernel
theorem dX3_isOpen_7 : decode cX3_isOpen 7 = .ok (.iand, 1) := by decide +kernel
theorem dX3_isOpen_8 : decode cX3_isOpen 8 = .ok (.ifCond .eq 7, 3) := by decide +kernel
theorem dX3_isOpen_11 : decode cX3_isOpen 11 = .ok (.iconst 1, 1) := by decide +kernel
theorem dX3_isOpen_12 : decode cX3_isOpen 12 = .ok (.goto 4, 3) := by decide +kernel
theorem dX3_isOpen_15 : decode cX3_isOpen 15 = .ok (.iconst 0, 1) := by decide +kernel
theorem dX3_isOpen_16 : decode cX3_isOpen 16 = .ok (.ireturn, 1) := by decide +kernel
theorem dX4_init_0 : decode cX4_init 0 = .ok (.aload_n 0, 1) := by decide +kernel
theorem dX4_init_1 : decode cX4_init 1 = .ok (.invokespecial 3, 3) := by decide +kernel
theorem dX4_init_4 : decode cX4_init 4 = .ok (.aload_n 0, 1) := by decide +kernel
theorem dX4_init_5 : decode cX4_init 5 = .ok (.new 9, 3) := by decide +kernel
theorem dX4_init_8 : decode cX4_init 8 = .ok (.dup, 1) := by decide +kernel
theorem dX4_init_9 : decode cX4_init 9 = .ok (.invokespecial 11, 3) := by decide +kernel
theorem dX4_init_12 : decode cX4_init 12 = .ok (.putfield 12, 3) := by decide +kernel
theorem dX4_init_15 : decode cX4_init 15 = .ok (.aload_n 0, 1) := by decide +kernel
theorem dX4_init_16 : decode cX4_init 16 = .ok (.sipush 180, 3) := by decide +kernel
theorem dX4_init_19 : decode cX4_init 19 = .ok (.newarray .int, 2) := by decide +kernel
theorem dX4_init_21 : decode cX4_init 21 = .ok (.putfield 18, 3) := by decide +kernel
theorem dX4_init_24 : decode cX4_init 24 = .ok (.aload_n 0, 1) := by decide +kernel
theorem dX4_init_25 : decode cX4_init 25 = .ok (.bipush 20, 2) := by decide +kernel
theorem dX4_init_27 : decode cX4_init 27 = .ok (.newarray .int, 2) := by decide +kernel
theorem dX4_init_29 : decode cX4_init 29 = .ok (.putfield 22, 3) := by decide +kernel
theorem dX4_init_32 : decode cX4_init 32 = .ok (.return_, 1) := by decide +kernel
theorem dX4_join_0 : decode cX4_join 0 = .ok (.aload_n 0, 1) := by decide +kernel
theorem dX4_join_1 : decode cX4_join 1 = .ok (.getfield 12, 3) := by decide +kernel
theorem dX4_join_4 : decode cX4_join 4 = .ok (.iload_n 1, 1) := by decide +kernel
theorem dX4_join_5 : decode cX4_join 5 = .ok (.invokevirtual 25, 3) := by decide +kernel
theorem dX4_join_8 : decode cX4_join 8 = .ok (.aload_n 0, 1) := by decide +kernel
theorem dX4_join_9 : decode cX4_join 9 = .ok (.iload_n 2, 1) := by decide +kernel
theorem dX4_join_10 : decode cX4_join 10 = .ok (.putfield 29, 3) := by decide +kernel
theorem dX4_join_13 : decode cX4_join 13 = .ok (.return_, 1) := by decide +kernel
theorem dX4_progress_0 : decode cX4_progress 0 = .ok (.aload_n 0, 1) := by decide +kernel
theorem dX4_progress_1 : decode cX4_progress 1 = .ok (.getfield 12, 3) := by decide +kernel
theorem dX4_progress_4 : decode cX4_progress 4 = .ok (.areturn, 1) := by decide +kernel
theorem dX4_purse_0 : decode cX4_purse 0 = .ok (.aload_n 0, 1) := by decide +kernel
theorem dX4_purse_1 : decode cX4_purse 1 = .ok (.getfield 29, 3) := by decide +kernel
theorem dX4_purse_4 : decode cX4_purse 4 = .ok (.ireturn, 1) := by decide +kernel
theorem dX4_canPayHelp_0 : decode cX4_canPayHelp 0 = .ok (.aload_n 0, 1) := by decide +kernel
theorem dX4_canPayHelp_1 : decode cX4_canPayHelp 1 = .ok (.getfield 29, 3) := by decide +kernel
theorem dX4_canPayHelp_4 : decode cX4_canPayHelp 4 = .ok (.aload_n 0, 1) := by decide +kernel
theorem dX4_canPayHelp_5 : decode cX4_canPayHelp 5 = .ok (.iload_n 1, 1) := by decide +kernel
theorem dX4_canPayHelp_6 : decode cX4_canPayHelp 6 = .ok (.invokevirtual 33, 3) := by decide +kernel
theorem dX4_canPayHelp_9 : decode cX4_canPayHelp 9 = .ok (.if_icmp .lt 7, 3) := by decide +kernel
theorem dX4_canPayHelp_12 : decode cX4_canPayHelp 12 = .ok (.iconst 1, 1) := by decide +kernel
theorem dX4_canPayHelp_13 : decode cX4_canPayHelp 13 = .ok (.goto 4, 3) := by decide +kernel
theorem dX4_canPayHelp_16 : decode cX4_canPayHelp 16 = .ok (.iconst 0, 1) := by decide +kernel
theorem dX4_canPayHelp_17 : decode cX4_canPayHelp 17 = .ok (.ireturn, 1) := by decide +kernel
theorem dX4_payHelp_0 : decode cX4_payHelp 0 = .ok (.aload_n 0, 1) := by decide +kernel
theorem dX4_payHelp_1 : decode cX4_payHelp 1 = .ok (.iload_n 1, 1) := by decide +kernel
theorem dX4_payHelp_2 : decode cX4_payHelp 2 = .ok (.invokevirtual 33, 3) := by decide +kernel
theorem dX4_payHelp_5 : decode cX4_payHelp 5 = .ok (.istore_n 3, 1) := by decide +kernel
theorem dX4_payHelp_6 : decode cX4_payHelp 6 = .ok (.aload_n 0, 1) := by decide +kernel
theorem dX4_payHelp_7 : decode cX4_payHelp 7 = .ok (.dup, 1) := by decide +kernel
theorem dX4_payHelp_8 : decode cX4_payHelp 8 = .ok (.getfield 29, 3) := by decide +kernel
theorem dX4_payHelp_11 : decode cX4_payHelp 11 = .ok (.iload_n 3, 1) := by decide +kernel
theorem dX4_payHelp_12 : decode cX4_payHelp 12 = .ok (.isub, 1) := by decide +kernel
theorem dX4_payHelp_13 : decode cX4_payHelp 13 = .ok (.putfield 29, 3) := by decide +kernel
theorem dX4_payHelp_16 : decode cX4_payHelp 16 = .ok (.aload_n 0, 1) := by decide +kernel
theorem dX4_payHelp_17 : decode cX4_payHelp 17 = .ok (.getfield 18, 3) := by decide +kernel
theorem dX4_payHelp_20 : decode cX4_payHelp 20 = .ok (.iload_n 1, 1) := by decide +kernel
theorem dX4_payHelp_21 : decode cX4_payHelp 21 = .ok (.bipush 9, 2) := by decide +kernel
theorem dX4_payHelp_23 : decode cX4_payHelp 23 = .ok (.imul, 1) := by decide +kernel
theorem dX4_payHelp_24 : decode cX4_payHelp 24 = .ok (.iload_n 2, 1) := by decide +kernel
theorem dX4_payHelp_25 : decode cX4_payHelp 25 = .ok (.iadd, 1) := by decide +kernel
theorem dX4_payHelp_26 : decode cX4_payHelp 26 = .ok (.iload_n 3, 1) := by decide +kernel
theorem dX4_payHelp_27 : decode cX4_payHelp 27 = .ok (.iastore, 1) := by decide +kernel
theorem dX4_payHelp_28 : decode cX4_payHelp 28 = .ok (.aload_n 0, 1) := by decide +kernel
theorem dX4_payHelp_29 : decode cX4_payHelp 29 = .ok (.getfield 22, 3) := by decide +kernel
theorem dX4_payHelp_32 : decode cX4_payHelp 32 = .ok (.iload_n 1, 1) := by decide +kernel
theorem dX4_payHelp_33 : decode cX4_payHelp 33 = .ok (.dup2, 1) := by decide +kernel
theorem dX4_payHelp_34 : decode cX4_payHelp 34 = .ok (.iaload, 1) := by decide +kernel
theorem dX4_payHelp_35 : decode cX4_payHelp 35 = .ok (.iconst 1, 1) := by decide +kernel
theorem dX4_payHelp_36 : decode cX4_payHelp 36 = .ok (.iadd, 1) := by decide +kernel
theorem dX4_payHelp_37 : decode cX4_payHelp 37 = .ok (.iastore, 1) := by decide +kernel
theorem dX4_payHelp_38 : decode cX4_payHelp 38 = .ok (.return_, 1) := by decide +kernel
theorem dX4_payBack_0 : decode cX4_payBack 0 = .ok (.iconst 0, 1) := by decide +kernel
theorem dX4_payBack_1 : decode cX4_payBack 1 = .ok (.istore_n 3, 1) := by decide +kernel
theorem dX4_payBack_2 : decode cX4_payBack 2 = .ok (.iload_n 3, 1) := by decide +kernel
theorem dX4_payBack_3 : decode cX4_payBack 3 = .ok (.bipush 9, 2) := by decide +kernel
theorem dX4_payBack_5 : decode cX4_payBack 5 = .ok (.if_icmp .ge 37, 3) := by decide +kernel
theorem dX4_payBack_8 : decode cX4_payBack 8 = .ok (.iload_n 2, 1) := by decide +kernel
theorem dX4_payBack_9 : decode cX4_payBack 9 = .ok (.iload_n 3, 1) := by decide +kernel
theorem dX4_payBack_10 : decode cX4_payBack 10 = .ok (.ishr, 1) := by decide +kernel
theorem dX4_payBack_11 : decode cX4_payBack 11 = .ok (.iconst 1, 1) := by decide +kernel
theorem dX4_payBack_12 : decode cX4_payBack 12 = .ok (.iand, 1) := by decide +kernel
theorem dX4_payBack_13 : decode cX4_payBack 13 = .ok (.ifCond .eq 23, 3) := by decide +kernel
theorem dX4_payBack_16 : decode cX4_payBack 16 = .ok (.aload_n 0, 1) := by decide +kernel
theorem dX4_payBack_17 : decode cX4_payBack 17 = .ok (.dup, 1) := by decide +kernel
theorem dX4_payBack_18 : decode cX4_payBack 18 = .ok (.getfield 29, 3) := by decide +kernel
theorem dX4_payBack_21 : decode cX4_payBack 21 = .ok (.aload_n 0, 1) := by decide +kernel
theorem dX4_payBack_22 : decode cX4_payBack 22 = .ok (.getfield 18, 3) := by decide +kernel
theorem dX4_payBack_25 : decode cX4_payBack 25 = .ok (.iload_n 1, 1) := by decide +kernel
theorem dX4_payBack_26 : decode cX4_payBack 26 = .ok (.bipush 9, 2) := by decide +kernel
theorem dX4_payBack_28 : decode cX4_payBack 28 = .ok (.imul, 1) := by decide +kernel
theorem dX4_payBack_29 : decode cX4_payBack 29 = .ok (.iload_n 3, 1) := by decide +kernel
theorem dX4_payBack_30 : decode cX4_payBack 30 = .ok (.iadd, 1) := by decide +kernel
theorem dX4_payBack_31 : decode cX4_payBack 31 = .ok (.iaload, 1) := by decide +kernel
theorem dX4_payBack_32 : decode cX4_payBack 32 = .ok (.iadd, 1) := by decide +kernel
theorem dX4_payBack_33 : decode cX4_payBack 33 = .ok (.putfield 29, 3) := by decide +kernel
theorem dX4_payBack_36 : decode cX4_payBack 36 = .ok (.iinc 3 1, 3) := by decide +kernel
theorem dX4_payBack_39 : decode cX4_payBack 39 = .ok (.goto (-37), 3) := by decide +kernel
theorem dX4_payBack_42 : decode cX4_payBack 42 = .ok (.return_, 1) := by decide +kernel
theorem dX4_cost_0 : decode cX4_cost 0 = .ok (.iconst 5, 1) := by decide +kernel
theorem dX4_cost_1 : decode cX4_cost 1 = .ok (.istore_n 2, 1) := by decide +kernel
theorem dX4_cost_2 : decode cX4_cost 2 = .ok (.iconst 0, 1) := by decide +kernel
theorem dX4_cost_3 : decode cX4_cost 3 = .ok (.istore_n 3, 1) := by decide +kernel
theorem dX4_cost_4 : decode cX4_cost 4 = .ok (.iload_n 3, 1) := by decide +kernel
theorem dX4_cost_5 : decode cX4_cost 5 = .ok (.aload_n 0, 1) := by decide +kernel
theorem dX4_cost_6 : decode cX4_cost 6 = .ok (.getfield 22, 3) := by decide +kernel
theorem dX4_cost_9 : decode cX4_cost 9 = .ok (.iload_n 1, 1) := by decide +kernel
theorem dX4_cost_10 : decode cX4_cost 10 = .ok (.iaload, 1) := by decide +kernel
theorem dX4_cost_11 : decode cX4_cost 11 = .ok (.if_icmp .ge 18, 3) := by decide +kernel
theorem dX4_cost_14 : decode cX4_cost 14 = .ok (.iconst 2, 1) := by decide +kernel
theorem dX4_cost_15 : decode cX4_cost 15 = .ok (.iload_n 2, 1) := by decide +kernel
theorem dX4_cost_16 : decode cX4_cost 16 = .ok (.imul, 1) := by decide +kernel
theorem dX4_cost_17 : decode cX4_cost 17 = .ok (.bipush 40, 2) := by decide +kernel
theorem dX4_cost_19 : decode cX4_cost 19 = .ok (.invokestatic 37, 3) := by decide +kernel
theorem dX4_cost_22 : decode cX4_cost 22 = .ok (.istore_n 2, 1) := by decide +kernel
theorem dX4_cost_23 : decode cX4_cost 23 = .ok (.iinc 3 1, 3) := by decide +kernel
theorem dX4_cost_26 : decode cX4_cost 26 = .ok (.goto (-22), 3) := by decide +kernel
theorem dX4_cost_29 : decode cX4_cost 29 = .ok (.iload_n 2, 1) := by decide +kernel
theorem dX4_cost_30 : decode cX4_cost 30 = .ok (.ireturn, 1) := by decide +kernel
theorem dX5_init_0 : decode cX5_init 0 = .ok (.aload_n 0, 1) := by decide +kernel
theorem dX5_init_1 : decode cX5_init 1 = .ok (.invokespecial 3, 3) := by decide +kernel
theorem dX5_init_4 : decode cX5_init 4 = .ok (.aload_n 0, 1) := by decide +kernel
theorem dX5_init_5 : decode cX5_init 5 = .ok (.iconst 3, 1) := by decide +kernel
theorem dX5_init_6 : decode cX5_init 6 = .ok (.newarray .int, 2) := by decide +kernel
theorem dX5_init_8 : decode cX5_init 8 = .ok (.putfield 9, 3) := by decide +kernel
theorem dX5_init_11 : decode cX5_init 11 = .ok (.return_, 1) := by decide +kernel
theorem dX5_isFull_0 : decode cX5_isFull 0 = .ok (.aload_n 0, 1) := by decide +kernel
theorem dX5_isFull_1 : decode cX5_isFull 1 = .ok (.getfield 15, 3) := by decide +kernel
theorem dX5_isFull_4 : decode cX5_isFull 4 = .ok (.iconst 3, 1) := by decide +kernel
theorem dX5_isFull_5 : decode cX5_isFull 5 = .ok (.if_icmp .lt 7, 3) := by decide +kernel
theorem dX5_isFull_8 : decode cX5_isFull 8 = .ok (.iconst 1, 1) := by decide +kernel
theorem dX5_isFull_9 : decode cX5_isFull 9 = .ok (.goto 4, 3) := by decide +kernel
theorem dX5_isFull_12 : decode cX5_isFull 12 = .ok (.iconst 0, 1) := by decide +kernel
theorem dX5_isFull_13 : decode cX5_isFull 13 = .ok (.ireturn, 1) := by decide +kernel
theorem dX5_letterCount_0 : decode cX5_letterCount 0 = .ok (.aload_n 0, 1) := by decide +kernel
theorem dX5_letterCount_1 : decode cX5_letterCount 1 = .ok (.getfield 15, 3) := by decide +kernel
theorem dX5_letterCount_4 : decode cX5_letterCount 4 = .ok (.ireturn, 1) := by decide +kernel
theorem dX5_putAtEnd_0 : decode cX5_putAtEnd 0 = .ok (.aload_n 0, 1) := by decide +kernel
theorem dX5_putAtEnd_1 : decode cX5_putAtEnd 1 = .ok (.getfield 9, 3) := by decide +kernel
theorem dX5_putAtEnd_4 : decode cX5_putAtEnd 4 = .ok (.aload_n 0, 1) := by decide +kernel
theorem dX5_putAtEnd_5 : decode cX5_putAtEnd 5 = .ok (.getfield 15, 3) := by decide +kernel
theorem dX5_putAtEnd_8 : decode cX5_putAtEnd 8 = .ok (.iload_n 1, 1) := by decide +kernel
theorem dX5_putAtEnd_9 : decode cX5_putAtEnd 9 = .ok (.iastore, 1) := by decide +kernel
theorem dX5_putAtEnd_10 : decode cX5_putAtEnd 10 = .ok (.aload_n 0, 1) := by decide +kernel
theorem dX5_putAtEnd_11 : decode cX5_putAtEnd 11 = .ok (.dup, 1) := by decide +kernel
theorem dX5_putAtEnd_12 : decode cX5_putAtEnd 12 = .ok (.getfield 15, 3) := by decide +kernel
theorem dX5_putAtEnd_15 : decode cX5_putAtEnd 15 = .ok (.iconst 1, 1) := by decide +kernel
theorem dX5_putAtEnd_16 : decode cX5_putAtEnd 16 = .ok (.iadd, 1) := by decide +kernel
theorem dX5_putAtEnd_17 : decode cX5_putAtEnd 17 = .ok (.putfield 15, 3) := by decide +kernel
theorem dX5_putAtEnd_20 : decode cX5_putAtEnd 20 = .ok (.return_, 1) := by decide +kernel
theorem dX5_putAtBeginning_0 : decode cX5_putAtBeginning 0 = .ok (.aload_n 0, 1) := by decide +kernel
theorem dX5_putAtBeginning_1 : decode cX5_putAtBeginning 1 = .ok (.getfield 15, 3) := by decide +kernel
theorem dX5_putAtBeginning_4 : decode cX5_putAtBeginning 4 = .ok (.istore_n 2, 1) := by decide +kernel
theorem dX5_putAtBeginning_5 : decode cX5_putAtBeginning 5 = .ok (.iload_n 2, 1) := by decide +kernel
theorem dX5_putAtBeginning_6 : decode cX5_putAtBeginning 6 = .ok (.ifCond .le 23, 3) := by decide +kernel
theorem dX5_putAtBeginning_9 : decode cX5_putAtBeginning 9 = .ok (.aload_n 0, 1) := by decide +kernel
theorem dX5_putAtBeginning_10 : decode cX5_putAtBeginning 10 = .ok (.getfield 9, 3) := by decide +kernel
theorem dX5_putAtBeginning_13 : decode cX5_putAtBeginning 13 = .ok (.iload_n 2, 1) := by decide +kernel
theorem dX5_putAtBeginning_14 : decode cX5_putAtBeginning 14 = .ok (.aload_n 0, 1) := by decide +kernel
theorem dX5_putAtBeginning_15 : decode cX5_putAtBeginning 15 = .ok (.getfield 9, 3) := by decide +kernel
theorem dX5_putAtBeginning_18 : decode cX5_putAtBeginning 18 = .ok (.iload_n 2, 1) := by decide +kernel
theorem dX5_putAtBeginning_19 : decode cX5_putAtBeginning 19 = .ok (.iconst 1, 1) := by decide +kernel
theorem dX5_putAtBeginning_20 : decode cX5_putAtBeginning 20 = .ok (.isub, 1) := by decide +kernel
theorem dX5_putAtBeginning_21 : decode cX5_putAtBeginning 21 = .ok (.iaload, 1) := by decide +kernel
theorem dX5_putAtBeginning_22 : decode cX5_putAtBeginning 22 = .ok (.iastore, 1) := by decide +kernel
theorem dX5_putAtBeginning_23 : decode cX5_putAtBeginning 23 = .ok (.iinc 2 (-1), 3) := by decide +kernel
theorem dX5_putAtBeginning_26 : decode cX5_putAtBeginning 26 = .ok (.goto (-21), 3) := by decide +kernel
theorem dX5_putAtBeginning_29 : decode cX5_putAtBeginning 29 = .ok (.aload_n 0, 1) := by decide +kernel
theorem dX5_putAtBeginning_30 : decode cX5_putAtBeginning 30 = .ok (.getfield 9, 3) := by decide +kernel
theorem dX5_putAtBeginning_33 : decode cX5_putAtBeginning 33 = .ok (.iconst 0, 1) := by decide +kernel
theorem dX5_putAtBeginning_34 : decode cX5_putAtBeginning 34 = .ok (.iload_n 1, 1) := by decide +kernel
theorem dX5_putAtBeginning_35 : decode cX5_putAtBeginning 35 = .ok (.iastore, 1) := by decide +kernel
theorem dX5_putAtBeginning_36 : decode cX5_putAtBeginning 36 = .ok (.aload_n 0, 1) := by decide +kernel
theorem dX5_putAtBeginning_37 : decode cX5_putAtBeginning 37 = .ok (.dup, 1) := by decide +kernel
theorem dX5_putAtBeginning_38 : decode cX5_putAtBeginning 38 = .ok (.getfield 15, 3) := by decide +kernel
theorem dX5_putAtBeginning_41 : decode cX5_putAtBeginning 41 = .ok (.iconst 1, 1) := by decide +kernel
theorem dX5_putAtBeginning_42 : decode cX5_putAtBeginning 42 = .ok (.iadd, 1) := by decide +kernel
theorem dX5_putAtBeginning_43 : decode cX5_putAtBeginning 43 = .ok (.putfield 15, 3) := by decide +kernel
theorem dX5_putAtBeginning_46 : decode cX5_putAtBeginning 46 = .ok (.return_, 1) := by decide +kernel
theorem dX5_reverse_0 : decode cX5_reverse 0 = .ok (.aload_n 0, 1) := by decide +kernel
theorem dX5_reverse_1 : decode cX5_reverse 1 = .ok (.getfield 15, 3) := by decide +kernel
theorem dX5_reverse_4 : decode cX5_reverse 4 = .ok (.iconst 1, 1) := by decide +kernel
theorem dX5_reverse_5 : decode cX5_reverse 5 = .ok (.if_icmp .le 39, 3) := by decide +kernel
theorem dX5_reverse_8 : decode cX5_reverse 8 = .ok (.aload_n 0, 1) := by decide +kernel
theorem dX5_reverse_9 : decode cX5_reverse 9 = .ok (.getfield 9, 3) := by decide +kernel
theorem dX5_reverse_12 : decode cX5_reverse 12 = .ok (.iconst 0, 1) := by decide +kernel
theorem dX5_reverse_13 : decode cX5_reverse 13 = .ok (.iaload, 1) := by decide +kernel
theorem dX5_reverse_14 : decode cX5_reverse 14 = .ok (.istore_n 1, 1) := by decide +kernel
theorem dX5_reverse_15 : decode cX5_reverse 15 = .ok (.aload_n 0, 1) := by decide +kernel
theorem dX5_reverse_16 : decode cX5_reverse 16 = .ok (.getfield 9, 3) := by decide +kernel
theorem dX5_reverse_19 : decode cX5_reverse 19 = .ok (.iconst 0, 1) := by decide +kernel
theorem dX5_reverse_20 : decode cX5_reverse 20 = .ok (.aload_n 0, 1) := by decide +kernel
theorem dX5_reverse_21 : decode cX5_reverse 21 = .ok (.getfield 9, 3) := by decide +kernel
theorem dX5_reverse_24 : decode cX5_reverse 24 = .ok (.aload_n 0, 1) := by decide +kernel
theorem dX5_reverse_25 : decode cX5_reverse 25 = .ok (.getfield 15, 3) := by decide +kernel
theorem dX5_reverse_28 : decode cX5_reverse 28 = .ok (.iconst 1, 1) := by decide +kernel
theorem dX5_reverse_29 : decode cX5_reverse 29 = .ok (.isub, 1) := by decide +kernel
theorem dX5_reverse_30 : decode cX5_reverse 30 = .ok (.iaload, 1) := by decide +kernel
theorem dX5_reverse_31 : decode cX5_reverse 31 = .ok (.iastore, 1) := by decide +kernel
theorem dX5_reverse_32 : decode cX5_reverse 32 = .ok (.aload_n 0, 1) := by decide +kernel
theorem dX5_reverse_33 : decode cX5_reverse 33 = .ok (.getfield 9, 3) := by decide +kernel
theorem dX5_reverse_36 : decode cX5_reverse 36 = .ok (.aload_n 0, 1) := by decide +kernel
theorem dX5_reverse_37 : decode cX5_reverse 37 = .ok (.getfield 15, 3) := by decide +kernel
theorem dX5_reverse_40 : decode cX5_reverse 40 = .ok (.iconst 1, 1) := by decide +kernel
theorem dX5_reverse_41 : decode cX5_reverse 41 = .ok (.isub, 1) := by decide +kernel
theorem dX5_reverse_42 : decode cX5_reverse 42 = .ok (.iload_n 1, 1) := by decide +kernel
theorem dX5_reverse_43 : decode cX5_reverse 43 = .ok (.iastore, 1) := by decide +kernel
theorem dX5_reverse_44 : decode cX5_reverse 44 = .ok (.return_, 1) := by decide +kernel
theorem dX5_empty_0 : decode cX5_empty 0 = .ok (.aload_n 0, 1) := by decide +kernel
theorem dX5_empty_1 : decode cX5_empty 1 = .ok (.iconst 0, 1) := by decide +kernel
theorem dX5_empty_2 : decode cX5_empty 2 = .ok (.putfield 15, 3) := by decide +kernel
theorem dX5_empty_5 : decode cX5_empty 5 = .ok (.return_, 1) := by decide +kernel
theorem dX5_charCount_0 : decode cX5_charCount 0 = .ok (.iconst 0, 1) := by decide +kernel
theorem dX5_charCount_1 : decode cX5_charCount 1 = .ok (.istore_n 1, 1) := by decide +kernel
theorem dX5_charCount_2 : decode cX5_charCount 2 = .ok (.iconst 0, 1) := by decide +kernel
theorem dX5_charCount_3 : decode cX5_charCount 3 = .ok (.istore_n 2, 1) := by decide +kernel
theorem dX5_charCount_4 : decode cX5_charCount 4 = .ok (.iload_n 2, 1) := by decide +kernel
theorem dX5_charCount_5 : decode cX5_charCount 5 = .ok (.aload_n 0, 1) := by decide +kernel
theorem dX5_charCount_6 : decode cX5_charCount 6 = .ok (.getfield 15, 3) := by decide +kernel
theorem dX5_charCount_9 : decode cX5_charCount 9 = .ok (.if_icmp .ge 21, 3) := by decide +kernel
theorem dX5_charCount_12 : decode cX5_charCount 12 = .ok (.iload_n 1, 1) := by decide +kernel
theorem dX5_charCount_13 : decode cX5_charCount 13 = .ok (.aload_n 0, 1) := by decide +kernel
theorem dX5_charCount_14 : decode cX5_charCount 14 = .ok (.getfield 9, 3) := by decide +kernel
theorem dX5_charCount_17 : decode cX5_charCount 17 = .ok (.iload_n 2, 1) := by decide +kernel
theorem dX5_charCount_18 : decode cX5_charCount 18 = .ok (.iaload, 1) := by decide +kernel
theorem dX5_charCount_19 : decode cX5_charCount 19 = .ok (.invokestatic 19, 3) := by decide +kernel
theorem dX5_charCount_22 : decode cX5_charCount 22 = .ok (.iadd, 1) := by decide +kernel
theorem dX5_charCount_23 : decode cX5_charCount 23 = .ok (.istore_n 1, 1) := by decide +kernel
theorem dX5_charCount_24 : decode cX5_charCount 24 = .ok (.iinc 2 1, 3) := by decide +kernel
theorem dX5_charCount_27 : decode cX5_charCount 27 = .ok (.goto (-23), 3) := by decide +kernel
theorem dX5_charCount_30 : decode cX5_charCount 30 = .ok (.iload_n 1, 1) := by decide +kernel
theorem dX5_charCount_31 : decode cX5_charCount 31 = .ok (.ireturn, 1) := by decide +kernel
theorem dX5_charOrNone_0 : decode cX5_charOrNone 0 = .ok (.iload_n 1, 1) := by decide +kernel
theorem dX5_charOrNone_1 : decode cX5_charOrNone 1 = .ok (.ifCond .ge 5, 3) := by decide +kernel
theorem dX5_charOrNone_4 : decode cX5_charOrNone 4 = .ok (.iconst (-1), 1) := by decide +kernel
theorem dX5_charOrNone_5 : decode cX5_charOrNone 5 = .ok (.ireturn, 1) := by decide +kernel
theorem dX5_charOrNone_6 : decode cX5_charOrNone 6 = .ok (.iconst 0, 1) := by decide +kernel
theorem dX5_charOrNone_7 : decode cX5_charOrNone 7 = .ok (.istore_n 2, 1) := by decide +kernel
theorem dX5_charOrNone_8 : decode cX5_charOrNone 8 = .ok (.iconst 0, 1) := by decide +kernel
theorem dX5_charOrNone_9 : decode cX5_charOrNone 9 = .ok (.istore_n 3, 1) := by decide +kernel
theorem dX5_charOrNone_10 : decode cX5_charOrNone 10 = .ok (.iload_n 3, 1) := by decide +kernel
theorem dX5_charOrNone_11 : decode cX5_charOrNone 11 = .ok (.aload_n 0, 1) := by decide +kernel
theorem dX5_charOrNone_12 : decode cX5_charOrNone 12 = .ok (.getfield 15, 3) := by decide +kernel
theorem dX5_charOrNone_15 : decode cX5_charOrNone 15 = .ok (.if_icmp .ge 44, 3) := by decide +kernel
theorem dX5_charOrNone_18 : decode cX5_charOrNone 18 = .ok (.iload_n 2, 1) := by decide +kernel
theorem dX5_charOrNone_19 : decode cX5_charOrNone 19 = .ok (.aload_n 0, 1) := by decide +kernel
theorem dX5_charOrNone_20 : decode cX5_charOrNone 20 = .ok (.getfield 9, 3) := by decide +kernel
theorem dX5_charOrNone_23 : decode cX5_charOrNone 23 = .ok (.iload_n 3, 1) := by decide +kernel
theorem dX5_charOrNone_24 : decode cX5_charOrNone 24 = .ok (.iaload, 1) := by decide +kernel
theorem dX5_charOrNone_25 : decode cX5_charOrNone 25 = .ok (.invokestatic 19, 3) := by decide +kernel
theorem dX5_charOrNone_28 : decode cX5_charOrNone 28 = .ok (.iadd, 1) := by decide +kernel
theorem dX5_charOrNone_29 : decode cX5_charOrNone 29 = .ok (.istore 4, 2) := by decide +kernel
theorem dX5_charOrNone_31 : decode cX5_charOrNone 31 = .ok (.iload_n 1, 1) := by decide +kernel
theorem dX5_charOrNone_32 : decode cX5_charOrNone 32 = .ok (.iload 4, 2) := by decide +kernel
theorem dX5_charOrNone_34 : decode cX5_charOrNone 34 = .ok (.if_icmp .ge 16, 3) := by decide +kernel
theorem dX5_charOrNone_37 : decode cX5_charOrNone 37 = .ok (.aload_n 0, 1) := by decide +kernel
theorem dX5_charOrNone_38 : decode cX5_charOrNone 38 = .ok (.getfield 9, 3) := by decide +kernel
theorem dX5_charOrNone_41 : decode cX5_charOrNone 41 = .ok (.iload_n 3, 1) := by decide +kernel
theorem dX5_charOrNone_42 : decode cX5_charOrNone 42 = .ok (.iaload, 1) := by decide +kernel
theorem dX5_charOrNone_43 : decode cX5_charOrNone 43 = .ok (.iload_n 1, 1) := by decide +kernel
theorem dX5_charOrNone_44 : decode cX5_charOrNone 44 = .ok (.iload_n 2, 1) := by decide +kernel
theorem dX5_charOrNone_45 : decode cX5_charOrNone 45 = .ok (.isub, 1) := by decide +kernel
theorem dX5_charOrNone_46 : decode cX5_charOrNone 46 = .ok (.invokestatic 23, 3) := by decide +kernel
theorem dX5_charOrNone_49 : decode cX5_charOrNone 49 = .ok (.ireturn, 1) := by decide +kernel
theorem dX5_charOrNone_50 : decode cX5_charOrNone 50 = .ok (.iload 4, 2) := by decide +kernel
theorem dX5_charOrNone_52 : decode cX5_charOrNone 52 = .ok (.istore_n 2, 1) := by decide +kernel
theorem dX5_charOrNone_53 : decode cX5_charOrNone 53 = .ok (.iinc 3 1, 3) := by decide +kernel
theorem dX5_charOrNone_56 : decode cX5_charOrNone 56 = .ok (.goto (-46), 3) := by decide +kernel
theorem dX5_charOrNone_59 : decode cX5_charOrNone 59 = .ok (.iconst (-1), 1) := by decide +kernel
theorem dX5_charOrNone_60 : decode cX5_charOrNone 60 = .ok (.ireturn, 1) := by decide +kernel
theorem dX5_code_0 : decode cX5_code 0 = .ok (.iconst 1, 1) := by decide +kernel
theorem dX5_code_1 : decode cX5_code 1 = .ok (.istore_n 1, 1) := by decide +kernel
theorem dX5_code_2 : decode cX5_code 2 = .ok (.iconst 0, 1) := by decide +kernel
theorem dX5_code_3 : decode cX5_code 3 = .ok (.istore_n 2, 1) := by decide +kernel
theorem dX5_code_4 : decode cX5_code 4 = .ok (.iload_n 2, 1) := by decide +kernel
theorem dX5_code_5 : decode cX5_code 5 = .ok (.aload_n 0, 1) := by decide +kernel
theorem dX5_code_6 : decode cX5_code 6 = .ok (.getfield 15, 3) := by decide +kernel
theorem dX5_code_9 : decode cX5_code 9 = .ok (.if_icmp .ge 21, 3) := by decide +kernel
theorem dX5_code_12 : decode cX5_code 12 = .ok (.iload_n 1, 1) := by decide +kernel
theorem dX5_code_13 : decode cX5_code 13 = .ok (.bipush 9, 2) := by decide +kernel
theorem dX5_code_15 : decode cX5_code 15 = .ok (.imul, 1) := by decide +kernel
theorem dX5_code_16 : decode cX5_code 16 = .ok (.aload_n 0, 1) := by decide +kernel
theorem dX5_code_17 : decode cX5_code 17 = .ok (.getfield 9, 3) := by decide +kernel
theorem dX5_code_20 : decode cX5_code 20 = .ok (.iload_n 2, 1) := by decide +kernel
theorem dX5_code_21 : decode cX5_code 21 = .ok (.iaload, 1) := by decide +kernel
theorem dX5_code_22 : decode cX5_code 22 = .ok (.iadd, 1) := by decide +kernel
theorem dX5_code_23 : decode cX5_code 23 = .ok (.istore_n 1, 1) := by decide +kernel
theorem dX5_code_24 : decode cX5_code 24 = .ok (.iinc 2 1, 3) := by decide +kernel
theorem dX5_code_27 : decode cX5_code 27 = .ok (.goto (-23), 3) := by decide +kernel
theorem dX5_code_30 : decode cX5_code 30 = .ok (.iload_n 1, 1) := by decide +kernel
theorem dX5_code_31 : decode cX5_code 31 = .ok (.ireturn, 1) := by decide +kernel
theorem dX5_width_0 : decode cX5_width 0 = .ok (.iload_n 0, 1) := by decide +kernel
theorem dX5_width_1 : decode cX5_width 1 = .ok (.bipush 8, 2) := by decide +kernel
theorem dX5_width_3 : decode cX5_width 3 = .ok (.if_icmp .ne 7, 3) := by decide +kernel
theorem dX5_width_6 : decode cX5_width 6 = .ok (.iconst 2, 1) := by decide +kernel
theorem dX5_width_7 : decode cX5_width 7 = .ok (.goto 4, 3) := by decide +kernel
theorem dX5_width_10 : decode cX5_width 10 = .ok (.iconst 1, 1) := by decide +kernel
theorem dX5_width_11 : decode cX5_width 11 = .ok (.ireturn, 1) := by decide +kernel
theorem dX5_charOf_0 : decode cX5_charOf 0 = .ok (.iload_n 0, 1) := by decide +kernel
theorem dX5_charOf_1 : decode cX5_charOf 1 = .ok (.bipush 8, 2) := by decide +kernel
theorem dX5_charOf_3 : decode cX5_charOf 3 = .ok (.if_icmp .eq 8, 3) := by decide +kernel
theorem dX5_charOf_6 : decode cX5_charOf 6 = .ok (.bipush 97, 2) := by decide +kernel
theorem dX5_charOf_8 : decode cX5_charOf 8 = .ok (.iload_n 0, 1) := by decide +kernel
theorem dX5_charOf_9 : decode cX5_charOf 9 = .ok (.iadd, 1) := by decide +kernel
theorem dX5_charOf_10 : decode cX5_charOf 10 = .ok (.ireturn, 1) := by decide +kernel
theorem dX5_charOf_11 : decode cX5_charOf 11 = .ok (.iload_n 1, 1) := by decide +kernel
theorem dX5_charOf_12 : decode cX5_charOf 12 = .ok (.ifCond .ne 8, 3) := by decide +kernel
theorem dX5_charOf_15 : decode cX5_charOf 15 = .ok (.ldc 27, 2) := by decide +kernel
theorem dX5_charOf_17 : decode cX5_charOf 17 = .ok (.goto 5, 3) := by decide +kernel
theorem dX5_charOf_20 : decode cX5_charOf 20 = .ok (.ldc 28, 2) := by decide +kernel
theorem dX5_charOf_22 : decode cX5_charOf 22 = .ok (.ireturn, 1) := by decide +kernel
theorem dX6_init_0 : decode cX6_init 0 = .ok (.aload_n 0, 1) := by decide +kernel
theorem dX6_init_1 : decode cX6_init 1 = .ok (.invokespecial 3, 3) := by decide +kernel
theorem dX6_init_4 : decode cX6_init 4 = .ok (.aload_n 0, 1) := by decide +kernel
theorem dX6_init_5 : decode cX6_init 5 = .ok (.bipush 9, 2) := by decide +kernel
theorem dX6_init_7 : decode cX6_init 7 = .ok (.newarray .int, 2) := by decide +kernel
theorem dX6_init_9 : decode cX6_init 9 = .ok (.putfield 9, 3) := by decide +kernel
theorem dX6_init_12 : decode cX6_init 12 = .ok (.aload_n 0, 1) := by decide +kernel
theorem dX6_init_13 : decode cX6_init 13 = .ok (.iconst 3, 1) := by decide +kernel
theorem dX6_init_14 : decode cX6_init 14 = .ok (.newarray .int, 2) := by decide +kernel
theorem dX6_init_16 : decode cX6_init 16 = .ok (.putfield 15, 3) := by decide +kernel
theorem dX6_init_19 : decode cX6_init 19 = .ok (.aload_n 0, 1) := by decide +kernel
theorem dX6_init_20 : decode cX6_init 20 = .ok (.iconst 3, 1) := by decide +kernel
theorem dX6_init_21 : decode cX6_init 21 = .ok (.newarray .int, 2) := by decide +kernel
theorem dX6_init_23 : decode cX6_init 23 = .ok (.putfield 18, 3) := by decide +kernel
theorem dX6_init_26 : decode cX6_init 26 = .ok (.aload_n 0, 1) := by decide +kernel
theorem dX6_init_27 : decode cX6_init 27 = .ok (.getfield 9, 3) := by decide +kernel
theorem dX6_init_30 : decode cX6_init 30 = .ok (.iconst (-1), 1) := by decide +kernel
theorem dX6_init_31 : decode cX6_init 31 = .ok (.invokestatic 21, 3) := by decide +kernel
theorem dX6_init_34 : decode cX6_init 34 = .ok (.return_, 1) := by decide +kernel
theorem dX6_fixedLetter_0 : decode cX6_fixedLetter 0 = .ok (.aload_n 0, 1) := by decide +kernel
theorem dX6_fixedLetter_1 : decode cX6_fixedLetter 1 = .ok (.getfield 9, 3) := by decide +kernel
theorem dX6_fixedLetter_4 : decode cX6_fixedLetter 4 = .ok (.iload_n 1, 1) := by decide +kernel
theorem dX6_fixedLetter_5 : decode cX6_fixedLetter 5 = .ok (.iaload, 1) := by decide +kernel
theorem dX6_fixedLetter_6 : decode cX6_fixedLetter 6 = .ok (.ireturn, 1) := by decide +kernel
theorem dX6_setFixed_0 : decode cX6_setFixed 0 = .ok (.aload_n 0, 1) := by decide +kernel
theorem dX6_setFixed_1 : decode cX6_setFixed 1 = .ok (.getfield 9, 3) := by decide +kernel
theorem dX6_setFixed_4 : decode cX6_setFixed 4 = .ok (.iload_n 1, 1) := by decide +kernel
theorem dX6_setFixed_5 : decode cX6_setFixed 5 = .ok (.iload_n 2, 1) := by decide +kernel
theorem dX6_setFixed_6 : decode cX6_setFixed 6 = .ok (.iastore, 1) := by decide +kernel
theorem dX6_setFixed_7 : decode cX6_setFixed 7 = .ok (.return_, 1) := by decide +kernel
theorem dX6_bestWeight_0 : decode cX6_bestWeight 0 = .ok (.aload_n 0, 1) := by decide +kernel
theorem dX6_bestWeight_1 : decode cX6_bestWeight 1 = .ok (.getfield 27, 3) := by decide +kernel
theorem dX6_bestWeight_4 : decode cX6_bestWeight 4 = .ok (.ireturn, 1) := by decide +kernel
theorem dX6_foundCount_0 : decode cX6_foundCount 0 = .ok (.aload_n 0, 1) := by decide +kernel
theorem dX6_foundCount_1 : decode cX6_foundCount 1 = .ok (.getfield 31, 3) := by decide +kernel
theorem dX6_foundCount_4 : decode cX6_foundCount 4 = .ok (.ireturn, 1) := by decide +kernel
theorem dX6_search_0 : decode cX6_search 0 = .ok (.aload_n 0, 1) := by decide +kernel
theorem dX6_search_1 : decode cX6_search 1 = .ok (.iconst (-1), 1) := by decide +kernel
theorem dX6_search_2 : decode cX6_search 2 = .ok (.putfield 27, 3) := by decide +kernel
theorem dX6_search_5 : decode cX6_search 5 = .ok (.aload_n 0, 1) := by decide +kernel
theorem dX6_search_6 : decode cX6_search 6 = .ok (.iconst 0, 1) := by decide +kernel
theorem dX6_search_7 : decode cX6_search 7 = .ok (.putfield 31, 3) := by decide +kernel
theorem dX6_search_10 : decode cX6_search 10 = .ok (.iconst 0, 1) := by decide +kernel
theorem dX6_search_11 : decode cX6_search 11 = .ok (.istore_n 2, 1) := by decide +kernel
theorem dX6_search_12 : decode cX6_search 12 = .ok (.iload_n 2, 1) := by decide +kernel
theorem dX6_search_13 : decode cX6_search 13 = .ok (.aload_n 1, 1) := by decide +kernel
theorem dX6_search_14 : decode cX6_search 14 = .ok (.invokevirtual 34, 3) := by decide +kernel
theorem dX6_search_17 : decode cX6_search 17 = .ok (.if_icmp .ge 101, 3) := by decide +kernel
theorem dX6_search_20 : decode cX6_search 20 = .ok (.aload_n 0, 1) := by decide +kernel
theorem dX6_search_21 : decode cX6_search 21 = .ok (.aload_n 1, 1) := by decide +kernel
theorem dX6_search_22 : decode cX6_search 22 = .ok (.iconst 0, 1) := by decide +kernel
theorem dX6_search_23 : decode cX6_search 23 = .ok (.aload_n 1, 1) := by decide +kernel
theorem dX6_search_24 : decode cX6_search 24 = .ok (.iload_n 2, 1) := by decide +kernel
theorem dX6_search_25 : decode cX6_search 25 = .ok (.invokevirtual 40, 3) := by decide +kernel
theorem dX6_search_28 : decode cX6_search 28 = .ok (.invokevirtual 44, 3) := by decide +kernel
theorem dX6_search_31 : decode cX6_search 31 = .ok (.ifCond .ne 6, 3) := by decide +kernel
theorem dX6_search_34 : decode cX6_search 34 = .ok (.goto 78, 3) := by decide +kernel
theorem dX6_search_37 : decode cX6_search 37 = .ok (.iconst 0, 1) := by decide +kernel
theorem dX6_search_38 : decode cX6_search 38 = .ok (.istore_n 3, 1) := by decide +kernel
theorem dX6_search_39 : decode cX6_search 39 = .ok (.iload_n 3, 1) := by decide +kernel
theorem dX6_search_40 : decode cX6_search 40 = .ok (.aload_n 1, 1) := by decide +kernel
theorem dX6_search_41 : decode cX6_search 41 = .ok (.invokevirtual 34, 3) := by decide +kernel
theorem dX6_search_44 : decode cX6_search 44 = .ok (.if_icmp .ge 68, 3) := by decide +kernel
theorem dX6_search_47 : decode cX6_search 47 = .ok (.aload_n 0, 1) := by decide +kernel
theorem dX6_search_48 : decode cX6_search 48 = .ok (.aload_n 1, 1) := by decide +kernel
theorem dX6_search_49 : decode cX6_search 49 = .ok (.iconst 1, 1) := by decide +kernel
theorem dX6_search_50 : decode cX6_search 50 = .ok (.aload_n 1, 1) := by decide +kernel
theorem dX6_search_51 : decode cX6_search 51 = .ok (.iload_n 3, 1) := by decide +kernel
theorem dX6_search_52 : decode cX6_search 52 = .ok (.invokevirtual 40, 3) := by decide +kernel
theorem dX6_search_55 : decode cX6_search 55 = .ok (.invokevirtual 44, 3) := by decide +kernel
theorem dX6_search_58 : decode cX6_search 58 = .ok (.ifCond .ne 6, 3) := by decide +kernel
theorem dX6_search_61 : decode cX6_search 61 = .ok (.goto 45, 3) := by decide +kernel
theorem dX6_search_64 : decode cX6_search 64 = .ok (.iconst 0, 1) := by decide +kernel
theorem dX6_search_65 : decode cX6_search 65 = .ok (.istore 4, 2) := by decide +kernel
theorem dX6_search_67 : decode cX6_search 67 = .ok (.iload 4, 2) := by decide +kernel
theorem dX6_search_69 : decode cX6_search 69 = .ok (.aload_n 1, 1) := by decide +kernel
theorem dX6_search_70 : decode cX6_search 70 = .ok (.invokevirtual 34, 3) := by decide +kernel
theorem dX6_search_73 : decode cX6_search 73 = .ok (.if_icmp .ge 33, 3) := by decide +kernel
theorem dX6_search_76 : decode cX6_search 76 = .ok (.aload_n 0, 1) := by decide +kernel
theorem dX6_search_77 : decode cX6_search 77 = .ok (.aload_n 1, 1) := by decide +kernel
theorem dX6_search_78 : decode cX6_search 78 = .ok (.iconst 2, 1) := by decide +kernel
theorem dX6_search_79 : decode cX6_search 79 = .ok (.aload_n 1, 1) := by decide +kernel
theorem dX6_search_80 : decode cX6_search 80 = .ok (.iload 4, 2) := by decide +kernel
theorem dX6_search_82 : decode cX6_search 82 = .ok (.invokevirtual 40, 3) := by decide +kernel
theorem dX6_search_85 : decode cX6_search 85 = .ok (.invokevirtual 44, 3) := by decide +kernel
theorem dX6_search_88 : decode cX6_search 88 = .ok (.ifCond .eq 12, 3) := by decide +kernel
theorem dX6_search_91 : decode cX6_search 91 = .ok (.aload_n 0, 1) := by decide +kernel
theorem dX6_search_92 : decode cX6_search 92 = .ok (.aload_n 0, 1) := by decide +kernel
theorem dX6_search_93 : decode cX6_search 93 = .ok (.aload_n 1, 1) := by decide +kernel
theorem dX6_search_94 : decode cX6_search 94 = .ok (.invokevirtual 48, 3) := by decide +kernel
theorem dX6_search_97 : decode cX6_search 97 = .ok (.invokevirtual 52, 3) := by decide +kernel
theorem dX6_search_100 : decode cX6_search 100 = .ok (.iinc 4 1, 3) := by decide +kernel
theorem dX6_search_103 : decode cX6_search 103 = .ok (.goto (-36), 3) := by decide +kernel
theorem dX6_search_106 : decode cX6_search 106 = .ok (.iinc 3 1, 3) := by decide +kernel
theorem dX6_search_109 : decode cX6_search 109 = .ok (.goto (-70), 3) := by decide +kernel
theorem dX6_search_112 : decode cX6_search 112 = .ok (.iinc 2 1, 3) := by decide +kernel
theorem dX6_search_115 : decode cX6_search 115 = .ok (.goto (-103), 3) := by decide +kernel
theorem dX6_search_118 : decode cX6_search 118 = .ok (.return_, 1) := by decide +kernel
theorem dX6_canStand_0 : decode cX6_canStand 0 = .ok (.aload_n 0, 1) := by decide +kernel
theorem dX6_canStand_1 : decode cX6_canStand 1 = .ok (.getfield 15, 3) := by decide +kernel
theorem dX6_canStand_4 : decode cX6_canStand 4 = .ok (.iload_n 2, 1) := by decide +kernel
theorem dX6_canStand_5 : decode cX6_canStand 5 = .ok (.iload_n 3, 1) := by decide +kernel
theorem dX6_canStand_6 : decode cX6_canStand 6 = .ok (.iastore, 1) := by decide +kernel
theorem dX6_canStand_7 : decode cX6_canStand 7 = .ok (.aload_n 0, 1) := by decide +kernel
theorem dX6_canStand_8 : decode cX6_canStand 8 = .ok (.aload_n 1, 1) := by decide +kernel
theorem dX6_canStand_9 : decode cX6_canStand 9 = .ok (.iload_n 2, 1) := by decide +kernel
theorem dX6_canStand_10 : decode cX6_canStand 10 = .ok (.invokevirtual 56, 3) := by decide +kernel
theorem dX6_canStand_13 : decode cX6_canStand 13 = .ok (.ifCond .ne 5, 3) := by decide +kernel
theorem dX6_canStand_16 : decode cX6_canStand 16 = .ok (.iconst 0, 1) := by decide +kernel
theorem dX6_canStand_17 : decode cX6_canStand 17 = .ok (.ireturn, 1) := by decide +kernel
theorem dX6_canStand_18 : decode cX6_canStand 18 = .ok (.iconst 0, 1) := by decide +kernel
theorem dX6_canStand_19 : decode cX6_canStand 19 = .ok (.istore 4, 2) := by decide +kernel
theorem dX6_canStand_21 : decode cX6_canStand 21 = .ok (.iload 4, 2) := by decide +kernel
theorem dX6_canStand_23 : decode cX6_canStand 23 = .ok (.iconst 3, 1) := by decide +kernel
theorem dX6_canStand_24 : decode cX6_canStand 24 = .ok (.if_icmp .ge 31, 3) := by decide +kernel
theorem dX6_canStand_27 : decode cX6_canStand 27 = .ok (.aload_n 1, 1) := by decide +kernel
theorem dX6_canStand_28 : decode cX6_canStand 28 = .ok (.aload_n 1, 1) := by decide +kernel
theorem dX6_canStand_29 : decode cX6_canStand 29 = .ok (.aload_n 0, 1) := by decide +kernel
theorem dX6_canStand_30 : decode cX6_canStand 30 = .ok (.getfield 15, 3) := by decide +kernel
theorem dX6_canStand_33 : decode cX6_canStand 33 = .ok (.iload 4, 2) := by decide +kernel
theorem dX6_canStand_35 : decode cX6_canStand 35 = .ok (.iload_n 2, 1) := by decide +kernel
theorem dX6_canStand_36 : decode cX6_canStand 36 = .ok (.iconst 1, 1) := by decide +kernel
theorem dX6_canStand_37 : decode cX6_canStand 37 = .ok (.iadd, 1) := by decide +kernel
theorem dX6_canStand_38 : decode cX6_canStand 38 = .ok (.invokestatic 60, 3) := by decide +kernel
theorem dX6_canStand_41 : decode cX6_canStand 41 = .ok (.invokevirtual 64, 3) := by decide +kernel
theorem dX6_canStand_44 : decode cX6_canStand 44 = .ok (.ifCond .ne 5, 3) := by decide +kernel
theorem dX6_canStand_47 : decode cX6_canStand 47 = .ok (.iconst 0, 1) := by decide +kernel
theorem dX6_canStand_48 : decode cX6_canStand 48 = .ok (.ireturn, 1) := by decide +kernel
theorem dX6_canStand_49 : decode cX6_canStand 49 = .ok (.iinc 4 1, 3) := by decide +kernel
theorem dX6_canStand_52 : decode cX6_canStand 52 = .ok (.goto (-31), 3) := by decide +kernel
theorem dX6_canStand_55 : decode cX6_canStand 55 = .ok (.iconst 1, 1) := by decide +kernel
theorem dX6_canStand_56 : decode cX6_canStand 56 = .ok (.ireturn, 1) := by decide +kernel
theorem dX6_keep_0 : decode cX6_keep 0 = .ok (.aload_n 0, 1) := by decide +kernel
theorem dX6_keep_1 : decode cX6_keep 1 = .ok (.dup, 1) := by decide +kernel
theorem dX6_keep_2 : decode cX6_keep 2 = .ok (.getfield 31, 3) := by decide +kernel
theorem dX6_keep_5 : decode cX6_keep 5 = .ok (.iconst 1, 1) := by decide +kernel
theorem dX6_keep_6 : decode cX6_keep 6 = .ok (.iadd, 1) := by decide +kernel
theorem dX6_keep_7 : decode cX6_keep 7 = .ok (.putfield 31, 3) := by decide +kernel
theorem dX6_keep_10 : decode cX6_keep 10 = .ok (.iload_n 1, 1) := by decide +kernel
theorem dX6_keep_11 : decode cX6_keep 11 = .ok (.aload_n 0, 1) := by decide +kernel
theorem dX6_keep_12 : decode cX6_keep 12 = .ok (.getfield 27, 3) := by decide +kernel
theorem dX6_keep_15 : decode cX6_keep 15 = .ok (.if_icmp .le 33, 3) := by decide +kernel
theorem dX6_keep_18 : decode cX6_keep 18 = .ok (.aload_n 0, 1) := by decide +kernel
theorem dX6_keep_19 : decode cX6_keep 19 = .ok (.iload_n 1, 1) := by decide +kernel
theorem dX6_keep_20 : decode cX6_keep 20 = .ok (.putfield 27, 3) := by decide +kernel
theorem dX6_keep_23 : decode cX6_keep 23 = .ok (.iconst 0, 1) := by decide +kernel
theorem dX6_keep_24 : decode cX6_keep 24 = .ok (.istore_n 2, 1) := by decide +kernel
theorem dX6_keep_25 : decode cX6_keep 25 = .ok (.iload_n 2, 1) := by decide +kernel
theorem dX6_keep_26 : decode cX6_keep 26 = .ok (.iconst 3, 1) := by decide +kernel
theorem dX6_keep_27 : decode cX6_keep 27 = .ok (.if_icmp .ge 21, 3) := by decide +kernel
theorem dX6_keep_30 : decode cX6_keep 30 = .ok (.aload_n 0, 1) := by decide +kernel
theorem dX6_keep_31 : decode cX6_keep 31 = .ok (.getfield 18, 3) := by decide +kernel
theorem dX6_keep_34 : decode cX6_keep 34 = .ok (.iload_n 2, 1) := by decide +kernel
theorem dX6_keep_35 : decode cX6_keep 35 = .ok (.aload_n 0, 1) := by decide +kernel
theorem dX6_keep_36 : decode cX6_keep 36 = .ok (.getfield 15, 3) := by decide +kernel
theorem dX6_keep_39 : decode cX6_keep 39 = .ok (.iload_n 2, 1) := by decide +kernel
theorem dX6_keep_40 : decode cX6_keep 40 = .ok (.iaload, 1) := by decide +kernel
theorem dX6_keep_41 : decode cX6_keep 41 = .ok (.iastore, 1) := by decide +kernel
theorem dX6_keep_42 : decode cX6_keep 42 = .ok (.iinc 2 1, 3) := by decide +kernel
theorem dX6_keep_45 : decode cX6_keep 45 = .ok (.goto (-20), 3) := by decide +kernel
theorem dX6_keep_48 : decode cX6_keep 48 = .ok (.return_, 1) := by decide +kernel
theorem dX6_greatestWeightOfAll_0 : decode cX6_greatestWeightOfAll 0 = .ok (.iconst (-1), 1) := by decide +kernel
theorem dX6_greatestWeightOfAll_1 : decode cX6_greatestWeightOfAll 1 = .ok (.istore_n 2, 1) := by decide +kernel
theorem dX6_greatestWeightOfAll_2 : decode cX6_greatestWeightOfAll 2 = .ok (.iconst 0, 1) := by decide +kernel
theorem dX6_greatestWeightOfAll_3 : decode cX6_greatestWeightOfAll 3 = .ok (.istore_n 3, 1) := by decide +kernel
theorem dX6_greatestWeightOfAll_4 : decode cX6_greatestWeightOfAll 4 = .ok (.iload_n 3, 1) := by decide +kernel
theorem dX6_greatestWeightOfAll_5 : decode cX6_greatestWeightOfAll 5 = .ok (.aload_n 1, 1) := by decide +kernel
theorem dX6_greatestWeightOfAll_6 : decode cX6_greatestWeightOfAll 6 = .ok (.invokevirtual 34, 3) := by decide +kernel
theorem dX6_greatestWeightOfAll_9 : decode cX6_greatestWeightOfAll 9 = .ok (.if_icmp .ge 78, 3) := by decide +kernel
theorem dX6_greatestWeightOfAll_12 : decode cX6_greatestWeightOfAll 12 = .ok (.iconst 0, 1) := by decide +kernel
theorem dX6_greatestWeightOfAll_13 : decode cX6_greatestWeightOfAll 13 = .ok (.istore 4, 2) := by decide +kernel
theorem dX6_greatestWeightOfAll_15 : decode cX6_greatestWeightOfAll 15 = .ok (.iload 4, 2) := by decide +kernel
theorem dX6_greatestWeightOfAll_17 : decode cX6_greatestWeightOfAll 17 = .ok (.aload_n 1, 1) := by decide +kernel
theorem dX6_greatestWeightOfAll_18 : decode cX6_greatestWeightOfAll 18 = .ok (.invokevirtual 34, 3) := by decide +kernel
theorem dX6_greatestWeightOfAll_21 : decode cX6_greatestWeightOfAll 21 = .ok (.if_icmp .ge 60, 3) := by decide +kernel
theorem dX6_greatestWeightOfAll_24 : decode cX6_greatestWeightOfAll 24 = .ok (.iconst 0, 1) := by decide +kernel
theorem dX6_greatestWeightOfAll_25 : decode cX6_greatestWeightOfAll 25 = .ok (.istore 5, 2) := by decide +kernel
theorem dX6_greatestWeightOfAll_27 : decode cX6_greatestWeightOfAll 27 = .ok (.iload 5, 2) := by decide +kernel
theorem dX6_greatestWeightOfAll_29 : decode cX6_greatestWeightOfAll 29 = .ok (.aload_n 1, 1) := by decide +kernel
theorem dX6_greatestWeightOfAll_30 : decode cX6_greatestWeightOfAll 30 = .ok (.invokevirtual 34, 3) := by decide +kernel
theorem dX6_greatestWeightOfAll_33 : decode cX6_greatestWeightOfAll 33 = .ok (.if_icmp .ge 42, 3) := by decide +kernel
theorem dX6_greatestWeightOfAll_36 : decode cX6_greatestWeightOfAll 36 = .ok (.aload_n 0, 1) := by decide +kernel
theorem dX6_greatestWeightOfAll_37 : decode cX6_greatestWeightOfAll 37 = .ok (.getfield 15, 3) := by decide +kernel
theorem dX6_greatestWeightOfAll_40 : decode cX6_greatestWeightOfAll 40 = .ok (.iconst 0, 1) := by decide +kernel
theorem dX6_greatestWeightOfAll_41 : decode cX6_greatestWeightOfAll 41 = .ok (.iload_n 3, 1) := by decide +kernel
theorem dX6_greatestWeightOfAll_42 : decode cX6_greatestWeightOfAll 42 = .ok (.iastore, 1) := by decide +kernel
theorem dX6_greatestWeightOfAll_43 : decode cX6_greatestWeightOfAll 43 = .ok (.aload_n 0, 1) := by decide +kernel
theorem dX6_greatestWeightOfAll_44 : decode cX6_greatestWeightOfAll 44 = .ok (.getfield 15, 3) := by decide +kernel
theorem dX6_greatestWeightOfAll_47 : decode cX6_greatestWeightOfAll 47 = .ok (.iconst 1, 1) := by decide +kernel
theorem dX6_greatestWeightOfAll_48 : decode cX6_greatestWeightOfAll 48 = .ok (.iload 4, 2) := by decide +kernel
theorem dX6_greatestWeightOfAll_50 : decode cX6_greatestWeightOfAll 50 = .ok (.iastore, 1) := by decide +kernel
theorem dX6_greatestWeightOfAll_51 : decode cX6_greatestWeightOfAll 51 = .ok (.aload_n 0, 1) := by decide +kernel
theorem dX6_greatestWeightOfAll_52 : decode cX6_greatestWeightOfAll 52 = .ok (.getfield 15, 3) := by decide +kernel
theorem dX6_greatestWeightOfAll_55 : decode cX6_greatestWeightOfAll 55 = .ok (.iconst 2, 1) := by decide +kernel
theorem dX6_greatestWeightOfAll_56 : decode cX6_greatestWeightOfAll 56 = .ok (.iload 5, 2) := by decide +kernel
theorem dX6_greatestWeightOfAll_58 : decode cX6_greatestWeightOfAll 58 = .ok (.iastore, 1) := by decide +kernel
theorem dX6_greatestWeightOfAll_59 : decode cX6_greatestWeightOfAll 59 = .ok (.iload_n 2, 1) := by decide +kernel
theorem dX6_greatestWeightOfAll_60 : decode cX6_greatestWeightOfAll 60 = .ok (.aload_n 0, 1) := by decide +kernel
theorem dX6_greatestWeightOfAll_61 : decode cX6_greatestWeightOfAll 61 = .ok (.aload_n 1, 1) := by decide +kernel
theorem dX6_greatestWeightOfAll_62 : decode cX6_greatestWeightOfAll 62 = .ok (.invokevirtual 67, 3) := by decide +kernel
theorem dX6_greatestWeightOfAll_65 : decode cX6_greatestWeightOfAll 65 = .ok (.invokestatic 70, 3) := by decide +kernel
theorem dX6_greatestWeightOfAll_68 : decode cX6_greatestWeightOfAll 68 = .ok (.istore_n 2, 1) := by decide +kernel
theorem dX6_greatestWeightOfAll_69 : decode cX6_greatestWeightOfAll 69 = .ok (.iinc 5 1, 3) := by decide +kernel
theorem dX6_greatestWeightOfAll_72 : decode cX6_greatestWeightOfAll 72 = .ok (.goto (-45), 3) := by decide +kernel
theorem dX6_greatestWeightOfAll_75 : decode cX6_greatestWeightOfAll 75 = .ok (.iinc 4 1, 3) := by decide +kernel
theorem dX6_greatestWeightOfAll_78 : decode cX6_greatestWeightOfAll 78 = .ok (.goto (-63), 3) := by decide +kernel
theorem dX6_greatestWeightOfAll_81 : decode cX6_greatestWeightOfAll 81 = .ok (.iinc 3 1, 3) := by decide +kernel
theorem dX6_greatestWeightOfAll_84 : decode cX6_greatestWeightOfAll 84 = .ok (.goto (-80), 3) := by decide +kernel
theorem dX6_greatestWeightOfAll_87 : decode cX6_greatestWeightOfAll 87 = .ok (.iload_n 2, 1) := by decide +kernel
theorem dX6_greatestWeightOfAll_88 : decode cX6_greatestWeightOfAll 88 = .ok (.ireturn, 1) := by decide +kernel
theorem dX6_weightIfFill_0 : decode cX6_weightIfFill 0 = .ok (.iconst 0, 1) := by decide +kernel
theorem dX6_weightIfFill_1 : decode cX6_weightIfFill 1 = .ok (.istore_n 2, 1) := by decide +kernel
theorem dX6_weightIfFill_2 : decode cX6_weightIfFill 2 = .ok (.iload_n 2, 1) := by decide +kernel
theorem dX6_weightIfFill_3 : decode cX6_weightIfFill 3 = .ok (.iconst 3, 1) := by decide +kernel
theorem dX6_weightIfFill_4 : decode cX6_weightIfFill 4 = .ok (.if_icmp .ge 20, 3) := by decide +kernel
theorem dX6_weightIfFill_7 : decode cX6_weightIfFill 7 = .ok (.aload_n 0, 1) := by decide +kernel
theorem dX6_weightIfFill_8 : decode cX6_weightIfFill 8 = .ok (.aload_n 1, 1) := by decide +kernel
theorem dX6_weightIfFill_9 : decode cX6_weightIfFill 9 = .ok (.iload_n 2, 1) := by decide +kernel
theorem dX6_weightIfFill_10 : decode cX6_weightIfFill 10 = .ok (.invokevirtual 56, 3) := by decide +kernel
theorem dX6_weightIfFill_13 : decode cX6_weightIfFill 13 = .ok (.ifCond .ne 5, 3) := by decide +kernel
theorem dX6_weightIfFill_16 : decode cX6_weightIfFill 16 = .ok (.iconst (-1), 1) := by decide +kernel
theorem dX6_weightIfFill_17 : decode cX6_weightIfFill 17 = .ok (.ireturn, 1) := by decide +kernel
theorem dX6_weightIfFill_18 : decode cX6_weightIfFill 18 = .ok (.iinc 2 1, 3) := by decide +kernel
theorem dX6_weightIfFill_21 : decode cX6_weightIfFill 21 = .ok (.goto (-19), 3) := by decide +kernel
theorem dX6_weightIfFill_24 : decode cX6_weightIfFill 24 = .ok (.iconst 0, 1) := by decide +kernel
theorem dX6_weightIfFill_25 : decode cX6_weightIfFill 25 = .ok (.istore_n 2, 1) := by decide +kernel
theorem dX6_weightIfFill_26 : decode cX6_weightIfFill 26 = .ok (.iload_n 2, 1) := by decide +kernel
theorem dX6_weightIfFill_27 : decode cX6_weightIfFill 27 = .ok (.iconst 3, 1) := by decide +kernel
theorem dX6_weightIfFill_28 : decode cX6_weightIfFill 28 = .ok (.if_icmp .ge 29, 3) := by decide +kernel
theorem dX6_weightIfFill_31 : decode cX6_weightIfFill 31 = .ok (.aload_n 1, 1) := by decide +kernel
theorem dX6_weightIfFill_32 : decode cX6_weightIfFill 32 = .ok (.aload_n 1, 1) := by decide +kernel
theorem dX6_weightIfFill_33 : decode cX6_weightIfFill 33 = .ok (.aload_n 0, 1) := by decide +kernel
theorem dX6_weightIfFill_34 : decode cX6_weightIfFill 34 = .ok (.getfield 15, 3) := by decide +kernel
theorem dX6_weightIfFill_37 : decode cX6_weightIfFill 37 = .ok (.iload_n 2, 1) := by decide +kernel
theorem dX6_weightIfFill_38 : decode cX6_weightIfFill 38 = .ok (.iconst 3, 1) := by decide +kernel
theorem dX6_weightIfFill_39 : decode cX6_weightIfFill 39 = .ok (.invokestatic 60, 3) := by decide +kernel
theorem dX6_weightIfFill_42 : decode cX6_weightIfFill 42 = .ok (.invokevirtual 76, 3) := by decide +kernel
theorem dX6_weightIfFill_45 : decode cX6_weightIfFill 45 = .ok (.iconst (-1), 1) := by decide +kernel
theorem dX6_weightIfFill_46 : decode cX6_weightIfFill 46 = .ok (.if_icmp .ne 5, 3) := by decide +kernel
theorem dX6_weightIfFill_49 : decode cX6_weightIfFill 49 = .ok (.iconst (-1), 1) := by decide +kernel
theorem dX6_weightIfFill_50 : decode cX6_weightIfFill 50 = .ok (.ireturn, 1) := by decide +kernel
theorem dX6_weightIfFill_51 : decode cX6_weightIfFill 51 = .ok (.iinc 2 1, 3) := by decide +kernel
theorem dX6_weightIfFill_54 : decode cX6_weightIfFill 54 = .ok (.goto (-28), 3) := by decide +kernel
theorem dX6_weightIfFill_57 : decode cX6_weightIfFill 57 = .ok (.aload_n 0, 1) := by decide +kernel
theorem dX6_weightIfFill_58 : decode cX6_weightIfFill 58 = .ok (.aload_n 1, 1) := by decide +kernel
theorem dX6_weightIfFill_59 : decode cX6_weightIfFill 59 = .ok (.invokevirtual 48, 3) := by decide +kernel
theorem dX6_weightIfFill_62 : decode cX6_weightIfFill 62 = .ok (.ireturn, 1) := by decide +kernel
theorem dX6_agreesWithFixed_0 : decode cX6_agreesWithFixed 0 = .ok (.iconst 0, 1) := by decide +kernel
theorem dX6_agreesWithFixed_1 : decode cX6_agreesWithFixed 1 = .ok (.istore_n 3, 1) := by decide +kernel
theorem dX6_agreesWithFixed_2 : decode cX6_agreesWithFixed 2 = .ok (.iload_n 3, 1) := by decide +kernel
theorem dX6_agreesWithFixed_3 : decode cX6_agreesWithFixed 3 = .ok (.iconst 3, 1) := by decide +kernel
theorem dX6_agreesWithFixed_4 : decode cX6_agreesWithFixed 4 = .ok (.if_icmp .ge 45, 3) := by decide +kernel
theorem dX6_agreesWithFixed_7 : decode cX6_agreesWithFixed 7 = .ok (.aload_n 0, 1) := by decide +kernel
theorem dX6_agreesWithFixed_8 : decode cX6_agreesWithFixed 8 = .ok (.getfield 9, 3) := by decide +kernel
theorem dX6_agreesWithFixed_11 : decode cX6_agreesWithFixed 11 = .ok (.iload_n 2, 1) := by decide +kernel
theorem dX6_agreesWithFixed_12 : decode cX6_agreesWithFixed 12 = .ok (.iconst 3, 1) := by decide +kernel
theorem dX6_agreesWithFixed_13 : decode cX6_agreesWithFixed 13 = .ok (.imul, 1) := by decide +kernel
theorem dX6_agreesWithFixed_14 : decode cX6_agreesWithFixed 14 = .ok (.iload_n 3, 1) := by decide +kernel
theorem dX6_agreesWithFixed_15 : decode cX6_agreesWithFixed 15 = .ok (.iadd, 1) := by decide +kernel
theorem dX6_agreesWithFixed_16 : decode cX6_agreesWithFixed 16 = .ok (.iaload, 1) := by decide +kernel
theorem dX6_agreesWithFixed_17 : decode cX6_agreesWithFixed 17 = .ok (.istore 4, 2) := by decide +kernel
theorem dX6_agreesWithFixed_19 : decode cX6_agreesWithFixed 19 = .ok (.iload 4, 2) := by decide +kernel
theorem dX6_agreesWithFixed_21 : decode cX6_agreesWithFixed 21 = .ok (.iconst (-1), 1) := by decide +kernel
theorem dX6_agreesWithFixed_22 : decode cX6_agreesWithFixed 22 = .ok (.if_icmp .eq 21, 3) := by decide +kernel
theorem dX6_agreesWithFixed_25 : decode cX6_agreesWithFixed 25 = .ok (.iload 4, 2) := by decide +kernel
theorem dX6_agreesWithFixed_27 : decode cX6_agreesWithFixed 27 = .ok (.aload_n 1, 1) := by decide +kernel
theorem dX6_agreesWithFixed_28 : decode cX6_agreesWithFixed 28 = .ok (.aload_n 0, 1) := by decide +kernel
theorem dX6_agreesWithFixed_29 : decode cX6_agreesWithFixed 29 = .ok (.getfield 15, 3) := by decide +kernel
theorem dX6_agreesWithFixed_32 : decode cX6_agreesWithFixed 32 = .ok (.iload_n 2, 1) := by decide +kernel
theorem dX6_agreesWithFixed_33 : decode cX6_agreesWithFixed 33 = .ok (.iaload, 1) := by decide +kernel
theorem dX6_agreesWithFixed_34 : decode cX6_agreesWithFixed 34 = .ok (.iload_n 3, 1) := by decide +kernel
theorem dX6_agreesWithFixed_35 : decode cX6_agreesWithFixed 35 = .ok (.invokevirtual 79, 3) := by decide +kernel
theorem dX6_agreesWithFixed_38 : decode cX6_agreesWithFixed 38 = .ok (.if_icmp .eq 5, 3) := by decide +kernel
theorem dX6_agreesWithFixed_41 : decode cX6_agreesWithFixed 41 = .ok (.iconst 0, 1) := by decide +kernel
theorem dX6_agreesWithFixed_42 : decode cX6_agreesWithFixed 42 = .ok (.ireturn, 1) := by decide +kernel
theorem dX6_agreesWithFixed_43 : decode cX6_agreesWithFixed 43 = .ok (.iinc 3 1, 3) := by decide +kernel
theorem dX6_agreesWithFixed_46 : decode cX6_agreesWithFixed 46 = .ok (.goto (-44), 3) := by decide +kernel
theorem dX6_agreesWithFixed_49 : decode cX6_agreesWithFixed 49 = .ok (.iconst 1, 1) := by decide +kernel
theorem dX6_agreesWithFixed_50 : decode cX6_agreesWithFixed 50 = .ok (.ireturn, 1) := by decide +kernel
theorem dX6_weightOfSquare_0 : decode cX6_weightOfSquare 0 = .ok (.iconst 0, 1) := by decide +kernel
theorem dX6_weightOfSquare_1 : decode cX6_weightOfSquare 1 = .ok (.istore_n 2, 1) := by decide +kernel
theorem dX6_weightOfSquare_2 : decode cX6_weightOfSquare 2 = .ok (.iconst 0, 1) := by decide +kernel
theorem dX6_weightOfSquare_3 : decode cX6_weightOfSquare 3 = .ok (.istore_n 3, 1) := by decide +kernel
theorem dX6_weightOfSquare_4 : decode cX6_weightOfSquare 4 = .ok (.iload_n 3, 1) := by decide +kernel
theorem dX6_weightOfSquare_5 : decode cX6_weightOfSquare 5 = .ok (.iconst 3, 1) := by decide +kernel
theorem dX6_weightOfSquare_6 : decode cX6_weightOfSquare 6 = .ok (.if_icmp .ge 53, 3) := by decide +kernel
theorem dX6_weightOfSquare_9 : decode cX6_weightOfSquare 9 = .ok (.iload_n 2, 1) := by decide +kernel
theorem dX6_weightOfSquare_10 : decode cX6_weightOfSquare 10 = .ok (.aload_n 1, 1) := by decide +kernel
theorem dX6_weightOfSquare_11 : decode cX6_weightOfSquare 11 = .ok (.aload_n 0, 1) := by decide +kernel
theorem dX6_weightOfSquare_12 : decode cX6_weightOfSquare 12 = .ok (.getfield 15, 3) := by decide +kernel
theorem dX6_weightOfSquare_15 : decode cX6_weightOfSquare 15 = .ok (.iload_n 3, 1) := by decide +kernel
theorem dX6_weightOfSquare_16 : decode cX6_weightOfSquare 16 = .ok (.iaload, 1) := by decide +kernel
theorem dX6_weightOfSquare_17 : decode cX6_weightOfSquare 17 = .ok (.invokevirtual 82, 3) := by decide +kernel
theorem dX6_weightOfSquare_20 : decode cX6_weightOfSquare 20 = .ok (.iadd, 1) := by decide +kernel
theorem dX6_weightOfSquare_21 : decode cX6_weightOfSquare 21 = .ok (.istore_n 2, 1) := by decide +kernel
theorem dX6_weightOfSquare_22 : decode cX6_weightOfSquare 22 = .ok (.aload_n 1, 1) := by decide +kernel
theorem dX6_weightOfSquare_23 : decode cX6_weightOfSquare 23 = .ok (.aload_n 1, 1) := by decide +kernel
theorem dX6_weightOfSquare_24 : decode cX6_weightOfSquare 24 = .ok (.aload_n 0, 1) := by decide +kernel
theorem dX6_weightOfSquare_25 : decode cX6_weightOfSquare 25 = .ok (.getfield 15, 3) := by decide +kernel
theorem dX6_weightOfSquare_28 : decode cX6_weightOfSquare 28 = .ok (.iload_n 3, 1) := by decide +kernel
theorem dX6_weightOfSquare_29 : decode cX6_weightOfSquare 29 = .ok (.iconst 3, 1) := by decide +kernel
theorem dX6_weightOfSquare_30 : decode cX6_weightOfSquare 30 = .ok (.invokestatic 60, 3) := by decide +kernel
theorem dX6_weightOfSquare_33 : decode cX6_weightOfSquare 33 = .ok (.invokevirtual 76, 3) := by decide +kernel
theorem dX6_weightOfSquare_36 : decode cX6_weightOfSquare 36 = .ok (.istore 4, 2) := by decide +kernel
theorem dX6_weightOfSquare_38 : decode cX6_weightOfSquare 38 = .ok (.iload 4, 2) := by decide +kernel
theorem dX6_weightOfSquare_40 : decode cX6_weightOfSquare 40 = .ok (.iconst (-1), 1) := by decide +kernel
theorem dX6_weightOfSquare_41 : decode cX6_weightOfSquare 41 = .ok (.if_icmp .eq 12, 3) := by decide +kernel
theorem dX6_weightOfSquare_44 : decode cX6_weightOfSquare 44 = .ok (.iload_n 2, 1) := by decide +kernel
theorem dX6_weightOfSquare_45 : decode cX6_weightOfSquare 45 = .ok (.aload_n 1, 1) := by decide +kernel
theorem dX6_weightOfSquare_46 : decode cX6_weightOfSquare 46 = .ok (.iload 4, 2) := by decide +kernel
theorem dX6_weightOfSquare_48 : decode cX6_weightOfSquare 48 = .ok (.invokevirtual 82, 3) := by decide +kernel
theorem dX6_weightOfSquare_51 : decode cX6_weightOfSquare 51 = .ok (.iadd, 1) := by decide +kernel
theorem dX6_weightOfSquare_52 : decode cX6_weightOfSquare 52 = .ok (.istore_n 2, 1) := by decide +kernel
theorem dX6_weightOfSquare_53 : decode cX6_weightOfSquare 53 = .ok (.iinc 3 1, 3) := by decide +kernel
theorem dX6_weightOfSquare_56 : decode cX6_weightOfSquare 56 = .ok (.goto (-52), 3) := by decide +kernel
theorem dX6_weightOfSquare_59 : decode cX6_weightOfSquare 59 = .ok (.iload_n 2, 1) := by decide +kernel
theorem dX6_weightOfSquare_60 : decode cX6_weightOfSquare 60 = .ok (.ireturn, 1) := by decide +kernel
theorem dX6_columnCode_0 : decode cX6_columnCode 0 = .ok (.iconst 1, 1) := by decide +kernel
theorem dX6_columnCode_1 : decode cX6_columnCode 1 = .ok (.istore 4, 2) := by decide +kernel
theorem dX6_columnCode_3 : decode cX6_columnCode 3 = .ok (.iconst 0, 1) := by decide +kernel
theorem dX6_columnCode_4 : decode cX6_columnCode 4 = .ok (.istore 5, 2) := by decide +kernel
theorem dX6_columnCode_6 : decode cX6_columnCode 6 = .ok (.iload 5, 2) := by decide +kernel
theorem dX6_columnCode_8 : decode cX6_columnCode 8 = .ok (.iload_n 3, 1) := by decide +kernel
theorem dX6_columnCode_9 : decode cX6_columnCode 9 = .ok (.if_icmp .ge 26, 3) := by decide +kernel
theorem dX6_columnCode_12 : decode cX6_columnCode 12 = .ok (.iload 4, 2) := by decide +kernel
theorem dX6_columnCode_14 : decode cX6_columnCode 14 = .ok (.bipush 9, 2) := by decide +kernel
theorem dX6_columnCode_16 : decode cX6_columnCode 16 = .ok (.imul, 1) := by decide +kernel
theorem dX6_columnCode_17 : decode cX6_columnCode 17 = .ok (.aload_n 0, 1) := by decide +kernel
theorem dX6_columnCode_18 : decode cX6_columnCode 18 = .ok (.aload_n 1, 1) := by decide +kernel
theorem dX6_columnCode_19 : decode cX6_columnCode 19 = .ok (.iload 5, 2) := by decide +kernel
theorem dX6_columnCode_21 : decode cX6_columnCode 21 = .ok (.iaload, 1) := by decide +kernel
theorem dX6_columnCode_22 : decode cX6_columnCode 22 = .ok (.iload_n 2, 1) := by decide +kernel
theorem dX6_columnCode_23 : decode cX6_columnCode 23 = .ok (.invokevirtual 79, 3) := by decide +kernel
theorem dX6_columnCode_26 : decode cX6_columnCode 26 = .ok (.iadd, 1) := by decide +kernel
theorem dX6_columnCode_27 : decode cX6_columnCode 27 = .ok (.istore 4, 2) := by decide +kernel
theorem dX6_columnCode_29 : decode cX6_columnCode 29 = .ok (.iinc 5 1, 3) := by decide +kernel
theorem dX6_columnCode_32 : decode cX6_columnCode 32 = .ok (.goto (-26), 3) := by decide +kernel
theorem dX6_columnCode_35 : decode cX6_columnCode 35 = .ok (.iload 4, 2) := by decide +kernel
theorem dX6_columnCode_37 : decode cX6_columnCode 37 = .ok (.ireturn, 1) := by decide +kernel
theorem dX6_bestLetter_0 : decode cX6_bestLetter 0 = .ok (.aload_n 1, 1) := by decide +kernel
theorem dX6_bestLetter_1 : decode cX6_bestLetter 1 = .ok (.aload_n 0, 1) := by decide +kernel
theorem dX6_bestLetter_2 : decode cX6_bestLetter 2 = .ok (.getfield 18, 3) := by decide +kernel
theorem dX6_bestLetter_5 : decode cX6_bestLetter 5 = .ok (.iload_n 2, 1) := by decide +kernel
theorem dX6_bestLetter_6 : decode cX6_bestLetter 6 = .ok (.iconst 3, 1) := by decide +kernel
theorem dX6_bestLetter_7 : decode cX6_bestLetter 7 = .ok (.idiv, 1) := by decide +kernel
theorem dX6_bestLetter_8 : decode cX6_bestLetter 8 = .ok (.iaload, 1) := by decide +kernel
theorem dX6_bestLetter_9 : decode cX6_bestLetter 9 = .ok (.iload_n 2, 1) := by decide +kernel
theorem dX6_bestLetter_10 : decode cX6_bestLetter 10 = .ok (.iconst 3, 1) := by decide +kernel
theorem dX6_bestLetter_11 : decode cX6_bestLetter 11 = .ok (.irem, 1) := by decide +kernel
theorem dX6_bestLetter_12 : decode cX6_bestLetter 12 = .ok (.invokevirtual 79, 3) := by decide +kernel
theorem dX6_bestLetter_15 : decode cX6_bestLetter 15 = .ok (.ireturn, 1) := by decide +kernel
theorem dX6_bestWord_0 : decode cX6_bestWord 0 = .ok (.iload_n 2, 1) := by decide +kernel
theorem dX6_bestWord_1 : decode cX6_bestWord 1 = .ok (.iconst 3, 1) := by decide +kernel
theorem dX6_bestWord_2 : decode cX6_bestWord 2 = .ok (.if_icmp .ge 10, 3) := by decide +kernel
theorem dX6_bestWord_5 : decode cX6_bestWord 5 = .ok (.aload_n 0, 1) := by decide +kernel
theorem dX6_bestWord_6 : decode cX6_bestWord 6 = .ok (.getfield 18, 3) := by decide +kernel
theorem dX6_bestWord_9 : decode cX6_bestWord 9 = .ok (.iload_n 2, 1) := by decide +kernel
theorem dX6_bestWord_10 : decode cX6_bestWord 10 = .ok (.iaload, 1) := by decide +kernel
theorem dX6_bestWord_11 : decode cX6_bestWord 11 = .ok (.ireturn, 1) := by decide +kernel
theorem dX6_bestWord_12 : decode cX6_bestWord 12 = .ok (.aload_n 1, 1) := by decide +kernel
theorem dX6_bestWord_13 : decode cX6_bestWord 13 = .ok (.aload_n 1, 1) := by decide +kernel
theorem dX6_bestWord_14 : decode cX6_bestWord 14 = .ok (.aload_n 0, 1) := by decide +kernel
theorem dX6_bestWord_15 : decode cX6_bestWord 15 = .ok (.getfield 18, 3) := by decide +kernel
theorem dX6_bestWord_18 : decode cX6_bestWord 18 = .ok (.iload_n 2, 1) := by decide +kernel
theorem dX6_bestWord_19 : decode cX6_bestWord 19 = .ok (.iconst 3, 1) := by decide +kernel
theorem dX6_bestWord_20 : decode cX6_bestWord 20 = .ok (.isub, 1) := by decide +kernel
theorem dX6_bestWord_21 : decode cX6_bestWord 21 = .ok (.iconst 3, 1) := by decide +kernel
theorem dX6_bestWord_22 : decode cX6_bestWord 22 = .ok (.invokestatic 60, 3) := by decide +kernel
theorem dX6_bestWord_25 : decode cX6_bestWord 25 = .ok (.invokevirtual 76, 3) := by decide +kernel
theorem dX6_bestWord_28 : decode cX6_bestWord 28 = .ok (.ireturn, 1) := by decide +kernel
theorem dX7_init_0 : decode cX7_init 0 = .ok (.aload_n 0, 1) := by decide +kernel
theorem dX7_init_1 : decode cX7_init 1 = .ok (.invokespecial 3, 3) := by decide +kernel
theorem dX7_init_4 : decode cX7_init 4 = .ok (.aload_n 0, 1) := by decide +kernel
theorem dX7_init_5 : decode cX7_init 5 = .ok (.bipush 30, 2) := by decide +kernel
theorem dX7_init_7 : decode cX7_init 7 = .ok (.newarray .int, 2) := by decide +kernel
theorem dX7_init_9 : decode cX7_init 9 = .ok (.putfield 9, 3) := by decide +kernel
theorem dX7_init_12 : decode cX7_init 12 = .ok (.aload_n 0, 1) := by decide +kernel
theorem dX7_init_13 : decode cX7_init 13 = .ok (.bipush 90, 2) := by decide +kernel
theorem dX7_init_15 : decode cX7_init 15 = .ok (.newarray .int, 2) := by decide +kernel
theorem dX7_init_17 : decode cX7_init 17 = .ok (.putfield 15, 3) := by decide +kernel
theorem dX7_init_20 : decode cX7_init 20 = .ok (.aload_n 0, 1) := by decide +kernel
theorem dX7_init_21 : decode cX7_init 21 = .ok (.bipush 30, 2) := by decide +kernel
theorem dX7_init_23 : decode cX7_init 23 = .ok (.newarray .int, 2) := by decide +kernel
theorem dX7_init_25 : decode cX7_init 25 = .ok (.putfield 18, 3) := by decide +kernel
theorem dX7_init_28 : decode cX7_init 28 = .ok (.aload_n 0, 1) := by decide +kernel
theorem dX7_init_29 : decode cX7_init 29 = .ok (.bipush 30, 2) := by decide +kernel
theorem dX7_init_31 : decode cX7_init 31 = .ok (.newarray .int, 2) := by decide +kernel
theorem dX7_init_33 : decode cX7_init 33 = .ok (.putfield 21, 3) := by decide +kernel
theorem dX7_init_36 : decode cX7_init 36 = .ok (.aload_n 0, 1) := by decide +kernel
theorem dX7_init_37 : decode cX7_init 37 = .ok (.sipush 1458, 3) := by decide +kernel
theorem dX7_init_40 : decode cX7_init 40 = .ok (.newarray .int, 2) := by decide +kernel
theorem dX7_init_42 : decode cX7_init 42 = .ok (.putfield 24, 3) := by decide +kernel
theorem dX7_init_45 : decode cX7_init 45 = .ok (.aload_n 0, 1) := by decide +kernel
theorem dX7_init_46 : decode cX7_init 46 = .ok (.sipush 1458, 3) := by decide +kernel
theorem dX7_init_49 : decode cX7_init 49 = .ok (.newarray .int, 2) := by decide +kernel
theorem dX7_init_51 : decode cX7_init 51 = .ok (.putfield 27, 3) := by decide +kernel
theorem dX7_init_54 : decode cX7_init 54 = .ok (.aload_n 0, 1) := by decide +kernel
theorem dX7_init_55 : decode cX7_init 55 = .ok (.getfield 27, 3) := by decide +kernel
theorem dX7_init_58 : decode cX7_init 58 = .ok (.iconst (-1), 1) := by decide +kernel
theorem dX7_init_59 : decode cX7_init 59 = .ok (.invokestatic 30, 3) := by decide +kernel
theorem dX7_init_62 : decode cX7_init 62 = .ok (.return_, 1) := by decide +kernel
theorem dX7_count_0 : decode cX7_count 0 = .ok (.aload_n 0, 1) := by decide +kernel
theorem dX7_count_1 : decode cX7_count 1 = .ok (.getfield 36, 3) := by decide +kernel
theorem dX7_count_4 : decode cX7_count 4 = .ok (.ireturn, 1) := by decide +kernel
theorem dX7_add_0 : decode cX7_add 0 = .ok (.aload_n 0, 1) := by decide +kernel
theorem dX7_add_1 : decode cX7_add 1 = .ok (.getfield 36, 3) := by decide +kernel
theorem dX7_add_4 : decode cX7_add 4 = .ok (.istore_n 3, 1) := by decide +kernel
theorem dX7_add_5 : decode cX7_add 5 = .ok (.aload_n 0, 1) := by decide +kernel
theorem dX7_add_6 : decode cX7_add 6 = .ok (.getfield 9, 3) := by decide +kernel
theorem dX7_add_9 : decode cX7_add 9 = .ok (.iload_n 3, 1) := by decide +kernel
theorem dX7_add_10 : decode cX7_add 10 = .ok (.iload_n 1, 1) := by decide +kernel
theorem dX7_add_11 : decode cX7_add 11 = .ok (.iastore, 1) := by decide +kernel
theorem dX7_add_12 : decode cX7_add 12 = .ok (.aload_n 0, 1) := by decide +kernel
theorem dX7_add_13 : decode cX7_add 13 = .ok (.getfield 18, 3) := by decide +kernel
theorem dX7_add_16 : decode cX7_add 16 = .ok (.iload_n 3, 1) := by decide +kernel
theorem dX7_add_17 : decode cX7_add 17 = .ok (.iload_n 2, 1) := by decide +kernel
theorem dX7_add_18 : decode cX7_add 18 = .ok (.iastore, 1) := by decide +kernel
theorem dX7_add_19 : decode cX7_add 19 = .ok (.aload_n 0, 1) := by decide +kernel
theorem dX7_add_20 : decode cX7_add 20 = .ok (.getfield 27, 3) := by decide +kernel
theorem dX7_add_23 : decode cX7_add 23 = .ok (.iload_n 1, 1) := by decide +kernel
theorem dX7_add_24 : decode cX7_add 24 = .ok (.iload_n 3, 1) := by decide +kernel
theorem dX7_add_25 : decode cX7_add 25 = .ok (.iastore, 1) := by decide +kernel
theorem dX7_add_26 : decode cX7_add 26 = .ok (.aload_n 0, 1) := by decide +kernel
theorem dX7_add_27 : decode cX7_add 27 = .ok (.iload_n 3, 1) := by decide +kernel
theorem dX7_add_28 : decode cX7_add 28 = .ok (.invokevirtual 40, 3) := by decide +kernel
theorem dX7_add_31 : decode cX7_add 31 = .ok (.iload_n 1, 1) := by decide +kernel
theorem dX7_add_32 : decode cX7_add 32 = .ok (.istore 4, 2) := by decide +kernel
theorem dX7_add_34 : decode cX7_add 34 = .ok (.iconst 2, 1) := by decide +kernel
theorem dX7_add_35 : decode cX7_add 35 = .ok (.istore 5, 2) := by decide +kernel
theorem dX7_add_37 : decode cX7_add 37 = .ok (.iload 5, 2) := by decide +kernel
theorem dX7_add_39 : decode cX7_add 39 = .ok (.ifCond .lt 43, 3) := by decide +kernel
theorem dX7_add_42 : decode cX7_add 42 = .ok (.aload_n 0, 1) := by decide +kernel
theorem dX7_add_43 : decode cX7_add 43 = .ok (.getfield 15, 3) := by decide +kernel
theorem dX7_add_46 : decode cX7_add 46 = .ok (.iload_n 3, 1) := by decide +kernel
theorem dX7_add_47 : decode cX7_add 47 = .ok (.iconst 3, 1) := by decide +kernel
theorem dX7_add_48 : decode cX7_add 48 = .ok (.imul, 1) := by decide +kernel
theorem dX7_add_49 : decode cX7_add 49 = .ok (.iload 5, 2) := by decide +kernel
theorem dX7_add_51 : decode cX7_add 51 = .ok (.iadd, 1) := by decide +kernel
theorem dX7_add_52 : decode cX7_add 52 = .ok (.iload 4, 2) := by decide +kernel
theorem dX7_add_54 : decode cX7_add 54 = .ok (.bipush 9, 2) := by decide +kernel
theorem dX7_add_56 : decode cX7_add 56 = .ok (.irem, 1) := by decide +kernel
theorem dX7_add_57 : decode cX7_add 57 = .ok (.iastore, 1) := by decide +kernel
theorem dX7_add_58 : decode cX7_add 58 = .ok (.aload_n 0, 1) := by decide +kernel
theorem dX7_add_59 : decode cX7_add 59 = .ok (.getfield 24, 3) := by decide +kernel
theorem dX7_add_62 : decode cX7_add 62 = .ok (.iload 4, 2) := by decide +kernel
theorem dX7_add_64 : decode cX7_add 64 = .ok (.dup2, 1) := by decide +kernel
theorem dX7_add_65 : decode cX7_add 65 = .ok (.iaload, 1) := by decide +kernel
theorem dX7_add_66 : decode cX7_add 66 = .ok (.iconst 1, 1) := by decide +kernel
theorem dX7_add_67 : decode cX7_add 67 = .ok (.iadd, 1) := by decide +kernel
theorem dX7_add_68 : decode cX7_add 68 = .ok (.iastore, 1) := by decide +kernel
theorem dX7_add_69 : decode cX7_add 69 = .ok (.iload 4, 2) := by decide +kernel
theorem dX7_add_71 : decode cX7_add 71 = .ok (.bipush 9, 2) := by decide +kernel
theorem dX7_add_73 : decode cX7_add 73 = .ok (.idiv, 1) := by decide +kernel
theorem dX7_add_74 : decode cX7_add 74 = .ok (.istore 4, 2) := by decide +kernel
theorem dX7_add_76 : decode cX7_add 76 = .ok (.iinc 5 (-1), 3) := by decide +kernel
theorem dX7_add_79 : decode cX7_add 79 = .ok (.goto (-42), 3) := by decide +kernel
theorem dX7_add_82 : decode cX7_add 82 = .ok (.aload_n 0, 1) := by decide +kernel
theorem dX7_add_83 : decode cX7_add 83 = .ok (.getfield 24, 3) := by decide +kernel
theorem dX7_add_86 : decode cX7_add 86 = .ok (.iconst 1, 1) := by decide +kernel
theorem dX7_add_87 : decode cX7_add 87 = .ok (.dup2, 1) := by decide +kernel
theorem dX7_add_88 : decode cX7_add 88 = .ok (.iaload, 1) := by decide +kernel
theorem dX7_add_89 : decode cX7_add 89 = .ok (.iconst 1, 1) := by decide +kernel
theorem dX7_add_90 : decode cX7_add 90 = .ok (.iadd, 1) := by decide +kernel
theorem dX7_add_91 : decode cX7_add 91 = .ok (.iastore, 1) := by decide +kernel
theorem dX7_add_92 : decode cX7_add 92 = .ok (.aload_n 0, 1) := by decide +kernel
theorem dX7_add_93 : decode cX7_add 93 = .ok (.dup, 1) := by decide +kernel
theorem dX7_add_94 : decode cX7_add 94 = .ok (.getfield 36, 3) := by decide +kernel
theorem dX7_add_97 : decode cX7_add 97 = .ok (.iconst 1, 1) := by decide +kernel
theorem dX7_add_98 : decode cX7_add 98 = .ok (.iadd, 1) := by decide +kernel
theorem dX7_add_99 : decode cX7_add 99 = .ok (.putfield 36, 3) := by decide +kernel
theorem dX7_add_102 : decode cX7_add 102 = .ok (.iload_n 3, 1) := by decide +kernel
theorem dX7_add_103 : decode cX7_add 103 = .ok (.ireturn, 1) := by decide +kernel
theorem dX7_putInOrder_0 : decode cX7_putInOrder 0 = .ok (.iload_n 1, 1) := by decide +kernel
theorem dX7_putInOrder_1 : decode cX7_putInOrder 1 = .ok (.istore_n 2, 1) := by decide +kernel
theorem dX7_putInOrder_2 : decode cX7_putInOrder 2 = .ok (.iload_n 2, 1) := by decide +kernel
theorem dX7_putInOrder_3 : decode cX7_putInOrder 3 = .ok (.ifCond .le 45, 3) := by decide +kernel
theorem dX7_putInOrder_6 : decode cX7_putInOrder 6 = .ok (.aload_n 0, 1) := by decide +kernel
theorem dX7_putInOrder_7 : decode cX7_putInOrder 7 = .ok (.getfield 9, 3) := by decide +kernel
theorem dX7_putInOrder_10 : decode cX7_putInOrder 10 = .ok (.aload_n 0, 1) := by decide +kernel
theorem dX7_putInOrder_11 : decode cX7_putInOrder 11 = .ok (.getfield 21, 3) := by decide +kernel
theorem dX7_putInOrder_14 : decode cX7_putInOrder 14 = .ok (.iload_n 2, 1) := by decide +kernel
theorem dX7_putInOrder_15 : decode cX7_putInOrder 15 = .ok (.iconst 1, 1) := by decide +kernel
theorem dX7_putInOrder_16 : decode cX7_putInOrder 16 = .ok (.isub, 1) := by decide +kernel
theorem dX7_putInOrder_17 : decode cX7_putInOrder 17 = .ok (.iaload, 1) := by decide +kernel
theorem dX7_putInOrder_18 : decode cX7_putInOrder 18 = .ok (.iaload, 1) := by decide +kernel
theorem dX7_putInOrder_19 : decode cX7_putInOrder 19 = .ok (.aload_n 0, 1) := by decide +kernel
theorem dX7_putInOrder_20 : decode cX7_putInOrder 20 = .ok (.getfield 9, 3) := by decide +kernel
theorem dX7_putInOrder_23 : decode cX7_putInOrder 23 = .ok (.iload_n 1, 1) := by decide +kernel
theorem dX7_putInOrder_24 : decode cX7_putInOrder 24 = .ok (.iaload, 1) := by decide +kernel
theorem dX7_putInOrder_25 : decode cX7_putInOrder 25 = .ok (.if_icmp .le 23, 3) := by decide +kernel
theorem dX7_putInOrder_28 : decode cX7_putInOrder 28 = .ok (.aload_n 0, 1) := by decide +kernel
theorem dX7_putInOrder_29 : decode cX7_putInOrder 29 = .ok (.getfield 21, 3) := by decide +kernel
theorem dX7_putInOrder_32 : decode cX7_putInOrder 32 = .ok (.iload_n 2, 1) := by decide +kernel
theorem dX7_putInOrder_33 : decode cX7_putInOrder 33 = .ok (.aload_n 0, 1) := by decide +kernel
theorem dX7_putInOrder_34 : decode cX7_putInOrder 34 = .ok (.getfield 21, 3) := by decide +kernel
theorem dX7_putInOrder_37 : decode cX7_putInOrder 37 = .ok (.iload_n 2, 1) := by decide +kernel
theorem dX7_putInOrder_38 : decode cX7_putInOrder 38 = .ok (.iconst 1, 1) := by decide +kernel
theorem dX7_putInOrder_39 : decode cX7_putInOrder 39 = .ok (.isub, 1) := by decide +kernel
theorem dX7_putInOrder_40 : decode cX7_putInOrder 40 = .ok (.iaload, 1) := by decide +kernel
theorem dX7_putInOrder_41 : decode cX7_putInOrder 41 = .ok (.iastore, 1) := by decide +kernel
theorem dX7_putInOrder_42 : decode cX7_putInOrder 42 = .ok (.iinc 2 (-1), 3) := by decide +kernel
theorem dX7_putInOrder_45 : decode cX7_putInOrder 45 = .ok (.goto (-43), 3) := by decide +kernel
theorem dX7_putInOrder_48 : decode cX7_putInOrder 48 = .ok (.aload_n 0, 1) := by decide +kernel
theorem dX7_putInOrder_49 : decode cX7_putInOrder 49 = .ok (.getfield 21, 3) := by decide +kernel
theorem dX7_putInOrder_52 : decode cX7_putInOrder 52 = .ok (.iload_n 2, 1) := by decide +kernel
theorem dX7_putInOrder_53 : decode cX7_putInOrder 53 = .ok (.iload_n 1, 1) := by decide +kernel
theorem dX7_putInOrder_54 : decode cX7_putInOrder 54 = .ok (.iastore, 1) := by decide +kernel
theorem dX7_putInOrder_55 : decode cX7_putInOrder 55 = .ok (.return_, 1) := by decide +kernel
theorem dX7_weight_0 : decode cX7_weight 0 = .ok (.aload_n 0, 1) := by decide +kernel
theorem dX7_weight_1 : decode cX7_weight 1 = .ok (.getfield 18, 3) := by decide +kernel
theorem dX7_weight_4 : decode cX7_weight 4 = .ok (.iload_n 1, 1) := by decide +kernel
theorem dX7_weight_5 : decode cX7_weight 5 = .ok (.iaload, 1) := by decide +kernel
theorem dX7_weight_6 : decode cX7_weight 6 = .ok (.ireturn, 1) := by decide +kernel
theorem dX7_weigh_0 : decode cX7_weigh 0 = .ok (.aload_n 0, 1) := by decide +kernel
theorem dX7_weigh_1 : decode cX7_weigh 1 = .ok (.getfield 18, 3) := by decide +kernel
theorem dX7_weigh_4 : decode cX7_weigh 4 = .ok (.iload_n 1, 1) := by decide +kernel
theorem dX7_weigh_5 : decode cX7_weigh 5 = .ok (.iload_n 2, 1) := by decide +kernel
theorem dX7_weigh_6 : decode cX7_weigh 6 = .ok (.iastore, 1) := by decide +kernel
theorem dX7_weigh_7 : decode cX7_weigh 7 = .ok (.return_, 1) := by decide +kernel
theorem dX7_inOrder_0 : decode cX7_inOrder 0 = .ok (.aload_n 0, 1) := by decide +kernel
theorem dX7_inOrder_1 : decode cX7_inOrder 1 = .ok (.getfield 21, 3) := by decide +kernel
theorem dX7_inOrder_4 : decode cX7_inOrder 4 = .ok (.iload_n 1, 1) := by decide +kernel
theorem dX7_inOrder_5 : decode cX7_inOrder 5 = .ok (.iaload, 1) := by decide +kernel
theorem dX7_inOrder_6 : decode cX7_inOrder 6 = .ok (.ireturn, 1) := by decide +kernel
theorem dX7_beginningWith_0 : decode cX7_beginningWith 0 = .ok (.aload_n 0, 1) := by decide +kernel
theorem dX7_beginningWith_1 : decode cX7_beginningWith 1 = .ok (.getfield 24, 3) := by decide +kernel
theorem dX7_beginningWith_4 : decode cX7_beginningWith 4 = .ok (.iload_n 1, 1) := by decide +kernel
theorem dX7_beginningWith_5 : decode cX7_beginningWith 5 = .ok (.iaload, 1) := by decide +kernel
theorem dX7_beginningWith_6 : decode cX7_beginningWith 6 = .ok (.ireturn, 1) := by decide +kernel
theorem dX7_wordOrNone_0 : decode cX7_wordOrNone 0 = .ok (.aload_n 0, 1) := by decide +kernel
theorem dX7_wordOrNone_1 : decode cX7_wordOrNone 1 = .ok (.getfield 27, 3) := by decide +kernel
theorem dX7_wordOrNone_4 : decode cX7_wordOrNone 4 = .ok (.iload_n 1, 1) := by decide +kernel
theorem dX7_wordOrNone_5 : decode cX7_wordOrNone 5 = .ok (.iaload, 1) := by decide +kernel
theorem dX7_wordOrNone_6 : decode cX7_wordOrNone 6 = .ok (.ireturn, 1) := by decide +kernel
theorem dX7_letter_0 : decode cX7_letter 0 = .ok (.aload_n 0, 1) := by decide +kernel
theorem dX7_letter_1 : decode cX7_letter 1 = .ok (.getfield 15, 3) := by decide +kernel
theorem dX7_letter_4 : decode cX7_letter 4 = .ok (.iload_n 1, 1) := by decide +kernel
theorem dX7_letter_5 : decode cX7_letter 5 = .ok (.iconst 3, 1) := by decide +kernel
theorem dX7_letter_6 : decode cX7_letter 6 = .ok (.imul, 1) := by decide +kernel
theorem dX7_letter_7 : decode cX7_letter 7 = .ok (.iload_n 2, 1) := by decide +kernel
theorem dX7_letter_8 : decode cX7_letter 8 = .ok (.iadd, 1) := by decide +kernel
theorem dX7_letter_9 : decode cX7_letter 9 = .ok (.iaload, 1) := by decide +kernel
theorem dX7_letter_10 : decode cX7_letter 10 = .ok (.ireturn, 1) := by decide +kernel
theorem dJ9_floorDiv_7cf53_0 : decode cJ9_floorDiv_7cf53 0 = .ok (.iload_n 0, 1) := by decide +kernel
theorem dJ9_floorDiv_7cf53_1 : decode cJ9_floorDiv_7cf53 1 = .ok (.iload_n 1, 1) := by decide +kernel
theorem dJ9_floorDiv_7cf53_2 : decode cJ9_floorDiv_7cf53 2 = .ok (.idiv, 1) := by decide +kernel
theorem dJ9_floorDiv_7cf53_3 : decode cJ9_floorDiv_7cf53 3 = .ok (.istore_n 2, 1) := by decide +kernel
theorem dJ9_floorDiv_7cf53_4 : decode cJ9_floorDiv_7cf53 4 = .ok (.iload_n 0, 1) := by decide +kernel
theorem dJ9_floorDiv_7cf53_5 : decode cJ9_floorDiv_7cf53 5 = .ok (.iload_n 1, 1) := by decide +kernel
theorem dJ9_floorDiv_7cf53_6 : decode cJ9_floorDiv_7cf53 6 = .ok (.ixor, 1) := by decide +kernel
theorem dJ9_floorDiv_7cf53_7 : decode cJ9_floorDiv_7cf53 7 = .ok (.ifCond .ge 14, 3) := by decide +kernel
theorem dJ9_floorDiv_7cf53_10 : decode cJ9_floorDiv_7cf53 10 = .ok (.iload_n 2, 1) := by decide +kernel
theorem dJ9_floorDiv_7cf53_11 : decode cJ9_floorDiv_7cf53 11 = .ok (.iload_n 1, 1) := by decide +kernel
theorem dJ9_floorDiv_7cf53_12 : decode cJ9_floorDiv_7cf53 12 = .ok (.imul, 1) := by decide +kernel
theorem dJ9_floorDiv_7cf53_13 : decode cJ9_floorDiv_7cf53 13 = .ok (.iload_n 0, 1) := by decide +kernel
theorem dJ9_floorDiv_7cf53_14 : decode cJ9_floorDiv_7cf53 14 = .ok (.if_icmp .eq 7, 3) := by decide +kernel
theorem dJ9_floorDiv_7cf53_17 : decode cJ9_floorDiv_7cf53 17 = .ok (.iload_n 2, 1) := by decide +kernel
theorem dJ9_floorDiv_7cf53_18 : decode cJ9_floorDiv_7cf53 18 = .ok (.iconst 1, 1) := by decide +kernel
theorem dJ9_floorDiv_7cf53_19 : decode cJ9_floorDiv_7cf53 19 = .ok (.isub, 1) := by decide +kernel
theorem dJ9_floorDiv_7cf53_20 : decode cJ9_floorDiv_7cf53 20 = .ok (.ireturn, 1) := by decide +kernel
theorem dJ9_floorDiv_7cf53_21 : decode cJ9_floorDiv_7cf53 21 = .ok (.iload_n 2, 1) := by decide +kernel
theorem dJ9_floorDiv_7cf53_22 : decode cJ9_floorDiv_7cf53 22 = .ok (.ireturn, 1) := by decide +kernel
theorem dJ9_max_7cf53_0 : decode cJ9_max_7cf53 0 = .ok (.iload_n 0, 1) := by decide +kernel
theorem dJ9_max_7cf53_1 : decode cJ9_max_7cf53 1 = .ok (.iload_n 1, 1) := by decide +kernel
theorem dJ9_max_7cf53_2 : decode cJ9_max_7cf53 2 = .ok (.if_icmp .lt 7, 3) := by decide +kernel
theorem dJ9_max_7cf53_5 : decode cJ9_max_7cf53 5 = .ok (.iload_n 0, 1) := by decide +kernel
theorem dJ9_max_7cf53_6 : decode cJ9_max_7cf53 6 = .ok (.goto 4, 3) := by decide +kernel
theorem dJ9_max_7cf53_9 : decode cJ9_max_7cf53 9 = .ok (.iload_n 1, 1) := by decide +kernel
theorem dJ9_max_7cf53_10 : decode cJ9_max_7cf53 10 = .ok (.ireturn, 1) := by decide +kernel
theorem dJ9_min_7cf53_0 : decode cJ9_min_7cf53 0 = .ok (.iload_n 0, 1) := by decide +kernel
theorem dJ9_min_7cf53_1 : decode cJ9_min_7cf53 1 = .ok (.iload_n 1, 1) := by decide +kernel
theorem dJ9_min_7cf53_2 : decode cJ9_min_7cf53 2 = .ok (.if_icmp .gt 7, 3) := by decide +kernel
theorem dJ9_min_7cf53_5 : decode cJ9_min_7cf53 5 = .ok (.iload_n 0, 1) := by decide +kernel
theorem dJ9_min_7cf53_6 : decode cJ9_min_7cf53 6 = .ok (.goto 4, 3) := by decide +kernel
theorem dJ9_min_7cf53_9 : decode cJ9_min_7cf53 9 = .ok (.iload_n 1, 1) := by decide +kernel
theorem dJ9_min_7cf53_10 : decode cJ9_min_7cf53 10 = .ok (.ireturn, 1) := by decide +kernel
theorem dJ7_fill_53178_0 : decode cJ7_fill_53178 0 = .ok (.iconst 0, 1) := by decide +kernel
theorem dJ7_fill_53178_1 : decode cJ7_fill_53178 1 = .ok (.istore_n 2, 1) := by decide +kernel
theorem dJ7_fill_53178_2 : decode cJ7_fill_53178 2 = .ok (.aload_n 0, 1) := by decide +kernel
theorem dJ7_fill_53178_3 : decode cJ7_fill_53178 3 = .ok (.arraylength, 1) := by decide +kernel
theorem dJ7_fill_53178_4 : decode cJ7_fill_53178 4 = .ok (.istore_n 3, 1) := by decide +kernel
theorem dJ7_fill_53178_5 : decode cJ7_fill_53178 5 = .ok (.iload_n 2, 1) := by decide +kernel
theorem dJ7_fill_53178_6 : decode cJ7_fill_53178 6 = .ok (.iload_n 3, 1) := by decide +kernel
theorem dJ7_fill_53178_7 : decode cJ7_fill_53178 7 = .ok (.if_icmp .ge 13, 3) := by decide +kernel
theorem dJ7_fill_53178_10 : decode cJ7_fill_53178 10 = .ok (.aload_n 0, 1) := by decide +kernel
theorem dJ7_fill_53178_11 : decode cJ7_fill_53178 11 = .ok (.iload_n 2, 1) := by decide +kernel
theorem dJ7_fill_53178_12 : decode cJ7_fill_53178 12 = .ok (.iload_n 1, 1) := by decide +kernel
theorem dJ7_fill_53178_13 : decode cJ7_fill_53178 13 = .ok (.iastore, 1) := by decide +kernel
theorem dJ7_fill_53178_14 : decode cJ7_fill_53178 14 = .ok (.iinc 2 1, 3) := by decide +kernel
theorem dJ7_fill_53178_17 : decode cJ7_fill_53178 17 = .ok (.goto (-12), 3) := by decide +kernel
theorem dJ7_fill_53178_20 : decode cJ7_fill_53178 20 = .ok (.return_, 1) := by decide +kernel
end
section
theorem dX8_init_0 : decode cX8_init 0 = .ok (.aload_n 0, 1) := by decide +kernel
theorem dX8_init_1 : decode cX8_init 1 = .ok (.invokespecial 1, 3) := by decide +kernel
theorem dX8_init_4 : decode cX8_init 4 = .ok (.aload_n 0, 1) := by decide +kernel
theorem dX8_init_5 : decode cX8_init 5 = .ok (.new 7, 3) := by decide +kernel
theorem dX8_init_8 : decode cX8_init 8 = .ok (.dup, 1) := by decide +kernel
theorem dX8_init_9 : decode cX8_init 9 = .ok (.invokespecial 9, 3) := by decide +kernel
theorem dX8_init_12 : decode cX8_init 12 = .ok (.putfield 10, 3) := by decide +kernel
theorem dX8_init_15 : decode cX8_init 15 = .ok (.aload_n 0, 1) := by decide +kernel
theorem dX8_init_16 : decode cX8_init 16 = .ok (.new 16, 3) := by decide +kernel
theorem dX8_init_19 : decode cX8_init 19 = .ok (.dup, 1) := by decide +kernel
theorem dX8_init_20 : decode cX8_init 20 = .ok (.invokespecial 18, 3) := by decide +kernel
theorem dX8_init_23 : decode cX8_init 23 = .ok (.putfield 19, 3) := by decide +kernel
theorem dX8_init_26 : decode cX8_init 26 = .ok (.aload_n 0, 1) := by decide +kernel
theorem dX8_init_27 : decode cX8_init 27 = .ok (.new 23, 3) := by decide +kernel
theorem dX8_init_30 : decode cX8_init 30 = .ok (.dup, 1) := by decide +kernel
theorem dX8_init_31 : decode cX8_init 31 = .ok (.invokespecial 25, 3) := by decide +kernel
theorem dX8_init_34 : decode cX8_init 34 = .ok (.putfield 26, 3) := by decide +kernel
theorem dX8_init_37 : decode cX8_init 37 = .ok (.aload_n 0, 1) := by decide +kernel
theorem dX8_init_38 : decode cX8_init 38 = .ok (.new 30, 3) := by decide +kernel
theorem dX8_init_41 : decode cX8_init 41 = .ok (.dup, 1) := by decide +kernel
theorem dX8_init_42 : decode cX8_init 42 = .ok (.invokespecial 32, 3) := by decide +kernel
theorem dX8_init_45 : decode cX8_init 45 = .ok (.putfield 33, 3) := by decide +kernel
theorem dX8_init_48 : decode cX8_init 48 = .ok (.aload_n 0, 1) := by decide +kernel
theorem dX8_init_49 : decode cX8_init 49 = .ok (.bipush 20, 2) := by decide +kernel
theorem dX8_init_51 : decode cX8_init 51 = .ok (.anewarray 37, 3) := by decide +kernel
theorem dX8_init_54 : decode cX8_init 54 = .ok (.putfield 39, 3) := by decide +kernel
theorem dX8_init_57 : decode cX8_init 57 = .ok (.aload_n 0, 1) := by decide +kernel
theorem dX8_init_58 : decode cX8_init 58 = .ok (.bipush 6, 2) := by decide +kernel
theorem dX8_init_60 : decode cX8_init 60 = .ok (.anewarray 43, 3) := by decide +kernel
theorem dX8_init_63 : decode cX8_init 63 = .ok (.putfield 45, 3) := by decide +kernel
theorem dX8_init_66 : decode cX8_init 66 = .ok (.aload_n 0, 1) := by decide +kernel
theorem dX8_init_67 : decode cX8_init 67 = .ok (.new 49, 3) := by decide +kernel
theorem dX8_init_70 : decode cX8_init 70 = .ok (.dup, 1) := by decide +kernel
theorem dX8_init_71 : decode cX8_init 71 = .ok (.invokespecial 51, 3) := by decide +kernel
theorem dX8_init_74 : decode cX8_init 74 = .ok (.putfield 52, 3) := by decide +kernel
theorem dX8_init_77 : decode cX8_init 77 = .ok (.aload_n 0, 1) := by decide +kernel
theorem dX8_init_78 : decode cX8_init 78 = .ok (.new 56, 3) := by decide +kernel
theorem dX8_init_81 : decode cX8_init 81 = .ok (.dup, 1) := by decide +kernel
theorem dX8_init_82 : decode cX8_init 82 = .ok (.invokespecial 58, 3) := by decide +kernel
theorem dX8_init_85 : decode cX8_init 85 = .ok (.putfield 59, 3) := by decide +kernel
theorem dX8_init_88 : decode cX8_init 88 = .ok (.aload_n 0, 1) := by decide +kernel
theorem dX8_init_89 : decode cX8_init 89 = .ok (.bipush 20, 2) := by decide +kernel
theorem dX8_init_91 : decode cX8_init 91 = .ok (.newarray .int, 2) := by decide +kernel
theorem dX8_init_93 : decode cX8_init 93 = .ok (.putfield 63, 3) := by decide +kernel
theorem dX8_init_96 : decode cX8_init 96 = .ok (.iconst 0, 1) := by decide +kernel
theorem dX8_init_97 : decode cX8_init 97 = .ok (.istore_n 1, 1) := by decide +kernel
theorem dX8_init_98 : decode cX8_init 98 = .ok (.iload_n 1, 1) := by decide +kernel
theorem dX8_init_99 : decode cX8_init 99 = .ok (.bipush 20, 2) := by decide +kernel
theorem dX8_init_101 : decode cX8_init 101 = .ok (.if_icmp .ge 22, 3) := by decide +kernel
theorem dX8_init_104 : decode cX8_init 104 = .ok (.aload_n 0, 1) := by decide +kernel
theorem dX8_init_105 : decode cX8_init 105 = .ok (.getfield 39, 3) := by decide +kernel
theorem dX8_init_108 : decode cX8_init 108 = .ok (.iload_n 1, 1) := by decide +kernel
theorem dX8_init_109 : decode cX8_init 109 = .ok (.new 37, 3) := by decide +kernel
theorem dX8_init_112 : decode cX8_init 112 = .ok (.dup, 1) := by decide +kernel
theorem dX8_init_113 : decode cX8_init 113 = .ok (.invokespecial 67, 3) := by decide +kernel
theorem dX8_init_116 : decode cX8_init 116 = .ok (.aastore, 1) := by decide +kernel
theorem dX8_init_117 : decode cX8_init 117 = .ok (.iinc 1 1, 3) := by decide +kernel
theorem dX8_init_120 : decode cX8_init 120 = .ok (.goto (-22), 3) := by decide +kernel
theorem dX8_init_123 : decode cX8_init 123 = .ok (.iconst 0, 1) := by decide +kernel
theorem dX8_init_124 : decode cX8_init 124 = .ok (.istore_n 1, 1) := by decide +kernel
theorem dX8_init_125 : decode cX8_init 125 = .ok (.iload_n 1, 1) := by decide +kernel
theorem dX8_init_126 : decode cX8_init 126 = .ok (.bipush 6, 2) := by decide +kernel
theorem dX8_init_128 : decode cX8_init 128 = .ok (.if_icmp .ge 22, 3) := by decide +kernel
theorem dX8_init_131 : decode cX8_init 131 = .ok (.aload_n 0, 1) := by decide +kernel
theorem dX8_init_132 : decode cX8_init 132 = .ok (.getfield 45, 3) := by decide +kernel
theorem dX8_init_135 : decode cX8_init 135 = .ok (.iload_n 1, 1) := by decide +kernel
theorem dX8_init_136 : decode cX8_init 136 = .ok (.new 43, 3) := by decide +kernel
theorem dX8_init_139 : decode cX8_init 139 = .ok (.dup, 1) := by decide +kernel
theorem dX8_init_140 : decode cX8_init 140 = .ok (.invokespecial 68, 3) := by decide +kernel
theorem dX8_init_143 : decode cX8_init 143 = .ok (.aastore, 1) := by decide +kernel
theorem dX8_init_144 : decode cX8_init 144 = .ok (.iinc 1 1, 3) := by decide +kernel
theorem dX8_init_147 : decode cX8_init 147 = .ok (.goto (-22), 3) := by decide +kernel
theorem dX8_init_150 : decode cX8_init 150 = .ok (.return_, 1) := by decide +kernel
theorem dX8_spell_0 : decode cX8_spell 0 = .ok (.iload_n 1, 1) := by decide +kernel
theorem dX8_spell_1 : decode cX8_spell 1 = .ok (.bipush 9, 2) := by decide +kernel
theorem dX8_spell_3 : decode cX8_spell 3 = .ok (.invokestatic 69, 3) := by decide +kernel
theorem dX8_spell_6 : decode cX8_spell 6 = .ok (.aload_n 0, 1) := by decide +kernel
theorem dX8_spell_7 : decode cX8_spell 7 = .ok (.invokevirtual 73, 3) := by decide +kernel
theorem dX8_spell_10 : decode cX8_spell 10 = .ok (.aload_n 0, 1) := by decide +kernel
theorem dX8_spell_11 : decode cX8_spell 11 = .ok (.getfield 10, 3) := by decide +kernel
theorem dX8_spell_14 : decode cX8_spell 14 = .ok (.iload_n 1, 1) := by decide +kernel
theorem dX8_spell_15 : decode cX8_spell 15 = .ok (.invokevirtual 76, 3) := by decide +kernel
theorem dX8_spell_18 : decode cX8_spell 18 = .ok (.aload_n 0, 1) := by decide +kernel
theorem dX8_spell_19 : decode cX8_spell 19 = .ok (.getfield 10, 3) := by decide +kernel
theorem dX8_spell_22 : decode cX8_spell 22 = .ok (.invokevirtual 80, 3) := by decide +kernel
theorem dX8_spell_25 : decode cX8_spell 25 = .ok (.ireturn, 1) := by decide +kernel
theorem dX8_insert_0 : decode cX8_insert 0 = .ok (.iload_n 1, 1) := by decide +kernel
theorem dX8_insert_1 : decode cX8_insert 1 = .ok (.bipush 9, 2) := by decide +kernel
theorem dX8_insert_3 : decode cX8_insert 3 = .ok (.invokestatic 69, 3) := by decide +kernel
theorem dX8_insert_6 : decode cX8_insert 6 = .ok (.aload_n 0, 1) := by decide +kernel
theorem dX8_insert_7 : decode cX8_insert 7 = .ok (.invokevirtual 73, 3) := by decide +kernel
theorem dX8_insert_10 : decode cX8_insert 10 = .ok (.aload_n 0, 1) := by decide +kernel
theorem dX8_insert_11 : decode cX8_insert 11 = .ok (.getfield 10, 3) := by decide +kernel
theorem dX8_insert_14 : decode cX8_insert 14 = .ok (.iload_n 1, 1) := by decide +kernel
theorem dX8_insert_15 : decode cX8_insert 15 = .ok (.invokevirtual 84, 3) := by decide +kernel
theorem dX8_insert_18 : decode cX8_insert 18 = .ok (.aload_n 0, 1) := by decide +kernel
theorem dX8_insert_19 : decode cX8_insert 19 = .ok (.getfield 10, 3) := by decide +kernel
theorem dX8_insert_22 : decode cX8_insert 22 = .ok (.invokevirtual 80, 3) := by decide +kernel
theorem dX8_insert_25 : decode cX8_insert 25 = .ok (.ireturn, 1) := by decide +kernel
theorem dX8_turn_0 : decode cX8_turn 0 = .ok (.aload_n 0, 1) := by decide +kernel
theorem dX8_turn_1 : decode cX8_turn 1 = .ok (.getfield 10, 3) := by decide +kernel
theorem dX8_turn_4 : decode cX8_turn 4 = .ok (.invokevirtual 87, 3) := by decide +kernel
theorem dX8_turn_7 : decode cX8_turn 7 = .ok (.aload_n 0, 1) := by decide +kernel
theorem dX8_turn_8 : decode cX8_turn 8 = .ok (.getfield 10, 3) := by decide +kernel
theorem dX8_turn_11 : decode cX8_turn 11 = .ok (.invokevirtual 90, 3) := by decide +kernel
theorem dX8_turn_14 : decode cX8_turn 14 = .ok (.ireturn, 1) := by decide +kernel
theorem dX8_clearSpelled_0 : decode cX8_clearSpelled 0 = .ok (.aload_n 0, 1) := by decide +kernel
theorem dX8_clearSpelled_1 : decode cX8_clearSpelled 1 = .ok (.getfield 10, 3) := by decide +kernel
theorem dX8_clearSpelled_4 : decode cX8_clearSpelled 4 = .ok (.invokevirtual 90, 3) := by decide +kernel
theorem dX8_clearSpelled_7 : decode cX8_clearSpelled 7 = .ok (.istore_n 1, 1) := by decide +kernel
theorem dX8_clearSpelled_8 : decode cX8_clearSpelled 8 = .ok (.aload_n 0, 1) := by decide +kernel
theorem dX8_clearSpelled_9 : decode cX8_clearSpelled 9 = .ok (.getfield 10, 3) := by decide +kernel
theorem dX8_clearSpelled_12 : decode cX8_clearSpelled 12 = .ok (.invokevirtual 93, 3) := by decide +kernel
theorem dX8_clearSpelled_15 : decode cX8_clearSpelled 15 = .ok (.iload_n 1, 1) := by decide +kernel
theorem dX8_clearSpelled_16 : decode cX8_clearSpelled 16 = .ok (.ireturn, 1) := by decide +kernel
theorem dX8_charAt_0 : decode cX8_charAt 0 = .ok (.aload_n 0, 1) := by decide +kernel
theorem dX8_charAt_1 : decode cX8_charAt 1 = .ok (.getfield 10, 3) := by decide +kernel
theorem dX8_charAt_4 : decode cX8_charAt 4 = .ok (.iload_n 1, 1) := by decide +kernel
theorem dX8_charAt_5 : decode cX8_charAt 5 = .ok (.invokevirtual 96, 3) := by decide +kernel
theorem dX8_charAt_8 : decode cX8_charAt 8 = .ok (.istore_n 2, 1) := by decide +kernel
theorem dX8_charAt_9 : decode cX8_charAt 9 = .ok (.iload_n 2, 1) := by decide +kernel
theorem dX8_charAt_10 : decode cX8_charAt 10 = .ok (.iconst (-1), 1) := by decide +kernel
theorem dX8_charAt_11 : decode cX8_charAt 11 = .ok (.if_icmp .ne 13, 3) := by decide +kernel
theorem dX8_charAt_14 : decode cX8_charAt 14 = .ok (.new 100, 3) := by decide +kernel
theorem dX8_charAt_17 : decode cX8_charAt 17 = .ok (.dup, 1) := by decide +kernel
theorem dX8_charAt_18 : decode cX8_charAt 18 = .ok (.ldc 102, 2) := by decide +kernel
theorem dX8_charAt_20 : decode cX8_charAt 20 = .ok (.invokespecial 104, 3) := by decide +kernel
theorem dX8_charAt_23 : decode cX8_charAt 23 = .ok (.athrow, 1) := by decide +kernel
theorem dX8_charAt_24 : decode cX8_charAt 24 = .ok (.iload_n 2, 1) := by decide +kernel
theorem dX8_charAt_25 : decode cX8_charAt 25 = .ok (.i2c, 1) := by decide +kernel
theorem dX8_charAt_26 : decode cX8_charAt 26 = .ok (.ireturn, 1) := by decide +kernel
theorem dX8_addWord_0 : decode cX8_addWord 0 = .ok (.iload_n 1, 1) := by decide +kernel
theorem dX8_addWord_1 : decode cX8_addWord 1 = .ok (.iconst 0, 1) := by decide +kernel
theorem dX8_addWord_2 : decode cX8_addWord 2 = .ok (.bipush 99, 2) := by decide +kernel
theorem dX8_addWord_4 : decode cX8_addWord 4 = .ok (.invokestatic 107, 3) := by decide +kernel
theorem dX8_addWord_7 : decode cX8_addWord 7 = .ok (.aload_n 0, 1) := by decide +kernel
theorem dX8_addWord_8 : decode cX8_addWord 8 = .ok (.getfield 10, 3) := by decide +kernel
theorem dX8_addWord_11 : decode cX8_addWord 11 = .ok (.invokevirtual 111, 3) := by decide +kernel
theorem dX8_addWord_14 : decode cX8_addWord 14 = .ok (.ifCond .eq 32, 3) := by decide +kernel
theorem dX8_addWord_17 : decode cX8_addWord 17 = .ok (.aload_n 0, 1) := by decide +kernel
theorem dX8_addWord_18 : decode cX8_addWord 18 = .ok (.getfield 19, 3) := by decide +kernel
theorem dX8_addWord_21 : decode cX8_addWord 21 = .ok (.aload_n 0, 1) := by decide +kernel
theorem dX8_addWord_22 : decode cX8_addWord 22 = .ok (.getfield 10, 3) := by decide +kernel
theorem dX8_addWord_25 : decode cX8_addWord 25 = .ok (.invokevirtual 115, 3) := by decide +kernel
theorem dX8_addWord_28 : decode cX8_addWord 28 = .ok (.invokevirtual 118, 3) := by decide +kernel
theorem dX8_addWord_31 : decode cX8_addWord 31 = .ok (.ifCond .gt 15, 3) := by decide +kernel
theorem dX8_addWord_34 : decode cX8_addWord 34 = .ok (.aload_n 0, 1) := by decide +kernel
theorem dX8_addWord_35 : decode cX8_addWord 35 = .ok (.getfield 19, 3) := by decide +kernel
theorem dX8_addWord_38 : decode cX8_addWord 38 = .ok (.invokevirtual 121, 3) := by decide +kernel
theorem dX8_addWord_41 : decode cX8_addWord 41 = .ok (.bipush 30, 2) := by decide +kernel
theorem dX8_addWord_43 : decode cX8_addWord 43 = .ok (.if_icmp .lt 13, 3) := by decide +kernel
theorem dX8_addWord_46 : decode cX8_addWord 46 = .ok (.new 124, 3) := by decide +kernel
theorem dX8_addWord_49 : decode cX8_addWord 49 = .ok (.dup, 1) := by decide +kernel
theorem dX8_addWord_50 : decode cX8_addWord 50 = .ok (.ldc 126, 2) := by decide +kernel
theorem dX8_addWord_52 : decode cX8_addWord 52 = .ok (.invokespecial 128, 3) := by decide +kernel
theorem dX8_addWord_55 : decode cX8_addWord 55 = .ok (.athrow, 1) := by decide +kernel
theorem dX8_addWord_56 : decode cX8_addWord 56 = .ok (.aload_n 0, 1) := by decide +kernel
theorem dX8_addWord_57 : decode cX8_addWord 57 = .ok (.getfield 19, 3) := by decide +kernel
theorem dX8_addWord_60 : decode cX8_addWord 60 = .ok (.aload_n 0, 1) := by decide +kernel
theorem dX8_addWord_61 : decode cX8_addWord 61 = .ok (.getfield 10, 3) := by decide +kernel
theorem dX8_addWord_64 : decode cX8_addWord 64 = .ok (.invokevirtual 115, 3) := by decide +kernel
theorem dX8_addWord_67 : decode cX8_addWord 67 = .ok (.iload_n 1, 1) := by decide +kernel
theorem dX8_addWord_68 : decode cX8_addWord 68 = .ok (.invokevirtual 129, 3) := by decide +kernel
theorem dX8_addWord_71 : decode cX8_addWord 71 = .ok (.ireturn, 1) := by decide +kernel
theorem dX8_setWeight_0 : decode cX8_setWeight 0 = .ok (.iload_n 1, 1) := by decide +kernel
theorem dX8_setWeight_1 : decode cX8_setWeight 1 = .ok (.aload_n 0, 1) := by decide +kernel
theorem dX8_setWeight_2 : decode cX8_setWeight 2 = .ok (.getfield 19, 3) := by decide +kernel
theorem dX8_setWeight_5 : decode cX8_setWeight 5 = .ok (.invokevirtual 121, 3) := by decide +kernel
theorem dX8_setWeight_8 : decode cX8_setWeight 8 = .ok (.invokestatic 69, 3) := by decide +kernel
theorem dX8_setWeight_11 : decode cX8_setWeight 11 = .ok (.iload_n 2, 1) := by decide +kernel
theorem dX8_setWeight_12 : decode cX8_setWeight 12 = .ok (.iconst 0, 1) := by decide +kernel
theorem dX8_setWeight_13 : decode cX8_setWeight 13 = .ok (.bipush 99, 2) := by decide +kernel
theorem dX8_setWeight_15 : decode cX8_setWeight 15 = .ok (.invokestatic 107, 3) := by decide +kernel
theorem dX8_setWeight_18 : decode cX8_setWeight 18 = .ok (.aload_n 0, 1) := by decide +kernel
theorem dX8_setWeight_19 : decode cX8_setWeight 19 = .ok (.getfield 19, 3) := by decide +kernel
theorem dX8_setWeight_22 : decode cX8_setWeight 22 = .ok (.iload_n 1, 1) := by decide +kernel
theorem dX8_setWeight_23 : decode cX8_setWeight 23 = .ok (.invokevirtual 133, 3) := by decide +kernel
theorem dX8_setWeight_26 : decode cX8_setWeight 26 = .ok (.istore_n 3, 1) := by decide +kernel
theorem dX8_setWeight_27 : decode cX8_setWeight 27 = .ok (.aload_n 0, 1) := by decide +kernel
theorem dX8_setWeight_28 : decode cX8_setWeight 28 = .ok (.getfield 19, 3) := by decide +kernel
theorem dX8_setWeight_31 : decode cX8_setWeight 31 = .ok (.iload_n 1, 1) := by decide +kernel
theorem dX8_setWeight_32 : decode cX8_setWeight 32 = .ok (.iload_n 2, 1) := by decide +kernel
theorem dX8_setWeight_33 : decode cX8_setWeight 33 = .ok (.invokevirtual 136, 3) := by decide +kernel
theorem dX8_setWeight_36 : decode cX8_setWeight 36 = .ok (.iload_n 3, 1) := by decide +kernel
theorem dX8_setWeight_37 : decode cX8_setWeight 37 = .ok (.ireturn, 1) := by decide +kernel
theorem dX8_wordAt_0 : decode cX8_wordAt 0 = .ok (.iload_n 1, 1) := by decide +kernel
theorem dX8_wordAt_1 : decode cX8_wordAt 1 = .ok (.aload_n 0, 1) := by decide +kernel
theorem dX8_wordAt_2 : decode cX8_wordAt 2 = .ok (.getfield 19, 3) := by decide +kernel
theorem dX8_wordAt_5 : decode cX8_wordAt 5 = .ok (.invokevirtual 121, 3) := by decide +kernel
theorem dX8_wordAt_8 : decode cX8_wordAt 8 = .ok (.invokestatic 139, 3) := by decide +kernel
theorem dX8_wordAt_11 : decode cX8_wordAt 11 = .ok (.ifCond .eq 14, 3) := by decide +kernel
theorem dX8_wordAt_14 : decode cX8_wordAt 14 = .ok (.aload_n 0, 1) := by decide +kernel
theorem dX8_wordAt_15 : decode cX8_wordAt 15 = .ok (.getfield 19, 3) := by decide +kernel
theorem dX8_wordAt_18 : decode cX8_wordAt 18 = .ok (.iload_n 1, 1) := by decide +kernel
theorem dX8_wordAt_19 : decode cX8_wordAt 19 = .ok (.invokevirtual 143, 3) := by decide +kernel
theorem dX8_wordAt_22 : decode cX8_wordAt 22 = .ok (.goto 4, 3) := by decide +kernel
theorem dX8_wordAt_25 : decode cX8_wordAt 25 = .ok (.iconst (-1), 1) := by decide +kernel
theorem dX8_wordAt_26 : decode cX8_wordAt 26 = .ok (.ireturn, 1) := by decide +kernel
theorem dX8_beginning_0 : decode cX8_beginning 0 = .ok (.aload_n 0, 1) := by decide +kernel
theorem dX8_beginning_1 : decode cX8_beginning 1 = .ok (.getfield 19, 3) := by decide +kernel
theorem dX8_beginning_4 : decode cX8_beginning 4 = .ok (.aload_n 0, 1) := by decide +kernel
theorem dX8_beginning_5 : decode cX8_beginning 5 = .ok (.getfield 10, 3) := by decide +kernel
theorem dX8_beginning_8 : decode cX8_beginning 8 = .ok (.invokevirtual 115, 3) := by decide +kernel
theorem dX8_beginning_11 : decode cX8_beginning 11 = .ok (.invokevirtual 118, 3) := by decide +kernel
theorem dX8_beginning_14 : decode cX8_beginning 14 = .ok (.ireturn, 1) := by decide +kernel
theorem dX8_fix_0 : decode cX8_fix 0 = .ok (.iload_n 1, 1) := by decide +kernel
theorem dX8_fix_1 : decode cX8_fix 1 = .ok (.bipush 9, 2) := by decide +kernel
theorem dX8_fix_3 : decode cX8_fix 3 = .ok (.invokestatic 69, 3) := by decide +kernel
theorem dX8_fix_6 : decode cX8_fix 6 = .ok (.iload_n 2, 1) := by decide +kernel
theorem dX8_fix_7 : decode cX8_fix 7 = .ok (.iconst (-1), 1) := by decide +kernel
theorem dX8_fix_8 : decode cX8_fix 8 = .ok (.if_icmp .eq 9, 3) := by decide +kernel
theorem dX8_fix_11 : decode cX8_fix 11 = .ok (.iload_n 2, 1) := by decide +kernel
theorem dX8_fix_12 : decode cX8_fix 12 = .ok (.bipush 9, 2) := by decide +kernel
theorem dX8_fix_14 : decode cX8_fix 14 = .ok (.invokestatic 69, 3) := by decide +kernel
theorem dX8_fix_17 : decode cX8_fix 17 = .ok (.aload_n 0, 1) := by decide +kernel
theorem dX8_fix_18 : decode cX8_fix 18 = .ok (.getfield 26, 3) := by decide +kernel
theorem dX8_fix_21 : decode cX8_fix 21 = .ok (.iload_n 1, 1) := by decide +kernel
theorem dX8_fix_22 : decode cX8_fix 22 = .ok (.invokevirtual 146, 3) := by decide +kernel
theorem dX8_fix_25 : decode cX8_fix 25 = .ok (.istore_n 3, 1) := by decide +kernel
theorem dX8_fix_26 : decode cX8_fix 26 = .ok (.aload_n 0, 1) := by decide +kernel
theorem dX8_fix_27 : decode cX8_fix 27 = .ok (.getfield 26, 3) := by decide +kernel
theorem dX8_fix_30 : decode cX8_fix 30 = .ok (.iload_n 1, 1) := by decide +kernel
theorem dX8_fix_31 : decode cX8_fix 31 = .ok (.iload_n 2, 1) := by decide +kernel
theorem dX8_fix_32 : decode cX8_fix 32 = .ok (.invokevirtual 149, 3) := by decide +kernel
theorem dX8_fix_35 : decode cX8_fix 35 = .ok (.iload_n 3, 1) := by decide +kernel
theorem dX8_fix_36 : decode cX8_fix 36 = .ok (.ireturn, 1) := by decide +kernel
theorem dX8_fillWeight_0 : decode cX8_fillWeight 0 = .ok (.aload_n 0, 1) := by decide +kernel
theorem dX8_fillWeight_1 : decode cX8_fillWeight 1 = .ok (.getfield 26, 3) := by decide +kernel
theorem dX8_fillWeight_4 : decode cX8_fillWeight 4 = .ok (.aload_n 0, 1) := by decide +kernel
theorem dX8_fillWeight_5 : decode cX8_fillWeight 5 = .ok (.getfield 19, 3) := by decide +kernel
theorem dX8_fillWeight_8 : decode cX8_fillWeight 8 = .ok (.invokevirtual 152, 3) := by decide +kernel
theorem dX8_fillWeight_11 : decode cX8_fillWeight 11 = .ok (.aload_n 0, 1) := by decide +kernel
theorem dX8_fillWeight_12 : decode cX8_fillWeight 12 = .ok (.getfield 26, 3) := by decide +kernel
theorem dX8_fillWeight_15 : decode cX8_fillWeight 15 = .ok (.invokevirtual 156, 3) := by decide +kernel
theorem dX8_fillWeight_18 : decode cX8_fillWeight 18 = .ok (.ireturn, 1) := by decide +kernel
theorem dX8_fillWeightByAll_0 : decode cX8_fillWeightByAll 0 = .ok (.aload_n 0, 1) := by decide +kernel
theorem dX8_fillWeightByAll_1 : decode cX8_fillWeightByAll 1 = .ok (.getfield 26, 3) := by decide +kernel
theorem dX8_fillWeightByAll_4 : decode cX8_fillWeightByAll 4 = .ok (.aload_n 0, 1) := by decide +kernel
theorem dX8_fillWeightByAll_5 : decode cX8_fillWeightByAll 5 = .ok (.getfield 19, 3) := by decide +kernel
theorem dX8_fillWeightByAll_8 : decode cX8_fillWeightByAll 8 = .ok (.invokevirtual 159, 3) := by decide +kernel
theorem dX8_fillWeightByAll_11 : decode cX8_fillWeightByAll 11 = .ok (.ireturn, 1) := by decide +kernel
theorem dX8_fills_0 : decode cX8_fills 0 = .ok (.aload_n 0, 1) := by decide +kernel
theorem dX8_fills_1 : decode cX8_fills 1 = .ok (.getfield 26, 3) := by decide +kernel
theorem dX8_fills_4 : decode cX8_fills 4 = .ok (.aload_n 0, 1) := by decide +kernel
theorem dX8_fills_5 : decode cX8_fills 5 = .ok (.getfield 19, 3) := by decide +kernel
theorem dX8_fills_8 : decode cX8_fills 8 = .ok (.invokevirtual 152, 3) := by decide +kernel
theorem dX8_fills_11 : decode cX8_fills 11 = .ok (.aload_n 0, 1) := by decide +kernel
theorem dX8_fills_12 : decode cX8_fills 12 = .ok (.getfield 26, 3) := by decide +kernel
theorem dX8_fills_15 : decode cX8_fills 15 = .ok (.invokevirtual 163, 3) := by decide +kernel
theorem dX8_fills_18 : decode cX8_fills 18 = .ok (.ireturn, 1) := by decide +kernel
theorem dX8_fillAt_0 : decode cX8_fillAt 0 = .ok (.iload_n 1, 1) := by decide +kernel
theorem dX8_fillAt_1 : decode cX8_fillAt 1 = .ok (.bipush 9, 2) := by decide +kernel
theorem dX8_fillAt_3 : decode cX8_fillAt 3 = .ok (.invokestatic 69, 3) := by decide +kernel
theorem dX8_fillAt_6 : decode cX8_fillAt 6 = .ok (.aload_n 0, 1) := by decide +kernel
theorem dX8_fillAt_7 : decode cX8_fillAt 7 = .ok (.getfield 26, 3) := by decide +kernel
theorem dX8_fillAt_10 : decode cX8_fillAt 10 = .ok (.aload_n 0, 1) := by decide +kernel
theorem dX8_fillAt_11 : decode cX8_fillAt 11 = .ok (.getfield 19, 3) := by decide +kernel
theorem dX8_fillAt_14 : decode cX8_fillAt 14 = .ok (.invokevirtual 152, 3) := by decide +kernel
theorem dX8_fillAt_17 : decode cX8_fillAt 17 = .ok (.aload_n 0, 1) := by decide +kernel
theorem dX8_fillAt_18 : decode cX8_fillAt 18 = .ok (.getfield 26, 3) := by decide +kernel
theorem dX8_fillAt_21 : decode cX8_fillAt 21 = .ok (.invokevirtual 156, 3) := by decide +kernel
theorem dX8_fillAt_24 : decode cX8_fillAt 24 = .ok (.iconst (-1), 1) := by decide +kernel
theorem dX8_fillAt_25 : decode cX8_fillAt 25 = .ok (.if_icmp .ne 13, 3) := by decide +kernel
theorem dX8_fillAt_28 : decode cX8_fillAt 28 = .ok (.new 100, 3) := by decide +kernel
theorem dX8_fillAt_31 : decode cX8_fillAt 31 = .ok (.dup, 1) := by decide +kernel
theorem dX8_fillAt_32 : decode cX8_fillAt 32 = .ok (.ldc 166, 2) := by decide +kernel
theorem dX8_fillAt_34 : decode cX8_fillAt 34 = .ok (.invokespecial 104, 3) := by decide +kernel
theorem dX8_fillAt_37 : decode cX8_fillAt 37 = .ok (.athrow, 1) := by decide +kernel
theorem dX8_fillAt_38 : decode cX8_fillAt 38 = .ok (.aload_n 0, 1) := by decide +kernel
theorem dX8_fillAt_39 : decode cX8_fillAt 39 = .ok (.getfield 26, 3) := by decide +kernel
theorem dX8_fillAt_42 : decode cX8_fillAt 42 = .ok (.aload_n 0, 1) := by decide +kernel
theorem dX8_fillAt_43 : decode cX8_fillAt 43 = .ok (.getfield 19, 3) := by decide +kernel
theorem dX8_fillAt_46 : decode cX8_fillAt 46 = .ok (.iload_n 1, 1) := by decide +kernel
theorem dX8_fillAt_47 : decode cX8_fillAt 47 = .ok (.invokevirtual 168, 3) := by decide +kernel
theorem dX8_fillAt_50 : decode cX8_fillAt 50 = .ok (.ireturn, 1) := by decide +kernel
theorem dX8_clue_0 : decode cX8_clue 0 = .ok (.iload_n 1, 1) := by decide +kernel
theorem dX8_clue_1 : decode cX8_clue 1 = .ok (.aload_n 0, 1) := by decide +kernel
theorem dX8_clue_2 : decode cX8_clue 2 = .ok (.getfield 19, 3) := by decide +kernel
theorem dX8_clue_5 : decode cX8_clue 5 = .ok (.invokevirtual 121, 3) := by decide +kernel
theorem dX8_clue_8 : decode cX8_clue 8 = .ok (.invokestatic 69, 3) := by decide +kernel
theorem dX8_clue_11 : decode cX8_clue 11 = .ok (.aload_n 0, 1) := by decide +kernel
theorem dX8_clue_12 : decode cX8_clue 12 = .ok (.getfield 33, 3) := by decide +kernel
theorem dX8_clue_15 : decode cX8_clue 15 = .ok (.invokevirtual 172, 3) := by decide +kernel
theorem dX8_clue_18 : decode cX8_clue 18 = .ok (.bipush 60, 2) := by decide +kernel
theorem dX8_clue_20 : decode cX8_clue 20 = .ok (.if_icmp .lt 13, 3) := by decide +kernel
theorem dX8_clue_23 : decode cX8_clue 23 = .ok (.new 124, 3) := by decide +kernel
theorem dX8_clue_26 : decode cX8_clue 26 = .ok (.dup, 1) := by decide +kernel
theorem dX8_clue_27 : decode cX8_clue 27 = .ok (.ldc 173, 2) := by decide +kernel
theorem dX8_clue_29 : decode cX8_clue 29 = .ok (.invokespecial 128, 3) := by decide +kernel
theorem dX8_clue_32 : decode cX8_clue 32 = .ok (.athrow, 1) := by decide +kernel
theorem dX8_clue_33 : decode cX8_clue 33 = .ok (.aload_n 0, 1) := by decide +kernel
theorem dX8_clue_34 : decode cX8_clue 34 = .ok (.getfield 33, 3) := by decide +kernel
theorem dX8_clue_37 : decode cX8_clue 37 = .ok (.iload_n 1, 1) := by decide +kernel
theorem dX8_clue_38 : decode cX8_clue 38 = .ok (.invokevirtual 175, 3) := by decide +kernel
theorem dX8_clue_41 : decode cX8_clue 41 = .ok (.ireturn, 1) := by decide +kernel
theorem dX8_edit_0 : decode cX8_edit 0 = .ok (.iload_n 1, 1) := by decide +kernel
theorem dX8_edit_1 : decode cX8_edit 1 = .ok (.aload_n 0, 1) := by decide +kernel
theorem dX8_edit_2 : decode cX8_edit 2 = .ok (.getfield 33, 3) := by decide +kernel
theorem dX8_edit_5 : decode cX8_edit 5 = .ok (.invokevirtual 172, 3) := by decide +kernel
theorem dX8_edit_8 : decode cX8_edit 8 = .ok (.invokestatic 69, 3) := by decide +kernel
theorem dX8_edit_11 : decode cX8_edit 11 = .ok (.aload_n 0, 1) := by decide +kernel
theorem dX8_edit_12 : decode cX8_edit 12 = .ok (.getfield 33, 3) := by decide +kernel
theorem dX8_edit_15 : decode cX8_edit 15 = .ok (.iload_n 1, 1) := by decide +kernel
theorem dX8_edit_16 : decode cX8_edit 16 = .ok (.invokevirtual 177, 3) := by decide +kernel
theorem dX8_edit_19 : decode cX8_edit 19 = .ok (.ifCond .eq 13, 3) := by decide +kernel
theorem dX8_edit_22 : decode cX8_edit 22 = .ok (.new 124, 3) := by decide +kernel
theorem dX8_edit_25 : decode cX8_edit 25 = .ok (.dup, 1) := by decide +kernel
theorem dX8_edit_26 : decode cX8_edit 26 = .ok (.ldc 181, 2) := by decide +kernel
theorem dX8_edit_28 : decode cX8_edit 28 = .ok (.invokespecial 128, 3) := by decide +kernel
theorem dX8_edit_31 : decode cX8_edit 31 = .ok (.athrow, 1) := by decide +kernel
theorem dX8_edit_32 : decode cX8_edit 32 = .ok (.aload_n 0, 1) := by decide +kernel
theorem dX8_edit_33 : decode cX8_edit 33 = .ok (.getfield 33, 3) := by decide +kernel
theorem dX8_edit_36 : decode cX8_edit 36 = .ok (.iload_n 1, 1) := by decide +kernel
theorem dX8_edit_37 : decode cX8_edit 37 = .ok (.iload_n 2, 1) := by decide +kernel
theorem dX8_edit_38 : decode cX8_edit 38 = .ok (.invokevirtual 183, 3) := by decide +kernel
theorem dX8_edit_41 : decode cX8_edit 41 = .ok (.ireturn, 1) := by decide +kernel
theorem dX8_lastUsed_0 : decode cX8_lastUsed 0 = .ok (.iload_n 1, 1) := by decide +kernel
theorem dX8_lastUsed_1 : decode cX8_lastUsed 1 = .ok (.aload_n 0, 1) := by decide +kernel
theorem dX8_lastUsed_2 : decode cX8_lastUsed 2 = .ok (.getfield 33, 3) := by decide +kernel
theorem dX8_lastUsed_5 : decode cX8_lastUsed 5 = .ok (.invokevirtual 172, 3) := by decide +kernel
theorem dX8_lastUsed_8 : decode cX8_lastUsed 8 = .ok (.invokestatic 69, 3) := by decide +kernel
theorem dX8_lastUsed_11 : decode cX8_lastUsed 11 = .ok (.aload_n 0, 1) := by decide +kernel
theorem dX8_lastUsed_12 : decode cX8_lastUsed 12 = .ok (.getfield 33, 3) := by decide +kernel
theorem dX8_lastUsed_15 : decode cX8_lastUsed 15 = .ok (.iload_n 1, 1) := by decide +kernel
theorem dX8_lastUsed_16 : decode cX8_lastUsed 16 = .ok (.invokevirtual 187, 3) := by decide +kernel
theorem dX8_lastUsed_19 : decode cX8_lastUsed 19 = .ok (.ireturn, 1) := by decide +kernel
theorem dX8_pass_0 : decode cX8_pass 0 = .ok (.iload_n 1, 1) := by decide +kernel
theorem dX8_pass_1 : decode cX8_pass 1 = .ok (.iconst 1, 1) := by decide +kernel
theorem dX8_pass_2 : decode cX8_pass 2 = .ok (.sipush 2000, 3) := by decide +kernel
theorem dX8_pass_5 : decode cX8_pass 5 = .ok (.invokestatic 107, 3) := by decide +kernel
theorem dX8_pass_8 : decode cX8_pass 8 = .ok (.aload_n 0, 1) := by decide +kernel
theorem dX8_pass_9 : decode cX8_pass 9 = .ok (.getfield 190, 3) := by decide +kernel
theorem dX8_pass_12 : decode cX8_pass 12 = .ok (.iload_n 1, 1) := by decide +kernel
theorem dX8_pass_13 : decode cX8_pass 13 = .ok (.iadd, 1) := by decide +kernel
theorem dX8_pass_14 : decode cX8_pass 14 = .ok (.sipush 30000, 3) := by decide +kernel
theorem dX8_pass_17 : decode cX8_pass 17 = .ok (.if_icmp .le 13, 3) := by decide +kernel
theorem dX8_pass_20 : decode cX8_pass 20 = .ok (.new 124, 3) := by decide +kernel
theorem dX8_pass_23 : decode cX8_pass 23 = .ok (.dup, 1) := by decide +kernel
theorem dX8_pass_24 : decode cX8_pass 24 = .ok (.ldc 194, 2) := by decide +kernel
theorem dX8_pass_26 : decode cX8_pass 26 = .ok (.invokespecial 128, 3) := by decide +kernel
theorem dX8_pass_29 : decode cX8_pass 29 = .ok (.athrow, 1) := by decide +kernel
theorem dX8_pass_30 : decode cX8_pass 30 = .ok (.aload_n 0, 1) := by decide +kernel
theorem dX8_pass_31 : decode cX8_pass 31 = .ok (.dup, 1) := by decide +kernel
theorem dX8_pass_32 : decode cX8_pass 32 = .ok (.getfield 190, 3) := by decide +kernel
theorem dX8_pass_35 : decode cX8_pass 35 = .ok (.iload_n 1, 1) := by decide +kernel
theorem dX8_pass_36 : decode cX8_pass 36 = .ok (.iadd, 1) := by decide +kernel
theorem dX8_pass_37 : decode cX8_pass 37 = .ok (.putfield 190, 3) := by decide +kernel
theorem dX8_pass_40 : decode cX8_pass 40 = .ok (.aload_n 0, 1) := by decide +kernel
theorem dX8_pass_41 : decode cX8_pass 41 = .ok (.getfield 190, 3) := by decide +kernel
theorem dX8_pass_44 : decode cX8_pass 44 = .ok (.ireturn, 1) := by decide +kernel
theorem dX8_now_0 : decode cX8_now 0 = .ok (.aload_n 0, 1) := by decide +kernel
theorem dX8_now_1 : decode cX8_now 1 = .ok (.getfield 190, 3) := by decide +kernel
theorem dX8_now_4 : decode cX8_now 4 = .ok (.ireturn, 1) := by decide +kernel
theorem dX8_publish_0 : decode cX8_publish 0 = .ok (.aload_n 0, 1) := by decide +kernel
theorem dX8_publish_1 : decode cX8_publish 1 = .ok (.invokevirtual 196, 3) := by decide +kernel
theorem dX8_publish_4 : decode cX8_publish 4 = .ok (.ifCond .eq 10, 3) := by decide +kernel
theorem dX8_publish_7 : decode cX8_publish 7 = .ok (.aload_n 0, 1) := by decide +kernel
theorem dX8_publish_8 : decode cX8_publish 8 = .ok (.invokevirtual 199, 3) := by decide +kernel
theorem dX8_publish_11 : decode cX8_publish 11 = .ok (.ifCond .ne 13, 3) := by decide +kernel
theorem dX8_publish_14 : decode cX8_publish 14 = .ok (.new 124, 3) := by decide +kernel
theorem dX8_publish_17 : decode cX8_publish 17 = .ok (.dup, 1) := by decide +kernel
theorem dX8_publish_18 : decode cX8_publish 18 = .ok (.ldc 202, 2) := by decide +kernel
theorem dX8_publish_20 : decode cX8_publish 20 = .ok (.invokespecial 128, 3) := by decide +kernel
theorem dX8_publish_23 : decode cX8_publish 23 = .ok (.athrow, 1) := by decide +kernel
theorem dX8_publish_24 : decode cX8_publish 24 = .ok (.aload_n 0, 1) := by decide +kernel
theorem dX8_publish_25 : decode cX8_publish 25 = .ok (.getfield 39, 3) := by decide +kernel
theorem dX8_publish_28 : decode cX8_publish 28 = .ok (.aload_n 0, 1) := by decide +kernel
theorem dX8_publish_29 : decode cX8_publish 29 = .ok (.getfield 204, 3) := by decide +kernel
theorem dX8_publish_32 : decode cX8_publish 32 = .ok (.aaload, 1) := by decide +kernel
theorem dX8_publish_33 : decode cX8_publish 33 = .ok (.astore_n 1, 1) := by decide +kernel
theorem dX8_publish_34 : decode cX8_publish 34 = .ok (.aload_n 1, 1) := by decide +kernel
theorem dX8_publish_35 : decode cX8_publish 35 = .ok (.aload_n 0, 1) := by decide +kernel
theorem dX8_publish_36 : decode cX8_publish 36 = .ok (.getfield 190, 3) := by decide +kernel
theorem dX8_publish_39 : decode cX8_publish 39 = .ok (.invokevirtual 207, 3) := by decide +kernel
theorem dX8_publish_42 : decode cX8_publish 42 = .ok (.iconst 0, 1) := by decide +kernel
theorem dX8_publish_43 : decode cX8_publish 43 = .ok (.istore_n 2, 1) := by decide +kernel
theorem dX8_publish_44 : decode cX8_publish 44 = .ok (.iload_n 2, 1) := by decide +kernel
theorem dX8_publish_45 : decode cX8_publish 45 = .ok (.bipush 9, 2) := by decide +kernel
theorem dX8_publish_47 : decode cX8_publish 47 = .ok (.if_icmp .ge 26, 3) := by decide +kernel
theorem dX8_publish_50 : decode cX8_publish 50 = .ok (.aload_n 1, 1) := by decide +kernel
theorem dX8_publish_51 : decode cX8_publish 51 = .ok (.iload_n 2, 1) := by decide +kernel
theorem dX8_publish_52 : decode cX8_publish 52 = .ok (.aload_n 0, 1) := by decide +kernel
theorem dX8_publish_53 : decode cX8_publish 53 = .ok (.getfield 26, 3) := by decide +kernel
theorem dX8_publish_56 : decode cX8_publish 56 = .ok (.aload_n 0, 1) := by decide +kernel
theorem dX8_publish_57 : decode cX8_publish 57 = .ok (.getfield 19, 3) := by decide +kernel
theorem dX8_publish_60 : decode cX8_publish 60 = .ok (.iload_n 2, 1) := by decide +kernel
theorem dX8_publish_61 : decode cX8_publish 61 = .ok (.invokevirtual 168, 3) := by decide +kernel
theorem dX8_publish_64 : decode cX8_publish 64 = .ok (.invokevirtual 210, 3) := by decide +kernel
theorem dX8_publish_67 : decode cX8_publish 67 = .ok (.iinc 2 1, 3) := by decide +kernel
theorem dX8_publish_70 : decode cX8_publish 70 = .ok (.goto (-26), 3) := by decide +kernel
theorem dX8_publish_73 : decode cX8_publish 73 = .ok (.iconst 0, 1) := by decide +kernel
theorem dX8_publish_74 : decode cX8_publish 74 = .ok (.istore_n 2, 1) := by decide +kernel
theorem dX8_publish_75 : decode cX8_publish 75 = .ok (.iload_n 2, 1) := by decide +kernel
theorem dX8_publish_76 : decode cX8_publish 76 = .ok (.bipush 6, 2) := by decide +kernel
theorem dX8_publish_78 : decode cX8_publish 78 = .ok (.if_icmp .ge 22, 3) := by decide +kernel
theorem dX8_publish_81 : decode cX8_publish 81 = .ok (.aload_n 1, 1) := by decide +kernel
theorem dX8_publish_82 : decode cX8_publish 82 = .ok (.iload_n 2, 1) := by decide +kernel
theorem dX8_publish_83 : decode cX8_publish 83 = .ok (.aload_n 0, 1) := by decide +kernel
theorem dX8_publish_84 : decode cX8_publish 84 = .ok (.getfield 33, 3) := by decide +kernel
theorem dX8_publish_87 : decode cX8_publish 87 = .ok (.iload_n 2, 1) := by decide +kernel
theorem dX8_publish_88 : decode cX8_publish 88 = .ok (.invokevirtual 213, 3) := by decide +kernel
theorem dX8_publish_91 : decode cX8_publish 91 = .ok (.invokevirtual 216, 3) := by decide +kernel
theorem dX8_publish_94 : decode cX8_publish 94 = .ok (.iinc 2 1, 3) := by decide +kernel
theorem dX8_publish_97 : decode cX8_publish 97 = .ok (.goto (-22), 3) := by decide +kernel
theorem dX8_publish_100 : decode cX8_publish 100 = .ok (.aload_n 0, 1) := by decide +kernel
theorem dX8_publish_101 : decode cX8_publish 101 = .ok (.getfield 33, 3) := by decide +kernel
theorem dX8_publish_104 : decode cX8_publish 104 = .ok (.aload_n 0, 1) := by decide +kernel
theorem dX8_publish_105 : decode cX8_publish 105 = .ok (.invokevirtual 219, 3) := by decide +kernel
theorem dX8_publish_108 : decode cX8_publish 108 = .ok (.invokevirtual 222, 3) := by decide +kernel
theorem dX8_publish_111 : decode cX8_publish 111 = .ok (.aload_n 0, 1) := by decide +kernel
theorem dX8_publish_112 : decode cX8_publish 112 = .ok (.dup, 1) := by decide +kernel
theorem dX8_publish_113 : decode cX8_publish 113 = .ok (.getfield 204, 3) := by decide +kernel
theorem dX8_publish_116 : decode cX8_publish 116 = .ok (.iconst 1, 1) := by decide +kernel
theorem dX8_publish_117 : decode cX8_publish 117 = .ok (.iadd, 1) := by decide +kernel
theorem dX8_publish_118 : decode cX8_publish 118 = .ok (.putfield 204, 3) := by decide +kernel
theorem dX8_publish_121 : decode cX8_publish 121 = .ok (.aload_n 0, 1) := by decide +kernel
theorem dX8_publish_122 : decode cX8_publish 122 = .ok (.getfield 204, 3) := by decide +kernel
theorem dX8_publish_125 : decode cX8_publish 125 = .ok (.iconst 1, 1) := by decide +kernel
theorem dX8_publish_126 : decode cX8_publish 126 = .ok (.isub, 1) := by decide +kernel
theorem dX8_publish_127 : decode cX8_publish 127 = .ok (.ireturn, 1) := by decide +kernel
theorem dX8_clueOf_0 : decode cX8_clueOf 0 = .ok (.iload_n 1, 1) := by decide +kernel
theorem dX8_clueOf_1 : decode cX8_clueOf 1 = .ok (.aload_n 0, 1) := by decide +kernel
theorem dX8_clueOf_2 : decode cX8_clueOf 2 = .ok (.getfield 204, 3) := by decide +kernel
theorem dX8_clueOf_5 : decode cX8_clueOf 5 = .ok (.invokestatic 69, 3) := by decide +kernel
theorem dX8_clueOf_8 : decode cX8_clueOf 8 = .ok (.iload_n 2, 1) := by decide +kernel
theorem dX8_clueOf_9 : decode cX8_clueOf 9 = .ok (.bipush 6, 2) := by decide +kernel
theorem dX8_clueOf_11 : decode cX8_clueOf 11 = .ok (.invokestatic 69, 3) := by decide +kernel
theorem dX8_clueOf_14 : decode cX8_clueOf 14 = .ok (.aload_n 0, 1) := by decide +kernel
theorem dX8_clueOf_15 : decode cX8_clueOf 15 = .ok (.getfield 39, 3) := by decide +kernel
theorem dX8_clueOf_18 : decode cX8_clueOf 18 = .ok (.iload_n 1, 1) := by decide +kernel
theorem dX8_clueOf_19 : decode cX8_clueOf 19 = .ok (.aaload, 1) := by decide +kernel
theorem dX8_clueOf_20 : decode cX8_clueOf 20 = .ok (.iload_n 2, 1) := by decide +kernel
theorem dX8_clueOf_21 : decode cX8_clueOf 21 = .ok (.invokevirtual 225, 3) := by decide +kernel
theorem dX8_clueOf_24 : decode cX8_clueOf 24 = .ok (.ireturn, 1) := by decide +kernel
theorem dX8_addSolver_0 : decode cX8_addSolver 0 = .ok (.iload_n 1, 1) := by decide +kernel
theorem dX8_addSolver_1 : decode cX8_addSolver 1 = .ok (.bipush (-12), 2) := by decide +kernel
theorem dX8_addSolver_3 : decode cX8_addSolver 3 = .ok (.bipush 14, 2) := by decide +kernel
theorem dX8_addSolver_5 : decode cX8_addSolver 5 = .ok (.invokestatic 107, 3) := by decide +kernel
theorem dX8_addSolver_8 : decode cX8_addSolver 8 = .ok (.iload_n 2, 1) := by decide +kernel
theorem dX8_addSolver_9 : decode cX8_addSolver 9 = .ok (.iconst 0, 1) := by decide +kernel
theorem dX8_addSolver_10 : decode cX8_addSolver 10 = .ok (.sipush 1000, 3) := by decide +kernel
theorem dX8_addSolver_13 : decode cX8_addSolver 13 = .ok (.invokestatic 107, 3) := by decide +kernel
theorem dX8_addSolver_16 : decode cX8_addSolver 16 = .ok (.aload_n 0, 1) := by decide +kernel
theorem dX8_addSolver_17 : decode cX8_addSolver 17 = .ok (.getfield 228, 3) := by decide +kernel
theorem dX8_addSolver_20 : decode cX8_addSolver 20 = .ok (.bipush 6, 2) := by decide +kernel
theorem dX8_addSolver_22 : decode cX8_addSolver 22 = .ok (.if_icmp .lt 13, 3) := by decide +kernel
theorem dX8_addSolver_25 : decode cX8_addSolver 25 = .ok (.new 124, 3) := by decide +kernel
theorem dX8_addSolver_28 : decode cX8_addSolver 28 = .ok (.dup, 1) := by decide +kernel
theorem dX8_addSolver_29 : decode cX8_addSolver 29 = .ok (.ldc 231, 2) := by decide +kernel
theorem dX8_addSolver_31 : decode cX8_addSolver 31 = .ok (.invokespecial 128, 3) := by decide +kernel
theorem dX8_addSolver_34 : decode cX8_addSolver 34 = .ok (.athrow, 1) := by decide +kernel
theorem dX8_addSolver_35 : decode cX8_addSolver 35 = .ok (.aload_n 0, 1) := by decide +kernel
theorem dX8_addSolver_36 : decode cX8_addSolver 36 = .ok (.getfield 45, 3) := by decide +kernel
theorem dX8_addSolver_39 : decode cX8_addSolver 39 = .ok (.aload_n 0, 1) := by decide +kernel
theorem dX8_addSolver_40 : decode cX8_addSolver 40 = .ok (.getfield 228, 3) := by decide +kernel
theorem dX8_addSolver_43 : decode cX8_addSolver 43 = .ok (.aaload, 1) := by decide +kernel
theorem dX8_addSolver_44 : decode cX8_addSolver 44 = .ok (.iload_n 1, 1) := by decide +kernel
theorem dX8_addSolver_45 : decode cX8_addSolver 45 = .ok (.iload_n 2, 1) := by decide +kernel
theorem dX8_addSolver_46 : decode cX8_addSolver 46 = .ok (.invokevirtual 233, 3) := by decide +kernel
theorem dX8_addSolver_49 : decode cX8_addSolver 49 = .ok (.aload_n 0, 1) := by decide +kernel
theorem dX8_addSolver_50 : decode cX8_addSolver 50 = .ok (.dup, 1) := by decide +kernel
theorem dX8_addSolver_51 : decode cX8_addSolver 51 = .ok (.getfield 228, 3) := by decide +kernel
theorem dX8_addSolver_54 : decode cX8_addSolver 54 = .ok (.iconst 1, 1) := by decide +kernel
theorem dX8_addSolver_55 : decode cX8_addSolver 55 = .ok (.iadd, 1) := by decide +kernel
theorem dX8_addSolver_56 : decode cX8_addSolver 56 = .ok (.putfield 228, 3) := by decide +kernel
theorem dX8_addSolver_59 : decode cX8_addSolver 59 = .ok (.aload_n 0, 1) := by decide +kernel
theorem dX8_addSolver_60 : decode cX8_addSolver 60 = .ok (.getfield 228, 3) := by decide +kernel
theorem dX8_addSolver_63 : decode cX8_addSolver 63 = .ok (.iconst 1, 1) := by decide +kernel
theorem dX8_addSolver_64 : decode cX8_addSolver 64 = .ok (.isub, 1) := by decide +kernel
theorem dX8_addSolver_65 : decode cX8_addSolver 65 = .ok (.ireturn, 1) := by decide +kernel
theorem dX8_enter_0 : decode cX8_enter 0 = .ok (.aload_n 0, 1) := by decide +kernel
theorem dX8_enter_1 : decode cX8_enter 1 = .ok (.iload_n 1, 1) := by decide +kernel
theorem dX8_enter_2 : decode cX8_enter 2 = .ok (.iload_n 2, 1) := by decide +kernel
theorem dX8_enter_3 : decode cX8_enter 3 = .ok (.iload_n 3, 1) := by decide +kernel
theorem dX8_enter_4 : decode cX8_enter 4 = .ok (.invokevirtual 236, 3) := by decide +kernel
theorem dX8_enter_7 : decode cX8_enter 7 = .ok (.iload 4, 2) := by decide +kernel
theorem dX8_enter_9 : decode cX8_enter 9 = .ok (.bipush 9, 2) := by decide +kernel
theorem dX8_enter_11 : decode cX8_enter 11 = .ok (.invokestatic 69, 3) := by decide +kernel
theorem dX8_enter_14 : decode cX8_enter 14 = .ok (.aload_n 0, 1) := by decide +kernel
theorem dX8_enter_15 : decode cX8_enter 15 = .ok (.iload_n 1, 1) := by decide +kernel
theorem dX8_enter_16 : decode cX8_enter 16 = .ok (.iload_n 2, 1) := by decide +kernel
theorem dX8_enter_17 : decode cX8_enter 17 = .ok (.iload_n 3, 1) := by decide +kernel
theorem dX8_enter_18 : decode cX8_enter 18 = .ok (.invokevirtual 239, 3) := by decide +kernel
theorem dX8_enter_21 : decode cX8_enter 21 = .ok (.aload_n 0, 1) := by decide +kernel
theorem dX8_enter_22 : decode cX8_enter 22 = .ok (.getfield 39, 3) := by decide +kernel
theorem dX8_enter_25 : decode cX8_enter 25 = .ok (.iload_n 2, 1) := by decide +kernel
theorem dX8_enter_26 : decode cX8_enter 26 = .ok (.aaload, 1) := by decide +kernel
theorem dX8_enter_27 : decode cX8_enter 27 = .ok (.iload_n 3, 1) := by decide +kernel
theorem dX8_enter_28 : decode cX8_enter 28 = .ok (.invokevirtual 242, 3) := by decide +kernel
theorem dX8_enter_31 : decode cX8_enter 31 = .ok (.iload 4, 2) := by decide +kernel
theorem dX8_enter_33 : decode cX8_enter 33 = .ok (.if_icmp .ne 7, 3) := by decide +kernel
theorem dX8_enter_36 : decode cX8_enter 36 = .ok (.iconst 1, 1) := by decide +kernel
theorem dX8_enter_37 : decode cX8_enter 37 = .ok (.goto 4, 3) := by decide +kernel
theorem dX8_enter_40 : decode cX8_enter 40 = .ok (.iconst 0, 1) := by decide +kernel
theorem dX8_enter_41 : decode cX8_enter 41 = .ok (.istore 5, 2) := by decide +kernel
theorem dX8_enter_43 : decode cX8_enter 43 = .ok (.iload 5, 2) := by decide +kernel
theorem dX8_enter_45 : decode cX8_enter 45 = .ok (.ifCond .eq 10, 3) := by decide +kernel
theorem dX8_enter_48 : decode cX8_enter 48 = .ok (.aload_n 0, 1) := by decide +kernel
theorem dX8_enter_49 : decode cX8_enter 49 = .ok (.iload_n 1, 1) := by decide +kernel
theorem dX8_enter_50 : decode cX8_enter 50 = .ok (.iload_n 2, 1) := by decide +kernel
theorem dX8_enter_51 : decode cX8_enter 51 = .ok (.iload_n 3, 1) := by decide +kernel
theorem dX8_enter_52 : decode cX8_enter 52 = .ok (.invokevirtual 245, 3) := by decide +kernel
theorem dX8_enter_55 : decode cX8_enter 55 = .ok (.iload 5, 2) := by decide +kernel
theorem dX8_enter_57 : decode cX8_enter 57 = .ok (.ireturn, 1) := by decide +kernel
theorem dX8_help_0 : decode cX8_help 0 = .ok (.aload_n 0, 1) := by decide +kernel
theorem dX8_help_1 : decode cX8_help 1 = .ok (.iload_n 1, 1) := by decide +kernel
theorem dX8_help_2 : decode cX8_help 2 = .ok (.iload_n 2, 1) := by decide +kernel
theorem dX8_help_3 : decode cX8_help 3 = .ok (.iload_n 3, 1) := by decide +kernel
theorem dX8_help_4 : decode cX8_help 4 = .ok (.invokevirtual 236, 3) := by decide +kernel
theorem dX8_help_7 : decode cX8_help 7 = .ok (.aload_n 0, 1) := by decide +kernel
theorem dX8_help_8 : decode cX8_help 8 = .ok (.iload_n 1, 1) := by decide +kernel
theorem dX8_help_9 : decode cX8_help 9 = .ok (.iload_n 2, 1) := by decide +kernel
theorem dX8_help_10 : decode cX8_help 10 = .ok (.iload_n 3, 1) := by decide +kernel
theorem dX8_help_11 : decode cX8_help 11 = .ok (.invokevirtual 239, 3) := by decide +kernel
theorem dX8_help_14 : decode cX8_help 14 = .ok (.aload_n 0, 1) := by decide +kernel
theorem dX8_help_15 : decode cX8_help 15 = .ok (.getfield 45, 3) := by decide +kernel
theorem dX8_help_18 : decode cX8_help 18 = .ok (.iload_n 1, 1) := by decide +kernel
theorem dX8_help_19 : decode cX8_help 19 = .ok (.aaload, 1) := by decide +kernel
theorem dX8_help_20 : decode cX8_help 20 = .ok (.iload_n 2, 1) := by decide +kernel
theorem dX8_help_21 : decode cX8_help 21 = .ok (.invokevirtual 248, 3) := by decide +kernel
theorem dX8_help_24 : decode cX8_help 24 = .ok (.ifCond .ne 13, 3) := by decide +kernel
theorem dX8_help_27 : decode cX8_help 27 = .ok (.new 124, 3) := by decide +kernel
theorem dX8_help_30 : decode cX8_help 30 = .ok (.dup, 1) := by decide +kernel
theorem dX8_help_31 : decode cX8_help 31 = .ok (.ldc 251, 2) := by decide +kernel
theorem dX8_help_33 : decode cX8_help 33 = .ok (.invokespecial 128, 3) := by decide +kernel
theorem dX8_help_36 : decode cX8_help 36 = .ok (.athrow, 1) := by decide +kernel
theorem dX8_help_37 : decode cX8_help 37 = .ok (.aload_n 0, 1) := by decide +kernel
theorem dX8_help_38 : decode cX8_help 38 = .ok (.getfield 45, 3) := by decide +kernel
theorem dX8_help_41 : decode cX8_help 41 = .ok (.iload_n 1, 1) := by decide +kernel
theorem dX8_help_42 : decode cX8_help 42 = .ok (.aaload, 1) := by decide +kernel
theorem dX8_help_43 : decode cX8_help 43 = .ok (.iload_n 2, 1) := by decide +kernel
theorem dX8_help_44 : decode cX8_help 44 = .ok (.iload_n 3, 1) := by decide +kernel
theorem dX8_help_45 : decode cX8_help 45 = .ok (.invokevirtual 253, 3) := by decide +kernel
theorem dX8_help_48 : decode cX8_help 48 = .ok (.aload_n 0, 1) := by decide +kernel
theorem dX8_help_49 : decode cX8_help 49 = .ok (.iload_n 1, 1) := by decide +kernel
theorem dX8_help_50 : decode cX8_help 50 = .ok (.iload_n 2, 1) := by decide +kernel
theorem dX8_help_51 : decode cX8_help 51 = .ok (.iload_n 3, 1) := by decide +kernel
theorem dX8_help_52 : decode cX8_help 52 = .ok (.invokevirtual 245, 3) := by decide +kernel
theorem dX8_help_55 : decode cX8_help 55 = .ok (.aload_n 0, 1) := by decide +kernel
theorem dX8_help_56 : decode cX8_help 56 = .ok (.getfield 39, 3) := by decide +kernel
theorem dX8_help_59 : decode cX8_help 59 = .ok (.iload_n 2, 1) := by decide +kernel
theorem dX8_help_60 : decode cX8_help 60 = .ok (.aaload, 1) := by decide +kernel
theorem dX8_help_61 : decode cX8_help 61 = .ok (.iload_n 3, 1) := by decide +kernel
theorem dX8_help_62 : decode cX8_help 62 = .ok (.invokevirtual 242, 3) := by decide +kernel
theorem dX8_help_65 : decode cX8_help 65 = .ok (.ireturn, 1) := by decide +kernel
theorem dX8_judge_0 : decode cX8_judge 0 = .ok (.iload_n 1, 1) := by decide +kernel
theorem dX8_judge_1 : decode cX8_judge 1 = .ok (.aload_n 0, 1) := by decide +kernel
theorem dX8_judge_2 : decode cX8_judge 2 = .ok (.getfield 204, 3) := by decide +kernel
theorem dX8_judge_5 : decode cX8_judge 5 = .ok (.invokestatic 69, 3) := by decide +kernel
theorem dX8_judge_8 : decode cX8_judge 8 = .ok (.iload_n 2, 1) := by decide +kernel
theorem dX8_judge_9 : decode cX8_judge 9 = .ok (.bipush 6, 2) := by decide +kernel
theorem dX8_judge_11 : decode cX8_judge 11 = .ok (.invokestatic 69, 3) := by decide +kernel
theorem dX8_judge_14 : decode cX8_judge 14 = .ok (.aload_n 0, 1) := by decide +kernel
theorem dX8_judge_15 : decode cX8_judge 15 = .ok (.getfield 39, 3) := by decide +kernel
theorem dX8_judge_18 : decode cX8_judge 18 = .ok (.iload_n 1, 1) := by decide +kernel
theorem dX8_judge_19 : decode cX8_judge 19 = .ok (.aaload, 1) := by decide +kernel
theorem dX8_judge_20 : decode cX8_judge 20 = .ok (.iload_n 2, 1) := by decide +kernel
theorem dX8_judge_21 : decode cX8_judge 21 = .ok (.invokevirtual 256, 3) := by decide +kernel
theorem dX8_judge_24 : decode cX8_judge 24 = .ok (.ifCond .eq 14, 3) := by decide +kernel
theorem dX8_judge_27 : decode cX8_judge 27 = .ok (.new 124, 3) := by decide +kernel
theorem dX8_judge_30 : decode cX8_judge 30 = .ok (.dup, 1) := by decide +kernel
theorem dX8_judge_31 : decode cX8_judge 31 = .ok (.ldc_w 259, 3) := by decide +kernel
theorem dX8_judge_34 : decode cX8_judge 34 = .ok (.invokespecial 128, 3) := by decide +kernel
theorem dX8_judge_37 : decode cX8_judge 37 = .ok (.athrow, 1) := by decide +kernel
theorem dX8_judge_38 : decode cX8_judge 38 = .ok (.iload_n 2, 1) := by decide +kernel
theorem dX8_judge_39 : decode cX8_judge 39 = .ok (.invokestatic 261, 3) := by decide +kernel
theorem dX8_judge_42 : decode cX8_judge 42 = .ok (.aload_n 0, 1) := by decide +kernel
theorem dX8_judge_43 : decode cX8_judge 43 = .ok (.getfield 39, 3) := by decide +kernel
theorem dX8_judge_46 : decode cX8_judge 46 = .ok (.iload_n 1, 1) := by decide +kernel
theorem dX8_judge_47 : decode cX8_judge 47 = .ok (.aaload, 1) := by decide +kernel
theorem dX8_judge_48 : decode cX8_judge 48 = .ok (.invokevirtual 264, 3) := by decide +kernel
theorem dX8_judge_51 : decode cX8_judge 51 = .ok (.iconst (-1), 1) := by decide +kernel
theorem dX8_judge_52 : decode cX8_judge 52 = .ok (.ixor, 1) := by decide +kernel
theorem dX8_judge_53 : decode cX8_judge 53 = .ok (.iand, 1) := by decide +kernel
theorem dX8_judge_54 : decode cX8_judge 54 = .ok (.istore_n 3, 1) := by decide +kernel
theorem dX8_judge_55 : decode cX8_judge 55 = .ok (.aload_n 0, 1) := by decide +kernel
theorem dX8_judge_56 : decode cX8_judge 56 = .ok (.getfield 39, 3) := by decide +kernel
theorem dX8_judge_59 : decode cX8_judge 59 = .ok (.iload_n 1, 1) := by decide +kernel
theorem dX8_judge_60 : decode cX8_judge 60 = .ok (.aaload, 1) := by decide +kernel
theorem dX8_judge_61 : decode cX8_judge 61 = .ok (.iload_n 2, 1) := by decide +kernel
theorem dX8_judge_62 : decode cX8_judge 62 = .ok (.invokevirtual 267, 3) := by decide +kernel
theorem dX8_judge_65 : decode cX8_judge 65 = .ok (.aload_n 0, 1) := by decide +kernel
theorem dX8_judge_66 : decode cX8_judge 66 = .ok (.getfield 52, 3) := by decide +kernel
theorem dX8_judge_69 : decode cX8_judge 69 = .ok (.iconst (-1), 1) := by decide +kernel
theorem dX8_judge_70 : decode cX8_judge 70 = .ok (.iload_n 1, 1) := by decide +kernel
theorem dX8_judge_71 : decode cX8_judge 71 = .ok (.iload_n 2, 1) := by decide +kernel
theorem dX8_judge_72 : decode cX8_judge 72 = .ok (.aload_n 0, 1) := by decide +kernel
theorem dX8_judge_73 : decode cX8_judge 73 = .ok (.getfield 190, 3) := by decide +kernel
theorem dX8_judge_76 : decode cX8_judge 76 = .ok (.invokevirtual 270, 3) := by decide +kernel
theorem dX8_judge_79 : decode cX8_judge 79 = .ok (.iconst 0, 1) := by decide +kernel
theorem dX8_judge_80 : decode cX8_judge 80 = .ok (.istore 4, 2) := by decide +kernel
theorem dX8_judge_82 : decode cX8_judge 82 = .ok (.iconst 0, 1) := by decide +kernel
theorem dX8_judge_83 : decode cX8_judge 83 = .ok (.istore 5, 2) := by decide +kernel
theorem dX8_judge_85 : decode cX8_judge 85 = .ok (.iload 5, 2) := by decide +kernel
theorem dX8_judge_87 : decode cX8_judge 87 = .ok (.aload_n 0, 1) := by decide +kernel
theorem dX8_judge_88 : decode cX8_judge 88 = .ok (.getfield 228, 3) := by decide +kernel
theorem dX8_judge_91 : decode cX8_judge 91 = .ok (.if_icmp .ge 50, 3) := by decide +kernel
theorem dX8_judge_94 : decode cX8_judge 94 = .ok (.aload_n 0, 1) := by decide +kernel
theorem dX8_judge_95 : decode cX8_judge 95 = .ok (.iload 5, 2) := by decide +kernel
theorem dX8_judge_97 : decode cX8_judge 97 = .ok (.invokevirtual 273, 3) := by decide +kernel
theorem dX8_judge_100 : decode cX8_judge 100 = .ok (.istore 6, 2) := by decide +kernel
theorem dX8_judge_102 : decode cX8_judge 102 = .ok (.aload_n 0, 1) := by decide +kernel
theorem dX8_judge_103 : decode cX8_judge 103 = .ok (.getfield 45, 3) := by decide +kernel
theorem dX8_judge_106 : decode cX8_judge 106 = .ok (.iload 5, 2) := by decide +kernel
theorem dX8_judge_108 : decode cX8_judge 108 = .ok (.aaload, 1) := by decide +kernel
theorem dX8_judge_109 : decode cX8_judge 109 = .ok (.iload_n 1, 1) := by decide +kernel
theorem dX8_judge_110 : decode cX8_judge 110 = .ok (.iload_n 3, 1) := by decide +kernel
theorem dX8_judge_111 : decode cX8_judge 111 = .ok (.invokevirtual 276, 3) := by decide +kernel
theorem dX8_judge_114 : decode cX8_judge 114 = .ok (.aload_n 0, 1) := by decide +kernel
theorem dX8_judge_115 : decode cX8_judge 115 = .ok (.iload 5, 2) := by decide +kernel
theorem dX8_judge_117 : decode cX8_judge 117 = .ok (.iload_n 1, 1) := by decide +kernel
theorem dX8_judge_118 : decode cX8_judge 118 = .ok (.invokevirtual 279, 3) := by decide +kernel
theorem dX8_judge_121 : decode cX8_judge 121 = .ok (.aload_n 0, 1) := by decide +kernel
theorem dX8_judge_122 : decode cX8_judge 122 = .ok (.iload 5, 2) := by decide +kernel
theorem dX8_judge_124 : decode cX8_judge 124 = .ok (.invokevirtual 273, 3) := by decide +kernel
theorem dX8_judge_127 : decode cX8_judge 127 = .ok (.iload 6, 2) := by decide +kernel
theorem dX8_judge_129 : decode cX8_judge 129 = .ok (.if_icmp .le 6, 3) := by decide +kernel
theorem dX8_judge_132 : decode cX8_judge 132 = .ok (.iinc 4 1, 3) := by decide +kernel
theorem dX8_judge_135 : decode cX8_judge 135 = .ok (.iinc 5 1, 3) := by decide +kernel
theorem dX8_judge_138 : decode cX8_judge 138 = .ok (.goto (-53), 3) := by decide +kernel
theorem dX8_judge_141 : decode cX8_judge 141 = .ok (.iload 4, 2) := by decide +kernel
theorem dX8_judge_143 : decode cX8_judge 143 = .ok (.ireturn, 1) := by decide +kernel
theorem dX8_solvedAt_0 : decode cX8_solvedAt 0 = .ok (.iload_n 1, 1) := by decide +kernel
theorem dX8_solvedAt_1 : decode cX8_solvedAt 1 = .ok (.aload_n 0, 1) := by decide +kernel
theorem dX8_solvedAt_2 : decode cX8_solvedAt 2 = .ok (.getfield 228, 3) := by decide +kernel
theorem dX8_solvedAt_5 : decode cX8_solvedAt 5 = .ok (.invokestatic 69, 3) := by decide +kernel
theorem dX8_solvedAt_8 : decode cX8_solvedAt 8 = .ok (.iload_n 2, 1) := by decide +kernel
theorem dX8_solvedAt_9 : decode cX8_solvedAt 9 = .ok (.aload_n 0, 1) := by decide +kernel
theorem dX8_solvedAt_10 : decode cX8_solvedAt 10 = .ok (.getfield 204, 3) := by decide +kernel
theorem dX8_solvedAt_13 : decode cX8_solvedAt 13 = .ok (.invokestatic 69, 3) := by decide +kernel
theorem dX8_solvedAt_16 : decode cX8_solvedAt 16 = .ok (.aload_n 0, 1) := by decide +kernel
theorem dX8_solvedAt_17 : decode cX8_solvedAt 17 = .ok (.getfield 39, 3) := by decide +kernel
theorem dX8_solvedAt_20 : decode cX8_solvedAt 20 = .ok (.iload_n 2, 1) := by decide +kernel
theorem dX8_solvedAt_21 : decode cX8_solvedAt 21 = .ok (.aaload, 1) := by decide +kernel
theorem dX8_solvedAt_22 : decode cX8_solvedAt 22 = .ok (.astore_n 3, 1) := by decide +kernel
theorem dX8_solvedAt_23 : decode cX8_solvedAt 23 = .ok (.aload_n 0, 1) := by decide +kernel
theorem dX8_solvedAt_24 : decode cX8_solvedAt 24 = .ok (.getfield 45, 3) := by decide +kernel
theorem dX8_solvedAt_27 : decode cX8_solvedAt 27 = .ok (.iload_n 1, 1) := by decide +kernel
theorem dX8_solvedAt_28 : decode cX8_solvedAt 28 = .ok (.aaload, 1) := by decide +kernel
theorem dX8_solvedAt_29 : decode cX8_solvedAt 29 = .ok (.invokevirtual 282, 3) := by decide +kernel
theorem dX8_solvedAt_32 : decode cX8_solvedAt 32 = .ok (.iload_n 2, 1) := by decide +kernel
theorem dX8_solvedAt_33 : decode cX8_solvedAt 33 = .ok (.aload_n 3, 1) := by decide +kernel
theorem dX8_solvedAt_34 : decode cX8_solvedAt 34 = .ok (.invokevirtual 264, 3) := by decide +kernel
theorem dX8_solvedAt_37 : decode cX8_solvedAt 37 = .ok (.aload_n 3, 1) := by decide +kernel
theorem dX8_solvedAt_38 : decode cX8_solvedAt 38 = .ok (.invokevirtual 286, 3) := by decide +kernel
theorem dX8_solvedAt_41 : decode cX8_solvedAt 41 = .ok (.invokevirtual 289, 3) := by decide +kernel
theorem dX8_solvedAt_44 : decode cX8_solvedAt 44 = .ok (.ireturn, 1) := by decide +kernel
theorem dX8_open_0 : decode cX8_open 0 = .ok (.iload_n 1, 1) := by decide +kernel
theorem dX8_open_1 : decode cX8_open 1 = .ok (.aload_n 0, 1) := by decide +kernel
theorem dX8_open_2 : decode cX8_open 2 = .ok (.getfield 204, 3) := by decide +kernel
theorem dX8_open_5 : decode cX8_open 5 = .ok (.invokestatic 69, 3) := by decide +kernel
theorem dX8_open_8 : decode cX8_open 8 = .ok (.aload_n 0, 1) := by decide +kernel
theorem dX8_open_9 : decode cX8_open 9 = .ok (.getfield 39, 3) := by decide +kernel
theorem dX8_open_12 : decode cX8_open 12 = .ok (.iload_n 1, 1) := by decide +kernel
theorem dX8_open_13 : decode cX8_open 13 = .ok (.aaload, 1) := by decide +kernel
theorem dX8_open_14 : decode cX8_open 14 = .ok (.invokevirtual 264, 3) := by decide +kernel
theorem dX8_open_17 : decode cX8_open 17 = .ok (.ireturn, 1) := by decide +kernel
theorem dX8_coins_0 : decode cX8_coins 0 = .ok (.iload_n 1, 1) := by decide +kernel
theorem dX8_coins_1 : decode cX8_coins 1 = .ok (.aload_n 0, 1) := by decide +kernel
theorem dX8_coins_2 : decode cX8_coins 2 = .ok (.getfield 228, 3) := by decide +kernel
theorem dX8_coins_5 : decode cX8_coins 5 = .ok (.invokestatic 69, 3) := by decide +kernel
theorem dX8_coins_8 : decode cX8_coins 8 = .ok (.aload_n 0, 1) := by decide +kernel
theorem dX8_coins_9 : decode cX8_coins 9 = .ok (.getfield 45, 3) := by decide +kernel
theorem dX8_coins_12 : decode cX8_coins 12 = .ok (.iload_n 1, 1) := by decide +kernel
theorem dX8_coins_13 : decode cX8_coins 13 = .ok (.aaload, 1) := by decide +kernel
theorem dX8_coins_14 : decode cX8_coins 14 = .ok (.invokevirtual 293, 3) := by decide +kernel
theorem dX8_coins_17 : decode cX8_coins 17 = .ok (.ireturn, 1) := by decide +kernel
theorem dX8_streak_0 : decode cX8_streak 0 = .ok (.iload_n 1, 1) := by decide +kernel
theorem dX8_streak_1 : decode cX8_streak 1 = .ok (.aload_n 0, 1) := by decide +kernel
theorem dX8_streak_2 : decode cX8_streak 2 = .ok (.getfield 228, 3) := by decide +kernel
theorem dX8_streak_5 : decode cX8_streak 5 = .ok (.invokestatic 69, 3) := by decide +kernel
theorem dX8_streak_8 : decode cX8_streak 8 = .ok (.aload_n 0, 1) := by decide +kernel
theorem dX8_streak_9 : decode cX8_streak 9 = .ok (.iload_n 1, 1) := by decide +kernel
theorem dX8_streak_10 : decode cX8_streak 10 = .ok (.invokevirtual 273, 3) := by decide +kernel
theorem dX8_streak_13 : decode cX8_streak 13 = .ok (.ireturn, 1) := by decide +kernel
theorem dX8_streakAnew_0 : decode cX8_streakAnew 0 = .ok (.iload_n 1, 1) := by decide +kernel
theorem dX8_streakAnew_1 : decode cX8_streakAnew 1 = .ok (.aload_n 0, 1) := by decide +kernel
theorem dX8_streakAnew_2 : decode cX8_streakAnew 2 = .ok (.getfield 228, 3) := by decide +kernel
theorem dX8_streakAnew_5 : decode cX8_streakAnew 5 = .ok (.invokestatic 69, 3) := by decide +kernel
theorem dX8_streakAnew_8 : decode cX8_streakAnew 8 = .ok (.aload_n 0, 1) := by decide +kernel
theorem dX8_streakAnew_9 : decode cX8_streakAnew 9 = .ok (.getfield 59, 3) := by decide +kernel
theorem dX8_streakAnew_12 : decode cX8_streakAnew 12 = .ok (.aload_n 0, 1) := by decide +kernel
theorem dX8_streakAnew_13 : decode cX8_streakAnew 13 = .ok (.getfield 45, 3) := by decide +kernel
theorem dX8_streakAnew_16 : decode cX8_streakAnew 16 = .ok (.iload_n 1, 1) := by decide +kernel
theorem dX8_streakAnew_17 : decode cX8_streakAnew 17 = .ok (.aaload, 1) := by decide +kernel
theorem dX8_streakAnew_18 : decode cX8_streakAnew 18 = .ok (.invokevirtual 282, 3) := by decide +kernel
theorem dX8_streakAnew_21 : decode cX8_streakAnew 21 = .ok (.invokevirtual 296, 3) := by decide +kernel
theorem dX8_streakAnew_24 : decode cX8_streakAnew 24 = .ok (.invokevirtual 299, 3) := by decide +kernel
theorem dX8_streakAnew_27 : decode cX8_streakAnew 27 = .ok (.aload_n 0, 1) := by decide +kernel
theorem dX8_streakAnew_28 : decode cX8_streakAnew 28 = .ok (.getfield 63, 3) := by decide +kernel
theorem dX8_streakAnew_31 : decode cX8_streakAnew 31 = .ok (.iconst 0, 1) := by decide +kernel
theorem dX8_streakAnew_32 : decode cX8_streakAnew 32 = .ok (.invokestatic 302, 3) := by decide +kernel
theorem dX8_streakAnew_35 : decode cX8_streakAnew 35 = .ok (.iconst 0, 1) := by decide +kernel
theorem dX8_streakAnew_36 : decode cX8_streakAnew 36 = .ok (.istore_n 2, 1) := by decide +kernel
theorem dX8_streakAnew_37 : decode cX8_streakAnew 37 = .ok (.iload_n 2, 1) := by decide +kernel
theorem dX8_streakAnew_38 : decode cX8_streakAnew 38 = .ok (.aload_n 0, 1) := by decide +kernel
theorem dX8_streakAnew_39 : decode cX8_streakAnew 39 = .ok (.getfield 52, 3) := by decide +kernel
theorem dX8_streakAnew_42 : decode cX8_streakAnew 42 = .ok (.invokevirtual 308, 3) := by decide +kernel
theorem dX8_streakAnew_45 : decode cX8_streakAnew 45 = .ok (.if_icmp .ge 15, 3) := by decide +kernel
theorem dX8_streakAnew_48 : decode cX8_streakAnew 48 = .ok (.aload_n 0, 1) := by decide +kernel
theorem dX8_streakAnew_49 : decode cX8_streakAnew 49 = .ok (.iload_n 2, 1) := by decide +kernel
theorem dX8_streakAnew_50 : decode cX8_streakAnew 50 = .ok (.iload_n 1, 1) := by decide +kernel
theorem dX8_streakAnew_51 : decode cX8_streakAnew 51 = .ok (.invokevirtual 309, 3) := by decide +kernel
theorem dX8_streakAnew_54 : decode cX8_streakAnew 54 = .ok (.iinc 2 1, 3) := by decide +kernel
theorem dX8_streakAnew_57 : decode cX8_streakAnew 57 = .ok (.goto (-20), 3) := by decide +kernel
theorem dX8_streakAnew_60 : decode cX8_streakAnew 60 = .ok (.aload_n 0, 1) := by decide +kernel
theorem dX8_streakAnew_61 : decode cX8_streakAnew 61 = .ok (.getfield 59, 3) := by decide +kernel
theorem dX8_streakAnew_64 : decode cX8_streakAnew 64 = .ok (.aload_n 0, 1) := by decide +kernel
theorem dX8_streakAnew_65 : decode cX8_streakAnew 65 = .ok (.getfield 190, 3) := by decide +kernel
theorem dX8_streakAnew_68 : decode cX8_streakAnew 68 = .ok (.invokevirtual 312, 3) := by decide +kernel
theorem dX8_streakAnew_71 : decode cX8_streakAnew 71 = .ok (.ireturn, 1) := by decide +kernel
theorem dX8_solverAt_0 : decode cX8_solverAt 0 = .ok (.iconst 0, 1) := by decide +kernel
theorem dX8_solverAt_1 : decode cX8_solverAt 1 = .ok (.istore_n 2, 1) := by decide +kernel
theorem dX8_solverAt_2 : decode cX8_solverAt 2 = .ok (.iload_n 2, 1) := by decide +kernel
theorem dX8_solverAt_3 : decode cX8_solverAt 3 = .ok (.aload_n 0, 1) := by decide +kernel
theorem dX8_solverAt_4 : decode cX8_solverAt 4 = .ok (.getfield 228, 3) := by decide +kernel
theorem dX8_solverAt_7 : decode cX8_solverAt 7 = .ok (.if_icmp .ge 20, 3) := by decide +kernel
theorem dX8_solverAt_10 : decode cX8_solverAt 10 = .ok (.aload_n 0, 1) := by decide +kernel
theorem dX8_solverAt_11 : decode cX8_solverAt 11 = .ok (.iload_n 2, 1) := by decide +kernel
theorem dX8_solverAt_12 : decode cX8_solverAt 12 = .ok (.invokevirtual 315, 3) := by decide +kernel
theorem dX8_solverAt_15 : decode cX8_solverAt 15 = .ok (.iload_n 1, 1) := by decide +kernel
theorem dX8_solverAt_16 : decode cX8_solverAt 16 = .ok (.if_icmp .ne 5, 3) := by decide +kernel
theorem dX8_solverAt_19 : decode cX8_solverAt 19 = .ok (.iload_n 2, 1) := by decide +kernel
theorem dX8_solverAt_20 : decode cX8_solverAt 20 = .ok (.ireturn, 1) := by decide +kernel
theorem dX8_solverAt_21 : decode cX8_solverAt 21 = .ok (.iinc 2 1, 3) := by decide +kernel
theorem dX8_solverAt_24 : decode cX8_solverAt 24 = .ok (.goto (-22), 3) := by decide +kernel
theorem dX8_solverAt_27 : decode cX8_solverAt 27 = .ok (.iconst (-1), 1) := by decide +kernel
theorem dX8_solverAt_28 : decode cX8_solverAt 28 = .ok (.ireturn, 1) := by decide +kernel
theorem dX8_isIndex_0 : decode cX8_isIndex 0 = .ok (.iload_n 0, 1) := by decide +kernel
theorem dX8_isIndex_1 : decode cX8_isIndex 1 = .ok (.ifCond .lt 12, 3) := by decide +kernel
theorem dX8_isIndex_4 : decode cX8_isIndex 4 = .ok (.iload_n 0, 1) := by decide +kernel
theorem dX8_isIndex_5 : decode cX8_isIndex 5 = .ok (.iload_n 1, 1) := by decide +kernel
theorem dX8_isIndex_6 : decode cX8_isIndex 6 = .ok (.if_icmp .ge 7, 3) := by decide +kernel
theorem dX8_isIndex_9 : decode cX8_isIndex 9 = .ok (.iconst 1, 1) := by decide +kernel
theorem dX8_isIndex_10 : decode cX8_isIndex 10 = .ok (.goto 4, 3) := by decide +kernel
theorem dX8_isIndex_13 : decode cX8_isIndex 13 = .ok (.iconst 0, 1) := by decide +kernel
theorem dX8_isIndex_14 : decode cX8_isIndex 14 = .ok (.ireturn, 1) := by decide +kernel
theorem dX8_needIndex_0 : decode cX8_needIndex 0 = .ok (.iload_n 0, 1) := by decide +kernel
theorem dX8_needIndex_1 : decode cX8_needIndex 1 = .ok (.iload_n 1, 1) := by decide +kernel
theorem dX8_needIndex_2 : decode cX8_needIndex 2 = .ok (.invokestatic 139, 3) := by decide +kernel
theorem dX8_needIndex_5 : decode cX8_needIndex 5 = .ok (.ifCond .ne 14, 3) := by decide +kernel
theorem dX8_needIndex_8 : decode cX8_needIndex 8 = .ok (.new 318, 3) := by decide +kernel
theorem dX8_needIndex_11 : decode cX8_needIndex 11 = .ok (.dup, 1) := by decide +kernel
theorem dX8_needIndex_12 : decode cX8_needIndex 12 = .ok (.ldc_w 320, 3) := by decide +kernel
theorem dX8_needIndex_15 : decode cX8_needIndex 15 = .ok (.invokespecial 322, 3) := by decide +kernel
theorem dX8_needIndex_18 : decode cX8_needIndex 18 = .ok (.athrow, 1) := by decide +kernel
theorem dX8_needIndex_19 : decode cX8_needIndex 19 = .ok (.return_, 1) := by decide +kernel
theorem dX8_needRange_0 : decode cX8_needRange 0 = .ok (.iload_n 0, 1) := by decide +kernel
theorem dX8_needRange_1 : decode cX8_needRange 1 = .ok (.iload_n 1, 1) := by decide +kernel
theorem dX8_needRange_2 : decode cX8_needRange 2 = .ok (.if_icmp .lt 8, 3) := by decide +kernel
theorem dX8_needRange_5 : decode cX8_needRange 5 = .ok (.iload_n 0, 1) := by decide +kernel
theorem dX8_needRange_6 : decode cX8_needRange 6 = .ok (.iload_n 2, 1) := by decide +kernel
theorem dX8_needRange_7 : decode cX8_needRange 7 = .ok (.if_icmp .le 14, 3) := by decide +kernel
theorem dX8_needRange_10 : decode cX8_needRange 10 = .ok (.new 323, 3) := by decide +kernel
theorem dX8_needRange_13 : decode cX8_needRange 13 = .ok (.dup, 1) := by decide +kernel
theorem dX8_needRange_14 : decode cX8_needRange 14 = .ok (.ldc_w 325, 3) := by decide +kernel
theorem dX8_needRange_17 : decode cX8_needRange 17 = .ok (.invokespecial 327, 3) := by decide +kernel
theorem dX8_needRange_20 : decode cX8_needRange 20 = .ok (.athrow, 1) := by decide +kernel
theorem dX8_needRange_21 : decode cX8_needRange 21 = .ok (.return_, 1) := by decide +kernel
theorem dX8_needRoomForLetter_0 : decode cX8_needRoomForLetter 0 = .ok (.aload_n 0, 1) := by decide +kernel
theorem dX8_needRoomForLetter_1 : decode cX8_needRoomForLetter 1 = .ok (.getfield 10, 3) := by decide +kernel
theorem dX8_needRoomForLetter_4 : decode cX8_needRoomForLetter 4 = .ok (.invokevirtual 111, 3) := by decide +kernel
theorem dX8_needRoomForLetter_7 : decode cX8_needRoomForLetter 7 = .ok (.ifCond .eq 14, 3) := by decide +kernel
theorem dX8_needRoomForLetter_10 : decode cX8_needRoomForLetter 10 = .ok (.new 124, 3) := by decide +kernel
theorem dX8_needRoomForLetter_13 : decode cX8_needRoomForLetter 13 = .ok (.dup, 1) := by decide +kernel
theorem dX8_needRoomForLetter_14 : decode cX8_needRoomForLetter 14 = .ok (.ldc_w 328, 3) := by decide +kernel
theorem dX8_needRoomForLetter_17 : decode cX8_needRoomForLetter 17 = .ok (.invokespecial 128, 3) := by decide +kernel
theorem dX8_needRoomForLetter_20 : decode cX8_needRoomForLetter 20 = .ok (.athrow, 1) := by decide +kernel
theorem dX8_needRoomForLetter_21 : decode cX8_needRoomForLetter 21 = .ok (.return_, 1) := by decide +kernel
theorem dX8_needCellOf_0 : decode cX8_needCellOf 0 = .ok (.iload_n 1, 1) := by decide +kernel
theorem dX8_needCellOf_1 : decode cX8_needCellOf 1 = .ok (.aload_n 0, 1) := by decide +kernel
theorem dX8_needCellOf_2 : decode cX8_needCellOf 2 = .ok (.getfield 228, 3) := by decide +kernel
theorem dX8_needCellOf_5 : decode cX8_needCellOf 5 = .ok (.invokestatic 69, 3) := by decide +kernel
theorem dX8_needCellOf_8 : decode cX8_needCellOf 8 = .ok (.iload_n 2, 1) := by decide +kernel
theorem dX8_needCellOf_9 : decode cX8_needCellOf 9 = .ok (.aload_n 0, 1) := by decide +kernel
theorem dX8_needCellOf_10 : decode cX8_needCellOf 10 = .ok (.getfield 204, 3) := by decide +kernel
theorem dX8_needCellOf_13 : decode cX8_needCellOf 13 = .ok (.invokestatic 69, 3) := by decide +kernel
theorem dX8_needCellOf_16 : decode cX8_needCellOf 16 = .ok (.iload_n 3, 1) := by decide +kernel
theorem dX8_needCellOf_17 : decode cX8_needCellOf 17 = .ok (.bipush 9, 2) := by decide +kernel
theorem dX8_needCellOf_19 : decode cX8_needCellOf 19 = .ok (.invokestatic 69, 3) := by decide +kernel
theorem dX8_needCellOf_22 : decode cX8_needCellOf 22 = .ok (.return_, 1) := by decide +kernel
theorem dX8_needUnfinished_0 : decode cX8_needUnfinished 0 = .ok (.aload_n 0, 1) := by decide +kernel
theorem dX8_needUnfinished_1 : decode cX8_needUnfinished 1 = .ok (.getfield 45, 3) := by decide +kernel
theorem dX8_needUnfinished_4 : decode cX8_needUnfinished 4 = .ok (.iload_n 1, 1) := by decide +kernel
theorem dX8_needUnfinished_5 : decode cX8_needUnfinished 5 = .ok (.aaload, 1) := by decide +kernel
theorem dX8_needUnfinished_6 : decode cX8_needUnfinished 6 = .ok (.invokevirtual 282, 3) := by decide +kernel
theorem dX8_needUnfinished_9 : decode cX8_needUnfinished 9 = .ok (.iload_n 2, 1) := by decide +kernel
theorem dX8_needUnfinished_10 : decode cX8_needUnfinished 10 = .ok (.iload_n 3, 1) := by decide +kernel
theorem dX8_needUnfinished_11 : decode cX8_needUnfinished 11 = .ok (.invokevirtual 330, 3) := by decide +kernel
theorem dX8_needUnfinished_14 : decode cX8_needUnfinished 14 = .ok (.ifCond .ne 16, 3) := by decide +kernel
theorem dX8_needUnfinished_17 : decode cX8_needUnfinished 17 = .ok (.aload_n 0, 1) := by decide +kernel
theorem dX8_needUnfinished_18 : decode cX8_needUnfinished 18 = .ok (.getfield 39, 3) := by decide +kernel
theorem dX8_needUnfinished_21 : decode cX8_needUnfinished 21 = .ok (.iload_n 2, 1) := by decide +kernel
theorem dX8_needUnfinished_22 : decode cX8_needUnfinished 22 = .ok (.aaload, 1) := by decide +kernel
theorem dX8_needUnfinished_23 : decode cX8_needUnfinished 23 = .ok (.iload_n 3, 1) := by decide +kernel
theorem dX8_needUnfinished_24 : decode cX8_needUnfinished 24 = .ok (.invokevirtual 333, 3) := by decide +kernel
theorem dX8_needUnfinished_27 : decode cX8_needUnfinished 27 = .ok (.ifCond .eq 14, 3) := by decide +kernel
theorem dX8_needUnfinished_30 : decode cX8_needUnfinished 30 = .ok (.new 124, 3) := by decide +kernel
theorem dX8_needUnfinished_33 : decode cX8_needUnfinished 33 = .ok (.dup, 1) := by decide +kernel
theorem dX8_needUnfinished_34 : decode cX8_needUnfinished 34 = .ok (.ldc_w 336, 3) := by decide +kernel
theorem dX8_needUnfinished_37 : decode cX8_needUnfinished 37 = .ok (.invokespecial 128, 3) := by decide +kernel
theorem dX8_needUnfinished_40 : decode cX8_needUnfinished 40 = .ok (.athrow, 1) := by decide +kernel
theorem dX8_needUnfinished_41 : decode cX8_needUnfinished 41 = .ok (.return_, 1) := by decide +kernel
theorem dX8_today_0 : decode cX8_today 0 = .ok (.aload_n 0, 1) := by decide +kernel
theorem dX8_today_1 : decode cX8_today 1 = .ok (.getfield 190, 3) := by decide +kernel
theorem dX8_today_4 : decode cX8_today 4 = .ok (.bipush 24, 2) := by decide +kernel
theorem dX8_today_6 : decode cX8_today 6 = .ok (.idiv, 1) := by decide +kernel
theorem dX8_today_7 : decode cX8_today 7 = .ok (.ireturn, 1) := by decide +kernel
theorem dX8_mayPublishToday_0 : decode cX8_mayPublishToday 0 = .ok (.aload_n 0, 1) := by decide +kernel
theorem dX8_mayPublishToday_1 : decode cX8_mayPublishToday 1 = .ok (.getfield 204, 3) := by decide +kernel
theorem dX8_mayPublishToday_4 : decode cX8_mayPublishToday 4 = .ok (.bipush 20, 2) := by decide +kernel
theorem dX8_mayPublishToday_6 : decode cX8_mayPublishToday 6 = .ok (.if_icmp .lt 5, 3) := by decide +kernel
theorem dX8_mayPublishToday_9 : decode cX8_mayPublishToday 9 = .ok (.iconst 0, 1) := by decide +kernel
theorem dX8_mayPublishToday_10 : decode cX8_mayPublishToday 10 = .ok (.ireturn, 1) := by decide +kernel
theorem dX8_mayPublishToday_11 : decode cX8_mayPublishToday 11 = .ok (.aload_n 0, 1) := by decide +kernel
theorem dX8_mayPublishToday_12 : decode cX8_mayPublishToday 12 = .ok (.getfield 204, 3) := by decide +kernel
theorem dX8_mayPublishToday_15 : decode cX8_mayPublishToday 15 = .ok (.ifCond .eq 27, 3) := by decide +kernel
theorem dX8_mayPublishToday_18 : decode cX8_mayPublishToday 18 = .ok (.aload_n 0, 1) := by decide +kernel
theorem dX8_mayPublishToday_19 : decode cX8_mayPublishToday 19 = .ok (.getfield 39, 3) := by decide +kernel
theorem dX8_mayPublishToday_22 : decode cX8_mayPublishToday 22 = .ok (.aload_n 0, 1) := by decide +kernel
theorem dX8_mayPublishToday_23 : decode cX8_mayPublishToday 23 = .ok (.getfield 204, 3) := by decide +kernel
theorem dX8_mayPublishToday_26 : decode cX8_mayPublishToday 26 = .ok (.iconst 1, 1) := by decide +kernel
theorem dX8_mayPublishToday_27 : decode cX8_mayPublishToday 27 = .ok (.isub, 1) := by decide +kernel
theorem dX8_mayPublishToday_28 : decode cX8_mayPublishToday 28 = .ok (.aaload, 1) := by decide +kernel
theorem dX8_mayPublishToday_29 : decode cX8_mayPublishToday 29 = .ok (.invokevirtual 286, 3) := by decide +kernel
theorem dX8_mayPublishToday_32 : decode cX8_mayPublishToday 32 = .ok (.bipush 24, 2) := by decide +kernel
theorem dX8_mayPublishToday_34 : decode cX8_mayPublishToday 34 = .ok (.idiv, 1) := by decide +kernel
theorem dX8_mayPublishToday_35 : decode cX8_mayPublishToday 35 = .ok (.aload_n 0, 1) := by decide +kernel
theorem dX8_mayPublishToday_36 : decode cX8_mayPublishToday 36 = .ok (.invokevirtual 219, 3) := by decide +kernel
theorem dX8_mayPublishToday_39 : decode cX8_mayPublishToday 39 = .ok (.if_icmp .ge 7, 3) := by decide +kernel
theorem dX8_mayPublishToday_42 : decode cX8_mayPublishToday 42 = .ok (.iconst 1, 1) := by decide +kernel
theorem dX8_mayPublishToday_43 : decode cX8_mayPublishToday 43 = .ok (.goto 4, 3) := by decide +kernel
theorem dX8_mayPublishToday_46 : decode cX8_mayPublishToday 46 = .ok (.iconst 0, 1) := by decide +kernel
theorem dX8_mayPublishToday_47 : decode cX8_mayPublishToday 47 = .ok (.ireturn, 1) := by decide +kernel
theorem dX8_findClues_0 : decode cX8_findClues 0 = .ok (.aload_n 0, 1) := by decide +kernel
theorem dX8_findClues_1 : decode cX8_findClues 1 = .ok (.getfield 26, 3) := by decide +kernel
theorem dX8_findClues_4 : decode cX8_findClues 4 = .ok (.aload_n 0, 1) := by decide +kernel
theorem dX8_findClues_5 : decode cX8_findClues 5 = .ok (.getfield 19, 3) := by decide +kernel
theorem dX8_findClues_8 : decode cX8_findClues 8 = .ok (.invokevirtual 152, 3) := by decide +kernel
theorem dX8_findClues_11 : decode cX8_findClues 11 = .ok (.aload_n 0, 1) := by decide +kernel
theorem dX8_findClues_12 : decode cX8_findClues 12 = .ok (.getfield 26, 3) := by decide +kernel
theorem dX8_findClues_15 : decode cX8_findClues 15 = .ok (.invokevirtual 156, 3) := by decide +kernel
theorem dX8_findClues_18 : decode cX8_findClues 18 = .ok (.iconst (-1), 1) := by decide +kernel
theorem dX8_findClues_19 : decode cX8_findClues 19 = .ok (.if_icmp .ne 5, 3) := by decide +kernel
theorem dX8_findClues_22 : decode cX8_findClues 22 = .ok (.iconst 0, 1) := by decide +kernel
theorem dX8_findClues_23 : decode cX8_findClues 23 = .ok (.ireturn, 1) := by decide +kernel
theorem dX8_findClues_24 : decode cX8_findClues 24 = .ok (.iconst 0, 1) := by decide +kernel
theorem dX8_findClues_25 : decode cX8_findClues 25 = .ok (.istore_n 1, 1) := by decide +kernel
theorem dX8_findClues_26 : decode cX8_findClues 26 = .ok (.iload_n 1, 1) := by decide +kernel
theorem dX8_findClues_27 : decode cX8_findClues 27 = .ok (.bipush 6, 2) := by decide +kernel
theorem dX8_findClues_29 : decode cX8_findClues 29 = .ok (.if_icmp .ge 38, 3) := by decide +kernel
theorem dX8_findClues_32 : decode cX8_findClues 32 = .ok (.aload_n 0, 1) := by decide +kernel
theorem dX8_findClues_33 : decode cX8_findClues 33 = .ok (.getfield 33, 3) := by decide +kernel
theorem dX8_findClues_36 : decode cX8_findClues 36 = .ok (.iload_n 1, 1) := by decide +kernel
theorem dX8_findClues_37 : decode cX8_findClues 37 = .ok (.aload_n 0, 1) := by decide +kernel
theorem dX8_findClues_38 : decode cX8_findClues 38 = .ok (.getfield 26, 3) := by decide +kernel
theorem dX8_findClues_41 : decode cX8_findClues 41 = .ok (.aload_n 0, 1) := by decide +kernel
theorem dX8_findClues_42 : decode cX8_findClues 42 = .ok (.getfield 19, 3) := by decide +kernel
theorem dX8_findClues_45 : decode cX8_findClues 45 = .ok (.iload_n 1, 1) := by decide +kernel
theorem dX8_findClues_46 : decode cX8_findClues 46 = .ok (.invokevirtual 338, 3) := by decide +kernel
theorem dX8_findClues_49 : decode cX8_findClues 49 = .ok (.aload_n 0, 1) := by decide +kernel
theorem dX8_findClues_50 : decode cX8_findClues 50 = .ok (.invokevirtual 219, 3) := by decide +kernel
theorem dX8_findClues_53 : decode cX8_findClues 53 = .ok (.invokevirtual 341, 3) := by decide +kernel
theorem dX8_findClues_56 : decode cX8_findClues 56 = .ok (.ifCond .ne 5, 3) := by decide +kernel
theorem dX8_findClues_59 : decode cX8_findClues 59 = .ok (.iconst 0, 1) := by decide +kernel
theorem dX8_findClues_60 : decode cX8_findClues 60 = .ok (.ireturn, 1) := by decide +kernel
theorem dX8_findClues_61 : decode cX8_findClues 61 = .ok (.iinc 1 1, 3) := by decide +kernel
theorem dX8_findClues_64 : decode cX8_findClues 64 = .ok (.goto (-38), 3) := by decide +kernel
theorem dX8_findClues_67 : decode cX8_findClues 67 = .ok (.iconst 1, 1) := by decide +kernel
theorem dX8_findClues_68 : decode cX8_findClues 68 = .ok (.ireturn, 1) := by decide +kernel
theorem dX8_cellOf_0 : decode cX8_cellOf 0 = .ok (.iload_n 0, 1) := by decide +kernel
theorem dX8_cellOf_1 : decode cX8_cellOf 1 = .ok (.iconst 3, 1) := by decide +kernel
theorem dX8_cellOf_2 : decode cX8_cellOf 2 = .ok (.if_icmp .ge 11, 3) := by decide +kernel
theorem dX8_cellOf_5 : decode cX8_cellOf 5 = .ok (.iload_n 0, 1) := by decide +kernel
theorem dX8_cellOf_6 : decode cX8_cellOf 6 = .ok (.iconst 3, 1) := by decide +kernel
theorem dX8_cellOf_7 : decode cX8_cellOf 7 = .ok (.imul, 1) := by decide +kernel
theorem dX8_cellOf_8 : decode cX8_cellOf 8 = .ok (.iload_n 1, 1) := by decide +kernel
theorem dX8_cellOf_9 : decode cX8_cellOf 9 = .ok (.iadd, 1) := by decide +kernel
theorem dX8_cellOf_10 : decode cX8_cellOf 10 = .ok (.goto 10, 3) := by decide +kernel
theorem dX8_cellOf_13 : decode cX8_cellOf 13 = .ok (.iload_n 1, 1) := by decide +kernel
theorem dX8_cellOf_14 : decode cX8_cellOf 14 = .ok (.iconst 3, 1) := by decide +kernel
theorem dX8_cellOf_15 : decode cX8_cellOf 15 = .ok (.imul, 1) := by decide +kernel
theorem dX8_cellOf_16 : decode cX8_cellOf 16 = .ok (.iload_n 0, 1) := by decide +kernel
theorem dX8_cellOf_17 : decode cX8_cellOf 17 = .ok (.iadd, 1) := by decide +kernel
theorem dX8_cellOf_18 : decode cX8_cellOf 18 = .ok (.iconst 3, 1) := by decide +kernel
theorem dX8_cellOf_19 : decode cX8_cellOf 19 = .ok (.isub, 1) := by decide +kernel
theorem dX8_cellOf_20 : decode cX8_cellOf 20 = .ok (.ireturn, 1) := by decide +kernel
theorem dX8_cellsOf_0 : decode cX8_cellsOf 0 = .ok (.iconst 0, 1) := by decide +kernel
theorem dX8_cellsOf_1 : decode cX8_cellsOf 1 = .ok (.istore_n 1, 1) := by decide +kernel
theorem dX8_cellsOf_2 : decode cX8_cellsOf 2 = .ok (.iconst 0, 1) := by decide +kernel
theorem dX8_cellsOf_3 : decode cX8_cellsOf 3 = .ok (.istore_n 2, 1) := by decide +kernel
theorem dX8_cellsOf_4 : decode cX8_cellsOf 4 = .ok (.iload_n 2, 1) := by decide +kernel
theorem dX8_cellsOf_5 : decode cX8_cellsOf 5 = .ok (.iconst 3, 1) := by decide +kernel
theorem dX8_cellsOf_6 : decode cX8_cellsOf 6 = .ok (.if_icmp .ge 19, 3) := by decide +kernel
theorem dX8_cellsOf_9 : decode cX8_cellsOf 9 = .ok (.iload_n 1, 1) := by decide +kernel
theorem dX8_cellsOf_10 : decode cX8_cellsOf 10 = .ok (.iconst 1, 1) := by decide +kernel
theorem dX8_cellsOf_11 : decode cX8_cellsOf 11 = .ok (.iload_n 0, 1) := by decide +kernel
theorem dX8_cellsOf_12 : decode cX8_cellsOf 12 = .ok (.iload_n 2, 1) := by decide +kernel
theorem dX8_cellsOf_13 : decode cX8_cellsOf 13 = .ok (.invokestatic 345, 3) := by decide +kernel
theorem dX8_cellsOf_16 : decode cX8_cellsOf 16 = .ok (.ishl, 1) := by decide +kernel
theorem dX8_cellsOf_17 : decode cX8_cellsOf 17 = .ok (.ior, 1) := by decide +kernel
theorem dX8_cellsOf_18 : decode cX8_cellsOf 18 = .ok (.istore_n 1, 1) := by decide +kernel
theorem dX8_cellsOf_19 : decode cX8_cellsOf 19 = .ok (.iinc 2 1, 3) := by decide +kernel
theorem dX8_cellsOf_22 : decode cX8_cellsOf 22 = .ok (.goto (-18), 3) := by decide +kernel
theorem dX8_cellsOf_25 : decode cX8_cellsOf 25 = .ok (.iload_n 1, 1) := by decide +kernel
theorem dX8_cellsOf_26 : decode cX8_cellsOf 26 = .ok (.ireturn, 1) := by decide +kernel
theorem dX8_becomeRight_0 : decode cX8_becomeRight 0 = .ok (.aload_n 0, 1) := by decide +kernel
theorem dX8_becomeRight_1 : decode cX8_becomeRight 1 = .ok (.getfield 52, 3) := by decide +kernel
theorem dX8_becomeRight_4 : decode cX8_becomeRight 4 = .ok (.iload_n 1, 1) := by decide +kernel
theorem dX8_becomeRight_5 : decode cX8_becomeRight 5 = .ok (.iload_n 2, 1) := by decide +kernel
theorem dX8_becomeRight_6 : decode cX8_becomeRight 6 = .ok (.iload_n 3, 1) := by decide +kernel
theorem dX8_becomeRight_7 : decode cX8_becomeRight 7 = .ok (.aload_n 0, 1) := by decide +kernel
theorem dX8_becomeRight_8 : decode cX8_becomeRight 8 = .ok (.getfield 190, 3) := by decide +kernel
theorem dX8_becomeRight_11 : decode cX8_becomeRight 11 = .ok (.invokevirtual 270, 3) := by decide +kernel
theorem dX8_becomeRight_14 : decode cX8_becomeRight 14 = .ok (.aload_n 0, 1) := by decide +kernel
theorem dX8_becomeRight_15 : decode cX8_becomeRight 15 = .ok (.getfield 45, 3) := by decide +kernel
theorem dX8_becomeRight_18 : decode cX8_becomeRight 18 = .ok (.iload_n 1, 1) := by decide +kernel
theorem dX8_becomeRight_19 : decode cX8_becomeRight 19 = .ok (.aaload, 1) := by decide +kernel
theorem dX8_becomeRight_20 : decode cX8_becomeRight 20 = .ok (.invokevirtual 282, 3) := by decide +kernel
theorem dX8_becomeRight_23 : decode cX8_becomeRight 23 = .ok (.iload_n 2, 1) := by decide +kernel
theorem dX8_becomeRight_24 : decode cX8_becomeRight 24 = .ok (.iload_n 3, 1) := by decide +kernel
theorem dX8_becomeRight_25 : decode cX8_becomeRight 25 = .ok (.aload_n 0, 1) := by decide +kernel
theorem dX8_becomeRight_26 : decode cX8_becomeRight 26 = .ok (.getfield 190, 3) := by decide +kernel
theorem dX8_becomeRight_29 : decode cX8_becomeRight 29 = .ok (.invokevirtual 348, 3) := by decide +kernel
theorem dX8_becomeRight_32 : decode cX8_becomeRight 32 = .ok (.aload_n 0, 1) := by decide +kernel
theorem dX8_becomeRight_33 : decode cX8_becomeRight 33 = .ok (.iload_n 1, 1) := by decide +kernel
theorem dX8_becomeRight_34 : decode cX8_becomeRight 34 = .ok (.iload_n 2, 1) := by decide +kernel
theorem dX8_becomeRight_35 : decode cX8_becomeRight 35 = .ok (.invokevirtual 279, 3) := by decide +kernel
theorem dX8_becomeRight_38 : decode cX8_becomeRight 38 = .ok (.return_, 1) := by decide +kernel
theorem dX8_countIfSolved_0 : decode cX8_countIfSolved 0 = .ok (.aload_n 0, 1) := by decide +kernel
theorem dX8_countIfSolved_1 : decode cX8_countIfSolved 1 = .ok (.getfield 39, 3) := by decide +kernel
theorem dX8_countIfSolved_4 : decode cX8_countIfSolved 4 = .ok (.iload_n 2, 1) := by decide +kernel
theorem dX8_countIfSolved_5 : decode cX8_countIfSolved 5 = .ok (.aaload, 1) := by decide +kernel
theorem dX8_countIfSolved_6 : decode cX8_countIfSolved 6 = .ok (.astore_n 3, 1) := by decide +kernel
theorem dX8_countIfSolved_7 : decode cX8_countIfSolved 7 = .ok (.aload_n 0, 1) := by decide +kernel
theorem dX8_countIfSolved_8 : decode cX8_countIfSolved 8 = .ok (.getfield 45, 3) := by decide +kernel
theorem dX8_countIfSolved_11 : decode cX8_countIfSolved 11 = .ok (.iload_n 1, 1) := by decide +kernel
theorem dX8_countIfSolved_12 : decode cX8_countIfSolved 12 = .ok (.aaload, 1) := by decide +kernel
theorem dX8_countIfSolved_13 : decode cX8_countIfSolved 13 = .ok (.invokevirtual 282, 3) := by decide +kernel
theorem dX8_countIfSolved_16 : decode cX8_countIfSolved 16 = .ok (.iload_n 2, 1) := by decide +kernel
theorem dX8_countIfSolved_17 : decode cX8_countIfSolved 17 = .ok (.aload_n 3, 1) := by decide +kernel
theorem dX8_countIfSolved_18 : decode cX8_countIfSolved 18 = .ok (.invokevirtual 264, 3) := by decide +kernel
theorem dX8_countIfSolved_21 : decode cX8_countIfSolved 21 = .ok (.aload_n 3, 1) := by decide +kernel
theorem dX8_countIfSolved_22 : decode cX8_countIfSolved 22 = .ok (.invokevirtual 286, 3) := by decide +kernel
theorem dX8_countIfSolved_25 : decode cX8_countIfSolved 25 = .ok (.invokevirtual 351, 3) := by decide +kernel
theorem dX8_countIfSolved_28 : decode cX8_countIfSolved 28 = .ok (.return_, 1) := by decide +kernel
theorem dX8_keptStreak_0 : decode cX8_keptStreak 0 = .ok (.aload_n 0, 1) := by decide +kernel
theorem dX8_keptStreak_1 : decode cX8_keptStreak 1 = .ok (.getfield 45, 3) := by decide +kernel
theorem dX8_keptStreak_4 : decode cX8_keptStreak 4 = .ok (.iload_n 1, 1) := by decide +kernel
theorem dX8_keptStreak_5 : decode cX8_keptStreak 5 = .ok (.aaload, 1) := by decide +kernel
theorem dX8_keptStreak_6 : decode cX8_keptStreak 6 = .ok (.invokevirtual 282, 3) := by decide +kernel
theorem dX8_keptStreak_9 : decode cX8_keptStreak 9 = .ok (.aload_n 0, 1) := by decide +kernel
theorem dX8_keptStreak_10 : decode cX8_keptStreak 10 = .ok (.getfield 190, 3) := by decide +kernel
theorem dX8_keptStreak_13 : decode cX8_keptStreak 13 = .ok (.invokevirtual 312, 3) := by decide +kernel
theorem dX8_keptStreak_16 : decode cX8_keptStreak 16 = .ok (.ireturn, 1) := by decide +kernel
theorem dX8_replay_0 : decode cX8_replay 0 = .ok (.aload_n 0, 1) := by decide +kernel
theorem dX8_replay_1 : decode cX8_replay 1 = .ok (.getfield 52, 3) := by decide +kernel
theorem dX8_replay_4 : decode cX8_replay 4 = .ok (.iload_n 1, 1) := by decide +kernel
theorem dX8_replay_5 : decode cX8_replay 5 = .ok (.invokevirtual 353, 3) := by decide +kernel
theorem dX8_replay_8 : decode cX8_replay 8 = .ok (.istore_n 3, 1) := by decide +kernel
theorem dX8_replay_9 : decode cX8_replay 9 = .ok (.aload_n 0, 1) := by decide +kernel
theorem dX8_replay_10 : decode cX8_replay 10 = .ok (.getfield 52, 3) := by decide +kernel
theorem dX8_replay_13 : decode cX8_replay 13 = .ok (.iload_n 1, 1) := by decide +kernel
theorem dX8_replay_14 : decode cX8_replay 14 = .ok (.invokevirtual 356, 3) := by decide +kernel
theorem dX8_replay_17 : decode cX8_replay 17 = .ok (.iconst (-1), 1) := by decide +kernel
theorem dX8_replay_18 : decode cX8_replay 18 = .ok (.if_icmp .ne 26, 3) := by decide +kernel
theorem dX8_replay_21 : decode cX8_replay 21 = .ok (.aload_n 0, 1) := by decide +kernel
theorem dX8_replay_22 : decode cX8_replay 22 = .ok (.getfield 63, 3) := by decide +kernel
theorem dX8_replay_25 : decode cX8_replay 25 = .ok (.iload_n 3, 1) := by decide +kernel
theorem dX8_replay_26 : decode cX8_replay 26 = .ok (.dup2, 1) := by decide +kernel
theorem dX8_replay_27 : decode cX8_replay 27 = .ok (.iaload, 1) := by decide +kernel
theorem dX8_replay_28 : decode cX8_replay 28 = .ok (.aload_n 0, 1) := by decide +kernel
theorem dX8_replay_29 : decode cX8_replay 29 = .ok (.getfield 52, 3) := by decide +kernel
theorem dX8_replay_32 : decode cX8_replay 32 = .ok (.iload_n 1, 1) := by decide +kernel
theorem dX8_replay_33 : decode cX8_replay 33 = .ok (.invokevirtual 359, 3) := by decide +kernel
theorem dX8_replay_36 : decode cX8_replay 36 = .ok (.invokestatic 261, 3) := by decide +kernel
theorem dX8_replay_39 : decode cX8_replay 39 = .ok (.ior, 1) := by decide +kernel
theorem dX8_replay_40 : decode cX8_replay 40 = .ok (.iastore, 1) := by decide +kernel
theorem dX8_replay_41 : decode cX8_replay 41 = .ok (.goto 43, 3) := by decide +kernel
theorem dX8_replay_44 : decode cX8_replay 44 = .ok (.aload_n 0, 1) := by decide +kernel
theorem dX8_replay_45 : decode cX8_replay 45 = .ok (.getfield 52, 3) := by decide +kernel
theorem dX8_replay_48 : decode cX8_replay 48 = .ok (.iload_n 1, 1) := by decide +kernel
theorem dX8_replay_49 : decode cX8_replay 49 = .ok (.invokevirtual 356, 3) := by decide +kernel
theorem dX8_replay_52 : decode cX8_replay 52 = .ok (.iload_n 2, 1) := by decide +kernel
theorem dX8_replay_53 : decode cX8_replay 53 = .ok (.if_icmp .ne 30, 3) := by decide +kernel
theorem dX8_replay_56 : decode cX8_replay 56 = .ok (.aload_n 0, 1) := by decide +kernel
theorem dX8_replay_57 : decode cX8_replay 57 = .ok (.getfield 59, 3) := by decide +kernel
theorem dX8_replay_60 : decode cX8_replay 60 = .ok (.iload_n 3, 1) := by decide +kernel
theorem dX8_replay_61 : decode cX8_replay 61 = .ok (.aload_n 0, 1) := by decide +kernel
theorem dX8_replay_62 : decode cX8_replay 62 = .ok (.getfield 52, 3) := by decide +kernel
theorem dX8_replay_65 : decode cX8_replay 65 = .ok (.iload_n 1, 1) := by decide +kernel
theorem dX8_replay_66 : decode cX8_replay 66 = .ok (.invokevirtual 359, 3) := by decide +kernel
theorem dX8_replay_69 : decode cX8_replay 69 = .ok (.aload_n 0, 1) := by decide +kernel
theorem dX8_replay_70 : decode cX8_replay 70 = .ok (.getfield 52, 3) := by decide +kernel
theorem dX8_replay_73 : decode cX8_replay 73 = .ok (.iload_n 1, 1) := by decide +kernel
theorem dX8_replay_74 : decode cX8_replay 74 = .ok (.invokevirtual 362, 3) := by decide +kernel
theorem dX8_replay_77 : decode cX8_replay 77 = .ok (.invokevirtual 348, 3) := by decide +kernel
theorem dX8_replay_80 : decode cX8_replay 80 = .ok (.goto 4, 3) := by decide +kernel
theorem dX8_replay_83 : decode cX8_replay 83 = .ok (.return_, 1) := by decide +kernel
theorem dX8_replay_84 : decode cX8_replay 84 = .ok (.aload_n 0, 1) := by decide +kernel
theorem dX8_replay_85 : decode cX8_replay 85 = .ok (.getfield 59, 3) := by decide +kernel
theorem dX8_replay_88 : decode cX8_replay 88 = .ok (.iload_n 3, 1) := by decide +kernel
theorem dX8_replay_89 : decode cX8_replay 89 = .ok (.aload_n 0, 1) := by decide +kernel
theorem dX8_replay_90 : decode cX8_replay 90 = .ok (.getfield 63, 3) := by decide +kernel
theorem dX8_replay_93 : decode cX8_replay 93 = .ok (.iload_n 3, 1) := by decide +kernel
theorem dX8_replay_94 : decode cX8_replay 94 = .ok (.iaload, 1) := by decide +kernel
theorem dX8_replay_95 : decode cX8_replay 95 = .ok (.aload_n 0, 1) := by decide +kernel
theorem dX8_replay_96 : decode cX8_replay 96 = .ok (.getfield 39, 3) := by decide +kernel
theorem dX8_replay_99 : decode cX8_replay 99 = .ok (.iload_n 3, 1) := by decide +kernel
theorem dX8_replay_100 : decode cX8_replay 100 = .ok (.aaload, 1) := by decide +kernel
theorem dX8_replay_101 : decode cX8_replay 101 = .ok (.invokevirtual 286, 3) := by decide +kernel
theorem dX8_replay_104 : decode cX8_replay 104 = .ok (.invokevirtual 351, 3) := by decide +kernel
theorem dX8_replay_107 : decode cX8_replay 107 = .ok (.return_, 1) := by decide +kernel
theorem dX8_rank_0 : decode cX8_rank 0 = .ok (.iconst 0, 1) := by decide +kernel
theorem dX8_rank_1 : decode cX8_rank 1 = .ok (.istore_n 2, 1) := by decide +kernel
theorem dX8_rank_2 : decode cX8_rank 2 = .ok (.iconst 0, 1) := by decide +kernel
theorem dX8_rank_3 : decode cX8_rank 3 = .ok (.istore_n 3, 1) := by decide +kernel
theorem dX8_rank_4 : decode cX8_rank 4 = .ok (.iload_n 3, 1) := by decide +kernel
theorem dX8_rank_5 : decode cX8_rank 5 = .ok (.aload_n 0, 1) := by decide +kernel
theorem dX8_rank_6 : decode cX8_rank 6 = .ok (.getfield 228, 3) := by decide +kernel
theorem dX8_rank_9 : decode cX8_rank 9 = .ok (.if_icmp .ge 26, 3) := by decide +kernel
theorem dX8_rank_12 : decode cX8_rank 12 = .ok (.iload_n 3, 1) := by decide +kernel
theorem dX8_rank_13 : decode cX8_rank 13 = .ok (.iload_n 1, 1) := by decide +kernel
theorem dX8_rank_14 : decode cX8_rank 14 = .ok (.if_icmp .eq 15, 3) := by decide +kernel
theorem dX8_rank_17 : decode cX8_rank 17 = .ok (.aload_n 0, 1) := by decide +kernel
theorem dX8_rank_18 : decode cX8_rank 18 = .ok (.iload_n 3, 1) := by decide +kernel
theorem dX8_rank_19 : decode cX8_rank 19 = .ok (.iload_n 1, 1) := by decide +kernel
theorem dX8_rank_20 : decode cX8_rank 20 = .ok (.invokevirtual 365, 3) := by decide +kernel
theorem dX8_rank_23 : decode cX8_rank 23 = .ok (.ifCond .eq 6, 3) := by decide +kernel
theorem dX8_rank_26 : decode cX8_rank 26 = .ok (.iinc 2 1, 3) := by decide +kernel
theorem dX8_rank_29 : decode cX8_rank 29 = .ok (.iinc 3 1, 3) := by decide +kernel
theorem dX8_rank_32 : decode cX8_rank 32 = .ok (.goto (-28), 3) := by decide +kernel
theorem dX8_rank_35 : decode cX8_rank 35 = .ok (.iload_n 2, 1) := by decide +kernel
theorem dX8_rank_36 : decode cX8_rank 36 = .ok (.ireturn, 1) := by decide +kernel
theorem dX8_isAhead_0 : decode cX8_isAhead 0 = .ok (.aload_n 0, 1) := by decide +kernel
theorem dX8_isAhead_1 : decode cX8_isAhead 1 = .ok (.iload_n 1, 1) := by decide +kernel
theorem dX8_isAhead_2 : decode cX8_isAhead 2 = .ok (.invokevirtual 273, 3) := by decide +kernel
theorem dX8_isAhead_5 : decode cX8_isAhead 5 = .ok (.istore_n 3, 1) := by decide +kernel
theorem dX8_isAhead_6 : decode cX8_isAhead 6 = .ok (.aload_n 0, 1) := by decide +kernel
theorem dX8_isAhead_7 : decode cX8_isAhead 7 = .ok (.iload_n 2, 1) := by decide +kernel
theorem dX8_isAhead_8 : decode cX8_isAhead 8 = .ok (.invokevirtual 273, 3) := by decide +kernel
theorem dX8_isAhead_11 : decode cX8_isAhead 11 = .ok (.istore 4, 2) := by decide +kernel
theorem dX8_isAhead_13 : decode cX8_isAhead 13 = .ok (.iload_n 3, 1) := by decide +kernel
theorem dX8_isAhead_14 : decode cX8_isAhead 14 = .ok (.iload 4, 2) := by decide +kernel
theorem dX8_isAhead_16 : decode cX8_isAhead 16 = .ok (.if_icmp .eq 15, 3) := by decide +kernel
theorem dX8_isAhead_19 : decode cX8_isAhead 19 = .ok (.iload_n 3, 1) := by decide +kernel
theorem dX8_isAhead_20 : decode cX8_isAhead 20 = .ok (.iload 4, 2) := by decide +kernel
theorem dX8_isAhead_22 : decode cX8_isAhead 22 = .ok (.if_icmp .le 7, 3) := by decide +kernel
theorem dX8_isAhead_25 : decode cX8_isAhead 25 = .ok (.iconst 1, 1) := by decide +kernel
theorem dX8_isAhead_26 : decode cX8_isAhead 26 = .ok (.goto 4, 3) := by decide +kernel
theorem dX8_isAhead_29 : decode cX8_isAhead 29 = .ok (.iconst 0, 1) := by decide +kernel
theorem dX8_isAhead_30 : decode cX8_isAhead 30 = .ok (.ireturn, 1) := by decide +kernel
theorem dX8_isAhead_31 : decode cX8_isAhead 31 = .ok (.aload_n 0, 1) := by decide +kernel
theorem dX8_isAhead_32 : decode cX8_isAhead 32 = .ok (.getfield 45, 3) := by decide +kernel
theorem dX8_isAhead_35 : decode cX8_isAhead 35 = .ok (.iload_n 1, 1) := by decide +kernel
theorem dX8_isAhead_36 : decode cX8_isAhead 36 = .ok (.aaload, 1) := by decide +kernel
theorem dX8_isAhead_37 : decode cX8_isAhead 37 = .ok (.invokevirtual 293, 3) := by decide +kernel
theorem dX8_isAhead_40 : decode cX8_isAhead 40 = .ok (.istore 5, 2) := by decide +kernel
theorem dX8_isAhead_42 : decode cX8_isAhead 42 = .ok (.aload_n 0, 1) := by decide +kernel
theorem dX8_isAhead_43 : decode cX8_isAhead 43 = .ok (.getfield 45, 3) := by decide +kernel
theorem dX8_isAhead_46 : decode cX8_isAhead 46 = .ok (.iload_n 2, 1) := by decide +kernel
theorem dX8_isAhead_47 : decode cX8_isAhead 47 = .ok (.aaload, 1) := by decide +kernel
theorem dX8_isAhead_48 : decode cX8_isAhead 48 = .ok (.invokevirtual 293, 3) := by decide +kernel
theorem dX8_isAhead_51 : decode cX8_isAhead 51 = .ok (.istore 6, 2) := by decide +kernel
theorem dX8_isAhead_53 : decode cX8_isAhead 53 = .ok (.iload 5, 2) := by decide +kernel
theorem dX8_isAhead_55 : decode cX8_isAhead 55 = .ok (.iload 6, 2) := by decide +kernel
theorem dX8_isAhead_57 : decode cX8_isAhead 57 = .ok (.if_icmp .eq 18, 3) := by decide +kernel
theorem dX8_isAhead_60 : decode cX8_isAhead 60 = .ok (.iload 5, 2) := by decide +kernel
theorem dX8_isAhead_62 : decode cX8_isAhead 62 = .ok (.iload 6, 2) := by decide +kernel
theorem dX8_isAhead_64 : decode cX8_isAhead 64 = .ok (.if_icmp .le 7, 3) := by decide +kernel
theorem dX8_isAhead_67 : decode cX8_isAhead 67 = .ok (.iconst 1, 1) := by decide +kernel
theorem dX8_isAhead_68 : decode cX8_isAhead 68 = .ok (.goto 17, 3) := by decide +kernel
theorem dX8_isAhead_71 : decode cX8_isAhead 71 = .ok (.iconst 0, 1) := by decide +kernel
theorem dX8_isAhead_72 : decode cX8_isAhead 72 = .ok (.goto 13, 3) := by decide +kernel
theorem dX8_isAhead_75 : decode cX8_isAhead 75 = .ok (.iload_n 1, 1) := by decide +kernel
theorem dX8_isAhead_76 : decode cX8_isAhead 76 = .ok (.iload_n 2, 1) := by decide +kernel
theorem dX8_isAhead_77 : decode cX8_isAhead 77 = .ok (.if_icmp .ge 7, 3) := by decide +kernel
theorem dX8_isAhead_80 : decode cX8_isAhead 80 = .ok (.iconst 1, 1) := by decide +kernel
theorem dX8_isAhead_81 : decode cX8_isAhead 81 = .ok (.goto 4, 3) := by decide +kernel
theorem dX8_isAhead_84 : decode cX8_isAhead 84 = .ok (.iconst 0, 1) := by decide +kernel
theorem dX8_isAhead_85 : decode cX8_isAhead 85 = .ok (.ireturn, 1) := by decide +kernel
end
section
theorem dX9_init_0 : decode cX9_init 0 = .ok (.aload_n 0, 1) := by decide +kernel
theorem dX9_init_1 : decode cX9_init 1 = .ok (.invokespecial 1, 3) := by decide +kernel
theorem dX9_init_4 : decode cX9_init 4 = .ok (.aload_n 0, 1) := by decide +kernel
theorem dX9_init_5 : decode cX9_init 5 = .ok (.iconst 3, 1) := by decide +kernel
theorem dX9_init_6 : decode cX9_init 6 = .ok (.newarray .int, 2) := by decide +kernel
theorem dX9_init_8 : decode cX9_init 8 = .ok (.putfield 7, 3) := by decide +kernel
theorem dX9_init_11 : decode cX9_init 11 = .ok (.aload_n 0, 1) := by decide +kernel
theorem dX9_init_12 : decode cX9_init 12 = .ok (.sipush 729, 3) := by decide +kernel
theorem dX9_init_15 : decode cX9_init 15 = .ok (.newarray .int, 2) := by decide +kernel
theorem dX9_init_17 : decode cX9_init 17 = .ok (.putfield 13, 3) := by decide +kernel
theorem dX9_init_20 : decode cX9_init 20 = .ok (.aload_n 0, 1) := by decide +kernel
theorem dX9_init_21 : decode cX9_init 21 = .ok (.bipush 30, 2) := by decide +kernel
theorem dX9_init_23 : decode cX9_init 23 = .ok (.newarray .int, 2) := by decide +kernel
theorem dX9_init_25 : decode cX9_init 25 = .ok (.putfield 16, 3) := by decide +kernel
theorem dX9_init_28 : decode cX9_init 28 = .ok (.aload_n 0, 1) := by decide +kernel
theorem dX9_init_29 : decode cX9_init 29 = .ok (.bipush 30, 2) := by decide +kernel
theorem dX9_init_31 : decode cX9_init 31 = .ok (.newarray .int, 2) := by decide +kernel
theorem dX9_init_33 : decode cX9_init 33 = .ok (.putfield 19, 3) := by decide +kernel
theorem dX9_init_36 : decode cX9_init 36 = .ok (.aload_n 0, 1) := by decide +kernel
theorem dX9_init_37 : decode cX9_init 37 = .ok (.bipush 30, 2) := by decide +kernel
theorem dX9_init_39 : decode cX9_init 39 = .ok (.newarray .int, 2) := by decide +kernel
theorem dX9_init_41 : decode cX9_init 41 = .ok (.putfield 22, 3) := by decide +kernel
theorem dX9_init_44 : decode cX9_init 44 = .ok (.aload_n 0, 1) := by decide +kernel
theorem dX9_init_45 : decode cX9_init 45 = .ok (.bipush 9, 2) := by decide +kernel
theorem dX9_init_47 : decode cX9_init 47 = .ok (.newarray .int, 2) := by decide +kernel
theorem dX9_init_49 : decode cX9_init 49 = .ok (.putfield 25, 3) := by decide +kernel
theorem dX9_init_52 : decode cX9_init 52 = .ok (.aload_n 0, 1) := by decide +kernel
theorem dX9_init_53 : decode cX9_init 53 = .ok (.iconst 3, 1) := by decide +kernel
theorem dX9_init_54 : decode cX9_init 54 = .ok (.newarray .int, 2) := by decide +kernel
theorem dX9_init_56 : decode cX9_init 56 = .ok (.putfield 28, 3) := by decide +kernel
theorem dX9_init_59 : decode cX9_init 59 = .ok (.aload_n 0, 1) := by decide +kernel
theorem dX9_init_60 : decode cX9_init 60 = .ok (.bipush 60, 2) := by decide +kernel
theorem dX9_init_62 : decode cX9_init 62 = .ok (.newarray .int, 2) := by decide +kernel
theorem dX9_init_64 : decode cX9_init 64 = .ok (.putfield 31, 3) := by decide +kernel
theorem dX9_init_67 : decode cX9_init 67 = .ok (.aload_n 0, 1) := by decide +kernel
theorem dX9_init_68 : decode cX9_init 68 = .ok (.bipush 60, 2) := by decide +kernel
theorem dX9_init_70 : decode cX9_init 70 = .ok (.newarray .int, 2) := by decide +kernel
theorem dX9_init_72 : decode cX9_init 72 = .ok (.putfield 34, 3) := by decide +kernel
theorem dX9_init_75 : decode cX9_init 75 = .ok (.aload_n 0, 1) := by decide +kernel
theorem dX9_init_76 : decode cX9_init 76 = .ok (.bipush 60, 2) := by decide +kernel
theorem dX9_init_78 : decode cX9_init 78 = .ok (.newarray .int, 2) := by decide +kernel
theorem dX9_init_80 : decode cX9_init 80 = .ok (.putfield 37, 3) := by decide +kernel
theorem dX9_init_83 : decode cX9_init 83 = .ok (.aload_n 0, 1) := by decide +kernel
theorem dX9_init_84 : decode cX9_init 84 = .ok (.bipush 20, 2) := by decide +kernel
theorem dX9_init_86 : decode cX9_init 86 = .ok (.newarray .int, 2) := by decide +kernel
theorem dX9_init_88 : decode cX9_init 88 = .ok (.putfield 40, 3) := by decide +kernel
theorem dX9_init_91 : decode cX9_init 91 = .ok (.aload_n 0, 1) := by decide +kernel
theorem dX9_init_92 : decode cX9_init 92 = .ok (.sipush 180, 3) := by decide +kernel
theorem dX9_init_95 : decode cX9_init 95 = .ok (.newarray .int, 2) := by decide +kernel
theorem dX9_init_97 : decode cX9_init 97 = .ok (.putfield 43, 3) := by decide +kernel
theorem dX9_init_100 : decode cX9_init 100 = .ok (.aload_n 0, 1) := by decide +kernel
theorem dX9_init_101 : decode cX9_init 101 = .ok (.bipush 120, 2) := by decide +kernel
theorem dX9_init_103 : decode cX9_init 103 = .ok (.newarray .int, 2) := by decide +kernel
theorem dX9_init_105 : decode cX9_init 105 = .ok (.putfield 46, 3) := by decide +kernel
theorem dX9_init_108 : decode cX9_init 108 = .ok (.aload_n 0, 1) := by decide +kernel
theorem dX9_init_109 : decode cX9_init 109 = .ok (.bipush 20, 2) := by decide +kernel
theorem dX9_init_111 : decode cX9_init 111 = .ok (.newarray .int, 2) := by decide +kernel
theorem dX9_init_113 : decode cX9_init 113 = .ok (.putfield 49, 3) := by decide +kernel
theorem dX9_init_116 : decode cX9_init 116 = .ok (.aload_n 0, 1) := by decide +kernel
theorem dX9_init_117 : decode cX9_init 117 = .ok (.bipush 6, 2) := by decide +kernel
theorem dX9_init_119 : decode cX9_init 119 = .ok (.newarray .int, 2) := by decide +kernel
theorem dX9_init_121 : decode cX9_init 121 = .ok (.putfield 52, 3) := by decide +kernel
theorem dX9_init_124 : decode cX9_init 124 = .ok (.aload_n 0, 1) := by decide +kernel
theorem dX9_init_125 : decode cX9_init 125 = .ok (.bipush 6, 2) := by decide +kernel
theorem dX9_init_127 : decode cX9_init 127 = .ok (.newarray .int, 2) := by decide +kernel
theorem dX9_init_129 : decode cX9_init 129 = .ok (.putfield 55, 3) := by decide +kernel
theorem dX9_init_132 : decode cX9_init 132 = .ok (.aload_n 0, 1) := by decide +kernel
theorem dX9_init_133 : decode cX9_init 133 = .ok (.bipush 6, 2) := by decide +kernel
theorem dX9_init_135 : decode cX9_init 135 = .ok (.newarray .int, 2) := by decide +kernel
theorem dX9_init_137 : decode cX9_init 137 = .ok (.putfield 58, 3) := by decide +kernel
theorem dX9_init_140 : decode cX9_init 140 = .ok (.aload_n 0, 1) := by decide +kernel
theorem dX9_init_141 : decode cX9_init 141 = .ok (.sipush 1080, 3) := by decide +kernel
theorem dX9_init_144 : decode cX9_init 144 = .ok (.newarray .int, 2) := by decide +kernel
theorem dX9_init_146 : decode cX9_init 146 = .ok (.putfield 61, 3) := by decide +kernel
theorem dX9_init_149 : decode cX9_init 149 = .ok (.aload_n 0, 1) := by decide +kernel
theorem dX9_init_150 : decode cX9_init 150 = .ok (.sipush 1080, 3) := by decide +kernel
theorem dX9_init_153 : decode cX9_init 153 = .ok (.newarray .int, 2) := by decide +kernel
theorem dX9_init_155 : decode cX9_init 155 = .ok (.putfield 64, 3) := by decide +kernel
theorem dX9_init_158 : decode cX9_init 158 = .ok (.aload_n 0, 1) := by decide +kernel
theorem dX9_init_159 : decode cX9_init 159 = .ok (.bipush 120, 2) := by decide +kernel
theorem dX9_init_161 : decode cX9_init 161 = .ok (.newarray .int, 2) := by decide +kernel
theorem dX9_init_163 : decode cX9_init 163 = .ok (.putfield 67, 3) := by decide +kernel
theorem dX9_init_166 : decode cX9_init 166 = .ok (.aload_n 0, 1) := by decide +kernel
theorem dX9_init_167 : decode cX9_init 167 = .ok (.sipush 7560, 3) := by decide +kernel
theorem dX9_init_170 : decode cX9_init 170 = .ok (.newarray .int, 2) := by decide +kernel
theorem dX9_init_172 : decode cX9_init 172 = .ok (.putfield 70, 3) := by decide +kernel
theorem dX9_init_175 : decode cX9_init 175 = .ok (.return_, 1) := by decide +kernel
theorem dX9_thrown_0 : decode cX9_thrown 0 = .ok (.aload_n 0, 1) := by decide +kernel
theorem dX9_thrown_1 : decode cX9_thrown 1 = .ok (.getfield 73, 3) := by decide +kernel
theorem dX9_thrown_4 : decode cX9_thrown 4 = .ok (.ireturn, 1) := by decide +kernel
theorem dX9_fails_0 : decode cX9_fails 0 = .ok (.aload_n 0, 1) := by decide +kernel
theorem dX9_fails_1 : decode cX9_fails 1 = .ok (.iload_n 1, 1) := by decide +kernel
theorem dX9_fails_2 : decode cX9_fails 2 = .ok (.putfield 73, 3) := by decide +kernel
theorem dX9_fails_5 : decode cX9_fails 5 = .ok (.iconst 0, 1) := by decide +kernel
theorem dX9_fails_6 : decode cX9_fails 6 = .ok (.ireturn, 1) := by decide +kernel
theorem dX9_in_0 : decode cX9_in 0 = .ok (.iload_n 0, 1) := by decide +kernel
theorem dX9_in_1 : decode cX9_in 1 = .ok (.iload_n 1, 1) := by decide +kernel
theorem dX9_in_2 : decode cX9_in 2 = .ok (.if_icmp .lt 12, 3) := by decide +kernel
theorem dX9_in_5 : decode cX9_in 5 = .ok (.iload_n 0, 1) := by decide +kernel
theorem dX9_in_6 : decode cX9_in 6 = .ok (.iload_n 2, 1) := by decide +kernel
theorem dX9_in_7 : decode cX9_in 7 = .ok (.if_icmp .gt 7, 3) := by decide +kernel
theorem dX9_in_10 : decode cX9_in 10 = .ok (.iconst 1, 1) := by decide +kernel
theorem dX9_in_11 : decode cX9_in 11 = .ok (.goto 4, 3) := by decide +kernel
theorem dX9_in_14 : decode cX9_in 14 = .ok (.iconst 0, 1) := by decide +kernel
theorem dX9_in_15 : decode cX9_in 15 = .ok (.ireturn, 1) := by decide +kernel
theorem dX9_chars_0 : decode cX9_chars 0 = .ok (.aload_n 0, 1) := by decide +kernel
theorem dX9_chars_1 : decode cX9_chars 1 = .ok (.getfield 77, 3) := by decide +kernel
theorem dX9_chars_4 : decode cX9_chars 4 = .ok (.istore_n 1, 1) := by decide +kernel
theorem dX9_chars_5 : decode cX9_chars 5 = .ok (.iconst 0, 1) := by decide +kernel
theorem dX9_chars_6 : decode cX9_chars 6 = .ok (.istore_n 2, 1) := by decide +kernel
theorem dX9_chars_7 : decode cX9_chars 7 = .ok (.iload_n 2, 1) := by decide +kernel
theorem dX9_chars_8 : decode cX9_chars 8 = .ok (.aload_n 0, 1) := by decide +kernel
theorem dX9_chars_9 : decode cX9_chars 9 = .ok (.getfield 77, 3) := by decide +kernel
theorem dX9_chars_12 : decode cX9_chars 12 = .ok (.if_icmp .ge 28, 3) := by decide +kernel
theorem dX9_chars_15 : decode cX9_chars 15 = .ok (.iload_n 1, 1) := by decide +kernel
theorem dX9_chars_16 : decode cX9_chars 16 = .ok (.aload_n 0, 1) := by decide +kernel
theorem dX9_chars_17 : decode cX9_chars 17 = .ok (.getfield 7, 3) := by decide +kernel
theorem dX9_chars_20 : decode cX9_chars 20 = .ok (.iload_n 2, 1) := by decide +kernel
theorem dX9_chars_21 : decode cX9_chars 21 = .ok (.iaload, 1) := by decide +kernel
theorem dX9_chars_22 : decode cX9_chars 22 = .ok (.bipush 8, 2) := by decide +kernel
theorem dX9_chars_24 : decode cX9_chars 24 = .ok (.if_icmp .ne 7, 3) := by decide +kernel
theorem dX9_chars_27 : decode cX9_chars 27 = .ok (.iconst 1, 1) := by decide +kernel
theorem dX9_chars_28 : decode cX9_chars 28 = .ok (.goto 4, 3) := by decide +kernel
theorem dX9_chars_31 : decode cX9_chars 31 = .ok (.iconst 0, 1) := by decide +kernel
theorem dX9_chars_32 : decode cX9_chars 32 = .ok (.iadd, 1) := by decide +kernel
theorem dX9_chars_33 : decode cX9_chars 33 = .ok (.istore_n 1, 1) := by decide +kernel
theorem dX9_chars_34 : decode cX9_chars 34 = .ok (.iinc 2 1, 3) := by decide +kernel
theorem dX9_chars_37 : decode cX9_chars 37 = .ok (.goto (-30), 3) := by decide +kernel
theorem dX9_chars_40 : decode cX9_chars 40 = .ok (.iload_n 1, 1) := by decide +kernel
theorem dX9_chars_41 : decode cX9_chars 41 = .ok (.ireturn, 1) := by decide +kernel
theorem dX9_canSpell_0 : decode cX9_canSpell 0 = .ok (.aload_n 0, 1) := by decide +kernel
theorem dX9_canSpell_1 : decode cX9_canSpell 1 = .ok (.iload_n 1, 1) := by decide +kernel
theorem dX9_canSpell_2 : decode cX9_canSpell 2 = .ok (.iconst 0, 1) := by decide +kernel
theorem dX9_canSpell_3 : decode cX9_canSpell 3 = .ok (.bipush 8, 2) := by decide +kernel
theorem dX9_canSpell_5 : decode cX9_canSpell 5 = .ok (.invokestatic 80, 3) := by decide +kernel
theorem dX9_canSpell_8 : decode cX9_canSpell 8 = .ok (.ifCond .ne 7, 3) := by decide +kernel
theorem dX9_canSpell_11 : decode cX9_canSpell 11 = .ok (.iconst 1, 1) := by decide +kernel
theorem dX9_canSpell_12 : decode cX9_canSpell 12 = .ok (.goto 16, 3) := by decide +kernel
theorem dX9_canSpell_15 : decode cX9_canSpell 15 = .ok (.aload_n 0, 1) := by decide +kernel
theorem dX9_canSpell_16 : decode cX9_canSpell 16 = .ok (.getfield 77, 3) := by decide +kernel
theorem dX9_canSpell_19 : decode cX9_canSpell 19 = .ok (.iconst 3, 1) := by decide +kernel
theorem dX9_canSpell_20 : decode cX9_canSpell 20 = .ok (.if_icmp .ne 7, 3) := by decide +kernel
theorem dX9_canSpell_23 : decode cX9_canSpell 23 = .ok (.iconst 2, 1) := by decide +kernel
theorem dX9_canSpell_24 : decode cX9_canSpell 24 = .ok (.goto 4, 3) := by decide +kernel
theorem dX9_canSpell_27 : decode cX9_canSpell 27 = .ok (.iconst 0, 1) := by decide +kernel
theorem dX9_canSpell_28 : decode cX9_canSpell 28 = .ok (.putfield 73, 3) := by decide +kernel
theorem dX9_canSpell_31 : decode cX9_canSpell 31 = .ok (.aload_n 0, 1) := by decide +kernel
theorem dX9_canSpell_32 : decode cX9_canSpell 32 = .ok (.getfield 73, 3) := by decide +kernel
theorem dX9_canSpell_35 : decode cX9_canSpell 35 = .ok (.ifCond .ne 7, 3) := by decide +kernel
theorem dX9_canSpell_38 : decode cX9_canSpell 38 = .ok (.iconst 1, 1) := by decide +kernel
theorem dX9_canSpell_39 : decode cX9_canSpell 39 = .ok (.goto 4, 3) := by decide +kernel
theorem dX9_canSpell_42 : decode cX9_canSpell 42 = .ok (.iconst 0, 1) := by decide +kernel
theorem dX9_canSpell_43 : decode cX9_canSpell 43 = .ok (.ireturn, 1) := by decide +kernel
theorem dX9_spell_0 : decode cX9_spell 0 = .ok (.aload_n 0, 1) := by decide +kernel
theorem dX9_spell_1 : decode cX9_spell 1 = .ok (.iload_n 1, 1) := by decide +kernel
theorem dX9_spell_2 : decode cX9_spell 2 = .ok (.invokevirtual 84, 3) := by decide +kernel
theorem dX9_spell_5 : decode cX9_spell 5 = .ok (.ifCond .ne 5, 3) := by decide +kernel
theorem dX9_spell_8 : decode cX9_spell 8 = .ok (.iconst 0, 1) := by decide +kernel
theorem dX9_spell_9 : decode cX9_spell 9 = .ok (.ireturn, 1) := by decide +kernel
theorem dX9_spell_10 : decode cX9_spell 10 = .ok (.aload_n 0, 1) := by decide +kernel
theorem dX9_spell_11 : decode cX9_spell 11 = .ok (.getfield 7, 3) := by decide +kernel
theorem dX9_spell_14 : decode cX9_spell 14 = .ok (.aload_n 0, 1) := by decide +kernel
theorem dX9_spell_15 : decode cX9_spell 15 = .ok (.getfield 77, 3) := by decide +kernel
theorem dX9_spell_18 : decode cX9_spell 18 = .ok (.iload_n 1, 1) := by decide +kernel
theorem dX9_spell_19 : decode cX9_spell 19 = .ok (.iastore, 1) := by decide +kernel
theorem dX9_spell_20 : decode cX9_spell 20 = .ok (.aload_n 0, 1) := by decide +kernel
theorem dX9_spell_21 : decode cX9_spell 21 = .ok (.dup, 1) := by decide +kernel
theorem dX9_spell_22 : decode cX9_spell 22 = .ok (.getfield 77, 3) := by decide +kernel
theorem dX9_spell_25 : decode cX9_spell 25 = .ok (.iconst 1, 1) := by decide +kernel
theorem dX9_spell_26 : decode cX9_spell 26 = .ok (.iadd, 1) := by decide +kernel
theorem dX9_spell_27 : decode cX9_spell 27 = .ok (.putfield 77, 3) := by decide +kernel
theorem dX9_spell_30 : decode cX9_spell 30 = .ok (.aload_n 0, 1) := by decide +kernel
theorem dX9_spell_31 : decode cX9_spell 31 = .ok (.invokevirtual 88, 3) := by decide +kernel
theorem dX9_spell_34 : decode cX9_spell 34 = .ok (.ireturn, 1) := by decide +kernel
theorem dX9_insert_0 : decode cX9_insert 0 = .ok (.aload_n 0, 1) := by decide +kernel
theorem dX9_insert_1 : decode cX9_insert 1 = .ok (.iload_n 1, 1) := by decide +kernel
theorem dX9_insert_2 : decode cX9_insert 2 = .ok (.invokevirtual 84, 3) := by decide +kernel
theorem dX9_insert_5 : decode cX9_insert 5 = .ok (.ifCond .ne 5, 3) := by decide +kernel
theorem dX9_insert_8 : decode cX9_insert 8 = .ok (.iconst 0, 1) := by decide +kernel
theorem dX9_insert_9 : decode cX9_insert 9 = .ok (.ireturn, 1) := by decide +kernel
theorem dX9_insert_10 : decode cX9_insert 10 = .ok (.aload_n 0, 1) := by decide +kernel
theorem dX9_insert_11 : decode cX9_insert 11 = .ok (.getfield 77, 3) := by decide +kernel
theorem dX9_insert_14 : decode cX9_insert 14 = .ok (.istore_n 2, 1) := by decide +kernel
theorem dX9_insert_15 : decode cX9_insert 15 = .ok (.iload_n 2, 1) := by decide +kernel
theorem dX9_insert_16 : decode cX9_insert 16 = .ok (.ifCond .le 23, 3) := by decide +kernel
theorem dX9_insert_19 : decode cX9_insert 19 = .ok (.aload_n 0, 1) := by decide +kernel
theorem dX9_insert_20 : decode cX9_insert 20 = .ok (.getfield 7, 3) := by decide +kernel
theorem dX9_insert_23 : decode cX9_insert 23 = .ok (.iload_n 2, 1) := by decide +kernel
theorem dX9_insert_24 : decode cX9_insert 24 = .ok (.aload_n 0, 1) := by decide +kernel
theorem dX9_insert_25 : decode cX9_insert 25 = .ok (.getfield 7, 3) := by decide +kernel
theorem dX9_insert_28 : decode cX9_insert 28 = .ok (.iload_n 2, 1) := by decide +kernel
theorem dX9_insert_29 : decode cX9_insert 29 = .ok (.iconst 1, 1) := by decide +kernel
theorem dX9_insert_30 : decode cX9_insert 30 = .ok (.isub, 1) := by decide +kernel
theorem dX9_insert_31 : decode cX9_insert 31 = .ok (.iaload, 1) := by decide +kernel
theorem dX9_insert_32 : decode cX9_insert 32 = .ok (.iastore, 1) := by decide +kernel
theorem dX9_insert_33 : decode cX9_insert 33 = .ok (.iinc 2 (-1), 3) := by decide +kernel
theorem dX9_insert_36 : decode cX9_insert 36 = .ok (.goto (-21), 3) := by decide +kernel
theorem dX9_insert_39 : decode cX9_insert 39 = .ok (.aload_n 0, 1) := by decide +kernel
theorem dX9_insert_40 : decode cX9_insert 40 = .ok (.getfield 7, 3) := by decide +kernel
theorem dX9_insert_43 : decode cX9_insert 43 = .ok (.iconst 0, 1) := by decide +kernel
theorem dX9_insert_44 : decode cX9_insert 44 = .ok (.iload_n 1, 1) := by decide +kernel
theorem dX9_insert_45 : decode cX9_insert 45 = .ok (.iastore, 1) := by decide +kernel
theorem dX9_insert_46 : decode cX9_insert 46 = .ok (.aload_n 0, 1) := by decide +kernel
theorem dX9_insert_47 : decode cX9_insert 47 = .ok (.dup, 1) := by decide +kernel
theorem dX9_insert_48 : decode cX9_insert 48 = .ok (.getfield 77, 3) := by decide +kernel
theorem dX9_insert_51 : decode cX9_insert 51 = .ok (.iconst 1, 1) := by decide +kernel
theorem dX9_insert_52 : decode cX9_insert 52 = .ok (.iadd, 1) := by decide +kernel
theorem dX9_insert_53 : decode cX9_insert 53 = .ok (.putfield 77, 3) := by decide +kernel
theorem dX9_insert_56 : decode cX9_insert 56 = .ok (.aload_n 0, 1) := by decide +kernel
theorem dX9_insert_57 : decode cX9_insert 57 = .ok (.invokevirtual 88, 3) := by decide +kernel
theorem dX9_insert_60 : decode cX9_insert 60 = .ok (.ireturn, 1) := by decide +kernel
theorem dX9_turn_0 : decode cX9_turn 0 = .ok (.aload_n 0, 1) := by decide +kernel
theorem dX9_turn_1 : decode cX9_turn 1 = .ok (.iconst 0, 1) := by decide +kernel
theorem dX9_turn_2 : decode cX9_turn 2 = .ok (.putfield 73, 3) := by decide +kernel
theorem dX9_turn_5 : decode cX9_turn 5 = .ok (.iconst 0, 1) := by decide +kernel
theorem dX9_turn_6 : decode cX9_turn 6 = .ok (.istore_n 1, 1) := by decide +kernel
theorem dX9_turn_7 : decode cX9_turn 7 = .ok (.iload_n 1, 1) := by decide +kernel
theorem dX9_turn_8 : decode cX9_turn 8 = .ok (.aload_n 0, 1) := by decide +kernel
theorem dX9_turn_9 : decode cX9_turn 9 = .ok (.getfield 77, 3) := by decide +kernel
theorem dX9_turn_12 : decode cX9_turn 12 = .ok (.iconst 2, 1) := by decide +kernel
theorem dX9_turn_13 : decode cX9_turn 13 = .ok (.idiv, 1) := by decide +kernel
theorem dX9_turn_14 : decode cX9_turn 14 = .ok (.if_icmp .ge 49, 3) := by decide +kernel
theorem dX9_turn_17 : decode cX9_turn 17 = .ok (.aload_n 0, 1) := by decide +kernel
theorem dX9_turn_18 : decode cX9_turn 18 = .ok (.getfield 7, 3) := by decide +kernel
theorem dX9_turn_21 : decode cX9_turn 21 = .ok (.iload_n 1, 1) := by decide +kernel
theorem dX9_turn_22 : decode cX9_turn 22 = .ok (.iaload, 1) := by decide +kernel
theorem dX9_turn_23 : decode cX9_turn 23 = .ok (.istore_n 2, 1) := by decide +kernel
theorem dX9_turn_24 : decode cX9_turn 24 = .ok (.aload_n 0, 1) := by decide +kernel
theorem dX9_turn_25 : decode cX9_turn 25 = .ok (.getfield 7, 3) := by decide +kernel
theorem dX9_turn_28 : decode cX9_turn 28 = .ok (.iload_n 1, 1) := by decide +kernel
theorem dX9_turn_29 : decode cX9_turn 29 = .ok (.aload_n 0, 1) := by decide +kernel
theorem dX9_turn_30 : decode cX9_turn 30 = .ok (.getfield 7, 3) := by decide +kernel
theorem dX9_turn_33 : decode cX9_turn 33 = .ok (.aload_n 0, 1) := by decide +kernel
theorem dX9_turn_34 : decode cX9_turn 34 = .ok (.getfield 77, 3) := by decide +kernel
theorem dX9_turn_37 : decode cX9_turn 37 = .ok (.iconst 1, 1) := by decide +kernel
theorem dX9_turn_38 : decode cX9_turn 38 = .ok (.isub, 1) := by decide +kernel
theorem dX9_turn_39 : decode cX9_turn 39 = .ok (.iload_n 1, 1) := by decide +kernel
theorem dX9_turn_40 : decode cX9_turn 40 = .ok (.isub, 1) := by decide +kernel
theorem dX9_turn_41 : decode cX9_turn 41 = .ok (.iaload, 1) := by decide +kernel
theorem dX9_turn_42 : decode cX9_turn 42 = .ok (.iastore, 1) := by decide +kernel
theorem dX9_turn_43 : decode cX9_turn 43 = .ok (.aload_n 0, 1) := by decide +kernel
theorem dX9_turn_44 : decode cX9_turn 44 = .ok (.getfield 7, 3) := by decide +kernel
theorem dX9_turn_47 : decode cX9_turn 47 = .ok (.aload_n 0, 1) := by decide +kernel
theorem dX9_turn_48 : decode cX9_turn 48 = .ok (.getfield 77, 3) := by decide +kernel
theorem dX9_turn_51 : decode cX9_turn 51 = .ok (.iconst 1, 1) := by decide +kernel
theorem dX9_turn_52 : decode cX9_turn 52 = .ok (.isub, 1) := by decide +kernel
theorem dX9_turn_53 : decode cX9_turn 53 = .ok (.iload_n 1, 1) := by decide +kernel
theorem dX9_turn_54 : decode cX9_turn 54 = .ok (.isub, 1) := by decide +kernel
theorem dX9_turn_55 : decode cX9_turn 55 = .ok (.iload_n 2, 1) := by decide +kernel
theorem dX9_turn_56 : decode cX9_turn 56 = .ok (.iastore, 1) := by decide +kernel
theorem dX9_turn_57 : decode cX9_turn 57 = .ok (.iinc 1 1, 3) := by decide +kernel
theorem dX9_turn_60 : decode cX9_turn 60 = .ok (.goto (-53), 3) := by decide +kernel
theorem dX9_turn_63 : decode cX9_turn 63 = .ok (.aload_n 0, 1) := by decide +kernel
theorem dX9_turn_64 : decode cX9_turn 64 = .ok (.getfield 77, 3) := by decide +kernel
theorem dX9_turn_67 : decode cX9_turn 67 = .ok (.ireturn, 1) := by decide +kernel
theorem dX9_clearSpelled_0 : decode cX9_clearSpelled 0 = .ok (.aload_n 0, 1) := by decide +kernel
theorem dX9_clearSpelled_1 : decode cX9_clearSpelled 1 = .ok (.iconst 0, 1) := by decide +kernel
theorem dX9_clearSpelled_2 : decode cX9_clearSpelled 2 = .ok (.putfield 73, 3) := by decide +kernel
theorem dX9_clearSpelled_5 : decode cX9_clearSpelled 5 = .ok (.aload_n 0, 1) := by decide +kernel
theorem dX9_clearSpelled_6 : decode cX9_clearSpelled 6 = .ok (.getfield 77, 3) := by decide +kernel
theorem dX9_clearSpelled_9 : decode cX9_clearSpelled 9 = .ok (.istore_n 1, 1) := by decide +kernel
theorem dX9_clearSpelled_10 : decode cX9_clearSpelled 10 = .ok (.aload_n 0, 1) := by decide +kernel
theorem dX9_clearSpelled_11 : decode cX9_clearSpelled 11 = .ok (.iconst 0, 1) := by decide +kernel
theorem dX9_clearSpelled_12 : decode cX9_clearSpelled 12 = .ok (.putfield 77, 3) := by decide +kernel
theorem dX9_clearSpelled_15 : decode cX9_clearSpelled 15 = .ok (.iload_n 1, 1) := by decide +kernel
theorem dX9_clearSpelled_16 : decode cX9_clearSpelled 16 = .ok (.ireturn, 1) := by decide +kernel
theorem dX9_charAt_0 : decode cX9_charAt 0 = .ok (.aload_n 0, 1) := by decide +kernel
theorem dX9_charAt_1 : decode cX9_charAt 1 = .ok (.iload_n 1, 1) := by decide +kernel
theorem dX9_charAt_2 : decode cX9_charAt 2 = .ok (.iconst 0, 1) := by decide +kernel
theorem dX9_charAt_3 : decode cX9_charAt 3 = .ok (.aload_n 0, 1) := by decide +kernel
theorem dX9_charAt_4 : decode cX9_charAt 4 = .ok (.invokevirtual 88, 3) := by decide +kernel
theorem dX9_charAt_7 : decode cX9_charAt 7 = .ok (.iconst 1, 1) := by decide +kernel
theorem dX9_charAt_8 : decode cX9_charAt 8 = .ok (.isub, 1) := by decide +kernel
theorem dX9_charAt_9 : decode cX9_charAt 9 = .ok (.invokestatic 80, 3) := by decide +kernel
theorem dX9_charAt_12 : decode cX9_charAt 12 = .ok (.ifCond .eq 7, 3) := by decide +kernel
theorem dX9_charAt_15 : decode cX9_charAt 15 = .ok (.iconst 0, 1) := by decide +kernel
theorem dX9_charAt_16 : decode cX9_charAt 16 = .ok (.goto 4, 3) := by decide +kernel
theorem dX9_charAt_19 : decode cX9_charAt 19 = .ok (.iconst 1, 1) := by decide +kernel
theorem dX9_charAt_20 : decode cX9_charAt 20 = .ok (.putfield 73, 3) := by decide +kernel
theorem dX9_charAt_23 : decode cX9_charAt 23 = .ok (.iconst 0, 1) := by decide +kernel
theorem dX9_charAt_24 : decode cX9_charAt 24 = .ok (.istore_n 2, 1) := by decide +kernel
theorem dX9_charAt_25 : decode cX9_charAt 25 = .ok (.iconst 0, 1) := by decide +kernel
theorem dX9_charAt_26 : decode cX9_charAt 26 = .ok (.istore_n 3, 1) := by decide +kernel
theorem dX9_charAt_27 : decode cX9_charAt 27 = .ok (.iload_n 3, 1) := by decide +kernel
theorem dX9_charAt_28 : decode cX9_charAt 28 = .ok (.aload_n 0, 1) := by decide +kernel
theorem dX9_charAt_29 : decode cX9_charAt 29 = .ok (.getfield 77, 3) := by decide +kernel
theorem dX9_charAt_32 : decode cX9_charAt 32 = .ok (.if_icmp .ge 73, 3) := by decide +kernel
theorem dX9_charAt_35 : decode cX9_charAt 35 = .ok (.aload_n 0, 1) := by decide +kernel
theorem dX9_charAt_36 : decode cX9_charAt 36 = .ok (.getfield 73, 3) := by decide +kernel
theorem dX9_charAt_39 : decode cX9_charAt 39 = .ok (.ifCond .ne 66, 3) := by decide +kernel
theorem dX9_charAt_42 : decode cX9_charAt 42 = .ok (.iload_n 2, 1) := by decide +kernel
theorem dX9_charAt_43 : decode cX9_charAt 43 = .ok (.iload_n 1, 1) := by decide +kernel
theorem dX9_charAt_44 : decode cX9_charAt 44 = .ok (.if_icmp .ne 30, 3) := by decide +kernel
theorem dX9_charAt_47 : decode cX9_charAt 47 = .ok (.aload_n 0, 1) := by decide +kernel
theorem dX9_charAt_48 : decode cX9_charAt 48 = .ok (.getfield 7, 3) := by decide +kernel
theorem dX9_charAt_51 : decode cX9_charAt 51 = .ok (.iload_n 3, 1) := by decide +kernel
theorem dX9_charAt_52 : decode cX9_charAt 52 = .ok (.iaload, 1) := by decide +kernel
theorem dX9_charAt_53 : decode cX9_charAt 53 = .ok (.bipush 8, 2) := by decide +kernel
theorem dX9_charAt_55 : decode cX9_charAt 55 = .ok (.if_icmp .ne 8, 3) := by decide +kernel
theorem dX9_charAt_58 : decode cX9_charAt 58 = .ok (.ldc 92, 2) := by decide +kernel
theorem dX9_charAt_60 : decode cX9_charAt 60 = .ok (.goto 13, 3) := by decide +kernel
theorem dX9_charAt_63 : decode cX9_charAt 63 = .ok (.bipush 97, 2) := by decide +kernel
theorem dX9_charAt_65 : decode cX9_charAt 65 = .ok (.aload_n 0, 1) := by decide +kernel
theorem dX9_charAt_66 : decode cX9_charAt 66 = .ok (.getfield 7, 3) := by decide +kernel
theorem dX9_charAt_69 : decode cX9_charAt 69 = .ok (.iload_n 3, 1) := by decide +kernel
theorem dX9_charAt_70 : decode cX9_charAt 70 = .ok (.iaload, 1) := by decide +kernel
theorem dX9_charAt_71 : decode cX9_charAt 71 = .ok (.iadd, 1) := by decide +kernel
theorem dX9_charAt_72 : decode cX9_charAt 72 = .ok (.i2c, 1) := by decide +kernel
theorem dX9_charAt_73 : decode cX9_charAt 73 = .ok (.ireturn, 1) := by decide +kernel
theorem dX9_charAt_74 : decode cX9_charAt 74 = .ok (.iinc 2 1, 3) := by decide +kernel
theorem dX9_charAt_77 : decode cX9_charAt 77 = .ok (.aload_n 0, 1) := by decide +kernel
theorem dX9_charAt_78 : decode cX9_charAt 78 = .ok (.getfield 7, 3) := by decide +kernel
theorem dX9_charAt_81 : decode cX9_charAt 81 = .ok (.iload_n 3, 1) := by decide +kernel
theorem dX9_charAt_82 : decode cX9_charAt 82 = .ok (.iaload, 1) := by decide +kernel
theorem dX9_charAt_83 : decode cX9_charAt 83 = .ok (.bipush 8, 2) := by decide +kernel
theorem dX9_charAt_85 : decode cX9_charAt 85 = .ok (.if_icmp .ne 14, 3) := by decide +kernel
theorem dX9_charAt_88 : decode cX9_charAt 88 = .ok (.iload_n 2, 1) := by decide +kernel
theorem dX9_charAt_89 : decode cX9_charAt 89 = .ok (.iload_n 1, 1) := by decide +kernel
theorem dX9_charAt_90 : decode cX9_charAt 90 = .ok (.if_icmp .ne 6, 3) := by decide +kernel
theorem dX9_charAt_93 : decode cX9_charAt 93 = .ok (.ldc 93, 2) := by decide +kernel
theorem dX9_charAt_95 : decode cX9_charAt 95 = .ok (.ireturn, 1) := by decide +kernel
theorem dX9_charAt_96 : decode cX9_charAt 96 = .ok (.iinc 2 1, 3) := by decide +kernel
theorem dX9_charAt_99 : decode cX9_charAt 99 = .ok (.iinc 3 1, 3) := by decide +kernel
theorem dX9_charAt_102 : decode cX9_charAt 102 = .ok (.goto (-75), 3) := by decide +kernel
theorem dX9_charAt_105 : decode cX9_charAt 105 = .ok (.iconst 0, 1) := by decide +kernel
theorem dX9_charAt_106 : decode cX9_charAt 106 = .ok (.ireturn, 1) := by decide +kernel
theorem dX9_isWord_0 : decode cX9_isWord 0 = .ok (.iload_n 1, 1) := by decide +kernel
theorem dX9_isWord_1 : decode cX9_isWord 1 = .ok (.iconst 0, 1) := by decide +kernel
theorem dX9_isWord_2 : decode cX9_isWord 2 = .ok (.aload_n 0, 1) := by decide +kernel
theorem dX9_isWord_3 : decode cX9_isWord 3 = .ok (.getfield 94, 3) := by decide +kernel
theorem dX9_isWord_6 : decode cX9_isWord 6 = .ok (.iconst 1, 1) := by decide +kernel
theorem dX9_isWord_7 : decode cX9_isWord 7 = .ok (.isub, 1) := by decide +kernel
theorem dX9_isWord_8 : decode cX9_isWord 8 = .ok (.invokestatic 80, 3) := by decide +kernel
theorem dX9_isWord_11 : decode cX9_isWord 11 = .ok (.ireturn, 1) := by decide +kernel
theorem dX9_addWord_0 : decode cX9_addWord 0 = .ok (.aload_n 0, 1) := by decide +kernel
theorem dX9_addWord_1 : decode cX9_addWord 1 = .ok (.iload_n 1, 1) := by decide +kernel
theorem dX9_addWord_2 : decode cX9_addWord 2 = .ok (.iconst 0, 1) := by decide +kernel
theorem dX9_addWord_3 : decode cX9_addWord 3 = .ok (.bipush 99, 2) := by decide +kernel
theorem dX9_addWord_5 : decode cX9_addWord 5 = .ok (.invokestatic 80, 3) := by decide +kernel
theorem dX9_addWord_8 : decode cX9_addWord 8 = .ok (.ifCond .eq 7, 3) := by decide +kernel
theorem dX9_addWord_11 : decode cX9_addWord 11 = .ok (.iconst 0, 1) := by decide +kernel
theorem dX9_addWord_12 : decode cX9_addWord 12 = .ok (.goto 4, 3) := by decide +kernel
theorem dX9_addWord_15 : decode cX9_addWord 15 = .ok (.iconst 1, 1) := by decide +kernel
theorem dX9_addWord_16 : decode cX9_addWord 16 = .ok (.putfield 73, 3) := by decide +kernel
theorem dX9_addWord_19 : decode cX9_addWord 19 = .ok (.aload_n 0, 1) := by decide +kernel
theorem dX9_addWord_20 : decode cX9_addWord 20 = .ok (.getfield 73, 3) := by decide +kernel
theorem dX9_addWord_23 : decode cX9_addWord 23 = .ok (.ifCond .le 5, 3) := by decide +kernel
theorem dX9_addWord_26 : decode cX9_addWord 26 = .ok (.iconst 0, 1) := by decide +kernel
theorem dX9_addWord_27 : decode cX9_addWord 27 = .ok (.ireturn, 1) := by decide +kernel
theorem dX9_addWord_28 : decode cX9_addWord 28 = .ok (.bipush 81, 2) := by decide +kernel
theorem dX9_addWord_30 : decode cX9_addWord 30 = .ok (.aload_n 0, 1) := by decide +kernel
theorem dX9_addWord_31 : decode cX9_addWord 31 = .ok (.getfield 7, 3) := by decide +kernel
theorem dX9_addWord_34 : decode cX9_addWord 34 = .ok (.iconst 0, 1) := by decide +kernel
theorem dX9_addWord_35 : decode cX9_addWord 35 = .ok (.iaload, 1) := by decide +kernel
theorem dX9_addWord_36 : decode cX9_addWord 36 = .ok (.imul, 1) := by decide +kernel
theorem dX9_addWord_37 : decode cX9_addWord 37 = .ok (.bipush 9, 2) := by decide +kernel
theorem dX9_addWord_39 : decode cX9_addWord 39 = .ok (.aload_n 0, 1) := by decide +kernel
theorem dX9_addWord_40 : decode cX9_addWord 40 = .ok (.getfield 7, 3) := by decide +kernel
theorem dX9_addWord_43 : decode cX9_addWord 43 = .ok (.iconst 1, 1) := by decide +kernel
theorem dX9_addWord_44 : decode cX9_addWord 44 = .ok (.iaload, 1) := by decide +kernel
theorem dX9_addWord_45 : decode cX9_addWord 45 = .ok (.imul, 1) := by decide +kernel
theorem dX9_addWord_46 : decode cX9_addWord 46 = .ok (.iadd, 1) := by decide +kernel
theorem dX9_addWord_47 : decode cX9_addWord 47 = .ok (.aload_n 0, 1) := by decide +kernel
theorem dX9_addWord_48 : decode cX9_addWord 48 = .ok (.getfield 7, 3) := by decide +kernel
theorem dX9_addWord_51 : decode cX9_addWord 51 = .ok (.iconst 2, 1) := by decide +kernel
theorem dX9_addWord_52 : decode cX9_addWord 52 = .ok (.iaload, 1) := by decide +kernel
theorem dX9_addWord_53 : decode cX9_addWord 53 = .ok (.iadd, 1) := by decide +kernel
theorem dX9_addWord_54 : decode cX9_addWord 54 = .ok (.istore_n 2, 1) := by decide +kernel
theorem dX9_addWord_55 : decode cX9_addWord 55 = .ok (.aload_n 0, 1) := by decide +kernel
theorem dX9_addWord_56 : decode cX9_addWord 56 = .ok (.getfield 77, 3) := by decide +kernel
theorem dX9_addWord_59 : decode cX9_addWord 59 = .ok (.iconst 3, 1) := by decide +kernel
theorem dX9_addWord_60 : decode cX9_addWord 60 = .ok (.if_icmp .ne 21, 3) := by decide +kernel
theorem dX9_addWord_63 : decode cX9_addWord 63 = .ok (.aload_n 0, 1) := by decide +kernel
theorem dX9_addWord_64 : decode cX9_addWord 64 = .ok (.getfield 13, 3) := by decide +kernel
theorem dX9_addWord_67 : decode cX9_addWord 67 = .ok (.iload_n 2, 1) := by decide +kernel
theorem dX9_addWord_68 : decode cX9_addWord 68 = .ok (.iaload, 1) := by decide +kernel
theorem dX9_addWord_69 : decode cX9_addWord 69 = .ok (.ifCond .gt 12, 3) := by decide +kernel
theorem dX9_addWord_72 : decode cX9_addWord 72 = .ok (.aload_n 0, 1) := by decide +kernel
theorem dX9_addWord_73 : decode cX9_addWord 73 = .ok (.getfield 94, 3) := by decide +kernel
theorem dX9_addWord_76 : decode cX9_addWord 76 = .ok (.bipush 30, 2) := by decide +kernel
theorem dX9_addWord_78 : decode cX9_addWord 78 = .ok (.if_icmp .ne 9, 3) := by decide +kernel
theorem dX9_addWord_81 : decode cX9_addWord 81 = .ok (.aload_n 0, 1) := by decide +kernel
theorem dX9_addWord_82 : decode cX9_addWord 82 = .ok (.iconst 2, 1) := by decide +kernel
theorem dX9_addWord_83 : decode cX9_addWord 83 = .ok (.invokevirtual 97, 3) := by decide +kernel
theorem dX9_addWord_86 : decode cX9_addWord 86 = .ok (.ireturn, 1) := by decide +kernel
theorem dX9_addWord_87 : decode cX9_addWord 87 = .ok (.aload_n 0, 1) := by decide +kernel
theorem dX9_addWord_88 : decode cX9_addWord 88 = .ok (.getfield 16, 3) := by decide +kernel
theorem dX9_addWord_91 : decode cX9_addWord 91 = .ok (.aload_n 0, 1) := by decide +kernel
theorem dX9_addWord_92 : decode cX9_addWord 92 = .ok (.getfield 94, 3) := by decide +kernel
theorem dX9_addWord_95 : decode cX9_addWord 95 = .ok (.iload_n 2, 1) := by decide +kernel
theorem dX9_addWord_96 : decode cX9_addWord 96 = .ok (.iastore, 1) := by decide +kernel
theorem dX9_addWord_97 : decode cX9_addWord 97 = .ok (.aload_n 0, 1) := by decide +kernel
theorem dX9_addWord_98 : decode cX9_addWord 98 = .ok (.getfield 19, 3) := by decide +kernel
theorem dX9_addWord_101 : decode cX9_addWord 101 = .ok (.aload_n 0, 1) := by decide +kernel
theorem dX9_addWord_102 : decode cX9_addWord 102 = .ok (.getfield 94, 3) := by decide +kernel
theorem dX9_addWord_105 : decode cX9_addWord 105 = .ok (.iload_n 1, 1) := by decide +kernel
theorem dX9_addWord_106 : decode cX9_addWord 106 = .ok (.iastore, 1) := by decide +kernel
theorem dX9_addWord_107 : decode cX9_addWord 107 = .ok (.aload_n 0, 1) := by decide +kernel
theorem dX9_addWord_108 : decode cX9_addWord 108 = .ok (.dup, 1) := by decide +kernel
theorem dX9_addWord_109 : decode cX9_addWord 109 = .ok (.getfield 94, 3) := by decide +kernel
theorem dX9_addWord_112 : decode cX9_addWord 112 = .ok (.iconst 1, 1) := by decide +kernel
theorem dX9_addWord_113 : decode cX9_addWord 113 = .ok (.iadd, 1) := by decide +kernel
theorem dX9_addWord_114 : decode cX9_addWord 114 = .ok (.putfield 94, 3) := by decide +kernel
theorem dX9_addWord_117 : decode cX9_addWord 117 = .ok (.aload_n 0, 1) := by decide +kernel
theorem dX9_addWord_118 : decode cX9_addWord 118 = .ok (.getfield 13, 3) := by decide +kernel
theorem dX9_addWord_121 : decode cX9_addWord 121 = .ok (.iload_n 2, 1) := by decide +kernel
theorem dX9_addWord_122 : decode cX9_addWord 122 = .ok (.aload_n 0, 1) := by decide +kernel
theorem dX9_addWord_123 : decode cX9_addWord 123 = .ok (.getfield 94, 3) := by decide +kernel
theorem dX9_addWord_126 : decode cX9_addWord 126 = .ok (.iastore, 1) := by decide +kernel
theorem dX9_addWord_127 : decode cX9_addWord 127 = .ok (.aload_n 0, 1) := by decide +kernel
theorem dX9_addWord_128 : decode cX9_addWord 128 = .ok (.getfield 94, 3) := by decide +kernel
theorem dX9_addWord_131 : decode cX9_addWord 131 = .ok (.iconst 1, 1) := by decide +kernel
theorem dX9_addWord_132 : decode cX9_addWord 132 = .ok (.isub, 1) := by decide +kernel
theorem dX9_addWord_133 : decode cX9_addWord 133 = .ok (.ireturn, 1) := by decide +kernel
theorem dX9_setWeight_0 : decode cX9_setWeight 0 = .ok (.aload_n 0, 1) := by decide +kernel
theorem dX9_setWeight_1 : decode cX9_setWeight 1 = .ok (.aload_n 0, 1) := by decide +kernel
theorem dX9_setWeight_2 : decode cX9_setWeight 2 = .ok (.iload_n 1, 1) := by decide +kernel
theorem dX9_setWeight_3 : decode cX9_setWeight 3 = .ok (.invokevirtual 101, 3) := by decide +kernel
theorem dX9_setWeight_6 : decode cX9_setWeight 6 = .ok (.ifCond .ne 7, 3) := by decide +kernel
theorem dX9_setWeight_9 : decode cX9_setWeight 9 = .ok (.iconst 1, 1) := by decide +kernel
theorem dX9_setWeight_10 : decode cX9_setWeight 10 = .ok (.goto 18, 3) := by decide +kernel
theorem dX9_setWeight_13 : decode cX9_setWeight 13 = .ok (.iload_n 2, 1) := by decide +kernel
theorem dX9_setWeight_14 : decode cX9_setWeight 14 = .ok (.iconst 0, 1) := by decide +kernel
theorem dX9_setWeight_15 : decode cX9_setWeight 15 = .ok (.bipush 99, 2) := by decide +kernel
theorem dX9_setWeight_17 : decode cX9_setWeight 17 = .ok (.invokestatic 80, 3) := by decide +kernel
theorem dX9_setWeight_20 : decode cX9_setWeight 20 = .ok (.ifCond .ne 7, 3) := by decide +kernel
theorem dX9_setWeight_23 : decode cX9_setWeight 23 = .ok (.iconst 2, 1) := by decide +kernel
theorem dX9_setWeight_24 : decode cX9_setWeight 24 = .ok (.goto 4, 3) := by decide +kernel
theorem dX9_setWeight_27 : decode cX9_setWeight 27 = .ok (.iconst 0, 1) := by decide +kernel
theorem dX9_setWeight_28 : decode cX9_setWeight 28 = .ok (.putfield 73, 3) := by decide +kernel
theorem dX9_setWeight_31 : decode cX9_setWeight 31 = .ok (.aload_n 0, 1) := by decide +kernel
theorem dX9_setWeight_32 : decode cX9_setWeight 32 = .ok (.getfield 73, 3) := by decide +kernel
theorem dX9_setWeight_35 : decode cX9_setWeight 35 = .ok (.ifCond .le 5, 3) := by decide +kernel
theorem dX9_setWeight_38 : decode cX9_setWeight 38 = .ok (.iconst 0, 1) := by decide +kernel
theorem dX9_setWeight_39 : decode cX9_setWeight 39 = .ok (.ireturn, 1) := by decide +kernel
theorem dX9_setWeight_40 : decode cX9_setWeight 40 = .ok (.aload_n 0, 1) := by decide +kernel
theorem dX9_setWeight_41 : decode cX9_setWeight 41 = .ok (.getfield 19, 3) := by decide +kernel
theorem dX9_setWeight_44 : decode cX9_setWeight 44 = .ok (.iload_n 1, 1) := by decide +kernel
theorem dX9_setWeight_45 : decode cX9_setWeight 45 = .ok (.iaload, 1) := by decide +kernel
theorem dX9_setWeight_46 : decode cX9_setWeight 46 = .ok (.istore_n 3, 1) := by decide +kernel
theorem dX9_setWeight_47 : decode cX9_setWeight 47 = .ok (.aload_n 0, 1) := by decide +kernel
theorem dX9_setWeight_48 : decode cX9_setWeight 48 = .ok (.getfield 19, 3) := by decide +kernel
theorem dX9_setWeight_51 : decode cX9_setWeight 51 = .ok (.iload_n 1, 1) := by decide +kernel
theorem dX9_setWeight_52 : decode cX9_setWeight 52 = .ok (.iload_n 2, 1) := by decide +kernel
theorem dX9_setWeight_53 : decode cX9_setWeight 53 = .ok (.iastore, 1) := by decide +kernel
theorem dX9_setWeight_54 : decode cX9_setWeight 54 = .ok (.iload_n 3, 1) := by decide +kernel
theorem dX9_setWeight_55 : decode cX9_setWeight 55 = .ok (.ireturn, 1) := by decide +kernel
theorem dX9_orders_0 : decode cX9_orders 0 = .ok (.iconst 0, 1) := by decide +kernel
theorem dX9_orders_1 : decode cX9_orders 1 = .ok (.istore_n 1, 1) := by decide +kernel
theorem dX9_orders_2 : decode cX9_orders 2 = .ok (.iconst 0, 1) := by decide +kernel
theorem dX9_orders_3 : decode cX9_orders 3 = .ok (.istore_n 2, 1) := by decide +kernel
theorem dX9_orders_4 : decode cX9_orders 4 = .ok (.iload_n 2, 1) := by decide +kernel
theorem dX9_orders_5 : decode cX9_orders 5 = .ok (.sipush 729, 3) := by decide +kernel
theorem dX9_orders_8 : decode cX9_orders 8 = .ok (.if_icmp .ge 35, 3) := by decide +kernel
theorem dX9_orders_11 : decode cX9_orders 11 = .ok (.aload_n 0, 1) := by decide +kernel
theorem dX9_orders_12 : decode cX9_orders 12 = .ok (.getfield 13, 3) := by decide +kernel
theorem dX9_orders_15 : decode cX9_orders 15 = .ok (.iload_n 2, 1) := by decide +kernel
theorem dX9_orders_16 : decode cX9_orders 16 = .ok (.iaload, 1) := by decide +kernel
theorem dX9_orders_17 : decode cX9_orders 17 = .ok (.ifCond .le 20, 3) := by decide +kernel
theorem dX9_orders_20 : decode cX9_orders 20 = .ok (.aload_n 0, 1) := by decide +kernel
theorem dX9_orders_21 : decode cX9_orders 21 = .ok (.getfield 22, 3) := by decide +kernel
theorem dX9_orders_24 : decode cX9_orders 24 = .ok (.iload_n 1, 1) := by decide +kernel
theorem dX9_orders_25 : decode cX9_orders 25 = .ok (.aload_n 0, 1) := by decide +kernel
theorem dX9_orders_26 : decode cX9_orders 26 = .ok (.getfield 13, 3) := by decide +kernel
theorem dX9_orders_29 : decode cX9_orders 29 = .ok (.iload_n 2, 1) := by decide +kernel
theorem dX9_orders_30 : decode cX9_orders 30 = .ok (.iaload, 1) := by decide +kernel
theorem dX9_orders_31 : decode cX9_orders 31 = .ok (.iconst 1, 1) := by decide +kernel
theorem dX9_orders_32 : decode cX9_orders 32 = .ok (.isub, 1) := by decide +kernel
theorem dX9_orders_33 : decode cX9_orders 33 = .ok (.iastore, 1) := by decide +kernel
theorem dX9_orders_34 : decode cX9_orders 34 = .ok (.iinc 1 1, 3) := by decide +kernel
theorem dX9_orders_37 : decode cX9_orders 37 = .ok (.iinc 2 1, 3) := by decide +kernel
theorem dX9_orders_40 : decode cX9_orders 40 = .ok (.goto (-36), 3) := by decide +kernel
theorem dX9_orders_43 : decode cX9_orders 43 = .ok (.return_, 1) := by decide +kernel
theorem dX9_wordAt_0 : decode cX9_wordAt 0 = .ok (.aload_n 0, 1) := by decide +kernel
theorem dX9_wordAt_1 : decode cX9_wordAt 1 = .ok (.iconst 0, 1) := by decide +kernel
theorem dX9_wordAt_2 : decode cX9_wordAt 2 = .ok (.putfield 73, 3) := by decide +kernel
theorem dX9_wordAt_5 : decode cX9_wordAt 5 = .ok (.aload_n 0, 1) := by decide +kernel
theorem dX9_wordAt_6 : decode cX9_wordAt 6 = .ok (.invokevirtual 104, 3) := by decide +kernel
theorem dX9_wordAt_9 : decode cX9_wordAt 9 = .ok (.iload_n 1, 1) := by decide +kernel
theorem dX9_wordAt_10 : decode cX9_wordAt 10 = .ok (.iconst 0, 1) := by decide +kernel
theorem dX9_wordAt_11 : decode cX9_wordAt 11 = .ok (.aload_n 0, 1) := by decide +kernel
theorem dX9_wordAt_12 : decode cX9_wordAt 12 = .ok (.getfield 94, 3) := by decide +kernel
theorem dX9_wordAt_15 : decode cX9_wordAt 15 = .ok (.iconst 1, 1) := by decide +kernel
theorem dX9_wordAt_16 : decode cX9_wordAt 16 = .ok (.isub, 1) := by decide +kernel
theorem dX9_wordAt_17 : decode cX9_wordAt 17 = .ok (.invokestatic 80, 3) := by decide +kernel
theorem dX9_wordAt_20 : decode cX9_wordAt 20 = .ok (.ifCond .eq 12, 3) := by decide +kernel
theorem dX9_wordAt_23 : decode cX9_wordAt 23 = .ok (.aload_n 0, 1) := by decide +kernel
theorem dX9_wordAt_24 : decode cX9_wordAt 24 = .ok (.getfield 22, 3) := by decide +kernel
theorem dX9_wordAt_27 : decode cX9_wordAt 27 = .ok (.iload_n 1, 1) := by decide +kernel
theorem dX9_wordAt_28 : decode cX9_wordAt 28 = .ok (.iaload, 1) := by decide +kernel
theorem dX9_wordAt_29 : decode cX9_wordAt 29 = .ok (.goto 4, 3) := by decide +kernel
theorem dX9_wordAt_32 : decode cX9_wordAt 32 = .ok (.iconst (-1), 1) := by decide +kernel
theorem dX9_wordAt_33 : decode cX9_wordAt 33 = .ok (.ireturn, 1) := by decide +kernel
theorem dX9_letterOf_0 : decode cX9_letterOf 0 = .ok (.iload_n 1, 1) := by decide +kernel
theorem dX9_letterOf_1 : decode cX9_letterOf 1 = .ok (.ifCond .ne 10, 3) := by decide +kernel
theorem dX9_letterOf_4 : decode cX9_letterOf 4 = .ok (.iload_n 0, 1) := by decide +kernel
theorem dX9_letterOf_5 : decode cX9_letterOf 5 = .ok (.bipush 81, 2) := by decide +kernel
theorem dX9_letterOf_7 : decode cX9_letterOf 7 = .ok (.idiv, 1) := by decide +kernel
theorem dX9_letterOf_8 : decode cX9_letterOf 8 = .ok (.goto 22, 3) := by decide +kernel
theorem dX9_letterOf_11 : decode cX9_letterOf 11 = .ok (.iload_n 1, 1) := by decide +kernel
theorem dX9_letterOf_12 : decode cX9_letterOf 12 = .ok (.iconst 1, 1) := by decide +kernel
theorem dX9_letterOf_13 : decode cX9_letterOf 13 = .ok (.if_icmp .ne 13, 3) := by decide +kernel
theorem dX9_letterOf_16 : decode cX9_letterOf 16 = .ok (.iload_n 0, 1) := by decide +kernel
theorem dX9_letterOf_17 : decode cX9_letterOf 17 = .ok (.bipush 9, 2) := by decide +kernel
theorem dX9_letterOf_19 : decode cX9_letterOf 19 = .ok (.idiv, 1) := by decide +kernel
theorem dX9_letterOf_20 : decode cX9_letterOf 20 = .ok (.bipush 9, 2) := by decide +kernel
theorem dX9_letterOf_22 : decode cX9_letterOf 22 = .ok (.irem, 1) := by decide +kernel
theorem dX9_letterOf_23 : decode cX9_letterOf 23 = .ok (.goto 7, 3) := by decide +kernel
theorem dX9_letterOf_26 : decode cX9_letterOf 26 = .ok (.iload_n 0, 1) := by decide +kernel
theorem dX9_letterOf_27 : decode cX9_letterOf 27 = .ok (.bipush 9, 2) := by decide +kernel
theorem dX9_letterOf_29 : decode cX9_letterOf 29 = .ok (.irem, 1) := by decide +kernel
theorem dX9_letterOf_30 : decode cX9_letterOf 30 = .ok (.ireturn, 1) := by decide +kernel
theorem dX9_beginning_0 : decode cX9_beginning 0 = .ok (.aload_n 0, 1) := by decide +kernel
theorem dX9_beginning_1 : decode cX9_beginning 1 = .ok (.iconst 0, 1) := by decide +kernel
theorem dX9_beginning_2 : decode cX9_beginning 2 = .ok (.putfield 73, 3) := by decide +kernel
theorem dX9_beginning_5 : decode cX9_beginning 5 = .ok (.iconst 0, 1) := by decide +kernel
theorem dX9_beginning_6 : decode cX9_beginning 6 = .ok (.istore_n 1, 1) := by decide +kernel
theorem dX9_beginning_7 : decode cX9_beginning 7 = .ok (.iconst 0, 1) := by decide +kernel
theorem dX9_beginning_8 : decode cX9_beginning 8 = .ok (.istore_n 2, 1) := by decide +kernel
theorem dX9_beginning_9 : decode cX9_beginning 9 = .ok (.iload_n 2, 1) := by decide +kernel
theorem dX9_beginning_10 : decode cX9_beginning 10 = .ok (.aload_n 0, 1) := by decide +kernel
theorem dX9_beginning_11 : decode cX9_beginning 11 = .ok (.getfield 94, 3) := by decide +kernel
theorem dX9_beginning_14 : decode cX9_beginning 14 = .ok (.if_icmp .ge 72, 3) := by decide +kernel
theorem dX9_beginning_17 : decode cX9_beginning 17 = .ok (.iconst 1, 1) := by decide +kernel
theorem dX9_beginning_18 : decode cX9_beginning 18 = .ok (.istore_n 3, 1) := by decide +kernel
theorem dX9_beginning_19 : decode cX9_beginning 19 = .ok (.iconst 0, 1) := by decide +kernel
theorem dX9_beginning_20 : decode cX9_beginning 20 = .ok (.istore 4, 2) := by decide +kernel
theorem dX9_beginning_22 : decode cX9_beginning 22 = .ok (.iload 4, 2) := by decide +kernel
theorem dX9_beginning_24 : decode cX9_beginning 24 = .ok (.aload_n 0, 1) := by decide +kernel
theorem dX9_beginning_25 : decode cX9_beginning 25 = .ok (.getfield 77, 3) := by decide +kernel
theorem dX9_beginning_28 : decode cX9_beginning 28 = .ok (.if_icmp .ge 40, 3) := by decide +kernel
theorem dX9_beginning_31 : decode cX9_beginning 31 = .ok (.iload_n 3, 1) := by decide +kernel
theorem dX9_beginning_32 : decode cX9_beginning 32 = .ok (.ifCond .eq 28, 3) := by decide +kernel
theorem dX9_beginning_35 : decode cX9_beginning 35 = .ok (.aload_n 0, 1) := by decide +kernel
theorem dX9_beginning_36 : decode cX9_beginning 36 = .ok (.getfield 16, 3) := by decide +kernel
theorem dX9_beginning_39 : decode cX9_beginning 39 = .ok (.iload_n 2, 1) := by decide +kernel
theorem dX9_beginning_40 : decode cX9_beginning 40 = .ok (.iaload, 1) := by decide +kernel
theorem dX9_beginning_41 : decode cX9_beginning 41 = .ok (.iload 4, 2) := by decide +kernel
theorem dX9_beginning_43 : decode cX9_beginning 43 = .ok (.invokestatic 107, 3) := by decide +kernel
theorem dX9_beginning_46 : decode cX9_beginning 46 = .ok (.aload_n 0, 1) := by decide +kernel
theorem dX9_beginning_47 : decode cX9_beginning 47 = .ok (.getfield 7, 3) := by decide +kernel
theorem dX9_beginning_50 : decode cX9_beginning 50 = .ok (.iload 4, 2) := by decide +kernel
theorem dX9_beginning_52 : decode cX9_beginning 52 = .ok (.iaload, 1) := by decide +kernel
theorem dX9_beginning_53 : decode cX9_beginning 53 = .ok (.if_icmp .ne 7, 3) := by decide +kernel
theorem dX9_beginning_56 : decode cX9_beginning 56 = .ok (.iconst 1, 1) := by decide +kernel
theorem dX9_beginning_57 : decode cX9_beginning 57 = .ok (.goto 4, 3) := by decide +kernel
theorem dX9_beginning_60 : decode cX9_beginning 60 = .ok (.iconst 0, 1) := by decide +kernel
theorem dX9_beginning_61 : decode cX9_beginning 61 = .ok (.istore_n 3, 1) := by decide +kernel
theorem dX9_beginning_62 : decode cX9_beginning 62 = .ok (.iinc 4 1, 3) := by decide +kernel
theorem dX9_beginning_65 : decode cX9_beginning 65 = .ok (.goto (-43), 3) := by decide +kernel
theorem dX9_beginning_68 : decode cX9_beginning 68 = .ok (.iload_n 1, 1) := by decide +kernel
theorem dX9_beginning_69 : decode cX9_beginning 69 = .ok (.iload_n 3, 1) := by decide +kernel
theorem dX9_beginning_70 : decode cX9_beginning 70 = .ok (.ifCond .eq 7, 3) := by decide +kernel
theorem dX9_beginning_73 : decode cX9_beginning 73 = .ok (.iconst 1, 1) := by decide +kernel
theorem dX9_beginning_74 : decode cX9_beginning 74 = .ok (.goto 4, 3) := by decide +kernel
theorem dX9_beginning_77 : decode cX9_beginning 77 = .ok (.iconst 0, 1) := by decide +kernel
theorem dX9_beginning_78 : decode cX9_beginning 78 = .ok (.iadd, 1) := by decide +kernel
theorem dX9_beginning_79 : decode cX9_beginning 79 = .ok (.istore_n 1, 1) := by decide +kernel
theorem dX9_beginning_80 : decode cX9_beginning 80 = .ok (.iinc 2 1, 3) := by decide +kernel
theorem dX9_beginning_83 : decode cX9_beginning 83 = .ok (.goto (-74), 3) := by decide +kernel
theorem dX9_beginning_86 : decode cX9_beginning 86 = .ok (.iload_n 1, 1) := by decide +kernel
theorem dX9_beginning_87 : decode cX9_beginning 87 = .ok (.ireturn, 1) := by decide +kernel
theorem dX9_fix_0 : decode cX9_fix 0 = .ok (.aload_n 0, 1) := by decide +kernel
theorem dX9_fix_1 : decode cX9_fix 1 = .ok (.iload_n 1, 1) := by decide +kernel
theorem dX9_fix_2 : decode cX9_fix 2 = .ok (.iconst 0, 1) := by decide +kernel
theorem dX9_fix_3 : decode cX9_fix 3 = .ok (.bipush 8, 2) := by decide +kernel
theorem dX9_fix_5 : decode cX9_fix 5 = .ok (.invokestatic 80, 3) := by decide +kernel
theorem dX9_fix_8 : decode cX9_fix 8 = .ok (.ifCond .eq 17, 3) := by decide +kernel
theorem dX9_fix_11 : decode cX9_fix 11 = .ok (.iload_n 2, 1) := by decide +kernel
theorem dX9_fix_12 : decode cX9_fix 12 = .ok (.iconst (-1), 1) := by decide +kernel
theorem dX9_fix_13 : decode cX9_fix 13 = .ok (.bipush 8, 2) := by decide +kernel
theorem dX9_fix_15 : decode cX9_fix 15 = .ok (.invokestatic 80, 3) := by decide +kernel
theorem dX9_fix_18 : decode cX9_fix 18 = .ok (.ifCond .eq 7, 3) := by decide +kernel
theorem dX9_fix_21 : decode cX9_fix 21 = .ok (.iconst 0, 1) := by decide +kernel
theorem dX9_fix_22 : decode cX9_fix 22 = .ok (.goto 4, 3) := by decide +kernel
theorem dX9_fix_25 : decode cX9_fix 25 = .ok (.iconst 1, 1) := by decide +kernel
theorem dX9_fix_26 : decode cX9_fix 26 = .ok (.putfield 73, 3) := by decide +kernel
theorem dX9_fix_29 : decode cX9_fix 29 = .ok (.aload_n 0, 1) := by decide +kernel
theorem dX9_fix_30 : decode cX9_fix 30 = .ok (.getfield 73, 3) := by decide +kernel
theorem dX9_fix_33 : decode cX9_fix 33 = .ok (.ifCond .le 5, 3) := by decide +kernel
theorem dX9_fix_36 : decode cX9_fix 36 = .ok (.iconst 0, 1) := by decide +kernel
theorem dX9_fix_37 : decode cX9_fix 37 = .ok (.ireturn, 1) := by decide +kernel
theorem dX9_fix_38 : decode cX9_fix 38 = .ok (.aload_n 0, 1) := by decide +kernel
theorem dX9_fix_39 : decode cX9_fix 39 = .ok (.getfield 25, 3) := by decide +kernel
theorem dX9_fix_42 : decode cX9_fix 42 = .ok (.iload_n 1, 1) := by decide +kernel
theorem dX9_fix_43 : decode cX9_fix 43 = .ok (.iaload, 1) := by decide +kernel
theorem dX9_fix_44 : decode cX9_fix 44 = .ok (.iconst 1, 1) := by decide +kernel
theorem dX9_fix_45 : decode cX9_fix 45 = .ok (.isub, 1) := by decide +kernel
theorem dX9_fix_46 : decode cX9_fix 46 = .ok (.istore_n 3, 1) := by decide +kernel
theorem dX9_fix_47 : decode cX9_fix 47 = .ok (.aload_n 0, 1) := by decide +kernel
theorem dX9_fix_48 : decode cX9_fix 48 = .ok (.getfield 25, 3) := by decide +kernel
theorem dX9_fix_51 : decode cX9_fix 51 = .ok (.iload_n 1, 1) := by decide +kernel
theorem dX9_fix_52 : decode cX9_fix 52 = .ok (.iload_n 2, 1) := by decide +kernel
theorem dX9_fix_53 : decode cX9_fix 53 = .ok (.iconst 1, 1) := by decide +kernel
theorem dX9_fix_54 : decode cX9_fix 54 = .ok (.iadd, 1) := by decide +kernel
theorem dX9_fix_55 : decode cX9_fix 55 = .ok (.iastore, 1) := by decide +kernel
theorem dX9_fix_56 : decode cX9_fix 56 = .ok (.iload_n 3, 1) := by decide +kernel
theorem dX9_fix_57 : decode cX9_fix 57 = .ok (.ireturn, 1) := by decide +kernel
theorem dX9_fitsRow_0 : decode cX9_fitsRow 0 = .ok (.iconst 1, 1) := by decide +kernel
theorem dX9_fitsRow_1 : decode cX9_fitsRow 1 = .ok (.istore_n 3, 1) := by decide +kernel
theorem dX9_fitsRow_2 : decode cX9_fitsRow 2 = .ok (.iconst 0, 1) := by decide +kernel
theorem dX9_fitsRow_3 : decode cX9_fitsRow 3 = .ok (.istore 4, 2) := by decide +kernel
theorem dX9_fitsRow_5 : decode cX9_fitsRow 5 = .ok (.iload 4, 2) := by decide +kernel
theorem dX9_fitsRow_7 : decode cX9_fitsRow 7 = .ok (.iconst 3, 1) := by decide +kernel
theorem dX9_fitsRow_8 : decode cX9_fitsRow 8 = .ok (.if_icmp .ge 55, 3) := by decide +kernel
theorem dX9_fitsRow_11 : decode cX9_fitsRow 11 = .ok (.aload_n 0, 1) := by decide +kernel
theorem dX9_fitsRow_12 : decode cX9_fitsRow 12 = .ok (.getfield 25, 3) := by decide +kernel
theorem dX9_fitsRow_15 : decode cX9_fitsRow 15 = .ok (.iconst 3, 1) := by decide +kernel
theorem dX9_fitsRow_16 : decode cX9_fitsRow 16 = .ok (.iload_n 2, 1) := by decide +kernel
theorem dX9_fitsRow_17 : decode cX9_fitsRow 17 = .ok (.imul, 1) := by decide +kernel
theorem dX9_fitsRow_18 : decode cX9_fitsRow 18 = .ok (.iload 4, 2) := by decide +kernel
theorem dX9_fitsRow_20 : decode cX9_fitsRow 20 = .ok (.iadd, 1) := by decide +kernel
theorem dX9_fitsRow_21 : decode cX9_fitsRow 21 = .ok (.iaload, 1) := by decide +kernel
theorem dX9_fitsRow_22 : decode cX9_fitsRow 22 = .ok (.istore 5, 2) := by decide +kernel
theorem dX9_fitsRow_24 : decode cX9_fitsRow 24 = .ok (.iload_n 3, 1) := by decide +kernel
theorem dX9_fitsRow_25 : decode cX9_fitsRow 25 = .ok (.ifCond .eq 30, 3) := by decide +kernel
theorem dX9_fitsRow_28 : decode cX9_fitsRow 28 = .ok (.iload 5, 2) := by decide +kernel
theorem dX9_fitsRow_30 : decode cX9_fitsRow 30 = .ok (.ifCond .eq 21, 3) := by decide +kernel
theorem dX9_fitsRow_33 : decode cX9_fitsRow 33 = .ok (.iload 5, 2) := by decide +kernel
theorem dX9_fitsRow_35 : decode cX9_fitsRow 35 = .ok (.aload_n 0, 1) := by decide +kernel
theorem dX9_fitsRow_36 : decode cX9_fitsRow 36 = .ok (.getfield 16, 3) := by decide +kernel
theorem dX9_fitsRow_39 : decode cX9_fitsRow 39 = .ok (.iload_n 1, 1) := by decide +kernel
theorem dX9_fitsRow_40 : decode cX9_fitsRow 40 = .ok (.iaload, 1) := by decide +kernel
theorem dX9_fitsRow_41 : decode cX9_fitsRow 41 = .ok (.iload 4, 2) := by decide +kernel
theorem dX9_fitsRow_43 : decode cX9_fitsRow 43 = .ok (.invokestatic 107, 3) := by decide +kernel
theorem dX9_fitsRow_46 : decode cX9_fitsRow 46 = .ok (.iconst 1, 1) := by decide +kernel
theorem dX9_fitsRow_47 : decode cX9_fitsRow 47 = .ok (.iadd, 1) := by decide +kernel
theorem dX9_fitsRow_48 : decode cX9_fitsRow 48 = .ok (.if_icmp .ne 7, 3) := by decide +kernel
theorem dX9_fitsRow_51 : decode cX9_fitsRow 51 = .ok (.iconst 1, 1) := by decide +kernel
theorem dX9_fitsRow_52 : decode cX9_fitsRow 52 = .ok (.goto 4, 3) := by decide +kernel
theorem dX9_fitsRow_55 : decode cX9_fitsRow 55 = .ok (.iconst 0, 1) := by decide +kernel
theorem dX9_fitsRow_56 : decode cX9_fitsRow 56 = .ok (.istore_n 3, 1) := by decide +kernel
theorem dX9_fitsRow_57 : decode cX9_fitsRow 57 = .ok (.iinc 4 1, 3) := by decide +kernel
theorem dX9_fitsRow_60 : decode cX9_fitsRow 60 = .ok (.goto (-55), 3) := by decide +kernel
theorem dX9_fitsRow_63 : decode cX9_fitsRow 63 = .ok (.iload_n 3, 1) := by decide +kernel
theorem dX9_fitsRow_64 : decode cX9_fitsRow 64 = .ok (.ireturn, 1) := by decide +kernel
theorem dX9_columnOf_0 : decode cX9_columnOf 0 = .ok (.aload_n 0, 1) := by decide +kernel
theorem dX9_columnOf_1 : decode cX9_columnOf 1 = .ok (.getfield 13, 3) := by decide +kernel
theorem dX9_columnOf_4 : decode cX9_columnOf 4 = .ok (.bipush 81, 2) := by decide +kernel
theorem dX9_columnOf_6 : decode cX9_columnOf 6 = .ok (.aload_n 0, 1) := by decide +kernel
theorem dX9_columnOf_7 : decode cX9_columnOf 7 = .ok (.getfield 16, 3) := by decide +kernel
theorem dX9_columnOf_10 : decode cX9_columnOf 10 = .ok (.iload_n 1, 1) := by decide +kernel
theorem dX9_columnOf_11 : decode cX9_columnOf 11 = .ok (.iaload, 1) := by decide +kernel
theorem dX9_columnOf_12 : decode cX9_columnOf 12 = .ok (.iload 4, 2) := by decide +kernel
theorem dX9_columnOf_14 : decode cX9_columnOf 14 = .ok (.invokestatic 107, 3) := by decide +kernel
theorem dX9_columnOf_17 : decode cX9_columnOf 17 = .ok (.imul, 1) := by decide +kernel
theorem dX9_columnOf_18 : decode cX9_columnOf 18 = .ok (.bipush 9, 2) := by decide +kernel
theorem dX9_columnOf_20 : decode cX9_columnOf 20 = .ok (.aload_n 0, 1) := by decide +kernel
theorem dX9_columnOf_21 : decode cX9_columnOf 21 = .ok (.getfield 16, 3) := by decide +kernel
theorem dX9_columnOf_24 : decode cX9_columnOf 24 = .ok (.iload_n 2, 1) := by decide +kernel
theorem dX9_columnOf_25 : decode cX9_columnOf 25 = .ok (.iaload, 1) := by decide +kernel
theorem dX9_columnOf_26 : decode cX9_columnOf 26 = .ok (.iload 4, 2) := by decide +kernel
theorem dX9_columnOf_28 : decode cX9_columnOf 28 = .ok (.invokestatic 107, 3) := by decide +kernel
theorem dX9_columnOf_31 : decode cX9_columnOf 31 = .ok (.imul, 1) := by decide +kernel
theorem dX9_columnOf_32 : decode cX9_columnOf 32 = .ok (.iadd, 1) := by decide +kernel
theorem dX9_columnOf_33 : decode cX9_columnOf 33 = .ok (.aload_n 0, 1) := by decide +kernel
theorem dX9_columnOf_34 : decode cX9_columnOf 34 = .ok (.getfield 16, 3) := by decide +kernel
theorem dX9_columnOf_37 : decode cX9_columnOf 37 = .ok (.iload_n 3, 1) := by decide +kernel
theorem dX9_columnOf_38 : decode cX9_columnOf 38 = .ok (.iaload, 1) := by decide +kernel
theorem dX9_columnOf_39 : decode cX9_columnOf 39 = .ok (.iload 4, 2) := by decide +kernel
theorem dX9_columnOf_41 : decode cX9_columnOf 41 = .ok (.invokestatic 107, 3) := by decide +kernel
theorem dX9_columnOf_44 : decode cX9_columnOf 44 = .ok (.iadd, 1) := by decide +kernel
theorem dX9_columnOf_45 : decode cX9_columnOf 45 = .ok (.iaload, 1) := by decide +kernel
theorem dX9_columnOf_46 : decode cX9_columnOf 46 = .ok (.iconst 1, 1) := by decide +kernel
theorem dX9_columnOf_47 : decode cX9_columnOf 47 = .ok (.isub, 1) := by decide +kernel
theorem dX9_columnOf_48 : decode cX9_columnOf 48 = .ok (.ireturn, 1) := by decide +kernel
theorem dX9_tries_0 : decode cX9_tries 0 = .ok (.aload_n 0, 1) := by decide +kernel
theorem dX9_tries_1 : decode cX9_tries 1 = .ok (.getfield 19, 3) := by decide +kernel
theorem dX9_tries_4 : decode cX9_tries 4 = .ok (.iload_n 1, 1) := by decide +kernel
theorem dX9_tries_5 : decode cX9_tries 5 = .ok (.iaload, 1) := by decide +kernel
theorem dX9_tries_6 : decode cX9_tries 6 = .ok (.aload_n 0, 1) := by decide +kernel
theorem dX9_tries_7 : decode cX9_tries 7 = .ok (.getfield 19, 3) := by decide +kernel
theorem dX9_tries_10 : decode cX9_tries 10 = .ok (.iload_n 2, 1) := by decide +kernel
theorem dX9_tries_11 : decode cX9_tries 11 = .ok (.iaload, 1) := by decide +kernel
theorem dX9_tries_12 : decode cX9_tries 12 = .ok (.iadd, 1) := by decide +kernel
theorem dX9_tries_13 : decode cX9_tries 13 = .ok (.aload_n 0, 1) := by decide +kernel
theorem dX9_tries_14 : decode cX9_tries 14 = .ok (.getfield 19, 3) := by decide +kernel
theorem dX9_tries_17 : decode cX9_tries 17 = .ok (.iload_n 3, 1) := by decide +kernel
theorem dX9_tries_18 : decode cX9_tries 18 = .ok (.iaload, 1) := by decide +kernel
theorem dX9_tries_19 : decode cX9_tries 19 = .ok (.iadd, 1) := by decide +kernel
theorem dX9_tries_20 : decode cX9_tries 20 = .ok (.istore 4, 2) := by decide +kernel
theorem dX9_tries_22 : decode cX9_tries 22 = .ok (.iconst 0, 1) := by decide +kernel
theorem dX9_tries_23 : decode cX9_tries 23 = .ok (.istore 5, 2) := by decide +kernel
theorem dX9_tries_25 : decode cX9_tries 25 = .ok (.iload 5, 2) := by decide +kernel
theorem dX9_tries_27 : decode cX9_tries 27 = .ok (.iconst 3, 1) := by decide +kernel
theorem dX9_tries_28 : decode cX9_tries 28 = .ok (.if_icmp .ge 39, 3) := by decide +kernel
theorem dX9_tries_31 : decode cX9_tries 31 = .ok (.aload_n 0, 1) := by decide +kernel
theorem dX9_tries_32 : decode cX9_tries 32 = .ok (.iload_n 1, 1) := by decide +kernel
theorem dX9_tries_33 : decode cX9_tries 33 = .ok (.iload_n 2, 1) := by decide +kernel
theorem dX9_tries_34 : decode cX9_tries 34 = .ok (.iload_n 3, 1) := by decide +kernel
theorem dX9_tries_35 : decode cX9_tries 35 = .ok (.iload 5, 2) := by decide +kernel
theorem dX9_tries_37 : decode cX9_tries 37 = .ok (.invokevirtual 111, 3) := by decide +kernel
theorem dX9_tries_40 : decode cX9_tries 40 = .ok (.istore 6, 2) := by decide +kernel
theorem dX9_tries_42 : decode cX9_tries 42 = .ok (.iload 6, 2) := by decide +kernel
theorem dX9_tries_44 : decode cX9_tries 44 = .ok (.iconst (-1), 1) := by decide +kernel
theorem dX9_tries_45 : decode cX9_tries 45 = .ok (.if_icmp .ne 4, 3) := by decide +kernel
theorem dX9_tries_48 : decode cX9_tries 48 = .ok (.return_, 1) := by decide +kernel
theorem dX9_tries_49 : decode cX9_tries 49 = .ok (.iload 4, 2) := by decide +kernel
theorem dX9_tries_51 : decode cX9_tries 51 = .ok (.aload_n 0, 1) := by decide +kernel
theorem dX9_tries_52 : decode cX9_tries 52 = .ok (.getfield 19, 3) := by decide +kernel
theorem dX9_tries_55 : decode cX9_tries 55 = .ok (.iload 6, 2) := by decide +kernel
theorem dX9_tries_57 : decode cX9_tries 57 = .ok (.iaload, 1) := by decide +kernel
theorem dX9_tries_58 : decode cX9_tries 58 = .ok (.iadd, 1) := by decide +kernel
theorem dX9_tries_59 : decode cX9_tries 59 = .ok (.istore 4, 2) := by decide +kernel
theorem dX9_tries_61 : decode cX9_tries 61 = .ok (.iinc 5 1, 3) := by decide +kernel
theorem dX9_tries_64 : decode cX9_tries 64 = .ok (.goto (-39), 3) := by decide +kernel
theorem dX9_tries_67 : decode cX9_tries 67 = .ok (.aload_n 0, 1) := by decide +kernel
theorem dX9_tries_68 : decode cX9_tries 68 = .ok (.dup, 1) := by decide +kernel
theorem dX9_tries_69 : decode cX9_tries 69 = .ok (.getfield 115, 3) := by decide +kernel
theorem dX9_tries_72 : decode cX9_tries 72 = .ok (.iconst 1, 1) := by decide +kernel
theorem dX9_tries_73 : decode cX9_tries 73 = .ok (.iadd, 1) := by decide +kernel
theorem dX9_tries_74 : decode cX9_tries 74 = .ok (.putfield 115, 3) := by decide +kernel
theorem dX9_tries_77 : decode cX9_tries 77 = .ok (.iload 4, 2) := by decide +kernel
theorem dX9_tries_79 : decode cX9_tries 79 = .ok (.aload_n 0, 1) := by decide +kernel
theorem dX9_tries_80 : decode cX9_tries 80 = .ok (.getfield 118, 3) := by decide +kernel
theorem dX9_tries_83 : decode cX9_tries 83 = .ok (.if_icmp .le 30, 3) := by decide +kernel
theorem dX9_tries_86 : decode cX9_tries 86 = .ok (.aload_n 0, 1) := by decide +kernel
theorem dX9_tries_87 : decode cX9_tries 87 = .ok (.iload 4, 2) := by decide +kernel
theorem dX9_tries_89 : decode cX9_tries 89 = .ok (.putfield 118, 3) := by decide +kernel
theorem dX9_tries_92 : decode cX9_tries 92 = .ok (.aload_n 0, 1) := by decide +kernel
theorem dX9_tries_93 : decode cX9_tries 93 = .ok (.getfield 28, 3) := by decide +kernel
theorem dX9_tries_96 : decode cX9_tries 96 = .ok (.iconst 0, 1) := by decide +kernel
theorem dX9_tries_97 : decode cX9_tries 97 = .ok (.iload_n 1, 1) := by decide +kernel
theorem dX9_tries_98 : decode cX9_tries 98 = .ok (.iastore, 1) := by decide +kernel
theorem dX9_tries_99 : decode cX9_tries 99 = .ok (.aload_n 0, 1) := by decide +kernel
theorem dX9_tries_100 : decode cX9_tries 100 = .ok (.getfield 28, 3) := by decide +kernel
theorem dX9_tries_103 : decode cX9_tries 103 = .ok (.iconst 1, 1) := by decide +kernel
theorem dX9_tries_104 : decode cX9_tries 104 = .ok (.iload_n 2, 1) := by decide +kernel
theorem dX9_tries_105 : decode cX9_tries 105 = .ok (.iastore, 1) := by decide +kernel
theorem dX9_tries_106 : decode cX9_tries 106 = .ok (.aload_n 0, 1) := by decide +kernel
theorem dX9_tries_107 : decode cX9_tries 107 = .ok (.getfield 28, 3) := by decide +kernel
theorem dX9_tries_110 : decode cX9_tries 110 = .ok (.iconst 2, 1) := by decide +kernel
theorem dX9_tries_111 : decode cX9_tries 111 = .ok (.iload_n 3, 1) := by decide +kernel
theorem dX9_tries_112 : decode cX9_tries 112 = .ok (.iastore, 1) := by decide +kernel
theorem dX9_tries_113 : decode cX9_tries 113 = .ok (.return_, 1) := by decide +kernel
theorem dX9_findsFills_0 : decode cX9_findsFills 0 = .ok (.aload_n 0, 1) := by decide +kernel
theorem dX9_findsFills_1 : decode cX9_findsFills 1 = .ok (.invokevirtual 104, 3) := by decide +kernel
theorem dX9_findsFills_4 : decode cX9_findsFills 4 = .ok (.aload_n 0, 1) := by decide +kernel
theorem dX9_findsFills_5 : decode cX9_findsFills 5 = .ok (.iconst 0, 1) := by decide +kernel
theorem dX9_findsFills_6 : decode cX9_findsFills 6 = .ok (.putfield 115, 3) := by decide +kernel
theorem dX9_findsFills_9 : decode cX9_findsFills 9 = .ok (.aload_n 0, 1) := by decide +kernel
theorem dX9_findsFills_10 : decode cX9_findsFills 10 = .ok (.iconst (-1), 1) := by decide +kernel
theorem dX9_findsFills_11 : decode cX9_findsFills 11 = .ok (.putfield 118, 3) := by decide +kernel
theorem dX9_findsFills_14 : decode cX9_findsFills 14 = .ok (.iconst 0, 1) := by decide +kernel
theorem dX9_findsFills_15 : decode cX9_findsFills 15 = .ok (.istore_n 1, 1) := by decide +kernel
theorem dX9_findsFills_16 : decode cX9_findsFills 16 = .ok (.iload_n 1, 1) := by decide +kernel
theorem dX9_findsFills_17 : decode cX9_findsFills 17 = .ok (.aload_n 0, 1) := by decide +kernel
theorem dX9_findsFills_18 : decode cX9_findsFills 18 = .ok (.getfield 94, 3) := by decide +kernel
theorem dX9_findsFills_21 : decode cX9_findsFills 21 = .ok (.if_icmp .ge 105, 3) := by decide +kernel
theorem dX9_findsFills_24 : decode cX9_findsFills 24 = .ok (.iconst 0, 1) := by decide +kernel
theorem dX9_findsFills_25 : decode cX9_findsFills 25 = .ok (.istore_n 2, 1) := by decide +kernel
theorem dX9_findsFills_26 : decode cX9_findsFills 26 = .ok (.iload_n 2, 1) := by decide +kernel
theorem dX9_findsFills_27 : decode cX9_findsFills 27 = .ok (.aload_n 0, 1) := by decide +kernel
theorem dX9_findsFills_28 : decode cX9_findsFills 28 = .ok (.getfield 94, 3) := by decide +kernel
theorem dX9_findsFills_31 : decode cX9_findsFills 31 = .ok (.if_icmp .ge 89, 3) := by decide +kernel
theorem dX9_findsFills_34 : decode cX9_findsFills 34 = .ok (.aload_n 0, 1) := by decide +kernel
theorem dX9_findsFills_35 : decode cX9_findsFills 35 = .ok (.aload_n 0, 1) := by decide +kernel
theorem dX9_findsFills_36 : decode cX9_findsFills 36 = .ok (.getfield 22, 3) := by decide +kernel
theorem dX9_findsFills_39 : decode cX9_findsFills 39 = .ok (.iload_n 1, 1) := by decide +kernel
theorem dX9_findsFills_40 : decode cX9_findsFills 40 = .ok (.iaload, 1) := by decide +kernel
theorem dX9_findsFills_41 : decode cX9_findsFills 41 = .ok (.iconst 0, 1) := by decide +kernel
theorem dX9_findsFills_42 : decode cX9_findsFills 42 = .ok (.invokevirtual 121, 3) := by decide +kernel
theorem dX9_findsFills_45 : decode cX9_findsFills 45 = .ok (.ifCond .eq 75, 3) := by decide +kernel
theorem dX9_findsFills_48 : decode cX9_findsFills 48 = .ok (.iconst 0, 1) := by decide +kernel
theorem dX9_findsFills_49 : decode cX9_findsFills 49 = .ok (.istore_n 3, 1) := by decide +kernel
theorem dX9_findsFills_50 : decode cX9_findsFills 50 = .ok (.iload_n 3, 1) := by decide +kernel
theorem dX9_findsFills_51 : decode cX9_findsFills 51 = .ok (.aload_n 0, 1) := by decide +kernel
theorem dX9_findsFills_52 : decode cX9_findsFills 52 = .ok (.getfield 94, 3) := by decide +kernel
theorem dX9_findsFills_55 : decode cX9_findsFills 55 = .ok (.if_icmp .ge 59, 3) := by decide +kernel
theorem dX9_findsFills_58 : decode cX9_findsFills 58 = .ok (.aload_n 0, 1) := by decide +kernel
theorem dX9_findsFills_59 : decode cX9_findsFills 59 = .ok (.aload_n 0, 1) := by decide +kernel
theorem dX9_findsFills_60 : decode cX9_findsFills 60 = .ok (.getfield 22, 3) := by decide +kernel
theorem dX9_findsFills_63 : decode cX9_findsFills 63 = .ok (.iload_n 2, 1) := by decide +kernel
theorem dX9_findsFills_64 : decode cX9_findsFills 64 = .ok (.iaload, 1) := by decide +kernel
theorem dX9_findsFills_65 : decode cX9_findsFills 65 = .ok (.iconst 1, 1) := by decide +kernel
theorem dX9_findsFills_66 : decode cX9_findsFills 66 = .ok (.invokevirtual 121, 3) := by decide +kernel
theorem dX9_findsFills_69 : decode cX9_findsFills 69 = .ok (.ifCond .eq 45, 3) := by decide +kernel
theorem dX9_findsFills_72 : decode cX9_findsFills 72 = .ok (.aload_n 0, 1) := by decide +kernel
theorem dX9_findsFills_73 : decode cX9_findsFills 73 = .ok (.aload_n 0, 1) := by decide +kernel
theorem dX9_findsFills_74 : decode cX9_findsFills 74 = .ok (.getfield 22, 3) := by decide +kernel
theorem dX9_findsFills_77 : decode cX9_findsFills 77 = .ok (.iload_n 3, 1) := by decide +kernel
theorem dX9_findsFills_78 : decode cX9_findsFills 78 = .ok (.iaload, 1) := by decide +kernel
theorem dX9_findsFills_79 : decode cX9_findsFills 79 = .ok (.iconst 2, 1) := by decide +kernel
theorem dX9_findsFills_80 : decode cX9_findsFills 80 = .ok (.invokevirtual 121, 3) := by decide +kernel
theorem dX9_findsFills_83 : decode cX9_findsFills 83 = .ok (.ifCond .eq 25, 3) := by decide +kernel
theorem dX9_findsFills_86 : decode cX9_findsFills 86 = .ok (.aload_n 0, 1) := by decide +kernel
theorem dX9_findsFills_87 : decode cX9_findsFills 87 = .ok (.aload_n 0, 1) := by decide +kernel
theorem dX9_findsFills_88 : decode cX9_findsFills 88 = .ok (.getfield 22, 3) := by decide +kernel
theorem dX9_findsFills_91 : decode cX9_findsFills 91 = .ok (.iload_n 1, 1) := by decide +kernel
theorem dX9_findsFills_92 : decode cX9_findsFills 92 = .ok (.iaload, 1) := by decide +kernel
theorem dX9_findsFills_93 : decode cX9_findsFills 93 = .ok (.aload_n 0, 1) := by decide +kernel
theorem dX9_findsFills_94 : decode cX9_findsFills 94 = .ok (.getfield 22, 3) := by decide +kernel
theorem dX9_findsFills_97 : decode cX9_findsFills 97 = .ok (.iload_n 2, 1) := by decide +kernel
theorem dX9_findsFills_98 : decode cX9_findsFills 98 = .ok (.iaload, 1) := by decide +kernel
theorem dX9_findsFills_99 : decode cX9_findsFills 99 = .ok (.aload_n 0, 1) := by decide +kernel
theorem dX9_findsFills_100 : decode cX9_findsFills 100 = .ok (.getfield 22, 3) := by decide +kernel
theorem dX9_findsFills_103 : decode cX9_findsFills 103 = .ok (.iload_n 3, 1) := by decide +kernel
theorem dX9_findsFills_104 : decode cX9_findsFills 104 = .ok (.iaload, 1) := by decide +kernel
theorem dX9_findsFills_105 : decode cX9_findsFills 105 = .ok (.invokevirtual 125, 3) := by decide +kernel
theorem dX9_findsFills_108 : decode cX9_findsFills 108 = .ok (.iinc 3 1, 3) := by decide +kernel
theorem dX9_findsFills_111 : decode cX9_findsFills 111 = .ok (.goto (-61), 3) := by decide +kernel
theorem dX9_findsFills_114 : decode cX9_findsFills 114 = .ok (.iinc 2 1, 3) := by decide +kernel
theorem dX9_findsFills_117 : decode cX9_findsFills 117 = .ok (.goto (-91), 3) := by decide +kernel
theorem dX9_findsFills_120 : decode cX9_findsFills 120 = .ok (.iinc 1 1, 3) := by decide +kernel
theorem dX9_findsFills_123 : decode cX9_findsFills 123 = .ok (.goto (-107), 3) := by decide +kernel
theorem dX9_findsFills_126 : decode cX9_findsFills 126 = .ok (.return_, 1) := by decide +kernel
theorem dX9_fillWeight_0 : decode cX9_fillWeight 0 = .ok (.aload_n 0, 1) := by decide +kernel
theorem dX9_fillWeight_1 : decode cX9_fillWeight 1 = .ok (.iconst 0, 1) := by decide +kernel
theorem dX9_fillWeight_2 : decode cX9_fillWeight 2 = .ok (.putfield 73, 3) := by decide +kernel
theorem dX9_fillWeight_5 : decode cX9_fillWeight 5 = .ok (.aload_n 0, 1) := by decide +kernel
theorem dX9_fillWeight_6 : decode cX9_fillWeight 6 = .ok (.invokevirtual 129, 3) := by decide +kernel
theorem dX9_fillWeight_9 : decode cX9_fillWeight 9 = .ok (.aload_n 0, 1) := by decide +kernel
theorem dX9_fillWeight_10 : decode cX9_fillWeight 10 = .ok (.getfield 118, 3) := by decide +kernel
theorem dX9_fillWeight_13 : decode cX9_fillWeight 13 = .ok (.ireturn, 1) := by decide +kernel
theorem dX9_fillWeightByAll_0 : decode cX9_fillWeightByAll 0 = .ok (.aload_n 0, 1) := by decide +kernel
theorem dX9_fillWeightByAll_1 : decode cX9_fillWeightByAll 1 = .ok (.invokevirtual 132, 3) := by decide +kernel
theorem dX9_fillWeightByAll_4 : decode cX9_fillWeightByAll 4 = .ok (.ireturn, 1) := by decide +kernel
theorem dX9_fills_0 : decode cX9_fills 0 = .ok (.aload_n 0, 1) := by decide +kernel
theorem dX9_fills_1 : decode cX9_fills 1 = .ok (.iconst 0, 1) := by decide +kernel
theorem dX9_fills_2 : decode cX9_fills 2 = .ok (.putfield 73, 3) := by decide +kernel
theorem dX9_fills_5 : decode cX9_fills 5 = .ok (.aload_n 0, 1) := by decide +kernel
theorem dX9_fills_6 : decode cX9_fills 6 = .ok (.invokevirtual 129, 3) := by decide +kernel
theorem dX9_fills_9 : decode cX9_fills 9 = .ok (.aload_n 0, 1) := by decide +kernel
theorem dX9_fills_10 : decode cX9_fills 10 = .ok (.getfield 115, 3) := by decide +kernel
theorem dX9_fills_13 : decode cX9_fills 13 = .ok (.ireturn, 1) := by decide +kernel
theorem dX9_fillAt_0 : decode cX9_fillAt 0 = .ok (.aload_n 0, 1) := by decide +kernel
theorem dX9_fillAt_1 : decode cX9_fillAt 1 = .ok (.iload_n 1, 1) := by decide +kernel
theorem dX9_fillAt_2 : decode cX9_fillAt 2 = .ok (.iconst 0, 1) := by decide +kernel
theorem dX9_fillAt_3 : decode cX9_fillAt 3 = .ok (.bipush 8, 2) := by decide +kernel
theorem dX9_fillAt_5 : decode cX9_fillAt 5 = .ok (.invokestatic 80, 3) := by decide +kernel
theorem dX9_fillAt_8 : decode cX9_fillAt 8 = .ok (.ifCond .eq 7, 3) := by decide +kernel
theorem dX9_fillAt_11 : decode cX9_fillAt 11 = .ok (.iconst 0, 1) := by decide +kernel
theorem dX9_fillAt_12 : decode cX9_fillAt 12 = .ok (.goto 4, 3) := by decide +kernel
theorem dX9_fillAt_15 : decode cX9_fillAt 15 = .ok (.iconst 1, 1) := by decide +kernel
theorem dX9_fillAt_16 : decode cX9_fillAt 16 = .ok (.putfield 73, 3) := by decide +kernel
theorem dX9_fillAt_19 : decode cX9_fillAt 19 = .ok (.aload_n 0, 1) := by decide +kernel
theorem dX9_fillAt_20 : decode cX9_fillAt 20 = .ok (.getfield 73, 3) := by decide +kernel
theorem dX9_fillAt_23 : decode cX9_fillAt 23 = .ok (.ifCond .le 5, 3) := by decide +kernel
theorem dX9_fillAt_26 : decode cX9_fillAt 26 = .ok (.iconst 0, 1) := by decide +kernel
theorem dX9_fillAt_27 : decode cX9_fillAt 27 = .ok (.ireturn, 1) := by decide +kernel
theorem dX9_fillAt_28 : decode cX9_fillAt 28 = .ok (.aload_n 0, 1) := by decide +kernel
theorem dX9_fillAt_29 : decode cX9_fillAt 29 = .ok (.invokevirtual 129, 3) := by decide +kernel
theorem dX9_fillAt_32 : decode cX9_fillAt 32 = .ok (.aload_n 0, 1) := by decide +kernel
theorem dX9_fillAt_33 : decode cX9_fillAt 33 = .ok (.getfield 118, 3) := by decide +kernel
theorem dX9_fillAt_36 : decode cX9_fillAt 36 = .ok (.iconst (-1), 1) := by decide +kernel
theorem dX9_fillAt_37 : decode cX9_fillAt 37 = .ok (.if_icmp .ne 11, 3) := by decide +kernel
theorem dX9_fillAt_40 : decode cX9_fillAt 40 = .ok (.aload_n 0, 1) := by decide +kernel
theorem dX9_fillAt_41 : decode cX9_fillAt 41 = .ok (.iconst 2, 1) := by decide +kernel
theorem dX9_fillAt_42 : decode cX9_fillAt 42 = .ok (.invokevirtual 97, 3) := by decide +kernel
theorem dX9_fillAt_45 : decode cX9_fillAt 45 = .ok (.goto 22, 3) := by decide +kernel
theorem dX9_fillAt_48 : decode cX9_fillAt 48 = .ok (.aload_n 0, 1) := by decide +kernel
theorem dX9_fillAt_49 : decode cX9_fillAt 49 = .ok (.getfield 16, 3) := by decide +kernel
theorem dX9_fillAt_52 : decode cX9_fillAt 52 = .ok (.aload_n 0, 1) := by decide +kernel
theorem dX9_fillAt_53 : decode cX9_fillAt 53 = .ok (.getfield 28, 3) := by decide +kernel
theorem dX9_fillAt_56 : decode cX9_fillAt 56 = .ok (.iload_n 1, 1) := by decide +kernel
theorem dX9_fillAt_57 : decode cX9_fillAt 57 = .ok (.iconst 3, 1) := by decide +kernel
theorem dX9_fillAt_58 : decode cX9_fillAt 58 = .ok (.idiv, 1) := by decide +kernel
theorem dX9_fillAt_59 : decode cX9_fillAt 59 = .ok (.iaload, 1) := by decide +kernel
theorem dX9_fillAt_60 : decode cX9_fillAt 60 = .ok (.iaload, 1) := by decide +kernel
theorem dX9_fillAt_61 : decode cX9_fillAt 61 = .ok (.iload_n 1, 1) := by decide +kernel
theorem dX9_fillAt_62 : decode cX9_fillAt 62 = .ok (.iconst 3, 1) := by decide +kernel
theorem dX9_fillAt_63 : decode cX9_fillAt 63 = .ok (.irem, 1) := by decide +kernel
theorem dX9_fillAt_64 : decode cX9_fillAt 64 = .ok (.invokestatic 107, 3) := by decide +kernel
theorem dX9_fillAt_67 : decode cX9_fillAt 67 = .ok (.ireturn, 1) := by decide +kernel
theorem dX9_isClue_0 : decode cX9_isClue 0 = .ok (.iload_n 1, 1) := by decide +kernel
theorem dX9_isClue_1 : decode cX9_isClue 1 = .ok (.iconst 0, 1) := by decide +kernel
theorem dX9_isClue_2 : decode cX9_isClue 2 = .ok (.aload_n 0, 1) := by decide +kernel
theorem dX9_isClue_3 : decode cX9_isClue 3 = .ok (.getfield 135, 3) := by decide +kernel
theorem dX9_isClue_6 : decode cX9_isClue 6 = .ok (.iconst 1, 1) := by decide +kernel
theorem dX9_isClue_7 : decode cX9_isClue 7 = .ok (.isub, 1) := by decide +kernel
theorem dX9_isClue_8 : decode cX9_isClue 8 = .ok (.invokestatic 80, 3) := by decide +kernel
theorem dX9_isClue_11 : decode cX9_isClue 11 = .ok (.ireturn, 1) := by decide +kernel
theorem dX9_clue_0 : decode cX9_clue 0 = .ok (.aload_n 0, 1) := by decide +kernel
theorem dX9_clue_1 : decode cX9_clue 1 = .ok (.aload_n 0, 1) := by decide +kernel
theorem dX9_clue_2 : decode cX9_clue 2 = .ok (.iload_n 1, 1) := by decide +kernel
theorem dX9_clue_3 : decode cX9_clue 3 = .ok (.invokevirtual 101, 3) := by decide +kernel
theorem dX9_clue_6 : decode cX9_clue 6 = .ok (.ifCond .ne 7, 3) := by decide +kernel
theorem dX9_clue_9 : decode cX9_clue 9 = .ok (.iconst 1, 1) := by decide +kernel
theorem dX9_clue_10 : decode cX9_clue 10 = .ok (.goto 17, 3) := by decide +kernel
theorem dX9_clue_13 : decode cX9_clue 13 = .ok (.aload_n 0, 1) := by decide +kernel
theorem dX9_clue_14 : decode cX9_clue 14 = .ok (.getfield 135, 3) := by decide +kernel
theorem dX9_clue_17 : decode cX9_clue 17 = .ok (.bipush 60, 2) := by decide +kernel
theorem dX9_clue_19 : decode cX9_clue 19 = .ok (.if_icmp .ne 7, 3) := by decide +kernel
theorem dX9_clue_22 : decode cX9_clue 22 = .ok (.iconst 2, 1) := by decide +kernel
theorem dX9_clue_23 : decode cX9_clue 23 = .ok (.goto 4, 3) := by decide +kernel
theorem dX9_clue_26 : decode cX9_clue 26 = .ok (.iconst 0, 1) := by decide +kernel
theorem dX9_clue_27 : decode cX9_clue 27 = .ok (.putfield 73, 3) := by decide +kernel
theorem dX9_clue_30 : decode cX9_clue 30 = .ok (.aload_n 0, 1) := by decide +kernel
theorem dX9_clue_31 : decode cX9_clue 31 = .ok (.getfield 73, 3) := by decide +kernel
theorem dX9_clue_34 : decode cX9_clue 34 = .ok (.ifCond .le 5, 3) := by decide +kernel
theorem dX9_clue_37 : decode cX9_clue 37 = .ok (.iconst 0, 1) := by decide +kernel
theorem dX9_clue_38 : decode cX9_clue 38 = .ok (.ireturn, 1) := by decide +kernel
theorem dX9_clue_39 : decode cX9_clue 39 = .ok (.aload_n 0, 1) := by decide +kernel
theorem dX9_clue_40 : decode cX9_clue 40 = .ok (.getfield 31, 3) := by decide +kernel
theorem dX9_clue_43 : decode cX9_clue 43 = .ok (.aload_n 0, 1) := by decide +kernel
theorem dX9_clue_44 : decode cX9_clue 44 = .ok (.getfield 135, 3) := by decide +kernel
theorem dX9_clue_47 : decode cX9_clue 47 = .ok (.iload_n 1, 1) := by decide +kernel
theorem dX9_clue_48 : decode cX9_clue 48 = .ok (.iastore, 1) := by decide +kernel
theorem dX9_clue_49 : decode cX9_clue 49 = .ok (.aload_n 0, 1) := by decide +kernel
theorem dX9_clue_50 : decode cX9_clue 50 = .ok (.dup, 1) := by decide +kernel
theorem dX9_clue_51 : decode cX9_clue 51 = .ok (.getfield 135, 3) := by decide +kernel
theorem dX9_clue_54 : decode cX9_clue 54 = .ok (.iconst 1, 1) := by decide +kernel
theorem dX9_clue_55 : decode cX9_clue 55 = .ok (.iadd, 1) := by decide +kernel
theorem dX9_clue_56 : decode cX9_clue 56 = .ok (.putfield 135, 3) := by decide +kernel
theorem dX9_clue_59 : decode cX9_clue 59 = .ok (.aload_n 0, 1) := by decide +kernel
theorem dX9_clue_60 : decode cX9_clue 60 = .ok (.getfield 135, 3) := by decide +kernel
theorem dX9_clue_63 : decode cX9_clue 63 = .ok (.iconst 1, 1) := by decide +kernel
theorem dX9_clue_64 : decode cX9_clue 64 = .ok (.isub, 1) := by decide +kernel
theorem dX9_clue_65 : decode cX9_clue 65 = .ok (.ireturn, 1) := by decide +kernel
theorem dX9_edit_0 : decode cX9_edit 0 = .ok (.aload_n 0, 1) := by decide +kernel
theorem dX9_edit_1 : decode cX9_edit 1 = .ok (.aload_n 0, 1) := by decide +kernel
theorem dX9_edit_2 : decode cX9_edit 2 = .ok (.iload_n 1, 1) := by decide +kernel
theorem dX9_edit_3 : decode cX9_edit 3 = .ok (.invokevirtual 138, 3) := by decide +kernel
theorem dX9_edit_6 : decode cX9_edit 6 = .ok (.ifCond .ne 7, 3) := by decide +kernel
theorem dX9_edit_9 : decode cX9_edit 9 = .ok (.iconst 1, 1) := by decide +kernel
theorem dX9_edit_10 : decode cX9_edit 10 = .ok (.goto 18, 3) := by decide +kernel
theorem dX9_edit_13 : decode cX9_edit 13 = .ok (.aload_n 0, 1) := by decide +kernel
theorem dX9_edit_14 : decode cX9_edit 14 = .ok (.getfield 34, 3) := by decide +kernel
theorem dX9_edit_17 : decode cX9_edit 17 = .ok (.iload_n 1, 1) := by decide +kernel
theorem dX9_edit_18 : decode cX9_edit 18 = .ok (.iaload, 1) := by decide +kernel
theorem dX9_edit_19 : decode cX9_edit 19 = .ok (.iconst 2, 1) := by decide +kernel
theorem dX9_edit_20 : decode cX9_edit 20 = .ok (.if_icmp .ne 7, 3) := by decide +kernel
theorem dX9_edit_23 : decode cX9_edit 23 = .ok (.iconst 2, 1) := by decide +kernel
theorem dX9_edit_24 : decode cX9_edit 24 = .ok (.goto 4, 3) := by decide +kernel
theorem dX9_edit_27 : decode cX9_edit 27 = .ok (.iconst 0, 1) := by decide +kernel
theorem dX9_edit_28 : decode cX9_edit 28 = .ok (.putfield 73, 3) := by decide +kernel
theorem dX9_edit_31 : decode cX9_edit 31 = .ok (.aload_n 0, 1) := by decide +kernel
theorem dX9_edit_32 : decode cX9_edit 32 = .ok (.getfield 73, 3) := by decide +kernel
theorem dX9_edit_35 : decode cX9_edit 35 = .ok (.ifCond .le 5, 3) := by decide +kernel
theorem dX9_edit_38 : decode cX9_edit 38 = .ok (.iconst 0, 1) := by decide +kernel
theorem dX9_edit_39 : decode cX9_edit 39 = .ok (.ireturn, 1) := by decide +kernel
theorem dX9_edit_40 : decode cX9_edit 40 = .ok (.aload_n 0, 1) := by decide +kernel
theorem dX9_edit_41 : decode cX9_edit 41 = .ok (.getfield 34, 3) := by decide +kernel
theorem dX9_edit_44 : decode cX9_edit 44 = .ok (.iload_n 1, 1) := by decide +kernel
theorem dX9_edit_45 : decode cX9_edit 45 = .ok (.iload_n 2, 1) := by decide +kernel
theorem dX9_edit_46 : decode cX9_edit 46 = .ok (.ifCond .eq 14, 3) := by decide +kernel
theorem dX9_edit_49 : decode cX9_edit 49 = .ok (.aload_n 0, 1) := by decide +kernel
theorem dX9_edit_50 : decode cX9_edit 50 = .ok (.getfield 34, 3) := by decide +kernel
theorem dX9_edit_53 : decode cX9_edit 53 = .ok (.iload_n 1, 1) := by decide +kernel
theorem dX9_edit_54 : decode cX9_edit 54 = .ok (.iaload, 1) := by decide +kernel
theorem dX9_edit_55 : decode cX9_edit 55 = .ok (.iconst 1, 1) := by decide +kernel
theorem dX9_edit_56 : decode cX9_edit 56 = .ok (.iadd, 1) := by decide +kernel
theorem dX9_edit_57 : decode cX9_edit 57 = .ok (.goto 4, 3) := by decide +kernel
theorem dX9_edit_60 : decode cX9_edit 60 = .ok (.iconst 0, 1) := by decide +kernel
theorem dX9_edit_61 : decode cX9_edit 61 = .ok (.iastore, 1) := by decide +kernel
theorem dX9_edit_62 : decode cX9_edit 62 = .ok (.aload_n 0, 1) := by decide +kernel
theorem dX9_edit_63 : decode cX9_edit 63 = .ok (.getfield 34, 3) := by decide +kernel
theorem dX9_edit_66 : decode cX9_edit 66 = .ok (.iload_n 1, 1) := by decide +kernel
theorem dX9_edit_67 : decode cX9_edit 67 = .ok (.iaload, 1) := by decide +kernel
theorem dX9_edit_68 : decode cX9_edit 68 = .ok (.ireturn, 1) := by decide +kernel
theorem dX9_lastUsed_0 : decode cX9_lastUsed 0 = .ok (.aload_n 0, 1) := by decide +kernel
theorem dX9_lastUsed_1 : decode cX9_lastUsed 1 = .ok (.aload_n 0, 1) := by decide +kernel
theorem dX9_lastUsed_2 : decode cX9_lastUsed 2 = .ok (.iload_n 1, 1) := by decide +kernel
theorem dX9_lastUsed_3 : decode cX9_lastUsed 3 = .ok (.invokevirtual 138, 3) := by decide +kernel
theorem dX9_lastUsed_6 : decode cX9_lastUsed 6 = .ok (.ifCond .eq 7, 3) := by decide +kernel
theorem dX9_lastUsed_9 : decode cX9_lastUsed 9 = .ok (.iconst 0, 1) := by decide +kernel
theorem dX9_lastUsed_10 : decode cX9_lastUsed 10 = .ok (.goto 4, 3) := by decide +kernel
theorem dX9_lastUsed_13 : decode cX9_lastUsed 13 = .ok (.iconst 1, 1) := by decide +kernel
theorem dX9_lastUsed_14 : decode cX9_lastUsed 14 = .ok (.putfield 73, 3) := by decide +kernel
theorem dX9_lastUsed_17 : decode cX9_lastUsed 17 = .ok (.aload_n 0, 1) := by decide +kernel
theorem dX9_lastUsed_18 : decode cX9_lastUsed 18 = .ok (.getfield 73, 3) := by decide +kernel
theorem dX9_lastUsed_21 : decode cX9_lastUsed 21 = .ok (.ifCond .ne 14, 3) := by decide +kernel
theorem dX9_lastUsed_24 : decode cX9_lastUsed 24 = .ok (.aload_n 0, 1) := by decide +kernel
theorem dX9_lastUsed_25 : decode cX9_lastUsed 25 = .ok (.getfield 37, 3) := by decide +kernel
theorem dX9_lastUsed_28 : decode cX9_lastUsed 28 = .ok (.iload_n 1, 1) := by decide +kernel
theorem dX9_lastUsed_29 : decode cX9_lastUsed 29 = .ok (.iaload, 1) := by decide +kernel
theorem dX9_lastUsed_30 : decode cX9_lastUsed 30 = .ok (.iconst 1, 1) := by decide +kernel
theorem dX9_lastUsed_31 : decode cX9_lastUsed 31 = .ok (.isub, 1) := by decide +kernel
theorem dX9_lastUsed_32 : decode cX9_lastUsed 32 = .ok (.goto 4, 3) := by decide +kernel
theorem dX9_lastUsed_35 : decode cX9_lastUsed 35 = .ok (.iconst 0, 1) := by decide +kernel
theorem dX9_lastUsed_36 : decode cX9_lastUsed 36 = .ok (.ireturn, 1) := by decide +kernel
theorem dX9_pass_0 : decode cX9_pass 0 = .ok (.aload_n 0, 1) := by decide +kernel
theorem dX9_pass_1 : decode cX9_pass 1 = .ok (.iload_n 1, 1) := by decide +kernel
theorem dX9_pass_2 : decode cX9_pass 2 = .ok (.iconst 1, 1) := by decide +kernel
theorem dX9_pass_3 : decode cX9_pass 3 = .ok (.sipush 2000, 3) := by decide +kernel
theorem dX9_pass_6 : decode cX9_pass 6 = .ok (.invokestatic 80, 3) := by decide +kernel
theorem dX9_pass_9 : decode cX9_pass 9 = .ok (.ifCond .ne 7, 3) := by decide +kernel
theorem dX9_pass_12 : decode cX9_pass 12 = .ok (.iconst 1, 1) := by decide +kernel
theorem dX9_pass_13 : decode cX9_pass 13 = .ok (.goto 20, 3) := by decide +kernel
theorem dX9_pass_16 : decode cX9_pass 16 = .ok (.aload_n 0, 1) := by decide +kernel
theorem dX9_pass_17 : decode cX9_pass 17 = .ok (.getfield 141, 3) := by decide +kernel
theorem dX9_pass_20 : decode cX9_pass 20 = .ok (.iload_n 1, 1) := by decide +kernel
theorem dX9_pass_21 : decode cX9_pass 21 = .ok (.iadd, 1) := by decide +kernel
theorem dX9_pass_22 : decode cX9_pass 22 = .ok (.sipush 30000, 3) := by decide +kernel
theorem dX9_pass_25 : decode cX9_pass 25 = .ok (.if_icmp .le 7, 3) := by decide +kernel
theorem dX9_pass_28 : decode cX9_pass 28 = .ok (.iconst 2, 1) := by decide +kernel
theorem dX9_pass_29 : decode cX9_pass 29 = .ok (.goto 4, 3) := by decide +kernel
theorem dX9_pass_32 : decode cX9_pass 32 = .ok (.iconst 0, 1) := by decide +kernel
theorem dX9_pass_33 : decode cX9_pass 33 = .ok (.putfield 73, 3) := by decide +kernel
theorem dX9_pass_36 : decode cX9_pass 36 = .ok (.aload_n 0, 1) := by decide +kernel
theorem dX9_pass_37 : decode cX9_pass 37 = .ok (.dup, 1) := by decide +kernel
theorem dX9_pass_38 : decode cX9_pass 38 = .ok (.getfield 141, 3) := by decide +kernel
theorem dX9_pass_41 : decode cX9_pass 41 = .ok (.aload_n 0, 1) := by decide +kernel
theorem dX9_pass_42 : decode cX9_pass 42 = .ok (.getfield 73, 3) := by decide +kernel
theorem dX9_pass_45 : decode cX9_pass 45 = .ok (.ifCond .ne 7, 3) := by decide +kernel
theorem dX9_pass_48 : decode cX9_pass 48 = .ok (.iload_n 1, 1) := by decide +kernel
theorem dX9_pass_49 : decode cX9_pass 49 = .ok (.goto 4, 3) := by decide +kernel
theorem dX9_pass_52 : decode cX9_pass 52 = .ok (.iconst 0, 1) := by decide +kernel
theorem dX9_pass_53 : decode cX9_pass 53 = .ok (.iadd, 1) := by decide +kernel
theorem dX9_pass_54 : decode cX9_pass 54 = .ok (.putfield 141, 3) := by decide +kernel
theorem dX9_pass_57 : decode cX9_pass 57 = .ok (.aload_n 0, 1) := by decide +kernel
theorem dX9_pass_58 : decode cX9_pass 58 = .ok (.getfield 73, 3) := by decide +kernel
theorem dX9_pass_61 : decode cX9_pass 61 = .ok (.ifCond .ne 10, 3) := by decide +kernel
theorem dX9_pass_64 : decode cX9_pass 64 = .ok (.aload_n 0, 1) := by decide +kernel
theorem dX9_pass_65 : decode cX9_pass 65 = .ok (.getfield 141, 3) := by decide +kernel
theorem dX9_pass_68 : decode cX9_pass 68 = .ok (.goto 4, 3) := by decide +kernel
theorem dX9_pass_71 : decode cX9_pass 71 = .ok (.iconst 0, 1) := by decide +kernel
theorem dX9_pass_72 : decode cX9_pass 72 = .ok (.ireturn, 1) := by decide +kernel
theorem dX9_now_0 : decode cX9_now 0 = .ok (.aload_n 0, 1) := by decide +kernel
theorem dX9_now_1 : decode cX9_now 1 = .ok (.iconst 0, 1) := by decide +kernel
theorem dX9_now_2 : decode cX9_now 2 = .ok (.putfield 73, 3) := by decide +kernel
theorem dX9_now_5 : decode cX9_now 5 = .ok (.aload_n 0, 1) := by decide +kernel
theorem dX9_now_6 : decode cX9_now 6 = .ok (.getfield 141, 3) := by decide +kernel
theorem dX9_now_9 : decode cX9_now 9 = .ok (.ireturn, 1) := by decide +kernel
theorem dX9_clueFor_0 : decode cX9_clueFor 0 = .ok (.iconst (-1), 1) := by decide +kernel
theorem dX9_clueFor_1 : decode cX9_clueFor 1 = .ok (.istore_n 3, 1) := by decide +kernel
theorem dX9_clueFor_2 : decode cX9_clueFor 2 = .ok (.iconst 0, 1) := by decide +kernel
theorem dX9_clueFor_3 : decode cX9_clueFor 3 = .ok (.istore 4, 2) := by decide +kernel
theorem dX9_clueFor_5 : decode cX9_clueFor 5 = .ok (.iload 4, 2) := by decide +kernel
theorem dX9_clueFor_7 : decode cX9_clueFor 7 = .ok (.aload_n 0, 1) := by decide +kernel
theorem dX9_clueFor_8 : decode cX9_clueFor 8 = .ok (.getfield 135, 3) := by decide +kernel
theorem dX9_clueFor_11 : decode cX9_clueFor 11 = .ok (.if_icmp .ge 143, 3) := by decide +kernel
theorem dX9_clueFor_14 : decode cX9_clueFor 14 = .ok (.aload_n 0, 1) := by decide +kernel
theorem dX9_clueFor_15 : decode cX9_clueFor 15 = .ok (.getfield 31, 3) := by decide +kernel
theorem dX9_clueFor_18 : decode cX9_clueFor 18 = .ok (.iload 4, 2) := by decide +kernel
theorem dX9_clueFor_20 : decode cX9_clueFor 20 = .ok (.iaload, 1) := by decide +kernel
theorem dX9_clueFor_21 : decode cX9_clueFor 21 = .ok (.iload_n 2, 1) := by decide +kernel
theorem dX9_clueFor_22 : decode cX9_clueFor 22 = .ok (.if_icmp .ne 51, 3) := by decide +kernel
theorem dX9_clueFor_25 : decode cX9_clueFor 25 = .ok (.aload_n 0, 1) := by decide +kernel
theorem dX9_clueFor_26 : decode cX9_clueFor 26 = .ok (.getfield 34, 3) := by decide +kernel
theorem dX9_clueFor_29 : decode cX9_clueFor 29 = .ok (.iload 4, 2) := by decide +kernel
theorem dX9_clueFor_31 : decode cX9_clueFor 31 = .ok (.iaload, 1) := by decide +kernel
theorem dX9_clueFor_32 : decode cX9_clueFor 32 = .ok (.iconst 2, 1) := by decide +kernel
theorem dX9_clueFor_33 : decode cX9_clueFor 33 = .ok (.if_icmp .ne 40, 3) := by decide +kernel
theorem dX9_clueFor_36 : decode cX9_clueFor 36 = .ok (.aload_n 0, 1) := by decide +kernel
theorem dX9_clueFor_37 : decode cX9_clueFor 37 = .ok (.getfield 37, 3) := by decide +kernel
theorem dX9_clueFor_40 : decode cX9_clueFor 40 = .ok (.iload 4, 2) := by decide +kernel
theorem dX9_clueFor_42 : decode cX9_clueFor 42 = .ok (.iaload, 1) := by decide +kernel
theorem dX9_clueFor_43 : decode cX9_clueFor 43 = .ok (.ifCond .eq 26, 3) := by decide +kernel
theorem dX9_clueFor_46 : decode cX9_clueFor 46 = .ok (.aload_n 0, 1) := by decide +kernel
theorem dX9_clueFor_47 : decode cX9_clueFor 47 = .ok (.getfield 141, 3) := by decide +kernel
theorem dX9_clueFor_50 : decode cX9_clueFor 50 = .ok (.bipush 24, 2) := by decide +kernel
theorem dX9_clueFor_52 : decode cX9_clueFor 52 = .ok (.idiv, 1) := by decide +kernel
theorem dX9_clueFor_53 : decode cX9_clueFor 53 = .ok (.aload_n 0, 1) := by decide +kernel
theorem dX9_clueFor_54 : decode cX9_clueFor 54 = .ok (.getfield 37, 3) := by decide +kernel
theorem dX9_clueFor_57 : decode cX9_clueFor 57 = .ok (.iload 4, 2) := by decide +kernel
theorem dX9_clueFor_59 : decode cX9_clueFor 59 = .ok (.iaload, 1) := by decide +kernel
theorem dX9_clueFor_60 : decode cX9_clueFor 60 = .ok (.isub, 1) := by decide +kernel
theorem dX9_clueFor_61 : decode cX9_clueFor 61 = .ok (.iconst 1, 1) := by decide +kernel
theorem dX9_clueFor_62 : decode cX9_clueFor 62 = .ok (.iadd, 1) := by decide +kernel
theorem dX9_clueFor_63 : decode cX9_clueFor 63 = .ok (.sipush 365, 3) := by decide +kernel
theorem dX9_clueFor_66 : decode cX9_clueFor 66 = .ok (.if_icmp .lt 7, 3) := by decide +kernel
theorem dX9_clueFor_69 : decode cX9_clueFor 69 = .ok (.iconst 1, 1) := by decide +kernel
theorem dX9_clueFor_70 : decode cX9_clueFor 70 = .ok (.goto 4, 3) := by decide +kernel
theorem dX9_clueFor_73 : decode cX9_clueFor 73 = .ok (.iconst 0, 1) := by decide +kernel
theorem dX9_clueFor_74 : decode cX9_clueFor 74 = .ok (.istore 5, 2) := by decide +kernel
theorem dX9_clueFor_76 : decode cX9_clueFor 76 = .ok (.iconst 0, 1) := by decide +kernel
theorem dX9_clueFor_77 : decode cX9_clueFor 77 = .ok (.istore 6, 2) := by decide +kernel
theorem dX9_clueFor_79 : decode cX9_clueFor 79 = .ok (.iload 6, 2) := by decide +kernel
theorem dX9_clueFor_81 : decode cX9_clueFor 81 = .ok (.iload_n 1, 1) := by decide +kernel
theorem dX9_clueFor_82 : decode cX9_clueFor 82 = .ok (.if_icmp .ge 33, 3) := by decide +kernel
theorem dX9_clueFor_85 : decode cX9_clueFor 85 = .ok (.iload 5, 2) := by decide +kernel
theorem dX9_clueFor_87 : decode cX9_clueFor 87 = .ok (.ifCond .eq 19, 3) := by decide +kernel
theorem dX9_clueFor_90 : decode cX9_clueFor 90 = .ok (.aload_n 0, 1) := by decide +kernel
theorem dX9_clueFor_91 : decode cX9_clueFor 91 = .ok (.getfield 52, 3) := by decide +kernel
theorem dX9_clueFor_94 : decode cX9_clueFor 94 = .ok (.iload 6, 2) := by decide +kernel
theorem dX9_clueFor_96 : decode cX9_clueFor 96 = .ok (.iaload, 1) := by decide +kernel
theorem dX9_clueFor_97 : decode cX9_clueFor 97 = .ok (.iload 4, 2) := by decide +kernel
theorem dX9_clueFor_99 : decode cX9_clueFor 99 = .ok (.if_icmp .eq 7, 3) := by decide +kernel
theorem dX9_clueFor_102 : decode cX9_clueFor 102 = .ok (.iconst 1, 1) := by decide +kernel
theorem dX9_clueFor_103 : decode cX9_clueFor 103 = .ok (.goto 4, 3) := by decide +kernel
theorem dX9_clueFor_106 : decode cX9_clueFor 106 = .ok (.iconst 0, 1) := by decide +kernel
theorem dX9_clueFor_107 : decode cX9_clueFor 107 = .ok (.istore 5, 2) := by decide +kernel
theorem dX9_clueFor_109 : decode cX9_clueFor 109 = .ok (.iinc 6 1, 3) := by decide +kernel
theorem dX9_clueFor_112 : decode cX9_clueFor 112 = .ok (.goto (-33), 3) := by decide +kernel
theorem dX9_clueFor_115 : decode cX9_clueFor 115 = .ok (.iload 5, 2) := by decide +kernel
theorem dX9_clueFor_117 : decode cX9_clueFor 117 = .ok (.ifCond .eq 29, 3) := by decide +kernel
theorem dX9_clueFor_120 : decode cX9_clueFor 120 = .ok (.iload_n 3, 1) := by decide +kernel
theorem dX9_clueFor_121 : decode cX9_clueFor 121 = .ok (.iconst (-1), 1) := by decide +kernel
theorem dX9_clueFor_122 : decode cX9_clueFor 122 = .ok (.if_icmp .eq 19, 3) := by decide +kernel
theorem dX9_clueFor_125 : decode cX9_clueFor 125 = .ok (.aload_n 0, 1) := by decide +kernel
theorem dX9_clueFor_126 : decode cX9_clueFor 126 = .ok (.getfield 37, 3) := by decide +kernel
theorem dX9_clueFor_129 : decode cX9_clueFor 129 = .ok (.iload 4, 2) := by decide +kernel
theorem dX9_clueFor_131 : decode cX9_clueFor 131 = .ok (.iaload, 1) := by decide +kernel
theorem dX9_clueFor_132 : decode cX9_clueFor 132 = .ok (.aload_n 0, 1) := by decide +kernel
theorem dX9_clueFor_133 : decode cX9_clueFor 133 = .ok (.getfield 37, 3) := by decide +kernel
theorem dX9_clueFor_136 : decode cX9_clueFor 136 = .ok (.iload_n 3, 1) := by decide +kernel
theorem dX9_clueFor_137 : decode cX9_clueFor 137 = .ok (.iaload, 1) := by decide +kernel
theorem dX9_clueFor_138 : decode cX9_clueFor 138 = .ok (.if_icmp .ge 8, 3) := by decide +kernel
theorem dX9_clueFor_141 : decode cX9_clueFor 141 = .ok (.iload 4, 2) := by decide +kernel
theorem dX9_clueFor_143 : decode cX9_clueFor 143 = .ok (.goto 4, 3) := by decide +kernel
theorem dX9_clueFor_146 : decode cX9_clueFor 146 = .ok (.iload_n 3, 1) := by decide +kernel
theorem dX9_clueFor_147 : decode cX9_clueFor 147 = .ok (.istore_n 3, 1) := by decide +kernel
theorem dX9_clueFor_148 : decode cX9_clueFor 148 = .ok (.iinc 4 1, 3) := by decide +kernel
theorem dX9_clueFor_151 : decode cX9_clueFor 151 = .ok (.goto (-146), 3) := by decide +kernel
theorem dX9_clueFor_154 : decode cX9_clueFor 154 = .ok (.iload_n 3, 1) := by decide +kernel
theorem dX9_clueFor_155 : decode cX9_clueFor 155 = .ok (.ireturn, 1) := by decide +kernel
theorem dX9_publish_0 : decode cX9_publish 0 = .ok (.aload_n 0, 1) := by decide +kernel
theorem dX9_publish_1 : decode cX9_publish 1 = .ok (.iconst 0, 1) := by decide +kernel
theorem dX9_publish_2 : decode cX9_publish 2 = .ok (.putfield 73, 3) := by decide +kernel
theorem dX9_publish_5 : decode cX9_publish 5 = .ok (.aload_n 0, 1) := by decide +kernel
theorem dX9_publish_6 : decode cX9_publish 6 = .ok (.getfield 144, 3) := by decide +kernel
theorem dX9_publish_9 : decode cX9_publish 9 = .ok (.bipush 20, 2) := by decide +kernel
theorem dX9_publish_11 : decode cX9_publish 11 = .ok (.if_icmp .ge 38, 3) := by decide +kernel
theorem dX9_publish_14 : decode cX9_publish 14 = .ok (.aload_n 0, 1) := by decide +kernel
theorem dX9_publish_15 : decode cX9_publish 15 = .ok (.getfield 144, 3) := by decide +kernel
theorem dX9_publish_18 : decode cX9_publish 18 = .ok (.ifCond .eq 27, 3) := by decide +kernel
theorem dX9_publish_21 : decode cX9_publish 21 = .ok (.aload_n 0, 1) := by decide +kernel
theorem dX9_publish_22 : decode cX9_publish 22 = .ok (.getfield 40, 3) := by decide +kernel
theorem dX9_publish_25 : decode cX9_publish 25 = .ok (.aload_n 0, 1) := by decide +kernel
theorem dX9_publish_26 : decode cX9_publish 26 = .ok (.getfield 144, 3) := by decide +kernel
theorem dX9_publish_29 : decode cX9_publish 29 = .ok (.iconst 1, 1) := by decide +kernel
theorem dX9_publish_30 : decode cX9_publish 30 = .ok (.isub, 1) := by decide +kernel
theorem dX9_publish_31 : decode cX9_publish 31 = .ok (.iaload, 1) := by decide +kernel
theorem dX9_publish_32 : decode cX9_publish 32 = .ok (.bipush 24, 2) := by decide +kernel
theorem dX9_publish_34 : decode cX9_publish 34 = .ok (.idiv, 1) := by decide +kernel
theorem dX9_publish_35 : decode cX9_publish 35 = .ok (.aload_n 0, 1) := by decide +kernel
theorem dX9_publish_36 : decode cX9_publish 36 = .ok (.getfield 141, 3) := by decide +kernel
theorem dX9_publish_39 : decode cX9_publish 39 = .ok (.bipush 24, 2) := by decide +kernel
theorem dX9_publish_41 : decode cX9_publish 41 = .ok (.idiv, 1) := by decide +kernel
theorem dX9_publish_42 : decode cX9_publish 42 = .ok (.if_icmp .eq 7, 3) := by decide +kernel
theorem dX9_publish_45 : decode cX9_publish 45 = .ok (.iconst 1, 1) := by decide +kernel
theorem dX9_publish_46 : decode cX9_publish 46 = .ok (.goto 4, 3) := by decide +kernel
theorem dX9_publish_49 : decode cX9_publish 49 = .ok (.iconst 0, 1) := by decide +kernel
theorem dX9_publish_50 : decode cX9_publish 50 = .ok (.istore_n 1, 1) := by decide +kernel
theorem dX9_publish_51 : decode cX9_publish 51 = .ok (.iload_n 1, 1) := by decide +kernel
theorem dX9_publish_52 : decode cX9_publish 52 = .ok (.ifCond .eq 7, 3) := by decide +kernel
theorem dX9_publish_55 : decode cX9_publish 55 = .ok (.aload_n 0, 1) := by decide +kernel
theorem dX9_publish_56 : decode cX9_publish 56 = .ok (.invokevirtual 129, 3) := by decide +kernel
theorem dX9_publish_59 : decode cX9_publish 59 = .ok (.iload_n 1, 1) := by decide +kernel
theorem dX9_publish_60 : decode cX9_publish 60 = .ok (.ifCond .eq 15, 3) := by decide +kernel
theorem dX9_publish_63 : decode cX9_publish 63 = .ok (.aload_n 0, 1) := by decide +kernel
theorem dX9_publish_64 : decode cX9_publish 64 = .ok (.getfield 118, 3) := by decide +kernel
theorem dX9_publish_67 : decode cX9_publish 67 = .ok (.iconst (-1), 1) := by decide +kernel
theorem dX9_publish_68 : decode cX9_publish 68 = .ok (.if_icmp .eq 7, 3) := by decide +kernel
theorem dX9_publish_71 : decode cX9_publish 71 = .ok (.iconst 1, 1) := by decide +kernel
theorem dX9_publish_72 : decode cX9_publish 72 = .ok (.goto 4, 3) := by decide +kernel
theorem dX9_publish_75 : decode cX9_publish 75 = .ok (.iconst 0, 1) := by decide +kernel
theorem dX9_publish_76 : decode cX9_publish 76 = .ok (.istore_n 1, 1) := by decide +kernel
theorem dX9_publish_77 : decode cX9_publish 77 = .ok (.iconst 0, 1) := by decide +kernel
theorem dX9_publish_78 : decode cX9_publish 78 = .ok (.istore_n 2, 1) := by decide +kernel
theorem dX9_publish_79 : decode cX9_publish 79 = .ok (.iload_n 2, 1) := by decide +kernel
theorem dX9_publish_80 : decode cX9_publish 80 = .ok (.bipush 6, 2) := by decide +kernel
theorem dX9_publish_82 : decode cX9_publish 82 = .ok (.if_icmp .ge 81, 3) := by decide +kernel
theorem dX9_publish_85 : decode cX9_publish 85 = .ok (.iload_n 1, 1) := by decide +kernel
theorem dX9_publish_86 : decode cX9_publish 86 = .ok (.ifCond .eq 77, 3) := by decide +kernel
theorem dX9_publish_89 : decode cX9_publish 89 = .ok (.iload_n 2, 1) := by decide +kernel
theorem dX9_publish_90 : decode cX9_publish 90 = .ok (.iconst 3, 1) := by decide +kernel
theorem dX9_publish_91 : decode cX9_publish 91 = .ok (.if_icmp .ge 12, 3) := by decide +kernel
theorem dX9_publish_94 : decode cX9_publish 94 = .ok (.aload_n 0, 1) := by decide +kernel
theorem dX9_publish_95 : decode cX9_publish 95 = .ok (.getfield 28, 3) := by decide +kernel
theorem dX9_publish_98 : decode cX9_publish 98 = .ok (.iload_n 2, 1) := by decide +kernel
theorem dX9_publish_99 : decode cX9_publish 99 = .ok (.iaload, 1) := by decide +kernel
theorem dX9_publish_100 : decode cX9_publish 100 = .ok (.goto 28, 3) := by decide +kernel
theorem dX9_publish_103 : decode cX9_publish 103 = .ok (.aload_n 0, 1) := by decide +kernel
theorem dX9_publish_104 : decode cX9_publish 104 = .ok (.aload_n 0, 1) := by decide +kernel
theorem dX9_publish_105 : decode cX9_publish 105 = .ok (.getfield 28, 3) := by decide +kernel
theorem dX9_publish_108 : decode cX9_publish 108 = .ok (.iconst 0, 1) := by decide +kernel
theorem dX9_publish_109 : decode cX9_publish 109 = .ok (.iaload, 1) := by decide +kernel
theorem dX9_publish_110 : decode cX9_publish 110 = .ok (.aload_n 0, 1) := by decide +kernel
theorem dX9_publish_111 : decode cX9_publish 111 = .ok (.getfield 28, 3) := by decide +kernel
theorem dX9_publish_114 : decode cX9_publish 114 = .ok (.iconst 1, 1) := by decide +kernel
theorem dX9_publish_115 : decode cX9_publish 115 = .ok (.iaload, 1) := by decide +kernel
theorem dX9_publish_116 : decode cX9_publish 116 = .ok (.aload_n 0, 1) := by decide +kernel
theorem dX9_publish_117 : decode cX9_publish 117 = .ok (.getfield 28, 3) := by decide +kernel
theorem dX9_publish_120 : decode cX9_publish 120 = .ok (.iconst 2, 1) := by decide +kernel
theorem dX9_publish_121 : decode cX9_publish 121 = .ok (.iaload, 1) := by decide +kernel
theorem dX9_publish_122 : decode cX9_publish 122 = .ok (.iload_n 2, 1) := by decide +kernel
theorem dX9_publish_123 : decode cX9_publish 123 = .ok (.iconst 3, 1) := by decide +kernel
theorem dX9_publish_124 : decode cX9_publish 124 = .ok (.isub, 1) := by decide +kernel
theorem dX9_publish_125 : decode cX9_publish 125 = .ok (.invokevirtual 111, 3) := by decide +kernel
theorem dX9_publish_128 : decode cX9_publish 128 = .ok (.istore_n 3, 1) := by decide +kernel
theorem dX9_publish_129 : decode cX9_publish 129 = .ok (.aload_n 0, 1) := by decide +kernel
theorem dX9_publish_130 : decode cX9_publish 130 = .ok (.getfield 52, 3) := by decide +kernel
theorem dX9_publish_133 : decode cX9_publish 133 = .ok (.iload_n 2, 1) := by decide +kernel
theorem dX9_publish_134 : decode cX9_publish 134 = .ok (.aload_n 0, 1) := by decide +kernel
theorem dX9_publish_135 : decode cX9_publish 135 = .ok (.iload_n 2, 1) := by decide +kernel
theorem dX9_publish_136 : decode cX9_publish 136 = .ok (.iload_n 3, 1) := by decide +kernel
theorem dX9_publish_137 : decode cX9_publish 137 = .ok (.invokevirtual 147, 3) := by decide +kernel
theorem dX9_publish_140 : decode cX9_publish 140 = .ok (.iastore, 1) := by decide +kernel
theorem dX9_publish_141 : decode cX9_publish 141 = .ok (.aload_n 0, 1) := by decide +kernel
theorem dX9_publish_142 : decode cX9_publish 142 = .ok (.getfield 52, 3) := by decide +kernel
theorem dX9_publish_145 : decode cX9_publish 145 = .ok (.iload_n 2, 1) := by decide +kernel
theorem dX9_publish_146 : decode cX9_publish 146 = .ok (.iaload, 1) := by decide +kernel
theorem dX9_publish_147 : decode cX9_publish 147 = .ok (.iconst (-1), 1) := by decide +kernel
theorem dX9_publish_148 : decode cX9_publish 148 = .ok (.if_icmp .eq 7, 3) := by decide +kernel
theorem dX9_publish_151 : decode cX9_publish 151 = .ok (.iconst 1, 1) := by decide +kernel
theorem dX9_publish_152 : decode cX9_publish 152 = .ok (.goto 4, 3) := by decide +kernel
theorem dX9_publish_155 : decode cX9_publish 155 = .ok (.iconst 0, 1) := by decide +kernel
theorem dX9_publish_156 : decode cX9_publish 156 = .ok (.istore_n 1, 1) := by decide +kernel
theorem dX9_publish_157 : decode cX9_publish 157 = .ok (.iinc 2 1, 3) := by decide +kernel
theorem dX9_publish_160 : decode cX9_publish 160 = .ok (.goto (-81), 3) := by decide +kernel
theorem dX9_publish_163 : decode cX9_publish 163 = .ok (.iload_n 1, 1) := by decide +kernel
theorem dX9_publish_164 : decode cX9_publish 164 = .ok (.ifCond .ne 9, 3) := by decide +kernel
theorem dX9_publish_167 : decode cX9_publish 167 = .ok (.aload_n 0, 1) := by decide +kernel
theorem dX9_publish_168 : decode cX9_publish 168 = .ok (.iconst 1, 1) := by decide +kernel
theorem dX9_publish_169 : decode cX9_publish 169 = .ok (.invokevirtual 97, 3) := by decide +kernel
theorem dX9_publish_172 : decode cX9_publish 172 = .ok (.ireturn, 1) := by decide +kernel
theorem dX9_publish_173 : decode cX9_publish 173 = .ok (.iconst 0, 1) := by decide +kernel
theorem dX9_publish_174 : decode cX9_publish 174 = .ok (.istore_n 2, 1) := by decide +kernel
theorem dX9_publish_175 : decode cX9_publish 175 = .ok (.iload_n 2, 1) := by decide +kernel
theorem dX9_publish_176 : decode cX9_publish 176 = .ok (.bipush 6, 2) := by decide +kernel
theorem dX9_publish_178 : decode cX9_publish 178 = .ok (.if_icmp .ge 49, 3) := by decide +kernel
theorem dX9_publish_181 : decode cX9_publish 181 = .ok (.aload_n 0, 1) := by decide +kernel
theorem dX9_publish_182 : decode cX9_publish 182 = .ok (.getfield 46, 3) := by decide +kernel
theorem dX9_publish_185 : decode cX9_publish 185 = .ok (.bipush 6, 2) := by decide +kernel
theorem dX9_publish_187 : decode cX9_publish 187 = .ok (.aload_n 0, 1) := by decide +kernel
theorem dX9_publish_188 : decode cX9_publish 188 = .ok (.getfield 144, 3) := by decide +kernel
theorem dX9_publish_191 : decode cX9_publish 191 = .ok (.imul, 1) := by decide +kernel
theorem dX9_publish_192 : decode cX9_publish 192 = .ok (.iload_n 2, 1) := by decide +kernel
theorem dX9_publish_193 : decode cX9_publish 193 = .ok (.iadd, 1) := by decide +kernel
theorem dX9_publish_194 : decode cX9_publish 194 = .ok (.aload_n 0, 1) := by decide +kernel
theorem dX9_publish_195 : decode cX9_publish 195 = .ok (.getfield 52, 3) := by decide +kernel
theorem dX9_publish_198 : decode cX9_publish 198 = .ok (.iload_n 2, 1) := by decide +kernel
theorem dX9_publish_199 : decode cX9_publish 199 = .ok (.iaload, 1) := by decide +kernel
theorem dX9_publish_200 : decode cX9_publish 200 = .ok (.iastore, 1) := by decide +kernel
theorem dX9_publish_201 : decode cX9_publish 201 = .ok (.aload_n 0, 1) := by decide +kernel
theorem dX9_publish_202 : decode cX9_publish 202 = .ok (.getfield 37, 3) := by decide +kernel
theorem dX9_publish_205 : decode cX9_publish 205 = .ok (.aload_n 0, 1) := by decide +kernel
theorem dX9_publish_206 : decode cX9_publish 206 = .ok (.getfield 52, 3) := by decide +kernel
theorem dX9_publish_209 : decode cX9_publish 209 = .ok (.iload_n 2, 1) := by decide +kernel
theorem dX9_publish_210 : decode cX9_publish 210 = .ok (.iaload, 1) := by decide +kernel
theorem dX9_publish_211 : decode cX9_publish 211 = .ok (.aload_n 0, 1) := by decide +kernel
theorem dX9_publish_212 : decode cX9_publish 212 = .ok (.getfield 141, 3) := by decide +kernel
theorem dX9_publish_215 : decode cX9_publish 215 = .ok (.bipush 24, 2) := by decide +kernel
theorem dX9_publish_217 : decode cX9_publish 217 = .ok (.idiv, 1) := by decide +kernel
theorem dX9_publish_218 : decode cX9_publish 218 = .ok (.iconst 1, 1) := by decide +kernel
theorem dX9_publish_219 : decode cX9_publish 219 = .ok (.iadd, 1) := by decide +kernel
theorem dX9_publish_220 : decode cX9_publish 220 = .ok (.iastore, 1) := by decide +kernel
theorem dX9_publish_221 : decode cX9_publish 221 = .ok (.iinc 2 1, 3) := by decide +kernel
theorem dX9_publish_224 : decode cX9_publish 224 = .ok (.goto (-49), 3) := by decide +kernel
theorem dX9_publish_227 : decode cX9_publish 227 = .ok (.iconst 0, 1) := by decide +kernel
theorem dX9_publish_228 : decode cX9_publish 228 = .ok (.istore_n 2, 1) := by decide +kernel
theorem dX9_publish_229 : decode cX9_publish 229 = .ok (.iload_n 2, 1) := by decide +kernel
theorem dX9_publish_230 : decode cX9_publish 230 = .ok (.bipush 9, 2) := by decide +kernel
theorem dX9_publish_232 : decode cX9_publish 232 = .ok (.if_icmp .ge 42, 3) := by decide +kernel
theorem dX9_publish_235 : decode cX9_publish 235 = .ok (.aload_n 0, 1) := by decide +kernel
theorem dX9_publish_236 : decode cX9_publish 236 = .ok (.getfield 43, 3) := by decide +kernel
theorem dX9_publish_239 : decode cX9_publish 239 = .ok (.bipush 9, 2) := by decide +kernel
theorem dX9_publish_241 : decode cX9_publish 241 = .ok (.aload_n 0, 1) := by decide +kernel
theorem dX9_publish_242 : decode cX9_publish 242 = .ok (.getfield 144, 3) := by decide +kernel
theorem dX9_publish_245 : decode cX9_publish 245 = .ok (.imul, 1) := by decide +kernel
theorem dX9_publish_246 : decode cX9_publish 246 = .ok (.iload_n 2, 1) := by decide +kernel
theorem dX9_publish_247 : decode cX9_publish 247 = .ok (.iadd, 1) := by decide +kernel
theorem dX9_publish_248 : decode cX9_publish 248 = .ok (.aload_n 0, 1) := by decide +kernel
theorem dX9_publish_249 : decode cX9_publish 249 = .ok (.getfield 16, 3) := by decide +kernel
theorem dX9_publish_252 : decode cX9_publish 252 = .ok (.aload_n 0, 1) := by decide +kernel
theorem dX9_publish_253 : decode cX9_publish 253 = .ok (.getfield 28, 3) := by decide +kernel
theorem dX9_publish_256 : decode cX9_publish 256 = .ok (.iload_n 2, 1) := by decide +kernel
theorem dX9_publish_257 : decode cX9_publish 257 = .ok (.iconst 3, 1) := by decide +kernel
theorem dX9_publish_258 : decode cX9_publish 258 = .ok (.idiv, 1) := by decide +kernel
theorem dX9_publish_259 : decode cX9_publish 259 = .ok (.iaload, 1) := by decide +kernel
theorem dX9_publish_260 : decode cX9_publish 260 = .ok (.iaload, 1) := by decide +kernel
theorem dX9_publish_261 : decode cX9_publish 261 = .ok (.iload_n 2, 1) := by decide +kernel
theorem dX9_publish_262 : decode cX9_publish 262 = .ok (.iconst 3, 1) := by decide +kernel
theorem dX9_publish_263 : decode cX9_publish 263 = .ok (.irem, 1) := by decide +kernel
theorem dX9_publish_264 : decode cX9_publish 264 = .ok (.invokestatic 107, 3) := by decide +kernel
theorem dX9_publish_267 : decode cX9_publish 267 = .ok (.iastore, 1) := by decide +kernel
theorem dX9_publish_268 : decode cX9_publish 268 = .ok (.iinc 2 1, 3) := by decide +kernel
theorem dX9_publish_271 : decode cX9_publish 271 = .ok (.goto (-42), 3) := by decide +kernel
theorem dX9_publish_274 : decode cX9_publish 274 = .ok (.aload_n 0, 1) := by decide +kernel
theorem dX9_publish_275 : decode cX9_publish 275 = .ok (.getfield 40, 3) := by decide +kernel
theorem dX9_publish_278 : decode cX9_publish 278 = .ok (.aload_n 0, 1) := by decide +kernel
theorem dX9_publish_279 : decode cX9_publish 279 = .ok (.getfield 144, 3) := by decide +kernel
theorem dX9_publish_282 : decode cX9_publish 282 = .ok (.aload_n 0, 1) := by decide +kernel
theorem dX9_publish_283 : decode cX9_publish 283 = .ok (.getfield 141, 3) := by decide +kernel
theorem dX9_publish_286 : decode cX9_publish 286 = .ok (.iastore, 1) := by decide +kernel
theorem dX9_publish_287 : decode cX9_publish 287 = .ok (.aload_n 0, 1) := by decide +kernel
theorem dX9_publish_288 : decode cX9_publish 288 = .ok (.dup, 1) := by decide +kernel
theorem dX9_publish_289 : decode cX9_publish 289 = .ok (.getfield 144, 3) := by decide +kernel
theorem dX9_publish_292 : decode cX9_publish 292 = .ok (.iconst 1, 1) := by decide +kernel
theorem dX9_publish_293 : decode cX9_publish 293 = .ok (.iadd, 1) := by decide +kernel
theorem dX9_publish_294 : decode cX9_publish 294 = .ok (.putfield 144, 3) := by decide +kernel
theorem dX9_publish_297 : decode cX9_publish 297 = .ok (.aload_n 0, 1) := by decide +kernel
theorem dX9_publish_298 : decode cX9_publish 298 = .ok (.getfield 144, 3) := by decide +kernel
theorem dX9_publish_301 : decode cX9_publish 301 = .ok (.iconst 1, 1) := by decide +kernel
theorem dX9_publish_302 : decode cX9_publish 302 = .ok (.isub, 1) := by decide +kernel
theorem dX9_publish_303 : decode cX9_publish 303 = .ok (.ireturn, 1) := by decide +kernel
theorem dX9_isPuzzle_0 : decode cX9_isPuzzle 0 = .ok (.iload_n 1, 1) := by decide +kernel
theorem dX9_isPuzzle_1 : decode cX9_isPuzzle 1 = .ok (.iconst 0, 1) := by decide +kernel
theorem dX9_isPuzzle_2 : decode cX9_isPuzzle 2 = .ok (.aload_n 0, 1) := by decide +kernel
theorem dX9_isPuzzle_3 : decode cX9_isPuzzle 3 = .ok (.getfield 144, 3) := by decide +kernel
theorem dX9_isPuzzle_6 : decode cX9_isPuzzle 6 = .ok (.iconst 1, 1) := by decide +kernel
theorem dX9_isPuzzle_7 : decode cX9_isPuzzle 7 = .ok (.isub, 1) := by decide +kernel
theorem dX9_isPuzzle_8 : decode cX9_isPuzzle 8 = .ok (.invokestatic 80, 3) := by decide +kernel
theorem dX9_isPuzzle_11 : decode cX9_isPuzzle 11 = .ok (.ireturn, 1) := by decide +kernel
theorem dX9_clueOf_0 : decode cX9_clueOf 0 = .ok (.aload_n 0, 1) := by decide +kernel
theorem dX9_clueOf_1 : decode cX9_clueOf 1 = .ok (.aload_n 0, 1) := by decide +kernel
theorem dX9_clueOf_2 : decode cX9_clueOf 2 = .ok (.iload_n 1, 1) := by decide +kernel
theorem dX9_clueOf_3 : decode cX9_clueOf 3 = .ok (.invokevirtual 150, 3) := by decide +kernel
theorem dX9_clueOf_6 : decode cX9_clueOf 6 = .ok (.ifCond .eq 16, 3) := by decide +kernel
theorem dX9_clueOf_9 : decode cX9_clueOf 9 = .ok (.iload_n 2, 1) := by decide +kernel
theorem dX9_clueOf_10 : decode cX9_clueOf 10 = .ok (.iconst 0, 1) := by decide +kernel
theorem dX9_clueOf_11 : decode cX9_clueOf 11 = .ok (.iconst 5, 1) := by decide +kernel
theorem dX9_clueOf_12 : decode cX9_clueOf 12 = .ok (.invokestatic 80, 3) := by decide +kernel
theorem dX9_clueOf_15 : decode cX9_clueOf 15 = .ok (.ifCond .eq 7, 3) := by decide +kernel
theorem dX9_clueOf_18 : decode cX9_clueOf 18 = .ok (.iconst 0, 1) := by decide +kernel
theorem dX9_clueOf_19 : decode cX9_clueOf 19 = .ok (.goto 4, 3) := by decide +kernel
theorem dX9_clueOf_22 : decode cX9_clueOf 22 = .ok (.iconst 1, 1) := by decide +kernel
theorem dX9_clueOf_23 : decode cX9_clueOf 23 = .ok (.putfield 73, 3) := by decide +kernel
theorem dX9_clueOf_26 : decode cX9_clueOf 26 = .ok (.aload_n 0, 1) := by decide +kernel
theorem dX9_clueOf_27 : decode cX9_clueOf 27 = .ok (.getfield 73, 3) := by decide +kernel
theorem dX9_clueOf_30 : decode cX9_clueOf 30 = .ok (.ifCond .ne 17, 3) := by decide +kernel
theorem dX9_clueOf_33 : decode cX9_clueOf 33 = .ok (.aload_n 0, 1) := by decide +kernel
theorem dX9_clueOf_34 : decode cX9_clueOf 34 = .ok (.getfield 46, 3) := by decide +kernel
theorem dX9_clueOf_37 : decode cX9_clueOf 37 = .ok (.bipush 6, 2) := by decide +kernel
theorem dX9_clueOf_39 : decode cX9_clueOf 39 = .ok (.iload_n 1, 1) := by decide +kernel
theorem dX9_clueOf_40 : decode cX9_clueOf 40 = .ok (.imul, 1) := by decide +kernel
theorem dX9_clueOf_41 : decode cX9_clueOf 41 = .ok (.iload_n 2, 1) := by decide +kernel
theorem dX9_clueOf_42 : decode cX9_clueOf 42 = .ok (.iadd, 1) := by decide +kernel
theorem dX9_clueOf_43 : decode cX9_clueOf 43 = .ok (.iaload, 1) := by decide +kernel
theorem dX9_clueOf_44 : decode cX9_clueOf 44 = .ok (.goto 4, 3) := by decide +kernel
theorem dX9_clueOf_47 : decode cX9_clueOf 47 = .ok (.iconst 0, 1) := by decide +kernel
theorem dX9_clueOf_48 : decode cX9_clueOf 48 = .ok (.ireturn, 1) := by decide +kernel
theorem dX9_addSolver_0 : decode cX9_addSolver 0 = .ok (.aload_n 0, 1) := by decide +kernel
theorem dX9_addSolver_1 : decode cX9_addSolver 1 = .ok (.iload_n 1, 1) := by decide +kernel
theorem dX9_addSolver_2 : decode cX9_addSolver 2 = .ok (.bipush (-12), 2) := by decide +kernel
theorem dX9_addSolver_4 : decode cX9_addSolver 4 = .ok (.bipush 14, 2) := by decide +kernel
theorem dX9_addSolver_6 : decode cX9_addSolver 6 = .ok (.invokestatic 80, 3) := by decide +kernel
theorem dX9_addSolver_9 : decode cX9_addSolver 9 = .ok (.ifCond .eq 14, 3) := by decide +kernel
theorem dX9_addSolver_12 : decode cX9_addSolver 12 = .ok (.iload_n 2, 1) := by decide +kernel
theorem dX9_addSolver_13 : decode cX9_addSolver 13 = .ok (.iconst 0, 1) := by decide +kernel
theorem dX9_addSolver_14 : decode cX9_addSolver 14 = .ok (.sipush 1000, 3) := by decide +kernel
theorem dX9_addSolver_17 : decode cX9_addSolver 17 = .ok (.invokestatic 80, 3) := by decide +kernel
theorem dX9_addSolver_20 : decode cX9_addSolver 20 = .ok (.ifCond .ne 7, 3) := by decide +kernel
theorem dX9_addSolver_23 : decode cX9_addSolver 23 = .ok (.iconst 1, 1) := by decide +kernel
theorem dX9_addSolver_24 : decode cX9_addSolver 24 = .ok (.goto 17, 3) := by decide +kernel
theorem dX9_addSolver_27 : decode cX9_addSolver 27 = .ok (.aload_n 0, 1) := by decide +kernel
theorem dX9_addSolver_28 : decode cX9_addSolver 28 = .ok (.getfield 153, 3) := by decide +kernel
theorem dX9_addSolver_31 : decode cX9_addSolver 31 = .ok (.bipush 6, 2) := by decide +kernel
theorem dX9_addSolver_33 : decode cX9_addSolver 33 = .ok (.if_icmp .ne 7, 3) := by decide +kernel
theorem dX9_addSolver_36 : decode cX9_addSolver 36 = .ok (.iconst 2, 1) := by decide +kernel
theorem dX9_addSolver_37 : decode cX9_addSolver 37 = .ok (.goto 4, 3) := by decide +kernel
theorem dX9_addSolver_40 : decode cX9_addSolver 40 = .ok (.iconst 0, 1) := by decide +kernel
theorem dX9_addSolver_41 : decode cX9_addSolver 41 = .ok (.putfield 73, 3) := by decide +kernel
theorem dX9_addSolver_44 : decode cX9_addSolver 44 = .ok (.aload_n 0, 1) := by decide +kernel
theorem dX9_addSolver_45 : decode cX9_addSolver 45 = .ok (.getfield 73, 3) := by decide +kernel
theorem dX9_addSolver_48 : decode cX9_addSolver 48 = .ok (.ifCond .le 5, 3) := by decide +kernel
theorem dX9_addSolver_51 : decode cX9_addSolver 51 = .ok (.iconst 0, 1) := by decide +kernel
theorem dX9_addSolver_52 : decode cX9_addSolver 52 = .ok (.ireturn, 1) := by decide +kernel
theorem dX9_addSolver_53 : decode cX9_addSolver 53 = .ok (.aload_n 0, 1) := by decide +kernel
theorem dX9_addSolver_54 : decode cX9_addSolver 54 = .ok (.getfield 55, 3) := by decide +kernel
theorem dX9_addSolver_57 : decode cX9_addSolver 57 = .ok (.aload_n 0, 1) := by decide +kernel
theorem dX9_addSolver_58 : decode cX9_addSolver 58 = .ok (.getfield 153, 3) := by decide +kernel
theorem dX9_addSolver_61 : decode cX9_addSolver 61 = .ok (.iload_n 1, 1) := by decide +kernel
theorem dX9_addSolver_62 : decode cX9_addSolver 62 = .ok (.iastore, 1) := by decide +kernel
theorem dX9_addSolver_63 : decode cX9_addSolver 63 = .ok (.aload_n 0, 1) := by decide +kernel
theorem dX9_addSolver_64 : decode cX9_addSolver 64 = .ok (.getfield 58, 3) := by decide +kernel
theorem dX9_addSolver_67 : decode cX9_addSolver 67 = .ok (.aload_n 0, 1) := by decide +kernel
theorem dX9_addSolver_68 : decode cX9_addSolver 68 = .ok (.getfield 153, 3) := by decide +kernel
theorem dX9_addSolver_71 : decode cX9_addSolver 71 = .ok (.iload_n 2, 1) := by decide +kernel
theorem dX9_addSolver_72 : decode cX9_addSolver 72 = .ok (.iastore, 1) := by decide +kernel
theorem dX9_addSolver_73 : decode cX9_addSolver 73 = .ok (.aload_n 0, 1) := by decide +kernel
theorem dX9_addSolver_74 : decode cX9_addSolver 74 = .ok (.dup, 1) := by decide +kernel
theorem dX9_addSolver_75 : decode cX9_addSolver 75 = .ok (.getfield 153, 3) := by decide +kernel
theorem dX9_addSolver_78 : decode cX9_addSolver 78 = .ok (.iconst 1, 1) := by decide +kernel
theorem dX9_addSolver_79 : decode cX9_addSolver 79 = .ok (.iadd, 1) := by decide +kernel
theorem dX9_addSolver_80 : decode cX9_addSolver 80 = .ok (.putfield 153, 3) := by decide +kernel
theorem dX9_addSolver_83 : decode cX9_addSolver 83 = .ok (.aload_n 0, 1) := by decide +kernel
theorem dX9_addSolver_84 : decode cX9_addSolver 84 = .ok (.getfield 153, 3) := by decide +kernel
theorem dX9_addSolver_87 : decode cX9_addSolver 87 = .ok (.iconst 1, 1) := by decide +kernel
theorem dX9_addSolver_88 : decode cX9_addSolver 88 = .ok (.isub, 1) := by decide +kernel
theorem dX9_addSolver_89 : decode cX9_addSolver 89 = .ok (.ireturn, 1) := by decide +kernel
theorem dX9_isSolver_0 : decode cX9_isSolver 0 = .ok (.iload_n 1, 1) := by decide +kernel
theorem dX9_isSolver_1 : decode cX9_isSolver 1 = .ok (.iconst 0, 1) := by decide +kernel
theorem dX9_isSolver_2 : decode cX9_isSolver 2 = .ok (.aload_n 0, 1) := by decide +kernel
theorem dX9_isSolver_3 : decode cX9_isSolver 3 = .ok (.getfield 153, 3) := by decide +kernel
theorem dX9_isSolver_6 : decode cX9_isSolver 6 = .ok (.iconst 1, 1) := by decide +kernel
theorem dX9_isSolver_7 : decode cX9_isSolver 7 = .ok (.isub, 1) := by decide +kernel
theorem dX9_isSolver_8 : decode cX9_isSolver 8 = .ok (.invokestatic 80, 3) := by decide +kernel
theorem dX9_isSolver_11 : decode cX9_isSolver 11 = .ok (.ireturn, 1) := by decide +kernel
theorem dX9_dayOf_0 : decode cX9_dayOf 0 = .ok (.iload_n 2, 1) := by decide +kernel
theorem dX9_dayOf_1 : decode cX9_dayOf 1 = .ok (.aload_n 0, 1) := by decide +kernel
theorem dX9_dayOf_2 : decode cX9_dayOf 2 = .ok (.getfield 55, 3) := by decide +kernel
theorem dX9_dayOf_5 : decode cX9_dayOf 5 = .ok (.iload_n 1, 1) := by decide +kernel
theorem dX9_dayOf_6 : decode cX9_dayOf 6 = .ok (.iaload, 1) := by decide +kernel
theorem dX9_dayOf_7 : decode cX9_dayOf 7 = .ok (.iadd, 1) := by decide +kernel
theorem dX9_dayOf_8 : decode cX9_dayOf 8 = .ok (.bipush 24, 2) := by decide +kernel
theorem dX9_dayOf_10 : decode cX9_dayOf 10 = .ok (.iadd, 1) := by decide +kernel
theorem dX9_dayOf_11 : decode cX9_dayOf 11 = .ok (.bipush 24, 2) := by decide +kernel
theorem dX9_dayOf_13 : decode cX9_dayOf 13 = .ok (.idiv, 1) := by decide +kernel
theorem dX9_dayOf_14 : decode cX9_dayOf 14 = .ok (.ireturn, 1) := by decide +kernel
theorem dX9_openOf_0 : decode cX9_openOf 0 = .ok (.iconst 0, 1) := by decide +kernel
theorem dX9_openOf_1 : decode cX9_openOf 1 = .ok (.istore_n 2, 1) := by decide +kernel
theorem dX9_openOf_2 : decode cX9_openOf 2 = .ok (.iconst 0, 1) := by decide +kernel
theorem dX9_openOf_3 : decode cX9_openOf 3 = .ok (.istore_n 3, 1) := by decide +kernel
theorem dX9_openOf_4 : decode cX9_openOf 4 = .ok (.iload_n 3, 1) := by decide +kernel
theorem dX9_openOf_5 : decode cX9_openOf 5 = .ok (.bipush 6, 2) := by decide +kernel
theorem dX9_openOf_7 : decode cX9_openOf 7 = .ok (.if_icmp .ge 62, 3) := by decide +kernel
theorem dX9_openOf_10 : decode cX9_openOf 10 = .ok (.aload_n 0, 1) := by decide +kernel
theorem dX9_openOf_11 : decode cX9_openOf 11 = .ok (.getfield 49, 3) := by decide +kernel
theorem dX9_openOf_14 : decode cX9_openOf 14 = .ok (.iload_n 1, 1) := by decide +kernel
theorem dX9_openOf_15 : decode cX9_openOf 15 = .ok (.iaload, 1) := by decide +kernel
theorem dX9_openOf_16 : decode cX9_openOf 16 = .ok (.iload_n 3, 1) := by decide +kernel
theorem dX9_openOf_17 : decode cX9_openOf 17 = .ok (.ishr, 1) := by decide +kernel
theorem dX9_openOf_18 : decode cX9_openOf 18 = .ok (.iconst 1, 1) := by decide +kernel
theorem dX9_openOf_19 : decode cX9_openOf 19 = .ok (.iand, 1) := by decide +kernel
theorem dX9_openOf_20 : decode cX9_openOf 20 = .ok (.iconst 1, 1) := by decide +kernel
theorem dX9_openOf_21 : decode cX9_openOf 21 = .ok (.if_icmp .ne 7, 3) := by decide +kernel
theorem dX9_openOf_24 : decode cX9_openOf 24 = .ok (.iconst 1, 1) := by decide +kernel
theorem dX9_openOf_25 : decode cX9_openOf 25 = .ok (.goto 4, 3) := by decide +kernel
theorem dX9_openOf_28 : decode cX9_openOf 28 = .ok (.iconst 0, 1) := by decide +kernel
theorem dX9_openOf_29 : decode cX9_openOf 29 = .ok (.istore 4, 2) := by decide +kernel
theorem dX9_openOf_31 : decode cX9_openOf 31 = .ok (.iload_n 2, 1) := by decide +kernel
theorem dX9_openOf_32 : decode cX9_openOf 32 = .ok (.iload 4, 2) := by decide +kernel
theorem dX9_openOf_34 : decode cX9_openOf 34 = .ok (.ifCond .ne 7, 3) := by decide +kernel
theorem dX9_openOf_37 : decode cX9_openOf 37 = .ok (.iconst 0, 1) := by decide +kernel
theorem dX9_openOf_38 : decode cX9_openOf 38 = .ok (.goto 23, 3) := by decide +kernel
theorem dX9_openOf_41 : decode cX9_openOf 41 = .ok (.iload_n 3, 1) := by decide +kernel
theorem dX9_openOf_42 : decode cX9_openOf 42 = .ok (.iconst 3, 1) := by decide +kernel
theorem dX9_openOf_43 : decode cX9_openOf 43 = .ok (.if_icmp .ge 12, 3) := by decide +kernel
theorem dX9_openOf_46 : decode cX9_openOf 46 = .ok (.bipush 7, 2) := by decide +kernel
theorem dX9_openOf_48 : decode cX9_openOf 48 = .ok (.iconst 3, 1) := by decide +kernel
theorem dX9_openOf_49 : decode cX9_openOf 49 = .ok (.iload_n 3, 1) := by decide +kernel
theorem dX9_openOf_50 : decode cX9_openOf 50 = .ok (.imul, 1) := by decide +kernel
theorem dX9_openOf_51 : decode cX9_openOf 51 = .ok (.ishl, 1) := by decide +kernel
theorem dX9_openOf_52 : decode cX9_openOf 52 = .ok (.goto 9, 3) := by decide +kernel
theorem dX9_openOf_55 : decode cX9_openOf 55 = .ok (.bipush 73, 2) := by decide +kernel
theorem dX9_openOf_57 : decode cX9_openOf 57 = .ok (.iload_n 3, 1) := by decide +kernel
theorem dX9_openOf_58 : decode cX9_openOf 58 = .ok (.iconst 3, 1) := by decide +kernel
theorem dX9_openOf_59 : decode cX9_openOf 59 = .ok (.isub, 1) := by decide +kernel
theorem dX9_openOf_60 : decode cX9_openOf 60 = .ok (.ishl, 1) := by decide +kernel
theorem dX9_openOf_61 : decode cX9_openOf 61 = .ok (.ior, 1) := by decide +kernel
theorem dX9_openOf_62 : decode cX9_openOf 62 = .ok (.istore_n 2, 1) := by decide +kernel
theorem dX9_openOf_63 : decode cX9_openOf 63 = .ok (.iinc 3 1, 3) := by decide +kernel
theorem dX9_openOf_66 : decode cX9_openOf 66 = .ok (.goto (-62), 3) := by decide +kernel
theorem dX9_openOf_69 : decode cX9_openOf 69 = .ok (.iload_n 2, 1) := by decide +kernel
theorem dX9_openOf_70 : decode cX9_openOf 70 = .ok (.ireturn, 1) := by decide +kernel
theorem dX9_solved_0 : decode cX9_solved 0 = .ok (.aload_n 0, 1) := by decide +kernel
theorem dX9_solved_1 : decode cX9_solved 1 = .ok (.iload_n 2, 1) := by decide +kernel
theorem dX9_solved_2 : decode cX9_solved 2 = .ok (.invokevirtual 156, 3) := by decide +kernel
theorem dX9_solved_5 : decode cX9_solved 5 = .ok (.istore_n 3, 1) := by decide +kernel
theorem dX9_solved_6 : decode cX9_solved 6 = .ok (.aload_n 0, 1) := by decide +kernel
theorem dX9_solved_7 : decode cX9_solved 7 = .ok (.getfield 40, 3) := by decide +kernel
theorem dX9_solved_10 : decode cX9_solved 10 = .ok (.iload_n 2, 1) := by decide +kernel
theorem dX9_solved_11 : decode cX9_solved 11 = .ok (.iaload, 1) := by decide +kernel
theorem dX9_solved_12 : decode cX9_solved 12 = .ok (.istore 4, 2) := by decide +kernel
theorem dX9_solved_14 : decode cX9_solved 14 = .ok (.iconst 1, 1) := by decide +kernel
theorem dX9_solved_15 : decode cX9_solved 15 = .ok (.istore 5, 2) := by decide +kernel
theorem dX9_solved_17 : decode cX9_solved 17 = .ok (.iconst 0, 1) := by decide +kernel
theorem dX9_solved_18 : decode cX9_solved 18 = .ok (.istore 6, 2) := by decide +kernel
theorem dX9_solved_20 : decode cX9_solved 20 = .ok (.iconst 0, 1) := by decide +kernel
theorem dX9_solved_21 : decode cX9_solved 21 = .ok (.istore 7, 2) := by decide +kernel
theorem dX9_solved_23 : decode cX9_solved 23 = .ok (.iload 7, 2) := by decide +kernel
theorem dX9_solved_25 : decode cX9_solved 25 = .ok (.bipush 9, 2) := by decide +kernel
theorem dX9_solved_27 : decode cX9_solved 27 = .ok (.if_icmp .ge 90, 3) := by decide +kernel
theorem dX9_solved_30 : decode cX9_solved 30 = .ok (.aload_n 0, 1) := by decide +kernel
theorem dX9_solved_31 : decode cX9_solved 31 = .ok (.getfield 61, 3) := by decide +kernel
theorem dX9_solved_34 : decode cX9_solved 34 = .ok (.sipush 180, 3) := by decide +kernel
theorem dX9_solved_37 : decode cX9_solved 37 = .ok (.iload_n 1, 1) := by decide +kernel
theorem dX9_solved_38 : decode cX9_solved 38 = .ok (.imul, 1) := by decide +kernel
theorem dX9_solved_39 : decode cX9_solved 39 = .ok (.bipush 9, 2) := by decide +kernel
theorem dX9_solved_41 : decode cX9_solved 41 = .ok (.iload_n 2, 1) := by decide +kernel
theorem dX9_solved_42 : decode cX9_solved 42 = .ok (.imul, 1) := by decide +kernel
theorem dX9_solved_43 : decode cX9_solved 43 = .ok (.iadd, 1) := by decide +kernel
theorem dX9_solved_44 : decode cX9_solved 44 = .ok (.iload 7, 2) := by decide +kernel
theorem dX9_solved_46 : decode cX9_solved 46 = .ok (.iadd, 1) := by decide +kernel
theorem dX9_solved_47 : decode cX9_solved 47 = .ok (.iaload, 1) := by decide +kernel
theorem dX9_solved_48 : decode cX9_solved 48 = .ok (.istore 8, 2) := by decide +kernel
theorem dX9_solved_50 : decode cX9_solved 50 = .ok (.iload 6, 2) := by decide +kernel
theorem dX9_solved_52 : decode cX9_solved 52 = .ok (.ifCond .ne 8, 3) := by decide +kernel
theorem dX9_solved_55 : decode cX9_solved 55 = .ok (.iload 8, 2) := by decide +kernel
theorem dX9_solved_57 : decode cX9_solved 57 = .ok (.ifCond .le 7, 3) := by decide +kernel
theorem dX9_solved_60 : decode cX9_solved 60 = .ok (.iconst 1, 1) := by decide +kernel
theorem dX9_solved_61 : decode cX9_solved 61 = .ok (.goto 4, 3) := by decide +kernel
theorem dX9_solved_64 : decode cX9_solved 64 = .ok (.iconst 0, 1) := by decide +kernel
theorem dX9_solved_65 : decode cX9_solved 65 = .ok (.istore 6, 2) := by decide +kernel
theorem dX9_solved_67 : decode cX9_solved 67 = .ok (.iload_n 3, 1) := by decide +kernel
theorem dX9_solved_68 : decode cX9_solved 68 = .ok (.iload 7, 2) := by decide +kernel
theorem dX9_solved_70 : decode cX9_solved 70 = .ok (.ishr, 1) := by decide +kernel
theorem dX9_solved_71 : decode cX9_solved 71 = .ok (.iconst 1, 1) := by decide +kernel
theorem dX9_solved_72 : decode cX9_solved 72 = .ok (.iand, 1) := by decide +kernel
theorem dX9_solved_73 : decode cX9_solved 73 = .ok (.ifCond .ne 38, 3) := by decide +kernel
theorem dX9_solved_76 : decode cX9_solved 76 = .ok (.iload 8, 2) := by decide +kernel
theorem dX9_solved_78 : decode cX9_solved 78 = .ok (.ifCond .ne 5, 3) := by decide +kernel
theorem dX9_solved_81 : decode cX9_solved 81 = .ok (.iconst (-1), 1) := by decide +kernel
theorem dX9_solved_82 : decode cX9_solved 82 = .ok (.ireturn, 1) := by decide +kernel
theorem dX9_solved_83 : decode cX9_solved 83 = .ok (.iload 5, 2) := by decide +kernel
theorem dX9_solved_85 : decode cX9_solved 85 = .ok (.ifCond .ne 12, 3) := by decide +kernel
theorem dX9_solved_88 : decode cX9_solved 88 = .ok (.iload 8, 2) := by decide +kernel
theorem dX9_solved_90 : decode cX9_solved 90 = .ok (.iconst 1, 1) := by decide +kernel
theorem dX9_solved_91 : decode cX9_solved 91 = .ok (.isub, 1) := by decide +kernel
theorem dX9_solved_92 : decode cX9_solved 92 = .ok (.iload 4, 2) := by decide +kernel
theorem dX9_solved_94 : decode cX9_solved 94 = .ok (.if_icmp .le 10, 3) := by decide +kernel
theorem dX9_solved_97 : decode cX9_solved 97 = .ok (.iload 8, 2) := by decide +kernel
theorem dX9_solved_99 : decode cX9_solved 99 = .ok (.iconst 1, 1) := by decide +kernel
theorem dX9_solved_100 : decode cX9_solved 100 = .ok (.isub, 1) := by decide +kernel
theorem dX9_solved_101 : decode cX9_solved 101 = .ok (.goto 5, 3) := by decide +kernel
theorem dX9_solved_104 : decode cX9_solved 104 = .ok (.iload 4, 2) := by decide +kernel
theorem dX9_solved_106 : decode cX9_solved 106 = .ok (.istore 4, 2) := by decide +kernel
theorem dX9_solved_108 : decode cX9_solved 108 = .ok (.iconst 0, 1) := by decide +kernel
theorem dX9_solved_109 : decode cX9_solved 109 = .ok (.istore 5, 2) := by decide +kernel
theorem dX9_solved_111 : decode cX9_solved 111 = .ok (.iinc 7 1, 3) := by decide +kernel
theorem dX9_solved_114 : decode cX9_solved 114 = .ok (.goto (-91), 3) := by decide +kernel
theorem dX9_solved_117 : decode cX9_solved 117 = .ok (.iload 6, 2) := by decide +kernel
theorem dX9_solved_119 : decode cX9_solved 119 = .ok (.ifCond .eq 8, 3) := by decide +kernel
theorem dX9_solved_122 : decode cX9_solved 122 = .ok (.iload 4, 2) := by decide +kernel
theorem dX9_solved_124 : decode cX9_solved 124 = .ok (.goto 4, 3) := by decide +kernel
theorem dX9_solved_127 : decode cX9_solved 127 = .ok (.iconst (-1), 1) := by decide +kernel
theorem dX9_solved_128 : decode cX9_solved 128 = .ok (.ireturn, 1) := by decide +kernel
theorem dX9_counts_0 : decode cX9_counts 0 = .ok (.aload_n 0, 1) := by decide +kernel
theorem dX9_counts_1 : decode cX9_counts 1 = .ok (.iload_n 1, 1) := by decide +kernel
theorem dX9_counts_2 : decode cX9_counts 2 = .ok (.iload_n 2, 1) := by decide +kernel
theorem dX9_counts_3 : decode cX9_counts 3 = .ok (.invokevirtual 159, 3) := by decide +kernel
theorem dX9_counts_6 : decode cX9_counts 6 = .ok (.istore_n 3, 1) := by decide +kernel
theorem dX9_counts_7 : decode cX9_counts 7 = .ok (.iload_n 3, 1) := by decide +kernel
theorem dX9_counts_8 : decode cX9_counts 8 = .ok (.iconst (-1), 1) := by decide +kernel
theorem dX9_counts_9 : decode cX9_counts 9 = .ok (.if_icmp .eq 21, 3) := by decide +kernel
theorem dX9_counts_12 : decode cX9_counts 12 = .ok (.aload_n 0, 1) := by decide +kernel
theorem dX9_counts_13 : decode cX9_counts 13 = .ok (.getfield 70, 3) := by decide +kernel
theorem dX9_counts_16 : decode cX9_counts 16 = .ok (.sipush 1260, 3) := by decide +kernel
theorem dX9_counts_19 : decode cX9_counts 19 = .ok (.iload_n 1, 1) := by decide +kernel
theorem dX9_counts_20 : decode cX9_counts 20 = .ok (.imul, 1) := by decide +kernel
theorem dX9_counts_21 : decode cX9_counts 21 = .ok (.aload_n 0, 1) := by decide +kernel
theorem dX9_counts_22 : decode cX9_counts 22 = .ok (.iload_n 1, 1) := by decide +kernel
theorem dX9_counts_23 : decode cX9_counts 23 = .ok (.iload_n 3, 1) := by decide +kernel
theorem dX9_counts_24 : decode cX9_counts 24 = .ok (.invokevirtual 162, 3) := by decide +kernel
theorem dX9_counts_27 : decode cX9_counts 27 = .ok (.iadd, 1) := by decide +kernel
theorem dX9_counts_28 : decode cX9_counts 28 = .ok (.iconst 1, 1) := by decide +kernel
theorem dX9_counts_29 : decode cX9_counts 29 = .ok (.iastore, 1) := by decide +kernel
theorem dX9_counts_30 : decode cX9_counts 30 = .ok (.return_, 1) := by decide +kernel
theorem dX9_isCell_0 : decode cX9_isCell 0 = .ok (.aload_n 0, 1) := by decide +kernel
theorem dX9_isCell_1 : decode cX9_isCell 1 = .ok (.iload_n 1, 1) := by decide +kernel
theorem dX9_isCell_2 : decode cX9_isCell 2 = .ok (.invokevirtual 165, 3) := by decide +kernel
theorem dX9_isCell_5 : decode cX9_isCell 5 = .ok (.ifCond .eq 25, 3) := by decide +kernel
theorem dX9_isCell_8 : decode cX9_isCell 8 = .ok (.aload_n 0, 1) := by decide +kernel
theorem dX9_isCell_9 : decode cX9_isCell 9 = .ok (.iload_n 2, 1) := by decide +kernel
theorem dX9_isCell_10 : decode cX9_isCell 10 = .ok (.invokevirtual 150, 3) := by decide +kernel
theorem dX9_isCell_13 : decode cX9_isCell 13 = .ok (.ifCond .eq 17, 3) := by decide +kernel
theorem dX9_isCell_16 : decode cX9_isCell 16 = .ok (.iload_n 3, 1) := by decide +kernel
theorem dX9_isCell_17 : decode cX9_isCell 17 = .ok (.iconst 0, 1) := by decide +kernel
theorem dX9_isCell_18 : decode cX9_isCell 18 = .ok (.bipush 8, 2) := by decide +kernel
theorem dX9_isCell_20 : decode cX9_isCell 20 = .ok (.invokestatic 80, 3) := by decide +kernel
theorem dX9_isCell_23 : decode cX9_isCell 23 = .ok (.ifCond .eq 7, 3) := by decide +kernel
theorem dX9_isCell_26 : decode cX9_isCell 26 = .ok (.iconst 1, 1) := by decide +kernel
theorem dX9_isCell_27 : decode cX9_isCell 27 = .ok (.goto 4, 3) := by decide +kernel
theorem dX9_isCell_30 : decode cX9_isCell 30 = .ok (.iconst 0, 1) := by decide +kernel
theorem dX9_isCell_31 : decode cX9_isCell 31 = .ok (.ireturn, 1) := by decide +kernel
theorem dX9_isOver_0 : decode cX9_isOver 0 = .ok (.aload_n 0, 1) := by decide +kernel
theorem dX9_isOver_1 : decode cX9_isOver 1 = .ok (.getfield 61, 3) := by decide +kernel
theorem dX9_isOver_4 : decode cX9_isOver 4 = .ok (.sipush 180, 3) := by decide +kernel
theorem dX9_isOver_7 : decode cX9_isOver 7 = .ok (.iload_n 1, 1) := by decide +kernel
theorem dX9_isOver_8 : decode cX9_isOver 8 = .ok (.imul, 1) := by decide +kernel
theorem dX9_isOver_9 : decode cX9_isOver 9 = .ok (.bipush 9, 2) := by decide +kernel
theorem dX9_isOver_11 : decode cX9_isOver 11 = .ok (.iload_n 2, 1) := by decide +kernel
theorem dX9_isOver_12 : decode cX9_isOver 12 = .ok (.imul, 1) := by decide +kernel
theorem dX9_isOver_13 : decode cX9_isOver 13 = .ok (.iadd, 1) := by decide +kernel
theorem dX9_isOver_14 : decode cX9_isOver 14 = .ok (.iload_n 3, 1) := by decide +kernel
theorem dX9_isOver_15 : decode cX9_isOver 15 = .ok (.iadd, 1) := by decide +kernel
theorem dX9_isOver_16 : decode cX9_isOver 16 = .ok (.iaload, 1) := by decide +kernel
theorem dX9_isOver_17 : decode cX9_isOver 17 = .ok (.ifCond .gt 16, 3) := by decide +kernel
theorem dX9_isOver_20 : decode cX9_isOver 20 = .ok (.aload_n 0, 1) := by decide +kernel
theorem dX9_isOver_21 : decode cX9_isOver 21 = .ok (.iload_n 2, 1) := by decide +kernel
theorem dX9_isOver_22 : decode cX9_isOver 22 = .ok (.invokevirtual 156, 3) := by decide +kernel
theorem dX9_isOver_25 : decode cX9_isOver 25 = .ok (.iload_n 3, 1) := by decide +kernel
theorem dX9_isOver_26 : decode cX9_isOver 26 = .ok (.ishr, 1) := by decide +kernel
theorem dX9_isOver_27 : decode cX9_isOver 27 = .ok (.iconst 1, 1) := by decide +kernel
theorem dX9_isOver_28 : decode cX9_isOver 28 = .ok (.iand, 1) := by decide +kernel
theorem dX9_isOver_29 : decode cX9_isOver 29 = .ok (.iconst 1, 1) := by decide +kernel
theorem dX9_isOver_30 : decode cX9_isOver 30 = .ok (.if_icmp .ne 7, 3) := by decide +kernel
theorem dX9_isOver_33 : decode cX9_isOver 33 = .ok (.iconst 1, 1) := by decide +kernel
theorem dX9_isOver_34 : decode cX9_isOver 34 = .ok (.goto 4, 3) := by decide +kernel
theorem dX9_isOver_37 : decode cX9_isOver 37 = .ok (.iconst 0, 1) := by decide +kernel
theorem dX9_isOver_38 : decode cX9_isOver 38 = .ok (.ireturn, 1) := by decide +kernel
theorem dX9_enter_0 : decode cX9_enter 0 = .ok (.aload_n 0, 1) := by decide +kernel
theorem dX9_enter_1 : decode cX9_enter 1 = .ok (.aload_n 0, 1) := by decide +kernel
theorem dX9_enter_2 : decode cX9_enter 2 = .ok (.iload_n 1, 1) := by decide +kernel
theorem dX9_enter_3 : decode cX9_enter 3 = .ok (.iload_n 2, 1) := by decide +kernel
theorem dX9_enter_4 : decode cX9_enter 4 = .ok (.iload_n 3, 1) := by decide +kernel
theorem dX9_enter_5 : decode cX9_enter 5 = .ok (.invokevirtual 168, 3) := by decide +kernel
theorem dX9_enter_8 : decode cX9_enter 8 = .ok (.ifCond .eq 14, 3) := by decide +kernel
theorem dX9_enter_11 : decode cX9_enter 11 = .ok (.iload 4, 2) := by decide +kernel
theorem dX9_enter_13 : decode cX9_enter 13 = .ok (.iconst 0, 1) := by decide +kernel
theorem dX9_enter_14 : decode cX9_enter 14 = .ok (.bipush 8, 2) := by decide +kernel
theorem dX9_enter_16 : decode cX9_enter 16 = .ok (.invokestatic 80, 3) := by decide +kernel
theorem dX9_enter_19 : decode cX9_enter 19 = .ok (.ifCond .ne 7, 3) := by decide +kernel
theorem dX9_enter_22 : decode cX9_enter 22 = .ok (.iconst 1, 1) := by decide +kernel
theorem dX9_enter_23 : decode cX9_enter 23 = .ok (.goto 18, 3) := by decide +kernel
theorem dX9_enter_26 : decode cX9_enter 26 = .ok (.aload_n 0, 1) := by decide +kernel
theorem dX9_enter_27 : decode cX9_enter 27 = .ok (.iload_n 1, 1) := by decide +kernel
theorem dX9_enter_28 : decode cX9_enter 28 = .ok (.iload_n 2, 1) := by decide +kernel
theorem dX9_enter_29 : decode cX9_enter 29 = .ok (.iload_n 3, 1) := by decide +kernel
theorem dX9_enter_30 : decode cX9_enter 30 = .ok (.invokevirtual 171, 3) := by decide +kernel
theorem dX9_enter_33 : decode cX9_enter 33 = .ok (.ifCond .eq 7, 3) := by decide +kernel
theorem dX9_enter_36 : decode cX9_enter 36 = .ok (.iconst 2, 1) := by decide +kernel
theorem dX9_enter_37 : decode cX9_enter 37 = .ok (.goto 4, 3) := by decide +kernel
theorem dX9_enter_40 : decode cX9_enter 40 = .ok (.iconst 0, 1) := by decide +kernel
theorem dX9_enter_41 : decode cX9_enter 41 = .ok (.putfield 73, 3) := by decide +kernel
theorem dX9_enter_44 : decode cX9_enter 44 = .ok (.aload_n 0, 1) := by decide +kernel
theorem dX9_enter_45 : decode cX9_enter 45 = .ok (.getfield 73, 3) := by decide +kernel
theorem dX9_enter_48 : decode cX9_enter 48 = .ok (.ifCond .gt 19, 3) := by decide +kernel
theorem dX9_enter_51 : decode cX9_enter 51 = .ok (.aload_n 0, 1) := by decide +kernel
theorem dX9_enter_52 : decode cX9_enter 52 = .ok (.getfield 43, 3) := by decide +kernel
theorem dX9_enter_55 : decode cX9_enter 55 = .ok (.bipush 9, 2) := by decide +kernel
theorem dX9_enter_57 : decode cX9_enter 57 = .ok (.iload_n 2, 1) := by decide +kernel
theorem dX9_enter_58 : decode cX9_enter 58 = .ok (.imul, 1) := by decide +kernel
theorem dX9_enter_59 : decode cX9_enter 59 = .ok (.iload_n 3, 1) := by decide +kernel
theorem dX9_enter_60 : decode cX9_enter 60 = .ok (.iadd, 1) := by decide +kernel
theorem dX9_enter_61 : decode cX9_enter 61 = .ok (.iaload, 1) := by decide +kernel
theorem dX9_enter_62 : decode cX9_enter 62 = .ok (.iload 4, 2) := by decide +kernel
theorem dX9_enter_64 : decode cX9_enter 64 = .ok (.if_icmp .eq 5, 3) := by decide +kernel
theorem dX9_enter_67 : decode cX9_enter 67 = .ok (.iconst 0, 1) := by decide +kernel
theorem dX9_enter_68 : decode cX9_enter 68 = .ok (.ireturn, 1) := by decide +kernel
theorem dX9_enter_69 : decode cX9_enter 69 = .ok (.aload_n 0, 1) := by decide +kernel
theorem dX9_enter_70 : decode cX9_enter 70 = .ok (.getfield 61, 3) := by decide +kernel
theorem dX9_enter_73 : decode cX9_enter 73 = .ok (.sipush 180, 3) := by decide +kernel
theorem dX9_enter_76 : decode cX9_enter 76 = .ok (.iload_n 1, 1) := by decide +kernel
theorem dX9_enter_77 : decode cX9_enter 77 = .ok (.imul, 1) := by decide +kernel
theorem dX9_enter_78 : decode cX9_enter 78 = .ok (.bipush 9, 2) := by decide +kernel
theorem dX9_enter_80 : decode cX9_enter 80 = .ok (.iload_n 2, 1) := by decide +kernel
theorem dX9_enter_81 : decode cX9_enter 81 = .ok (.imul, 1) := by decide +kernel
theorem dX9_enter_82 : decode cX9_enter 82 = .ok (.iadd, 1) := by decide +kernel
theorem dX9_enter_83 : decode cX9_enter 83 = .ok (.iload_n 3, 1) := by decide +kernel
theorem dX9_enter_84 : decode cX9_enter 84 = .ok (.iadd, 1) := by decide +kernel
theorem dX9_enter_85 : decode cX9_enter 85 = .ok (.aload_n 0, 1) := by decide +kernel
theorem dX9_enter_86 : decode cX9_enter 86 = .ok (.getfield 141, 3) := by decide +kernel
theorem dX9_enter_89 : decode cX9_enter 89 = .ok (.iconst 1, 1) := by decide +kernel
theorem dX9_enter_90 : decode cX9_enter 90 = .ok (.iadd, 1) := by decide +kernel
theorem dX9_enter_91 : decode cX9_enter 91 = .ok (.iastore, 1) := by decide +kernel
theorem dX9_enter_92 : decode cX9_enter 92 = .ok (.aload_n 0, 1) := by decide +kernel
theorem dX9_enter_93 : decode cX9_enter 93 = .ok (.iload_n 1, 1) := by decide +kernel
theorem dX9_enter_94 : decode cX9_enter 94 = .ok (.iload_n 2, 1) := by decide +kernel
theorem dX9_enter_95 : decode cX9_enter 95 = .ok (.invokevirtual 174, 3) := by decide +kernel
theorem dX9_enter_98 : decode cX9_enter 98 = .ok (.iconst 1, 1) := by decide +kernel
theorem dX9_enter_99 : decode cX9_enter 99 = .ok (.ireturn, 1) := by decide +kernel
theorem dX9_help_0 : decode cX9_help 0 = .ok (.aload_n 0, 1) := by decide +kernel
theorem dX9_help_1 : decode cX9_help 1 = .ok (.aload_n 0, 1) := by decide +kernel
theorem dX9_help_2 : decode cX9_help 2 = .ok (.iload_n 1, 1) := by decide +kernel
theorem dX9_help_3 : decode cX9_help 3 = .ok (.iload_n 2, 1) := by decide +kernel
theorem dX9_help_4 : decode cX9_help 4 = .ok (.iload_n 3, 1) := by decide +kernel
theorem dX9_help_5 : decode cX9_help 5 = .ok (.invokevirtual 168, 3) := by decide +kernel
theorem dX9_help_8 : decode cX9_help 8 = .ok (.ifCond .ne 7, 3) := by decide +kernel
theorem dX9_help_11 : decode cX9_help 11 = .ok (.iconst 1, 1) := by decide +kernel
theorem dX9_help_12 : decode cX9_help 12 = .ok (.goto 18, 3) := by decide +kernel
theorem dX9_help_15 : decode cX9_help 15 = .ok (.aload_n 0, 1) := by decide +kernel
theorem dX9_help_16 : decode cX9_help 16 = .ok (.iload_n 1, 1) := by decide +kernel
theorem dX9_help_17 : decode cX9_help 17 = .ok (.iload_n 2, 1) := by decide +kernel
theorem dX9_help_18 : decode cX9_help 18 = .ok (.iload_n 3, 1) := by decide +kernel
theorem dX9_help_19 : decode cX9_help 19 = .ok (.invokevirtual 171, 3) := by decide +kernel
theorem dX9_help_22 : decode cX9_help 22 = .ok (.ifCond .eq 7, 3) := by decide +kernel
theorem dX9_help_25 : decode cX9_help 25 = .ok (.iconst 2, 1) := by decide +kernel
theorem dX9_help_26 : decode cX9_help 26 = .ok (.goto 4, 3) := by decide +kernel
theorem dX9_help_29 : decode cX9_help 29 = .ok (.iconst 0, 1) := by decide +kernel
theorem dX9_help_30 : decode cX9_help 30 = .ok (.putfield 73, 3) := by decide +kernel
theorem dX9_help_33 : decode cX9_help 33 = .ok (.aload_n 0, 1) := by decide +kernel
theorem dX9_help_34 : decode cX9_help 34 = .ok (.getfield 73, 3) := by decide +kernel
theorem dX9_help_37 : decode cX9_help 37 = .ok (.ifCond .le 5, 3) := by decide +kernel
theorem dX9_help_40 : decode cX9_help 40 = .ok (.iconst 0, 1) := by decide +kernel
theorem dX9_help_41 : decode cX9_help 41 = .ok (.ireturn, 1) := by decide +kernel
theorem dX9_help_42 : decode cX9_help 42 = .ok (.aload_n 0, 1) := by decide +kernel
theorem dX9_help_43 : decode cX9_help 43 = .ok (.getfield 67, 3) := by decide +kernel
theorem dX9_help_46 : decode cX9_help 46 = .ok (.bipush 20, 2) := by decide +kernel
theorem dX9_help_48 : decode cX9_help 48 = .ok (.iload_n 1, 1) := by decide +kernel
theorem dX9_help_49 : decode cX9_help 49 = .ok (.imul, 1) := by decide +kernel
theorem dX9_help_50 : decode cX9_help 50 = .ok (.iload_n 2, 1) := by decide +kernel
theorem dX9_help_51 : decode cX9_help 51 = .ok (.iadd, 1) := by decide +kernel
theorem dX9_help_52 : decode cX9_help 52 = .ok (.iaload, 1) := by decide +kernel
theorem dX9_help_53 : decode cX9_help 53 = .ok (.istore 4, 2) := by decide +kernel
theorem dX9_help_55 : decode cX9_help 55 = .ok (.iload 4, 2) := by decide +kernel
theorem dX9_help_57 : decode cX9_help 57 = .ok (.iconst 2, 1) := by decide +kernel
theorem dX9_help_58 : decode cX9_help 58 = .ok (.if_icmp .le 8, 3) := by decide +kernel
theorem dX9_help_61 : decode cX9_help 61 = .ok (.bipush 40, 2) := by decide +kernel
theorem dX9_help_63 : decode cX9_help 63 = .ok (.goto 7, 3) := by decide +kernel
theorem dX9_help_66 : decode cX9_help 66 = .ok (.iconst 5, 1) := by decide +kernel
theorem dX9_help_67 : decode cX9_help 67 = .ok (.iload 4, 2) := by decide +kernel
theorem dX9_help_69 : decode cX9_help 69 = .ok (.ishl, 1) := by decide +kernel
theorem dX9_help_70 : decode cX9_help 70 = .ok (.istore 5, 2) := by decide +kernel
theorem dX9_help_72 : decode cX9_help 72 = .ok (.aload_n 0, 1) := by decide +kernel
theorem dX9_help_73 : decode cX9_help 73 = .ok (.getfield 58, 3) := by decide +kernel
theorem dX9_help_76 : decode cX9_help 76 = .ok (.iload_n 1, 1) := by decide +kernel
theorem dX9_help_77 : decode cX9_help 77 = .ok (.iaload, 1) := by decide +kernel
theorem dX9_help_78 : decode cX9_help 78 = .ok (.iload 5, 2) := by decide +kernel
theorem dX9_help_80 : decode cX9_help 80 = .ok (.if_icmp .ge 9, 3) := by decide +kernel
theorem dX9_help_83 : decode cX9_help 83 = .ok (.aload_n 0, 1) := by decide +kernel
theorem dX9_help_84 : decode cX9_help 84 = .ok (.iconst 2, 1) := by decide +kernel
theorem dX9_help_85 : decode cX9_help 85 = .ok (.invokevirtual 97, 3) := by decide +kernel
theorem dX9_help_88 : decode cX9_help 88 = .ok (.ireturn, 1) := by decide +kernel
theorem dX9_help_89 : decode cX9_help 89 = .ok (.aload_n 0, 1) := by decide +kernel
theorem dX9_help_90 : decode cX9_help 90 = .ok (.getfield 58, 3) := by decide +kernel
theorem dX9_help_93 : decode cX9_help 93 = .ok (.iload_n 1, 1) := by decide +kernel
theorem dX9_help_94 : decode cX9_help 94 = .ok (.dup2, 1) := by decide +kernel
theorem dX9_help_95 : decode cX9_help 95 = .ok (.iaload, 1) := by decide +kernel
theorem dX9_help_96 : decode cX9_help 96 = .ok (.iload 5, 2) := by decide +kernel
theorem dX9_help_98 : decode cX9_help 98 = .ok (.isub, 1) := by decide +kernel
theorem dX9_help_99 : decode cX9_help 99 = .ok (.iastore, 1) := by decide +kernel
theorem dX9_help_100 : decode cX9_help 100 = .ok (.aload_n 0, 1) := by decide +kernel
theorem dX9_help_101 : decode cX9_help 101 = .ok (.getfield 67, 3) := by decide +kernel
theorem dX9_help_104 : decode cX9_help 104 = .ok (.bipush 20, 2) := by decide +kernel
theorem dX9_help_106 : decode cX9_help 106 = .ok (.iload_n 1, 1) := by decide +kernel
theorem dX9_help_107 : decode cX9_help 107 = .ok (.imul, 1) := by decide +kernel
theorem dX9_help_108 : decode cX9_help 108 = .ok (.iload_n 2, 1) := by decide +kernel
theorem dX9_help_109 : decode cX9_help 109 = .ok (.iadd, 1) := by decide +kernel
theorem dX9_help_110 : decode cX9_help 110 = .ok (.dup2, 1) := by decide +kernel
theorem dX9_help_111 : decode cX9_help 111 = .ok (.iaload, 1) := by decide +kernel
theorem dX9_help_112 : decode cX9_help 112 = .ok (.iconst 1, 1) := by decide +kernel
theorem dX9_help_113 : decode cX9_help 113 = .ok (.iadd, 1) := by decide +kernel
theorem dX9_help_114 : decode cX9_help 114 = .ok (.iastore, 1) := by decide +kernel
theorem dX9_help_115 : decode cX9_help 115 = .ok (.aload_n 0, 1) := by decide +kernel
theorem dX9_help_116 : decode cX9_help 116 = .ok (.getfield 64, 3) := by decide +kernel
theorem dX9_help_119 : decode cX9_help 119 = .ok (.sipush 180, 3) := by decide +kernel
theorem dX9_help_122 : decode cX9_help 122 = .ok (.iload_n 1, 1) := by decide +kernel
theorem dX9_help_123 : decode cX9_help 123 = .ok (.imul, 1) := by decide +kernel
theorem dX9_help_124 : decode cX9_help 124 = .ok (.bipush 9, 2) := by decide +kernel
theorem dX9_help_126 : decode cX9_help 126 = .ok (.iload_n 2, 1) := by decide +kernel
theorem dX9_help_127 : decode cX9_help 127 = .ok (.imul, 1) := by decide +kernel
theorem dX9_help_128 : decode cX9_help 128 = .ok (.iadd, 1) := by decide +kernel
theorem dX9_help_129 : decode cX9_help 129 = .ok (.iload_n 3, 1) := by decide +kernel
theorem dX9_help_130 : decode cX9_help 130 = .ok (.iadd, 1) := by decide +kernel
theorem dX9_help_131 : decode cX9_help 131 = .ok (.iload 5, 2) := by decide +kernel
theorem dX9_help_133 : decode cX9_help 133 = .ok (.iastore, 1) := by decide +kernel
theorem dX9_help_134 : decode cX9_help 134 = .ok (.aload_n 0, 1) := by decide +kernel
theorem dX9_help_135 : decode cX9_help 135 = .ok (.getfield 61, 3) := by decide +kernel
theorem dX9_help_138 : decode cX9_help 138 = .ok (.sipush 180, 3) := by decide +kernel
theorem dX9_help_141 : decode cX9_help 141 = .ok (.iload_n 1, 1) := by decide +kernel
theorem dX9_help_142 : decode cX9_help 142 = .ok (.imul, 1) := by decide +kernel
theorem dX9_help_143 : decode cX9_help 143 = .ok (.bipush 9, 2) := by decide +kernel
theorem dX9_help_145 : decode cX9_help 145 = .ok (.iload_n 2, 1) := by decide +kernel
theorem dX9_help_146 : decode cX9_help 146 = .ok (.imul, 1) := by decide +kernel
theorem dX9_help_147 : decode cX9_help 147 = .ok (.iadd, 1) := by decide +kernel
theorem dX9_help_148 : decode cX9_help 148 = .ok (.iload_n 3, 1) := by decide +kernel
theorem dX9_help_149 : decode cX9_help 149 = .ok (.iadd, 1) := by decide +kernel
theorem dX9_help_150 : decode cX9_help 150 = .ok (.aload_n 0, 1) := by decide +kernel
theorem dX9_help_151 : decode cX9_help 151 = .ok (.getfield 141, 3) := by decide +kernel
theorem dX9_help_154 : decode cX9_help 154 = .ok (.iconst 1, 1) := by decide +kernel
theorem dX9_help_155 : decode cX9_help 155 = .ok (.iadd, 1) := by decide +kernel
theorem dX9_help_156 : decode cX9_help 156 = .ok (.iastore, 1) := by decide +kernel
theorem dX9_help_157 : decode cX9_help 157 = .ok (.aload_n 0, 1) := by decide +kernel
theorem dX9_help_158 : decode cX9_help 158 = .ok (.iload_n 1, 1) := by decide +kernel
theorem dX9_help_159 : decode cX9_help 159 = .ok (.iload_n 2, 1) := by decide +kernel
theorem dX9_help_160 : decode cX9_help 160 = .ok (.invokevirtual 174, 3) := by decide +kernel
theorem dX9_help_163 : decode cX9_help 163 = .ok (.aload_n 0, 1) := by decide +kernel
theorem dX9_help_164 : decode cX9_help 164 = .ok (.getfield 43, 3) := by decide +kernel
theorem dX9_help_167 : decode cX9_help 167 = .ok (.bipush 9, 2) := by decide +kernel
theorem dX9_help_169 : decode cX9_help 169 = .ok (.iload_n 2, 1) := by decide +kernel
theorem dX9_help_170 : decode cX9_help 170 = .ok (.imul, 1) := by decide +kernel
theorem dX9_help_171 : decode cX9_help 171 = .ok (.iload_n 3, 1) := by decide +kernel
theorem dX9_help_172 : decode cX9_help 172 = .ok (.iadd, 1) := by decide +kernel
theorem dX9_help_173 : decode cX9_help 173 = .ok (.iaload, 1) := by decide +kernel
theorem dX9_help_174 : decode cX9_help 174 = .ok (.ireturn, 1) := by decide +kernel
theorem dX9_streakOf_0 : decode cX9_streakOf 0 = .ok (.aload_n 0, 1) := by decide +kernel
theorem dX9_streakOf_1 : decode cX9_streakOf 1 = .ok (.iload_n 1, 1) := by decide +kernel
theorem dX9_streakOf_2 : decode cX9_streakOf 2 = .ok (.aload_n 0, 1) := by decide +kernel
theorem dX9_streakOf_3 : decode cX9_streakOf 3 = .ok (.getfield 141, 3) := by decide +kernel
theorem dX9_streakOf_6 : decode cX9_streakOf 6 = .ok (.invokevirtual 162, 3) := by decide +kernel
theorem dX9_streakOf_9 : decode cX9_streakOf 9 = .ok (.istore_n 2, 1) := by decide +kernel
theorem dX9_streakOf_10 : decode cX9_streakOf 10 = .ok (.iload_n 2, 1) := by decide +kernel
theorem dX9_streakOf_11 : decode cX9_streakOf 11 = .ok (.aload_n 0, 1) := by decide +kernel
theorem dX9_streakOf_12 : decode cX9_streakOf 12 = .ok (.getfield 70, 3) := by decide +kernel
theorem dX9_streakOf_15 : decode cX9_streakOf 15 = .ok (.sipush 1260, 3) := by decide +kernel
theorem dX9_streakOf_18 : decode cX9_streakOf 18 = .ok (.iload_n 1, 1) := by decide +kernel
theorem dX9_streakOf_19 : decode cX9_streakOf 19 = .ok (.imul, 1) := by decide +kernel
theorem dX9_streakOf_20 : decode cX9_streakOf 20 = .ok (.iload_n 2, 1) := by decide +kernel
theorem dX9_streakOf_21 : decode cX9_streakOf 21 = .ok (.iadd, 1) := by decide +kernel
theorem dX9_streakOf_22 : decode cX9_streakOf 22 = .ok (.iaload, 1) := by decide +kernel
theorem dX9_streakOf_23 : decode cX9_streakOf 23 = .ok (.iconst 1, 1) := by decide +kernel
theorem dX9_streakOf_24 : decode cX9_streakOf 24 = .ok (.if_icmp .ne 7, 3) := by decide +kernel
theorem dX9_streakOf_27 : decode cX9_streakOf 27 = .ok (.iconst 0, 1) := by decide +kernel
theorem dX9_streakOf_28 : decode cX9_streakOf 28 = .ok (.goto 4, 3) := by decide +kernel
theorem dX9_streakOf_31 : decode cX9_streakOf 31 = .ok (.iconst 1, 1) := by decide +kernel
theorem dX9_streakOf_32 : decode cX9_streakOf 32 = .ok (.isub, 1) := by decide +kernel
theorem dX9_streakOf_33 : decode cX9_streakOf 33 = .ok (.istore_n 2, 1) := by decide +kernel
theorem dX9_streakOf_34 : decode cX9_streakOf 34 = .ok (.iconst 0, 1) := by decide +kernel
theorem dX9_streakOf_35 : decode cX9_streakOf 35 = .ok (.istore_n 3, 1) := by decide +kernel
theorem dX9_streakOf_36 : decode cX9_streakOf 36 = .ok (.iload_n 2, 1) := by decide +kernel
theorem dX9_streakOf_37 : decode cX9_streakOf 37 = .ok (.ifCond .lt 28, 3) := by decide +kernel
theorem dX9_streakOf_40 : decode cX9_streakOf 40 = .ok (.aload_n 0, 1) := by decide +kernel
theorem dX9_streakOf_41 : decode cX9_streakOf 41 = .ok (.getfield 70, 3) := by decide +kernel
theorem dX9_streakOf_44 : decode cX9_streakOf 44 = .ok (.sipush 1260, 3) := by decide +kernel
theorem dX9_streakOf_47 : decode cX9_streakOf 47 = .ok (.iload_n 1, 1) := by decide +kernel
theorem dX9_streakOf_48 : decode cX9_streakOf 48 = .ok (.imul, 1) := by decide +kernel
theorem dX9_streakOf_49 : decode cX9_streakOf 49 = .ok (.iload_n 2, 1) := by decide +kernel
theorem dX9_streakOf_50 : decode cX9_streakOf 50 = .ok (.iadd, 1) := by decide +kernel
theorem dX9_streakOf_51 : decode cX9_streakOf 51 = .ok (.iaload, 1) := by decide +kernel
theorem dX9_streakOf_52 : decode cX9_streakOf 52 = .ok (.iconst 1, 1) := by decide +kernel
theorem dX9_streakOf_53 : decode cX9_streakOf 53 = .ok (.if_icmp .ne 12, 3) := by decide +kernel
theorem dX9_streakOf_56 : decode cX9_streakOf 56 = .ok (.iinc 3 1, 3) := by decide +kernel
theorem dX9_streakOf_59 : decode cX9_streakOf 59 = .ok (.iinc 2 (-1), 3) := by decide +kernel
theorem dX9_streakOf_62 : decode cX9_streakOf 62 = .ok (.goto (-26), 3) := by decide +kernel
theorem dX9_streakOf_65 : decode cX9_streakOf 65 = .ok (.iload_n 3, 1) := by decide +kernel
theorem dX9_streakOf_66 : decode cX9_streakOf 66 = .ok (.ireturn, 1) := by decide +kernel
theorem dX9_judge_0 : decode cX9_judge 0 = .ok (.aload_n 0, 1) := by decide +kernel
theorem dX9_judge_1 : decode cX9_judge 1 = .ok (.aload_n 0, 1) := by decide +kernel
theorem dX9_judge_2 : decode cX9_judge 2 = .ok (.iload_n 1, 1) := by decide +kernel
theorem dX9_judge_3 : decode cX9_judge 3 = .ok (.invokevirtual 150, 3) := by decide +kernel
theorem dX9_judge_6 : decode cX9_judge 6 = .ok (.ifCond .eq 12, 3) := by decide +kernel
theorem dX9_judge_9 : decode cX9_judge 9 = .ok (.iload_n 2, 1) := by decide +kernel
theorem dX9_judge_10 : decode cX9_judge 10 = .ok (.iconst 0, 1) := by decide +kernel
theorem dX9_judge_11 : decode cX9_judge 11 = .ok (.iconst 5, 1) := by decide +kernel
theorem dX9_judge_12 : decode cX9_judge 12 = .ok (.invokestatic 80, 3) := by decide +kernel
theorem dX9_judge_15 : decode cX9_judge 15 = .ok (.ifCond .ne 7, 3) := by decide +kernel
theorem dX9_judge_18 : decode cX9_judge 18 = .ok (.iconst 1, 1) := by decide +kernel
theorem dX9_judge_19 : decode cX9_judge 19 = .ok (.goto 22, 3) := by decide +kernel
theorem dX9_judge_22 : decode cX9_judge 22 = .ok (.aload_n 0, 1) := by decide +kernel
theorem dX9_judge_23 : decode cX9_judge 23 = .ok (.getfield 49, 3) := by decide +kernel
theorem dX9_judge_26 : decode cX9_judge 26 = .ok (.iload_n 1, 1) := by decide +kernel
theorem dX9_judge_27 : decode cX9_judge 27 = .ok (.iaload, 1) := by decide +kernel
theorem dX9_judge_28 : decode cX9_judge 28 = .ok (.iload_n 2, 1) := by decide +kernel
theorem dX9_judge_29 : decode cX9_judge 29 = .ok (.ishr, 1) := by decide +kernel
theorem dX9_judge_30 : decode cX9_judge 30 = .ok (.iconst 1, 1) := by decide +kernel
theorem dX9_judge_31 : decode cX9_judge 31 = .ok (.iand, 1) := by decide +kernel
theorem dX9_judge_32 : decode cX9_judge 32 = .ok (.iconst 1, 1) := by decide +kernel
theorem dX9_judge_33 : decode cX9_judge 33 = .ok (.if_icmp .ne 7, 3) := by decide +kernel
theorem dX9_judge_36 : decode cX9_judge 36 = .ok (.iconst 2, 1) := by decide +kernel
theorem dX9_judge_37 : decode cX9_judge 37 = .ok (.goto 4, 3) := by decide +kernel
theorem dX9_judge_40 : decode cX9_judge 40 = .ok (.iconst 0, 1) := by decide +kernel
theorem dX9_judge_41 : decode cX9_judge 41 = .ok (.putfield 73, 3) := by decide +kernel
theorem dX9_judge_44 : decode cX9_judge 44 = .ok (.aload_n 0, 1) := by decide +kernel
theorem dX9_judge_45 : decode cX9_judge 45 = .ok (.getfield 73, 3) := by decide +kernel
theorem dX9_judge_48 : decode cX9_judge 48 = .ok (.ifCond .le 5, 3) := by decide +kernel
theorem dX9_judge_51 : decode cX9_judge 51 = .ok (.iconst 0, 1) := by decide +kernel
theorem dX9_judge_52 : decode cX9_judge 52 = .ok (.ireturn, 1) := by decide +kernel
theorem dX9_judge_53 : decode cX9_judge 53 = .ok (.aload_n 0, 1) := by decide +kernel
theorem dX9_judge_54 : decode cX9_judge 54 = .ok (.getfield 49, 3) := by decide +kernel
theorem dX9_judge_57 : decode cX9_judge 57 = .ok (.iload_n 1, 1) := by decide +kernel
theorem dX9_judge_58 : decode cX9_judge 58 = .ok (.dup2, 1) := by decide +kernel
theorem dX9_judge_59 : decode cX9_judge 59 = .ok (.iaload, 1) := by decide +kernel
theorem dX9_judge_60 : decode cX9_judge 60 = .ok (.iconst 1, 1) := by decide +kernel
theorem dX9_judge_61 : decode cX9_judge 61 = .ok (.iload_n 2, 1) := by decide +kernel
theorem dX9_judge_62 : decode cX9_judge 62 = .ok (.ishl, 1) := by decide +kernel
theorem dX9_judge_63 : decode cX9_judge 63 = .ok (.ior, 1) := by decide +kernel
theorem dX9_judge_64 : decode cX9_judge 64 = .ok (.iastore, 1) := by decide +kernel
theorem dX9_judge_65 : decode cX9_judge 65 = .ok (.aload_n 0, 1) := by decide +kernel
theorem dX9_judge_66 : decode cX9_judge 66 = .ok (.iload_n 1, 1) := by decide +kernel
theorem dX9_judge_67 : decode cX9_judge 67 = .ok (.invokevirtual 156, 3) := by decide +kernel
theorem dX9_judge_70 : decode cX9_judge 70 = .ok (.istore_n 3, 1) := by decide +kernel
theorem dX9_judge_71 : decode cX9_judge 71 = .ok (.iconst 0, 1) := by decide +kernel
theorem dX9_judge_72 : decode cX9_judge 72 = .ok (.istore 4, 2) := by decide +kernel
theorem dX9_judge_74 : decode cX9_judge 74 = .ok (.iconst 0, 1) := by decide +kernel
theorem dX9_judge_75 : decode cX9_judge 75 = .ok (.istore 5, 2) := by decide +kernel
theorem dX9_judge_77 : decode cX9_judge 77 = .ok (.iload 5, 2) := by decide +kernel
theorem dX9_judge_79 : decode cX9_judge 79 = .ok (.aload_n 0, 1) := by decide +kernel
theorem dX9_judge_80 : decode cX9_judge 80 = .ok (.getfield 153, 3) := by decide +kernel
theorem dX9_judge_83 : decode cX9_judge 83 = .ok (.if_icmp .ge 112, 3) := by decide +kernel
theorem dX9_judge_86 : decode cX9_judge 86 = .ok (.aload_n 0, 1) := by decide +kernel
theorem dX9_judge_87 : decode cX9_judge 87 = .ok (.iload 5, 2) := by decide +kernel
theorem dX9_judge_89 : decode cX9_judge 89 = .ok (.invokevirtual 178, 3) := by decide +kernel
theorem dX9_judge_92 : decode cX9_judge 92 = .ok (.istore 6, 2) := by decide +kernel
theorem dX9_judge_94 : decode cX9_judge 94 = .ok (.iconst 0, 1) := by decide +kernel
theorem dX9_judge_95 : decode cX9_judge 95 = .ok (.istore 7, 2) := by decide +kernel
theorem dX9_judge_97 : decode cX9_judge 97 = .ok (.iload 7, 2) := by decide +kernel
theorem dX9_judge_99 : decode cX9_judge 99 = .ok (.bipush 9, 2) := by decide +kernel
theorem dX9_judge_101 : decode cX9_judge 101 = .ok (.if_icmp .ge 60, 3) := by decide +kernel
theorem dX9_judge_104 : decode cX9_judge 104 = .ok (.sipush 180, 3) := by decide +kernel
theorem dX9_judge_107 : decode cX9_judge 107 = .ok (.iload 5, 2) := by decide +kernel
theorem dX9_judge_109 : decode cX9_judge 109 = .ok (.imul, 1) := by decide +kernel
theorem dX9_judge_110 : decode cX9_judge 110 = .ok (.bipush 9, 2) := by decide +kernel
theorem dX9_judge_112 : decode cX9_judge 112 = .ok (.iload_n 1, 1) := by decide +kernel
theorem dX9_judge_113 : decode cX9_judge 113 = .ok (.imul, 1) := by decide +kernel
theorem dX9_judge_114 : decode cX9_judge 114 = .ok (.iadd, 1) := by decide +kernel
theorem dX9_judge_115 : decode cX9_judge 115 = .ok (.iload 7, 2) := by decide +kernel
theorem dX9_judge_117 : decode cX9_judge 117 = .ok (.iadd, 1) := by decide +kernel
theorem dX9_judge_118 : decode cX9_judge 118 = .ok (.istore 8, 2) := by decide +kernel
theorem dX9_judge_120 : decode cX9_judge 120 = .ok (.iload_n 3, 1) := by decide +kernel
theorem dX9_judge_121 : decode cX9_judge 121 = .ok (.iload 7, 2) := by decide +kernel
theorem dX9_judge_123 : decode cX9_judge 123 = .ok (.ishr, 1) := by decide +kernel
theorem dX9_judge_124 : decode cX9_judge 124 = .ok (.iconst 1, 1) := by decide +kernel
theorem dX9_judge_125 : decode cX9_judge 125 = .ok (.iand, 1) := by decide +kernel
theorem dX9_judge_126 : decode cX9_judge 126 = .ok (.iconst 1, 1) := by decide +kernel
theorem dX9_judge_127 : decode cX9_judge 127 = .ok (.if_icmp .ne 28, 3) := by decide +kernel
theorem dX9_judge_130 : decode cX9_judge 130 = .ok (.aload_n 0, 1) := by decide +kernel
theorem dX9_judge_131 : decode cX9_judge 131 = .ok (.getfield 58, 3) := by decide +kernel
theorem dX9_judge_134 : decode cX9_judge 134 = .ok (.iload 5, 2) := by decide +kernel
theorem dX9_judge_136 : decode cX9_judge 136 = .ok (.dup2, 1) := by decide +kernel
theorem dX9_judge_137 : decode cX9_judge 137 = .ok (.iaload, 1) := by decide +kernel
theorem dX9_judge_138 : decode cX9_judge 138 = .ok (.aload_n 0, 1) := by decide +kernel
theorem dX9_judge_139 : decode cX9_judge 139 = .ok (.getfield 64, 3) := by decide +kernel
theorem dX9_judge_142 : decode cX9_judge 142 = .ok (.iload 8, 2) := by decide +kernel
theorem dX9_judge_144 : decode cX9_judge 144 = .ok (.iaload, 1) := by decide +kernel
theorem dX9_judge_145 : decode cX9_judge 145 = .ok (.iadd, 1) := by decide +kernel
theorem dX9_judge_146 : decode cX9_judge 146 = .ok (.iastore, 1) := by decide +kernel
theorem dX9_judge_147 : decode cX9_judge 147 = .ok (.aload_n 0, 1) := by decide +kernel
theorem dX9_judge_148 : decode cX9_judge 148 = .ok (.getfield 64, 3) := by decide +kernel
theorem dX9_judge_151 : decode cX9_judge 151 = .ok (.iload 8, 2) := by decide +kernel
theorem dX9_judge_153 : decode cX9_judge 153 = .ok (.iconst 0, 1) := by decide +kernel
theorem dX9_judge_154 : decode cX9_judge 154 = .ok (.iastore, 1) := by decide +kernel
theorem dX9_judge_155 : decode cX9_judge 155 = .ok (.iinc 7 1, 3) := by decide +kernel
theorem dX9_judge_158 : decode cX9_judge 158 = .ok (.goto (-61), 3) := by decide +kernel
theorem dX9_judge_161 : decode cX9_judge 161 = .ok (.aload_n 0, 1) := by decide +kernel
theorem dX9_judge_162 : decode cX9_judge 162 = .ok (.iload 5, 2) := by decide +kernel
theorem dX9_judge_164 : decode cX9_judge 164 = .ok (.iload_n 1, 1) := by decide +kernel
theorem dX9_judge_165 : decode cX9_judge 165 = .ok (.invokevirtual 174, 3) := by decide +kernel
theorem dX9_judge_168 : decode cX9_judge 168 = .ok (.iload 4, 2) := by decide +kernel
theorem dX9_judge_170 : decode cX9_judge 170 = .ok (.aload_n 0, 1) := by decide +kernel
theorem dX9_judge_171 : decode cX9_judge 171 = .ok (.iload 5, 2) := by decide +kernel
theorem dX9_judge_173 : decode cX9_judge 173 = .ok (.invokevirtual 178, 3) := by decide +kernel
theorem dX9_judge_176 : decode cX9_judge 176 = .ok (.iload 6, 2) := by decide +kernel
theorem dX9_judge_178 : decode cX9_judge 178 = .ok (.if_icmp .le 7, 3) := by decide +kernel
theorem dX9_judge_181 : decode cX9_judge 181 = .ok (.iconst 1, 1) := by decide +kernel
theorem dX9_judge_182 : decode cX9_judge 182 = .ok (.goto 4, 3) := by decide +kernel
theorem dX9_judge_185 : decode cX9_judge 185 = .ok (.iconst 0, 1) := by decide +kernel
theorem dX9_judge_186 : decode cX9_judge 186 = .ok (.iadd, 1) := by decide +kernel
theorem dX9_judge_187 : decode cX9_judge 187 = .ok (.istore 4, 2) := by decide +kernel
theorem dX9_judge_189 : decode cX9_judge 189 = .ok (.iinc 5 1, 3) := by decide +kernel
theorem dX9_judge_192 : decode cX9_judge 192 = .ok (.goto (-115), 3) := by decide +kernel
theorem dX9_judge_195 : decode cX9_judge 195 = .ok (.iload 4, 2) := by decide +kernel
theorem dX9_judge_197 : decode cX9_judge 197 = .ok (.ireturn, 1) := by decide +kernel
theorem dX9_solvedAt_0 : decode cX9_solvedAt 0 = .ok (.aload_n 0, 1) := by decide +kernel
theorem dX9_solvedAt_1 : decode cX9_solvedAt 1 = .ok (.aload_n 0, 1) := by decide +kernel
theorem dX9_solvedAt_2 : decode cX9_solvedAt 2 = .ok (.iload_n 1, 1) := by decide +kernel
theorem dX9_solvedAt_3 : decode cX9_solvedAt 3 = .ok (.invokevirtual 165, 3) := by decide +kernel
theorem dX9_solvedAt_6 : decode cX9_solvedAt 6 = .ok (.ifCond .eq 15, 3) := by decide +kernel
theorem dX9_solvedAt_9 : decode cX9_solvedAt 9 = .ok (.aload_n 0, 1) := by decide +kernel
theorem dX9_solvedAt_10 : decode cX9_solvedAt 10 = .ok (.iload_n 2, 1) := by decide +kernel
theorem dX9_solvedAt_11 : decode cX9_solvedAt 11 = .ok (.invokevirtual 150, 3) := by decide +kernel
theorem dX9_solvedAt_14 : decode cX9_solvedAt 14 = .ok (.ifCond .eq 7, 3) := by decide +kernel
theorem dX9_solvedAt_17 : decode cX9_solvedAt 17 = .ok (.iconst 0, 1) := by decide +kernel
theorem dX9_solvedAt_18 : decode cX9_solvedAt 18 = .ok (.goto 4, 3) := by decide +kernel
theorem dX9_solvedAt_21 : decode cX9_solvedAt 21 = .ok (.iconst 1, 1) := by decide +kernel
theorem dX9_solvedAt_22 : decode cX9_solvedAt 22 = .ok (.putfield 73, 3) := by decide +kernel
theorem dX9_solvedAt_25 : decode cX9_solvedAt 25 = .ok (.aload_n 0, 1) := by decide +kernel
theorem dX9_solvedAt_26 : decode cX9_solvedAt 26 = .ok (.getfield 73, 3) := by decide +kernel
theorem dX9_solvedAt_29 : decode cX9_solvedAt 29 = .ok (.ifCond .ne 12, 3) := by decide +kernel
theorem dX9_solvedAt_32 : decode cX9_solvedAt 32 = .ok (.aload_n 0, 1) := by decide +kernel
theorem dX9_solvedAt_33 : decode cX9_solvedAt 33 = .ok (.iload_n 1, 1) := by decide +kernel
theorem dX9_solvedAt_34 : decode cX9_solvedAt 34 = .ok (.iload_n 2, 1) := by decide +kernel
theorem dX9_solvedAt_35 : decode cX9_solvedAt 35 = .ok (.invokevirtual 159, 3) := by decide +kernel
theorem dX9_solvedAt_38 : decode cX9_solvedAt 38 = .ok (.goto 4, 3) := by decide +kernel
theorem dX9_solvedAt_41 : decode cX9_solvedAt 41 = .ok (.iconst 0, 1) := by decide +kernel
theorem dX9_solvedAt_42 : decode cX9_solvedAt 42 = .ok (.ireturn, 1) := by decide +kernel
theorem dX9_open_0 : decode cX9_open 0 = .ok (.aload_n 0, 1) := by decide +kernel
theorem dX9_open_1 : decode cX9_open 1 = .ok (.aload_n 0, 1) := by decide +kernel
theorem dX9_open_2 : decode cX9_open 2 = .ok (.iload_n 1, 1) := by decide +kernel
theorem dX9_open_3 : decode cX9_open 3 = .ok (.invokevirtual 150, 3) := by decide +kernel
theorem dX9_open_6 : decode cX9_open 6 = .ok (.ifCond .eq 7, 3) := by decide +kernel
theorem dX9_open_9 : decode cX9_open 9 = .ok (.iconst 0, 1) := by decide +kernel
theorem dX9_open_10 : decode cX9_open 10 = .ok (.goto 4, 3) := by decide +kernel
theorem dX9_open_13 : decode cX9_open 13 = .ok (.iconst 1, 1) := by decide +kernel
theorem dX9_open_14 : decode cX9_open 14 = .ok (.putfield 73, 3) := by decide +kernel
theorem dX9_open_17 : decode cX9_open 17 = .ok (.aload_n 0, 1) := by decide +kernel
theorem dX9_open_18 : decode cX9_open 18 = .ok (.getfield 73, 3) := by decide +kernel
theorem dX9_open_21 : decode cX9_open 21 = .ok (.ifCond .ne 11, 3) := by decide +kernel
theorem dX9_open_24 : decode cX9_open 24 = .ok (.aload_n 0, 1) := by decide +kernel
theorem dX9_open_25 : decode cX9_open 25 = .ok (.iload_n 1, 1) := by decide +kernel
theorem dX9_open_26 : decode cX9_open 26 = .ok (.invokevirtual 156, 3) := by decide +kernel
theorem dX9_open_29 : decode cX9_open 29 = .ok (.goto 4, 3) := by decide +kernel
theorem dX9_open_32 : decode cX9_open 32 = .ok (.iconst 0, 1) := by decide +kernel
theorem dX9_open_33 : decode cX9_open 33 = .ok (.ireturn, 1) := by decide +kernel
theorem dX9_coins_0 : decode cX9_coins 0 = .ok (.aload_n 0, 1) := by decide +kernel
theorem dX9_coins_1 : decode cX9_coins 1 = .ok (.aload_n 0, 1) := by decide +kernel
theorem dX9_coins_2 : decode cX9_coins 2 = .ok (.iload_n 1, 1) := by decide +kernel
theorem dX9_coins_3 : decode cX9_coins 3 = .ok (.invokevirtual 165, 3) := by decide +kernel
theorem dX9_coins_6 : decode cX9_coins 6 = .ok (.ifCond .eq 7, 3) := by decide +kernel
theorem dX9_coins_9 : decode cX9_coins 9 = .ok (.iconst 0, 1) := by decide +kernel
theorem dX9_coins_10 : decode cX9_coins 10 = .ok (.goto 4, 3) := by decide +kernel
theorem dX9_coins_13 : decode cX9_coins 13 = .ok (.iconst 1, 1) := by decide +kernel
theorem dX9_coins_14 : decode cX9_coins 14 = .ok (.putfield 73, 3) := by decide +kernel
theorem dX9_coins_17 : decode cX9_coins 17 = .ok (.aload_n 0, 1) := by decide +kernel
theorem dX9_coins_18 : decode cX9_coins 18 = .ok (.getfield 73, 3) := by decide +kernel
theorem dX9_coins_21 : decode cX9_coins 21 = .ok (.ifCond .ne 12, 3) := by decide +kernel
theorem dX9_coins_24 : decode cX9_coins 24 = .ok (.aload_n 0, 1) := by decide +kernel
theorem dX9_coins_25 : decode cX9_coins 25 = .ok (.getfield 58, 3) := by decide +kernel
theorem dX9_coins_28 : decode cX9_coins 28 = .ok (.iload_n 1, 1) := by decide +kernel
theorem dX9_coins_29 : decode cX9_coins 29 = .ok (.iaload, 1) := by decide +kernel
theorem dX9_coins_30 : decode cX9_coins 30 = .ok (.goto 4, 3) := by decide +kernel
theorem dX9_coins_33 : decode cX9_coins 33 = .ok (.iconst 0, 1) := by decide +kernel
theorem dX9_coins_34 : decode cX9_coins 34 = .ok (.ireturn, 1) := by decide +kernel
theorem dX9_streak_0 : decode cX9_streak 0 = .ok (.aload_n 0, 1) := by decide +kernel
theorem dX9_streak_1 : decode cX9_streak 1 = .ok (.aload_n 0, 1) := by decide +kernel
theorem dX9_streak_2 : decode cX9_streak 2 = .ok (.iload_n 1, 1) := by decide +kernel
theorem dX9_streak_3 : decode cX9_streak 3 = .ok (.invokevirtual 165, 3) := by decide +kernel
theorem dX9_streak_6 : decode cX9_streak 6 = .ok (.ifCond .eq 7, 3) := by decide +kernel
theorem dX9_streak_9 : decode cX9_streak 9 = .ok (.iconst 0, 1) := by decide +kernel
theorem dX9_streak_10 : decode cX9_streak 10 = .ok (.goto 4, 3) := by decide +kernel
theorem dX9_streak_13 : decode cX9_streak 13 = .ok (.iconst 1, 1) := by decide +kernel
theorem dX9_streak_14 : decode cX9_streak 14 = .ok (.putfield 73, 3) := by decide +kernel
theorem dX9_streak_17 : decode cX9_streak 17 = .ok (.aload_n 0, 1) := by decide +kernel
theorem dX9_streak_18 : decode cX9_streak 18 = .ok (.getfield 73, 3) := by decide +kernel
theorem dX9_streak_21 : decode cX9_streak 21 = .ok (.ifCond .ne 11, 3) := by decide +kernel
theorem dX9_streak_24 : decode cX9_streak 24 = .ok (.aload_n 0, 1) := by decide +kernel
theorem dX9_streak_25 : decode cX9_streak 25 = .ok (.iload_n 1, 1) := by decide +kernel
theorem dX9_streak_26 : decode cX9_streak 26 = .ok (.invokevirtual 178, 3) := by decide +kernel
theorem dX9_streak_29 : decode cX9_streak 29 = .ok (.goto 4, 3) := by decide +kernel
theorem dX9_streak_32 : decode cX9_streak 32 = .ok (.iconst 0, 1) := by decide +kernel
theorem dX9_streak_33 : decode cX9_streak 33 = .ok (.ireturn, 1) := by decide +kernel
theorem dX9_streakAnew_0 : decode cX9_streakAnew 0 = .ok (.aload_n 0, 1) := by decide +kernel
theorem dX9_streakAnew_1 : decode cX9_streakAnew 1 = .ok (.iload_n 1, 1) := by decide +kernel
theorem dX9_streakAnew_2 : decode cX9_streakAnew 2 = .ok (.invokevirtual 181, 3) := by decide +kernel
theorem dX9_streakAnew_5 : decode cX9_streakAnew 5 = .ok (.ireturn, 1) := by decide +kernel
theorem dX9_solverAt_0 : decode cX9_solverAt 0 = .ok (.aload_n 0, 1) := by decide +kernel
theorem dX9_solverAt_1 : decode cX9_solverAt 1 = .ok (.iconst 0, 1) := by decide +kernel
theorem dX9_solverAt_2 : decode cX9_solverAt 2 = .ok (.putfield 73, 3) := by decide +kernel
theorem dX9_solverAt_5 : decode cX9_solverAt 5 = .ok (.iconst 0, 1) := by decide +kernel
theorem dX9_solverAt_6 : decode cX9_solverAt 6 = .ok (.istore_n 2, 1) := by decide +kernel
theorem dX9_solverAt_7 : decode cX9_solverAt 7 = .ok (.iload_n 2, 1) := by decide +kernel
theorem dX9_solverAt_8 : decode cX9_solverAt 8 = .ok (.aload_n 0, 1) := by decide +kernel
theorem dX9_solverAt_9 : decode cX9_solverAt 9 = .ok (.getfield 153, 3) := by decide +kernel
theorem dX9_solverAt_12 : decode cX9_solverAt 12 = .ok (.if_icmp .ge 100, 3) := by decide +kernel
theorem dX9_solverAt_15 : decode cX9_solverAt 15 = .ok (.iconst 0, 1) := by decide +kernel
theorem dX9_solverAt_16 : decode cX9_solverAt 16 = .ok (.istore_n 3, 1) := by decide +kernel
theorem dX9_solverAt_17 : decode cX9_solverAt 17 = .ok (.iconst 0, 1) := by decide +kernel
theorem dX9_solverAt_18 : decode cX9_solverAt 18 = .ok (.istore 4, 2) := by decide +kernel
theorem dX9_solverAt_20 : decode cX9_solverAt 20 = .ok (.iload 4, 2) := by decide +kernel
theorem dX9_solverAt_22 : decode cX9_solverAt 22 = .ok (.aload_n 0, 1) := by decide +kernel
theorem dX9_solverAt_23 : decode cX9_solverAt 23 = .ok (.getfield 153, 3) := by decide +kernel
theorem dX9_solverAt_26 : decode cX9_solverAt 26 = .ok (.if_icmp .ge 73, 3) := by decide +kernel
theorem dX9_solverAt_29 : decode cX9_solverAt 29 = .ok (.aload_n 0, 1) := by decide +kernel
theorem dX9_solverAt_30 : decode cX9_solverAt 30 = .ok (.iload 4, 2) := by decide +kernel
theorem dX9_solverAt_32 : decode cX9_solverAt 32 = .ok (.invokevirtual 178, 3) := by decide +kernel
theorem dX9_solverAt_35 : decode cX9_solverAt 35 = .ok (.aload_n 0, 1) := by decide +kernel
theorem dX9_solverAt_36 : decode cX9_solverAt 36 = .ok (.iload_n 2, 1) := by decide +kernel
theorem dX9_solverAt_37 : decode cX9_solverAt 37 = .ok (.invokevirtual 178, 3) := by decide +kernel
theorem dX9_solverAt_40 : decode cX9_solverAt 40 = .ok (.isub, 1) := by decide +kernel
theorem dX9_solverAt_41 : decode cX9_solverAt 41 = .ok (.istore 5, 2) := by decide +kernel
theorem dX9_solverAt_43 : decode cX9_solverAt 43 = .ok (.iload 5, 2) := by decide +kernel
theorem dX9_solverAt_45 : decode cX9_solverAt 45 = .ok (.ifCond .ne 20, 3) := by decide +kernel
theorem dX9_solverAt_48 : decode cX9_solverAt 48 = .ok (.aload_n 0, 1) := by decide +kernel
theorem dX9_solverAt_49 : decode cX9_solverAt 49 = .ok (.getfield 58, 3) := by decide +kernel
theorem dX9_solverAt_52 : decode cX9_solverAt 52 = .ok (.iload 4, 2) := by decide +kernel
theorem dX9_solverAt_54 : decode cX9_solverAt 54 = .ok (.iaload, 1) := by decide +kernel
theorem dX9_solverAt_55 : decode cX9_solverAt 55 = .ok (.aload_n 0, 1) := by decide +kernel
theorem dX9_solverAt_56 : decode cX9_solverAt 56 = .ok (.getfield 58, 3) := by decide +kernel
theorem dX9_solverAt_59 : decode cX9_solverAt 59 = .ok (.iload_n 2, 1) := by decide +kernel
theorem dX9_solverAt_60 : decode cX9_solverAt 60 = .ok (.iaload, 1) := by decide +kernel
theorem dX9_solverAt_61 : decode cX9_solverAt 61 = .ok (.isub, 1) := by decide +kernel
theorem dX9_solverAt_62 : decode cX9_solverAt 62 = .ok (.goto 5, 3) := by decide +kernel
theorem dX9_solverAt_65 : decode cX9_solverAt 65 = .ok (.iload 5, 2) := by decide +kernel
theorem dX9_solverAt_67 : decode cX9_solverAt 67 = .ok (.istore 5, 2) := by decide +kernel
theorem dX9_solverAt_69 : decode cX9_solverAt 69 = .ok (.iload_n 3, 1) := by decide +kernel
theorem dX9_solverAt_70 : decode cX9_solverAt 70 = .ok (.iload 5, 2) := by decide +kernel
theorem dX9_solverAt_72 : decode cX9_solverAt 72 = .ok (.ifCond .gt 14, 3) := by decide +kernel
theorem dX9_solverAt_75 : decode cX9_solverAt 75 = .ok (.iload 5, 2) := by decide +kernel
theorem dX9_solverAt_77 : decode cX9_solverAt 77 = .ok (.ifCond .ne 13, 3) := by decide +kernel
theorem dX9_solverAt_80 : decode cX9_solverAt 80 = .ok (.iload 4, 2) := by decide +kernel
theorem dX9_solverAt_82 : decode cX9_solverAt 82 = .ok (.iload_n 2, 1) := by decide +kernel
theorem dX9_solverAt_83 : decode cX9_solverAt 83 = .ok (.if_icmp .ge 7, 3) := by decide +kernel
theorem dX9_solverAt_86 : decode cX9_solverAt 86 = .ok (.iconst 1, 1) := by decide +kernel
theorem dX9_solverAt_87 : decode cX9_solverAt 87 = .ok (.goto 4, 3) := by decide +kernel
theorem dX9_solverAt_90 : decode cX9_solverAt 90 = .ok (.iconst 0, 1) := by decide +kernel
theorem dX9_solverAt_91 : decode cX9_solverAt 91 = .ok (.iadd, 1) := by decide +kernel
theorem dX9_solverAt_92 : decode cX9_solverAt 92 = .ok (.istore_n 3, 1) := by decide +kernel
theorem dX9_solverAt_93 : decode cX9_solverAt 93 = .ok (.iinc 4 1, 3) := by decide +kernel
theorem dX9_solverAt_96 : decode cX9_solverAt 96 = .ok (.goto (-76), 3) := by decide +kernel
theorem dX9_solverAt_99 : decode cX9_solverAt 99 = .ok (.iload_n 3, 1) := by decide +kernel
theorem dX9_solverAt_100 : decode cX9_solverAt 100 = .ok (.iload_n 1, 1) := by decide +kernel
theorem dX9_solverAt_101 : decode cX9_solverAt 101 = .ok (.if_icmp .ne 5, 3) := by decide +kernel
theorem dX9_solverAt_104 : decode cX9_solverAt 104 = .ok (.iload_n 2, 1) := by decide +kernel
theorem dX9_solverAt_105 : decode cX9_solverAt 105 = .ok (.ireturn, 1) := by decide +kernel
theorem dX9_solverAt_106 : decode cX9_solverAt 106 = .ok (.iinc 2 1, 3) := by decide +kernel
theorem dX9_solverAt_109 : decode cX9_solverAt 109 = .ok (.goto (-102), 3) := by decide +kernel
theorem dX9_solverAt_112 : decode cX9_solverAt 112 = .ok (.iconst (-1), 1) := by decide +kernel
theorem dX9_solverAt_113 : decode cX9_solverAt 113 = .ok (.ireturn, 1) := by decide +kernel
end
section
theorem dL_spell_0 : decode cL_spell 0 = .ok (.aload_n 2, 1) := by decide +kernel
theorem dL_spell_1 : decode cL_spell 1 = .ok (.iconst 0, 1) := by decide +kernel
theorem dL_spell_2 : decode cL_spell 2 = .ok (.aload_n 0, 1) := by decide +kernel
theorem dL_spell_3 : decode cL_spell 3 = .ok (.iload_n 1, 1) := by decide +kernel
theorem dL_spell_4 : decode cL_spell 4 = .ok (.invokevirtual 7, 3) := by decide +kernel
theorem dL_spell_7 : decode cL_spell 7 = .ok (.i2l, 1) := by decide +kernel
theorem dL_spell_8 : decode cL_spell 8 = .ok (.lastore, 1) := by decide +kernel
theorem dL_spell_9 : decode cL_spell 9 = .ok (.goto 9, 3) := by decide +kernel
theorem dL_spell_12 : decode cL_spell 12 = .ok (.astore_n 3, 1) := by decide +kernel
theorem dL_spell_13 : decode cL_spell 13 = .ok (.iconst 1, 1) := by decide +kernel
theorem dL_spell_14 : decode cL_spell 14 = .ok (.ireturn, 1) := by decide +kernel
theorem dL_spell_15 : decode cL_spell 15 = .ok (.astore_n 3, 1) := by decide +kernel
theorem dL_spell_16 : decode cL_spell 16 = .ok (.iconst 2, 1) := by decide +kernel
theorem dL_spell_17 : decode cL_spell 17 = .ok (.ireturn, 1) := by decide +kernel
theorem dL_spell_18 : decode cL_spell 18 = .ok (.iconst 0, 1) := by decide +kernel
theorem dL_spell_19 : decode cL_spell 19 = .ok (.ireturn, 1) := by decide +kernel
theorem dL_insert_0 : decode cL_insert 0 = .ok (.aload_n 2, 1) := by decide +kernel
theorem dL_insert_1 : decode cL_insert 1 = .ok (.iconst 0, 1) := by decide +kernel
theorem dL_insert_2 : decode cL_insert 2 = .ok (.aload_n 0, 1) := by decide +kernel
theorem dL_insert_3 : decode cL_insert 3 = .ok (.iload_n 1, 1) := by decide +kernel
theorem dL_insert_4 : decode cL_insert 4 = .ok (.invokevirtual 17, 3) := by decide +kernel
theorem dL_insert_7 : decode cL_insert 7 = .ok (.i2l, 1) := by decide +kernel
theorem dL_insert_8 : decode cL_insert 8 = .ok (.lastore, 1) := by decide +kernel
theorem dL_insert_9 : decode cL_insert 9 = .ok (.goto 9, 3) := by decide +kernel
theorem dL_insert_12 : decode cL_insert 12 = .ok (.astore_n 3, 1) := by decide +kernel
theorem dL_insert_13 : decode cL_insert 13 = .ok (.iconst 1, 1) := by decide +kernel
theorem dL_insert_14 : decode cL_insert 14 = .ok (.ireturn, 1) := by decide +kernel
theorem dL_insert_15 : decode cL_insert 15 = .ok (.astore_n 3, 1) := by decide +kernel
theorem dL_insert_16 : decode cL_insert 16 = .ok (.iconst 2, 1) := by decide +kernel
theorem dL_insert_17 : decode cL_insert 17 = .ok (.ireturn, 1) := by decide +kernel
theorem dL_insert_18 : decode cL_insert 18 = .ok (.iconst 0, 1) := by decide +kernel
theorem dL_insert_19 : decode cL_insert 19 = .ok (.ireturn, 1) := by decide +kernel
theorem dL_charAt_0 : decode cL_charAt 0 = .ok (.aload_n 2, 1) := by decide +kernel
theorem dL_charAt_1 : decode cL_charAt 1 = .ok (.iconst 0, 1) := by decide +kernel
theorem dL_charAt_2 : decode cL_charAt 2 = .ok (.aload_n 0, 1) := by decide +kernel
theorem dL_charAt_3 : decode cL_charAt 3 = .ok (.iload_n 1, 1) := by decide +kernel
theorem dL_charAt_4 : decode cL_charAt 4 = .ok (.invokevirtual 20, 3) := by decide +kernel
theorem dL_charAt_7 : decode cL_charAt 7 = .ok (.i2l, 1) := by decide +kernel
theorem dL_charAt_8 : decode cL_charAt 8 = .ok (.lastore, 1) := by decide +kernel
theorem dL_charAt_9 : decode cL_charAt 9 = .ok (.goto 6, 3) := by decide +kernel
theorem dL_charAt_12 : decode cL_charAt 12 = .ok (.astore_n 3, 1) := by decide +kernel
theorem dL_charAt_13 : decode cL_charAt 13 = .ok (.iconst 1, 1) := by decide +kernel
theorem dL_charAt_14 : decode cL_charAt 14 = .ok (.ireturn, 1) := by decide +kernel
theorem dL_charAt_15 : decode cL_charAt 15 = .ok (.iconst 0, 1) := by decide +kernel
theorem dL_charAt_16 : decode cL_charAt 16 = .ok (.ireturn, 1) := by decide +kernel
theorem dL_addWord_0 : decode cL_addWord 0 = .ok (.aload_n 2, 1) := by decide +kernel
theorem dL_addWord_1 : decode cL_addWord 1 = .ok (.iconst 0, 1) := by decide +kernel
theorem dL_addWord_2 : decode cL_addWord 2 = .ok (.aload_n 0, 1) := by decide +kernel
theorem dL_addWord_3 : decode cL_addWord 3 = .ok (.iload_n 1, 1) := by decide +kernel
theorem dL_addWord_4 : decode cL_addWord 4 = .ok (.invokevirtual 26, 3) := by decide +kernel
theorem dL_addWord_7 : decode cL_addWord 7 = .ok (.i2l, 1) := by decide +kernel
theorem dL_addWord_8 : decode cL_addWord 8 = .ok (.lastore, 1) := by decide +kernel
theorem dL_addWord_9 : decode cL_addWord 9 = .ok (.goto 9, 3) := by decide +kernel
theorem dL_addWord_12 : decode cL_addWord 12 = .ok (.astore_n 3, 1) := by decide +kernel
theorem dL_addWord_13 : decode cL_addWord 13 = .ok (.iconst 1, 1) := by decide +kernel
theorem dL_addWord_14 : decode cL_addWord 14 = .ok (.ireturn, 1) := by decide +kernel
theorem dL_addWord_15 : decode cL_addWord 15 = .ok (.astore_n 3, 1) := by decide +kernel
theorem dL_addWord_16 : decode cL_addWord 16 = .ok (.iconst 2, 1) := by decide +kernel
theorem dL_addWord_17 : decode cL_addWord 17 = .ok (.ireturn, 1) := by decide +kernel
theorem dL_addWord_18 : decode cL_addWord 18 = .ok (.iconst 0, 1) := by decide +kernel
theorem dL_addWord_19 : decode cL_addWord 19 = .ok (.ireturn, 1) := by decide +kernel
theorem dL_setWeight_0 : decode cL_setWeight 0 = .ok (.aload_n 3, 1) := by decide +kernel
theorem dL_setWeight_1 : decode cL_setWeight 1 = .ok (.iconst 0, 1) := by decide +kernel
theorem dL_setWeight_2 : decode cL_setWeight 2 = .ok (.aload_n 0, 1) := by decide +kernel
theorem dL_setWeight_3 : decode cL_setWeight 3 = .ok (.iload_n 1, 1) := by decide +kernel
theorem dL_setWeight_4 : decode cL_setWeight 4 = .ok (.iload_n 2, 1) := by decide +kernel
theorem dL_setWeight_5 : decode cL_setWeight 5 = .ok (.invokevirtual 31, 3) := by decide +kernel
theorem dL_setWeight_8 : decode cL_setWeight 8 = .ok (.i2l, 1) := by decide +kernel
theorem dL_setWeight_9 : decode cL_setWeight 9 = .ok (.lastore, 1) := by decide +kernel
theorem dL_setWeight_10 : decode cL_setWeight 10 = .ok (.goto 11, 3) := by decide +kernel
theorem dL_setWeight_13 : decode cL_setWeight 13 = .ok (.astore 4, 2) := by decide +kernel
theorem dL_setWeight_15 : decode cL_setWeight 15 = .ok (.iconst 1, 1) := by decide +kernel
theorem dL_setWeight_16 : decode cL_setWeight 16 = .ok (.ireturn, 1) := by decide +kernel
theorem dL_setWeight_17 : decode cL_setWeight 17 = .ok (.astore 4, 2) := by decide +kernel
theorem dL_setWeight_19 : decode cL_setWeight 19 = .ok (.iconst 2, 1) := by decide +kernel
theorem dL_setWeight_20 : decode cL_setWeight 20 = .ok (.ireturn, 1) := by decide +kernel
theorem dL_setWeight_21 : decode cL_setWeight 21 = .ok (.iconst 0, 1) := by decide +kernel
theorem dL_setWeight_22 : decode cL_setWeight 22 = .ok (.ireturn, 1) := by decide +kernel
theorem dL_fix_0 : decode cL_fix 0 = .ok (.aload_n 3, 1) := by decide +kernel
theorem dL_fix_1 : decode cL_fix 1 = .ok (.iconst 0, 1) := by decide +kernel
theorem dL_fix_2 : decode cL_fix 2 = .ok (.aload_n 0, 1) := by decide +kernel
theorem dL_fix_3 : decode cL_fix 3 = .ok (.iload_n 1, 1) := by decide +kernel
theorem dL_fix_4 : decode cL_fix 4 = .ok (.iload_n 2, 1) := by decide +kernel
theorem dL_fix_5 : decode cL_fix 5 = .ok (.invokevirtual 35, 3) := by decide +kernel
theorem dL_fix_8 : decode cL_fix 8 = .ok (.i2l, 1) := by decide +kernel
theorem dL_fix_9 : decode cL_fix 9 = .ok (.lastore, 1) := by decide +kernel
theorem dL_fix_10 : decode cL_fix 10 = .ok (.goto 7, 3) := by decide +kernel
theorem dL_fix_13 : decode cL_fix 13 = .ok (.astore 4, 2) := by decide +kernel
theorem dL_fix_15 : decode cL_fix 15 = .ok (.iconst 1, 1) := by decide +kernel
theorem dL_fix_16 : decode cL_fix 16 = .ok (.ireturn, 1) := by decide +kernel
theorem dL_fix_17 : decode cL_fix 17 = .ok (.iconst 0, 1) := by decide +kernel
theorem dL_fix_18 : decode cL_fix 18 = .ok (.ireturn, 1) := by decide +kernel
theorem dL_fillAt_0 : decode cL_fillAt 0 = .ok (.aload_n 2, 1) := by decide +kernel
theorem dL_fillAt_1 : decode cL_fillAt 1 = .ok (.iconst 0, 1) := by decide +kernel
theorem dL_fillAt_2 : decode cL_fillAt 2 = .ok (.aload_n 0, 1) := by decide +kernel
theorem dL_fillAt_3 : decode cL_fillAt 3 = .ok (.iload_n 1, 1) := by decide +kernel
theorem dL_fillAt_4 : decode cL_fillAt 4 = .ok (.invokevirtual 38, 3) := by decide +kernel
theorem dL_fillAt_7 : decode cL_fillAt 7 = .ok (.i2l, 1) := by decide +kernel
theorem dL_fillAt_8 : decode cL_fillAt 8 = .ok (.lastore, 1) := by decide +kernel
theorem dL_fillAt_9 : decode cL_fillAt 9 = .ok (.goto 9, 3) := by decide +kernel
theorem dL_fillAt_12 : decode cL_fillAt 12 = .ok (.astore_n 3, 1) := by decide +kernel
theorem dL_fillAt_13 : decode cL_fillAt 13 = .ok (.iconst 1, 1) := by decide +kernel
theorem dL_fillAt_14 : decode cL_fillAt 14 = .ok (.ireturn, 1) := by decide +kernel
theorem dL_fillAt_15 : decode cL_fillAt 15 = .ok (.astore_n 3, 1) := by decide +kernel
theorem dL_fillAt_16 : decode cL_fillAt 16 = .ok (.iconst 2, 1) := by decide +kernel
theorem dL_fillAt_17 : decode cL_fillAt 17 = .ok (.ireturn, 1) := by decide +kernel
theorem dL_fillAt_18 : decode cL_fillAt 18 = .ok (.iconst 0, 1) := by decide +kernel
theorem dL_fillAt_19 : decode cL_fillAt 19 = .ok (.ireturn, 1) := by decide +kernel
theorem dL_clue_0 : decode cL_clue 0 = .ok (.aload_n 2, 1) := by decide +kernel
theorem dL_clue_1 : decode cL_clue 1 = .ok (.iconst 0, 1) := by decide +kernel
theorem dL_clue_2 : decode cL_clue 2 = .ok (.aload_n 0, 1) := by decide +kernel
theorem dL_clue_3 : decode cL_clue 3 = .ok (.iload_n 1, 1) := by decide +kernel
theorem dL_clue_4 : decode cL_clue 4 = .ok (.invokevirtual 41, 3) := by decide +kernel
theorem dL_clue_7 : decode cL_clue 7 = .ok (.i2l, 1) := by decide +kernel
theorem dL_clue_8 : decode cL_clue 8 = .ok (.lastore, 1) := by decide +kernel
theorem dL_clue_9 : decode cL_clue 9 = .ok (.goto 9, 3) := by decide +kernel
theorem dL_clue_12 : decode cL_clue 12 = .ok (.astore_n 3, 1) := by decide +kernel
theorem dL_clue_13 : decode cL_clue 13 = .ok (.iconst 1, 1) := by decide +kernel
theorem dL_clue_14 : decode cL_clue 14 = .ok (.ireturn, 1) := by decide +kernel
theorem dL_clue_15 : decode cL_clue 15 = .ok (.astore_n 3, 1) := by decide +kernel
theorem dL_clue_16 : decode cL_clue 16 = .ok (.iconst 2, 1) := by decide +kernel
theorem dL_clue_17 : decode cL_clue 17 = .ok (.ireturn, 1) := by decide +kernel
theorem dL_clue_18 : decode cL_clue 18 = .ok (.iconst 0, 1) := by decide +kernel
theorem dL_clue_19 : decode cL_clue 19 = .ok (.ireturn, 1) := by decide +kernel
theorem dL_edit_0 : decode cL_edit 0 = .ok (.aload_n 3, 1) := by decide +kernel
theorem dL_edit_1 : decode cL_edit 1 = .ok (.iconst 0, 1) := by decide +kernel
theorem dL_edit_2 : decode cL_edit 2 = .ok (.aload_n 0, 1) := by decide +kernel
theorem dL_edit_3 : decode cL_edit 3 = .ok (.iload_n 1, 1) := by decide +kernel
theorem dL_edit_4 : decode cL_edit 4 = .ok (.iload_n 2, 1) := by decide +kernel
theorem dL_edit_5 : decode cL_edit 5 = .ok (.invokevirtual 44, 3) := by decide +kernel
theorem dL_edit_8 : decode cL_edit 8 = .ok (.i2l, 1) := by decide +kernel
theorem dL_edit_9 : decode cL_edit 9 = .ok (.lastore, 1) := by decide +kernel
theorem dL_edit_10 : decode cL_edit 10 = .ok (.goto 11, 3) := by decide +kernel
theorem dL_edit_13 : decode cL_edit 13 = .ok (.astore 4, 2) := by decide +kernel
theorem dL_edit_15 : decode cL_edit 15 = .ok (.iconst 1, 1) := by decide +kernel
theorem dL_edit_16 : decode cL_edit 16 = .ok (.ireturn, 1) := by decide +kernel
theorem dL_edit_17 : decode cL_edit 17 = .ok (.astore 4, 2) := by decide +kernel
theorem dL_edit_19 : decode cL_edit 19 = .ok (.iconst 2, 1) := by decide +kernel
theorem dL_edit_20 : decode cL_edit 20 = .ok (.ireturn, 1) := by decide +kernel
theorem dL_edit_21 : decode cL_edit 21 = .ok (.iconst 0, 1) := by decide +kernel
theorem dL_edit_22 : decode cL_edit 22 = .ok (.ireturn, 1) := by decide +kernel
theorem dL_lastUsed_0 : decode cL_lastUsed 0 = .ok (.aload_n 2, 1) := by decide +kernel
theorem dL_lastUsed_1 : decode cL_lastUsed 1 = .ok (.iconst 0, 1) := by decide +kernel
theorem dL_lastUsed_2 : decode cL_lastUsed 2 = .ok (.aload_n 0, 1) := by decide +kernel
theorem dL_lastUsed_3 : decode cL_lastUsed 3 = .ok (.iload_n 1, 1) := by decide +kernel
theorem dL_lastUsed_4 : decode cL_lastUsed 4 = .ok (.invokevirtual 48, 3) := by decide +kernel
theorem dL_lastUsed_7 : decode cL_lastUsed 7 = .ok (.i2l, 1) := by decide +kernel
theorem dL_lastUsed_8 : decode cL_lastUsed 8 = .ok (.lastore, 1) := by decide +kernel
theorem dL_lastUsed_9 : decode cL_lastUsed 9 = .ok (.goto 6, 3) := by decide +kernel
theorem dL_lastUsed_12 : decode cL_lastUsed 12 = .ok (.astore_n 3, 1) := by decide +kernel
theorem dL_lastUsed_13 : decode cL_lastUsed 13 = .ok (.iconst 1, 1) := by decide +kernel
theorem dL_lastUsed_14 : decode cL_lastUsed 14 = .ok (.ireturn, 1) := by decide +kernel
theorem dL_lastUsed_15 : decode cL_lastUsed 15 = .ok (.iconst 0, 1) := by decide +kernel
theorem dL_lastUsed_16 : decode cL_lastUsed 16 = .ok (.ireturn, 1) := by decide +kernel
theorem dL_pass_0 : decode cL_pass 0 = .ok (.aload_n 2, 1) := by decide +kernel
theorem dL_pass_1 : decode cL_pass 1 = .ok (.iconst 0, 1) := by decide +kernel
theorem dL_pass_2 : decode cL_pass 2 = .ok (.aload_n 0, 1) := by decide +kernel
theorem dL_pass_3 : decode cL_pass 3 = .ok (.iload_n 1, 1) := by decide +kernel
theorem dL_pass_4 : decode cL_pass 4 = .ok (.invokevirtual 51, 3) := by decide +kernel
theorem dL_pass_7 : decode cL_pass 7 = .ok (.i2l, 1) := by decide +kernel
theorem dL_pass_8 : decode cL_pass 8 = .ok (.lastore, 1) := by decide +kernel
theorem dL_pass_9 : decode cL_pass 9 = .ok (.goto 9, 3) := by decide +kernel
theorem dL_pass_12 : decode cL_pass 12 = .ok (.astore_n 3, 1) := by decide +kernel
theorem dL_pass_13 : decode cL_pass 13 = .ok (.iconst 1, 1) := by decide +kernel
theorem dL_pass_14 : decode cL_pass 14 = .ok (.ireturn, 1) := by decide +kernel
theorem dL_pass_15 : decode cL_pass 15 = .ok (.astore_n 3, 1) := by decide +kernel
theorem dL_pass_16 : decode cL_pass 16 = .ok (.iconst 2, 1) := by decide +kernel
theorem dL_pass_17 : decode cL_pass 17 = .ok (.ireturn, 1) := by decide +kernel
theorem dL_pass_18 : decode cL_pass 18 = .ok (.iconst 0, 1) := by decide +kernel
theorem dL_pass_19 : decode cL_pass 19 = .ok (.ireturn, 1) := by decide +kernel
theorem dL_publish_0 : decode cL_publish 0 = .ok (.aload_n 1, 1) := by decide +kernel
theorem dL_publish_1 : decode cL_publish 1 = .ok (.iconst 0, 1) := by decide +kernel
theorem dL_publish_2 : decode cL_publish 2 = .ok (.aload_n 0, 1) := by decide +kernel
theorem dL_publish_3 : decode cL_publish 3 = .ok (.invokevirtual 54, 3) := by decide +kernel
theorem dL_publish_6 : decode cL_publish 6 = .ok (.i2l, 1) := by decide +kernel
theorem dL_publish_7 : decode cL_publish 7 = .ok (.lastore, 1) := by decide +kernel
theorem dL_publish_8 : decode cL_publish 8 = .ok (.goto 6, 3) := by decide +kernel
theorem dL_publish_11 : decode cL_publish 11 = .ok (.astore_n 2, 1) := by decide +kernel
theorem dL_publish_12 : decode cL_publish 12 = .ok (.iconst 1, 1) := by decide +kernel
theorem dL_publish_13 : decode cL_publish 13 = .ok (.ireturn, 1) := by decide +kernel
theorem dL_publish_14 : decode cL_publish 14 = .ok (.iconst 0, 1) := by decide +kernel
theorem dL_publish_15 : decode cL_publish 15 = .ok (.ireturn, 1) := by decide +kernel
theorem dL_clueOf_0 : decode cL_clueOf 0 = .ok (.aload_n 3, 1) := by decide +kernel
theorem dL_clueOf_1 : decode cL_clueOf 1 = .ok (.iconst 0, 1) := by decide +kernel
theorem dL_clueOf_2 : decode cL_clueOf 2 = .ok (.aload_n 0, 1) := by decide +kernel
theorem dL_clueOf_3 : decode cL_clueOf 3 = .ok (.iload_n 1, 1) := by decide +kernel
theorem dL_clueOf_4 : decode cL_clueOf 4 = .ok (.iload_n 2, 1) := by decide +kernel
theorem dL_clueOf_5 : decode cL_clueOf 5 = .ok (.invokevirtual 58, 3) := by decide +kernel
theorem dL_clueOf_8 : decode cL_clueOf 8 = .ok (.i2l, 1) := by decide +kernel
theorem dL_clueOf_9 : decode cL_clueOf 9 = .ok (.lastore, 1) := by decide +kernel
theorem dL_clueOf_10 : decode cL_clueOf 10 = .ok (.goto 7, 3) := by decide +kernel
theorem dL_clueOf_13 : decode cL_clueOf 13 = .ok (.astore 4, 2) := by decide +kernel
theorem dL_clueOf_15 : decode cL_clueOf 15 = .ok (.iconst 1, 1) := by decide +kernel
theorem dL_clueOf_16 : decode cL_clueOf 16 = .ok (.ireturn, 1) := by decide +kernel
theorem dL_clueOf_17 : decode cL_clueOf 17 = .ok (.iconst 0, 1) := by decide +kernel
theorem dL_clueOf_18 : decode cL_clueOf 18 = .ok (.ireturn, 1) := by decide +kernel
theorem dL_addSolver_0 : decode cL_addSolver 0 = .ok (.aload_n 3, 1) := by decide +kernel
theorem dL_addSolver_1 : decode cL_addSolver 1 = .ok (.iconst 0, 1) := by decide +kernel
theorem dL_addSolver_2 : decode cL_addSolver 2 = .ok (.aload_n 0, 1) := by decide +kernel
theorem dL_addSolver_3 : decode cL_addSolver 3 = .ok (.iload_n 1, 1) := by decide +kernel
theorem dL_addSolver_4 : decode cL_addSolver 4 = .ok (.iload_n 2, 1) := by decide +kernel
theorem dL_addSolver_5 : decode cL_addSolver 5 = .ok (.invokevirtual 61, 3) := by decide +kernel
theorem dL_addSolver_8 : decode cL_addSolver 8 = .ok (.i2l, 1) := by decide +kernel
theorem dL_addSolver_9 : decode cL_addSolver 9 = .ok (.lastore, 1) := by decide +kernel
theorem dL_addSolver_10 : decode cL_addSolver 10 = .ok (.goto 11, 3) := by decide +kernel
theorem dL_addSolver_13 : decode cL_addSolver 13 = .ok (.astore 4, 2) := by decide +kernel
theorem dL_addSolver_15 : decode cL_addSolver 15 = .ok (.iconst 1, 1) := by decide +kernel
theorem dL_addSolver_16 : decode cL_addSolver 16 = .ok (.ireturn, 1) := by decide +kernel
theorem dL_addSolver_17 : decode cL_addSolver 17 = .ok (.astore 4, 2) := by decide +kernel
theorem dL_addSolver_19 : decode cL_addSolver 19 = .ok (.iconst 2, 1) := by decide +kernel
theorem dL_addSolver_20 : decode cL_addSolver 20 = .ok (.ireturn, 1) := by decide +kernel
theorem dL_addSolver_21 : decode cL_addSolver 21 = .ok (.iconst 0, 1) := by decide +kernel
theorem dL_addSolver_22 : decode cL_addSolver 22 = .ok (.ireturn, 1) := by decide +kernel
theorem dL_enter_0 : decode cL_enter 0 = .ok (.aload 5, 2) := by decide +kernel
theorem dL_enter_2 : decode cL_enter 2 = .ok (.iconst 0, 1) := by decide +kernel
theorem dL_enter_3 : decode cL_enter 3 = .ok (.aload_n 0, 1) := by decide +kernel
theorem dL_enter_4 : decode cL_enter 4 = .ok (.iload_n 1, 1) := by decide +kernel
theorem dL_enter_5 : decode cL_enter 5 = .ok (.iload_n 2, 1) := by decide +kernel
theorem dL_enter_6 : decode cL_enter 6 = .ok (.iload_n 3, 1) := by decide +kernel
theorem dL_enter_7 : decode cL_enter 7 = .ok (.iload 4, 2) := by decide +kernel
theorem dL_enter_9 : decode cL_enter 9 = .ok (.invokevirtual 64, 3) := by decide +kernel
theorem dL_enter_12 : decode cL_enter 12 = .ok (.ifCond .eq 7, 3) := by decide +kernel
theorem dL_enter_15 : decode cL_enter 15 = .ok (.lconst 1, 1) := by decide +kernel
theorem dL_enter_16 : decode cL_enter 16 = .ok (.goto 4, 3) := by decide +kernel
theorem dL_enter_19 : decode cL_enter 19 = .ok (.lconst 0, 1) := by decide +kernel
theorem dL_enter_20 : decode cL_enter 20 = .ok (.lastore, 1) := by decide +kernel
theorem dL_enter_21 : decode cL_enter 21 = .ok (.goto 11, 3) := by decide +kernel
theorem dL_enter_24 : decode cL_enter 24 = .ok (.astore 6, 2) := by decide +kernel
theorem dL_enter_26 : decode cL_enter 26 = .ok (.iconst 1, 1) := by decide +kernel
theorem dL_enter_27 : decode cL_enter 27 = .ok (.ireturn, 1) := by decide +kernel
theorem dL_enter_28 : decode cL_enter 28 = .ok (.astore 6, 2) := by decide +kernel
theorem dL_enter_30 : decode cL_enter 30 = .ok (.iconst 2, 1) := by decide +kernel
theorem dL_enter_31 : decode cL_enter 31 = .ok (.ireturn, 1) := by decide +kernel
theorem dL_enter_32 : decode cL_enter 32 = .ok (.iconst 0, 1) := by decide +kernel
theorem dL_enter_33 : decode cL_enter 33 = .ok (.ireturn, 1) := by decide +kernel
theorem dL_help_0 : decode cL_help 0 = .ok (.aload 4, 2) := by decide +kernel
theorem dL_help_2 : decode cL_help 2 = .ok (.iconst 0, 1) := by decide +kernel
theorem dL_help_3 : decode cL_help 3 = .ok (.aload_n 0, 1) := by decide +kernel
theorem dL_help_4 : decode cL_help 4 = .ok (.iload_n 1, 1) := by decide +kernel
theorem dL_help_5 : decode cL_help 5 = .ok (.iload_n 2, 1) := by decide +kernel
theorem dL_help_6 : decode cL_help 6 = .ok (.iload_n 3, 1) := by decide +kernel
theorem dL_help_7 : decode cL_help 7 = .ok (.invokevirtual 68, 3) := by decide +kernel
theorem dL_help_10 : decode cL_help 10 = .ok (.i2l, 1) := by decide +kernel
theorem dL_help_11 : decode cL_help 11 = .ok (.lastore, 1) := by decide +kernel
theorem dL_help_12 : decode cL_help 12 = .ok (.goto 11, 3) := by decide +kernel
theorem dL_help_15 : decode cL_help 15 = .ok (.astore 5, 2) := by decide +kernel
theorem dL_help_17 : decode cL_help 17 = .ok (.iconst 1, 1) := by decide +kernel
theorem dL_help_18 : decode cL_help 18 = .ok (.ireturn, 1) := by decide +kernel
theorem dL_help_19 : decode cL_help 19 = .ok (.astore 5, 2) := by decide +kernel
theorem dL_help_21 : decode cL_help 21 = .ok (.iconst 2, 1) := by decide +kernel
theorem dL_help_22 : decode cL_help 22 = .ok (.ireturn, 1) := by decide +kernel
theorem dL_help_23 : decode cL_help 23 = .ok (.iconst 0, 1) := by decide +kernel
theorem dL_help_24 : decode cL_help 24 = .ok (.ireturn, 1) := by decide +kernel
theorem dL_judge_0 : decode cL_judge 0 = .ok (.aload_n 3, 1) := by decide +kernel
theorem dL_judge_1 : decode cL_judge 1 = .ok (.iconst 0, 1) := by decide +kernel
theorem dL_judge_2 : decode cL_judge 2 = .ok (.aload_n 0, 1) := by decide +kernel
theorem dL_judge_3 : decode cL_judge 3 = .ok (.iload_n 1, 1) := by decide +kernel
theorem dL_judge_4 : decode cL_judge 4 = .ok (.iload_n 2, 1) := by decide +kernel
theorem dL_judge_5 : decode cL_judge 5 = .ok (.invokevirtual 72, 3) := by decide +kernel
theorem dL_judge_8 : decode cL_judge 8 = .ok (.i2l, 1) := by decide +kernel
theorem dL_judge_9 : decode cL_judge 9 = .ok (.lastore, 1) := by decide +kernel
theorem dL_judge_10 : decode cL_judge 10 = .ok (.goto 11, 3) := by decide +kernel
theorem dL_judge_13 : decode cL_judge 13 = .ok (.astore 4, 2) := by decide +kernel
theorem dL_judge_15 : decode cL_judge 15 = .ok (.iconst 1, 1) := by decide +kernel
theorem dL_judge_16 : decode cL_judge 16 = .ok (.ireturn, 1) := by decide +kernel
theorem dL_judge_17 : decode cL_judge 17 = .ok (.astore 4, 2) := by decide +kernel
theorem dL_judge_19 : decode cL_judge 19 = .ok (.iconst 2, 1) := by decide +kernel
theorem dL_judge_20 : decode cL_judge 20 = .ok (.ireturn, 1) := by decide +kernel
theorem dL_judge_21 : decode cL_judge 21 = .ok (.iconst 0, 1) := by decide +kernel
theorem dL_judge_22 : decode cL_judge 22 = .ok (.ireturn, 1) := by decide +kernel
theorem dL_solvedAt_0 : decode cL_solvedAt 0 = .ok (.aload_n 3, 1) := by decide +kernel
theorem dL_solvedAt_1 : decode cL_solvedAt 1 = .ok (.iconst 0, 1) := by decide +kernel
theorem dL_solvedAt_2 : decode cL_solvedAt 2 = .ok (.aload_n 0, 1) := by decide +kernel
theorem dL_solvedAt_3 : decode cL_solvedAt 3 = .ok (.iload_n 1, 1) := by decide +kernel
theorem dL_solvedAt_4 : decode cL_solvedAt 4 = .ok (.iload_n 2, 1) := by decide +kernel
theorem dL_solvedAt_5 : decode cL_solvedAt 5 = .ok (.invokevirtual 75, 3) := by decide +kernel
theorem dL_solvedAt_8 : decode cL_solvedAt 8 = .ok (.i2l, 1) := by decide +kernel
theorem dL_solvedAt_9 : decode cL_solvedAt 9 = .ok (.lastore, 1) := by decide +kernel
theorem dL_solvedAt_10 : decode cL_solvedAt 10 = .ok (.goto 7, 3) := by decide +kernel
theorem dL_solvedAt_13 : decode cL_solvedAt 13 = .ok (.astore 4, 2) := by decide +kernel
theorem dL_solvedAt_15 : decode cL_solvedAt 15 = .ok (.iconst 1, 1) := by decide +kernel
theorem dL_solvedAt_16 : decode cL_solvedAt 16 = .ok (.ireturn, 1) := by decide +kernel
theorem dL_solvedAt_17 : decode cL_solvedAt 17 = .ok (.iconst 0, 1) := by decide +kernel
theorem dL_solvedAt_18 : decode cL_solvedAt 18 = .ok (.ireturn, 1) := by decide +kernel
theorem dL_open_0 : decode cL_open 0 = .ok (.aload_n 2, 1) := by decide +kernel
theorem dL_open_1 : decode cL_open 1 = .ok (.iconst 0, 1) := by decide +kernel
theorem dL_open_2 : decode cL_open 2 = .ok (.aload_n 0, 1) := by decide +kernel
theorem dL_open_3 : decode cL_open 3 = .ok (.iload_n 1, 1) := by decide +kernel
theorem dL_open_4 : decode cL_open 4 = .ok (.invokevirtual 78, 3) := by decide +kernel
theorem dL_open_7 : decode cL_open 7 = .ok (.i2l, 1) := by decide +kernel
theorem dL_open_8 : decode cL_open 8 = .ok (.lastore, 1) := by decide +kernel
theorem dL_open_9 : decode cL_open 9 = .ok (.goto 6, 3) := by decide +kernel
theorem dL_open_12 : decode cL_open 12 = .ok (.astore_n 3, 1) := by decide +kernel
theorem dL_open_13 : decode cL_open 13 = .ok (.iconst 1, 1) := by decide +kernel
theorem dL_open_14 : decode cL_open 14 = .ok (.ireturn, 1) := by decide +kernel
theorem dL_open_15 : decode cL_open 15 = .ok (.iconst 0, 1) := by decide +kernel
theorem dL_open_16 : decode cL_open 16 = .ok (.ireturn, 1) := by decide +kernel
theorem dL_coins_0 : decode cL_coins 0 = .ok (.aload_n 2, 1) := by decide +kernel
theorem dL_coins_1 : decode cL_coins 1 = .ok (.iconst 0, 1) := by decide +kernel
theorem dL_coins_2 : decode cL_coins 2 = .ok (.aload_n 0, 1) := by decide +kernel
theorem dL_coins_3 : decode cL_coins 3 = .ok (.iload_n 1, 1) := by decide +kernel
theorem dL_coins_4 : decode cL_coins 4 = .ok (.invokevirtual 81, 3) := by decide +kernel
theorem dL_coins_7 : decode cL_coins 7 = .ok (.i2l, 1) := by decide +kernel
theorem dL_coins_8 : decode cL_coins 8 = .ok (.lastore, 1) := by decide +kernel
theorem dL_coins_9 : decode cL_coins 9 = .ok (.goto 6, 3) := by decide +kernel
theorem dL_coins_12 : decode cL_coins 12 = .ok (.astore_n 3, 1) := by decide +kernel
theorem dL_coins_13 : decode cL_coins 13 = .ok (.iconst 1, 1) := by decide +kernel
theorem dL_coins_14 : decode cL_coins 14 = .ok (.ireturn, 1) := by decide +kernel
theorem dL_coins_15 : decode cL_coins 15 = .ok (.iconst 0, 1) := by decide +kernel
theorem dL_coins_16 : decode cL_coins 16 = .ok (.ireturn, 1) := by decide +kernel
theorem dL_streak_0 : decode cL_streak 0 = .ok (.aload_n 2, 1) := by decide +kernel
theorem dL_streak_1 : decode cL_streak 1 = .ok (.iconst 0, 1) := by decide +kernel
theorem dL_streak_2 : decode cL_streak 2 = .ok (.aload_n 0, 1) := by decide +kernel
theorem dL_streak_3 : decode cL_streak 3 = .ok (.iload_n 1, 1) := by decide +kernel
theorem dL_streak_4 : decode cL_streak 4 = .ok (.invokevirtual 84, 3) := by decide +kernel
theorem dL_streak_7 : decode cL_streak 7 = .ok (.i2l, 1) := by decide +kernel
theorem dL_streak_8 : decode cL_streak 8 = .ok (.lastore, 1) := by decide +kernel
theorem dL_streak_9 : decode cL_streak 9 = .ok (.goto 6, 3) := by decide +kernel
theorem dL_streak_12 : decode cL_streak 12 = .ok (.astore_n 3, 1) := by decide +kernel
theorem dL_streak_13 : decode cL_streak 13 = .ok (.iconst 1, 1) := by decide +kernel
theorem dL_streak_14 : decode cL_streak 14 = .ok (.ireturn, 1) := by decide +kernel
theorem dL_streak_15 : decode cL_streak 15 = .ok (.iconst 0, 1) := by decide +kernel
theorem dL_streak_16 : decode cL_streak 16 = .ok (.ireturn, 1) := by decide +kernel
theorem dL_streakAnew_0 : decode cL_streakAnew 0 = .ok (.aload_n 2, 1) := by decide +kernel
theorem dL_streakAnew_1 : decode cL_streakAnew 1 = .ok (.iconst 0, 1) := by decide +kernel
theorem dL_streakAnew_2 : decode cL_streakAnew 2 = .ok (.aload_n 0, 1) := by decide +kernel
theorem dL_streakAnew_3 : decode cL_streakAnew 3 = .ok (.iload_n 1, 1) := by decide +kernel
theorem dL_streakAnew_4 : decode cL_streakAnew 4 = .ok (.invokevirtual 87, 3) := by decide +kernel
theorem dL_streakAnew_7 : decode cL_streakAnew 7 = .ok (.i2l, 1) := by decide +kernel
theorem dL_streakAnew_8 : decode cL_streakAnew 8 = .ok (.lastore, 1) := by decide +kernel
theorem dL_streakAnew_9 : decode cL_streakAnew 9 = .ok (.goto 6, 3) := by decide +kernel
theorem dL_streakAnew_12 : decode cL_streakAnew 12 = .ok (.astore_n 3, 1) := by decide +kernel
theorem dL_streakAnew_13 : decode cL_streakAnew 13 = .ok (.iconst 1, 1) := by decide +kernel
theorem dL_streakAnew_14 : decode cL_streakAnew 14 = .ok (.ireturn, 1) := by decide +kernel
theorem dL_streakAnew_15 : decode cL_streakAnew 15 = .ok (.iconst 0, 1) := by decide +kernel
theorem dL_streakAnew_16 : decode cL_streakAnew 16 = .ok (.ireturn, 1) := by decide +kernel
end
section
def jv_fill (g : jv_Mem) (r : Int) (n : Int) (v : Int) : jv_Mem := fun a b => if a = r ∧ 0 ≤ b ∧ b < n then v else g a b
theorem jv_fill_0 (g : jv_Mem) (r v : Int) : jv_fill g r 0 v = g := by
  funext a b
  unfold jv_fill
  rw [if_neg (by omega)]
theorem jv_fill_s (g : jv_Mem) (r v : Int) {n : Int} (hn : 0 ≤ n) : jv_up (jv_fill g r n v) r n v = jv_fill g r (n + 1) v := by
  funext a b
  unfold jv_up jv_fill
  by_cases h : a = r ∧ b = n
  · rw [if_pos h, if_pos ⟨h.1, by omega, by omega⟩]
  · rw [if_neg h]
    by_cases h2 : a = r ∧ 0 ≤ b ∧ b < n
    · rw [if_pos h2, if_pos ⟨h2.1, h2.2.1, by omega⟩]
    · rw [if_neg h2, if_neg (fun h3 => h2 ⟨h3.1, h3.2.1, by
        have : b ≠ n := fun h4 => h ⟨h3.1, h4⟩
        omega⟩)]
section JVF
variable {p : Program} {l : Launch} {e : Env} {R : Room} {s : State} {m : MethodId} {args : Array Value} {below : List Frame} {meth : Method} {c : Code} {cells slots : Nat} {Z : State → Prop} {s0 : State} {b0 : Addr} {D : va_G} {ids : Nat → ClassId} {ex : Option Nat} {sh : jv_Sh} {g : jv_Mem} {pc : Nat} {ls ls' : List (Option Value)} {st : List Value} {cc : ByteArray} {own : String}
theorem jv_alen (C : jv_C p s m args c cc own s0 b0 D ids) {i : Int} {n mm : Nat} (hs : sh i = some (.inl (0, n, mm))) (hd : decode cc pc = .ok (.arraylength, 1)) (k : jv_V p l e R s m args below meth c cells slots Z s0 D ids ex sh g (pc + 1) ls (jv_i (n : Nat) :: st)) : jv_V p l e R s m args below meth c cells slots Z s0 D ids ex sh g pc ls (.ref (s0.heap.size + i.toNat) :: st) :=
  fun H locs arr h1 h2 h3 h4 => va_alen (D := D) (cl := vwCl) (tys := jv_tys ids) C.1 C.2.1 C.2.2.2.K (va_P.one (h1 i _ hs).2) 0 0 rfl rfl rfl hd (k H locs arr h1 h2 h3 h4)
set_option maxHeartbeats 4000000 in
set_option maxRecDepth 100000 in
/-- Arrays.fill(int[], int) -/
theorem M_J7_fill {r v : Int} {N mm : Nat} (hs : sh r = some (.inl (0, N, mm))) (hN : Nat.blt N 2147483648 = true) {Q : jv_Mem → Prop} (h : Q (jv_fill g r (N : Nat) v)) : jv_M l s0 b0 D ids yJ7_fill_53178 cJ7_fill_53178 4 none 0 0 0 0 ex sh g [.ref (s0.heap.size + r.toNat), jv_i v] ex sh (jv_qv Q) := by
  refine jv_M.of (by decide +kernel) rfl rfl (fun p e s m args below meth c C hml hr hlk hnm => ?_)
  replace C : jv_C p s m args c cJ7_fill_53178 RJ7 s0 b0 D ids := C
  have hN' : N < 2147483648 := by simpa [Nat.blt_eq] using hN
  show jv_V p l e (jv_rm 0 0 0 0) s m args below meth c 0 0 (jv_ZM below s0 D ids ex sh (jv_qv Q) args s 0 0) s0 D ids ex sh g 0 [some (.ref (s0.heap.size + r.toNat)), some (jv_i v), none, none] []
  refine jv_const C dJ7_fill_53178_0 ?_
  refine jv_istore_n (ls' := [some (.ref (s0.heap.size + r.toNat)), some (jv_i v), some (jv_i 0), none]) C dJ7_fill_53178_1 (Nat.lt_of_lt_of_eq (Nat.le_of_ble_eq_true rfl) hml) rfl ?_
  refine jv_aload_n C dJ7_fill_53178_2 rfl ?_
  refine jv_alen C hs dJ7_fill_53178_3 ?_
  refine jv_istore_n (ls' := [some (.ref (s0.heap.size + r.toNat)), some (jv_i v), some (jv_i 0), some (jv_i (N : Nat))]) C dJ7_fill_53178_4 (Nat.lt_of_lt_of_eq (Nat.le_of_ble_eq_true rfl) hml) rfl ?_
  have key : ∀ (k i : Nat), i + k = N → jv_V p l e (jv_rm 0 0 0 0) s m args below meth c 0 0 (jv_ZM below s0 D ids ex sh (jv_qv Q) args s 0 0) s0 D ids ex sh (jv_fill g r (i : Nat) v) 5 [some (.ref (s0.heap.size + r.toNat)), some (jv_i v), some (jv_i (i : Nat)), some (jv_i (N : Nat))] [] := by
    intro k
    induction k with
    | zero =>
      intro i hi
      refine jv_iload_n C dJ7_fill_53178_5 rfl ?_
      refine jv_iload_n C dJ7_fill_53178_6 rfl ?_
      refine jv_icmp_ge (tgt := 20) C ⟨by omega, by omega⟩ ⟨by omega, by omega⟩ dJ7_fill_53178_7 rfl (fun hc => ?_) (fun hc => absurd hc (by omega))
      have e : i = N := by omega
      subst e
      exact jv_vret C hr hlk ⟨rfl, h⟩ dJ7_fill_53178_20 ⟨rfl, rfl⟩
    | succ k ih =>
      intro i hi
      refine jv_iload_n C dJ7_fill_53178_5 rfl ?_
      refine jv_iload_n C dJ7_fill_53178_6 rfl ?_
      refine jv_icmp_ge (tgt := 20) C ⟨by omega, by omega⟩ ⟨by omega, by omega⟩ dJ7_fill_53178_7 rfl (fun hc => absurd hc (by omega)) (fun hc => ?_)
      refine jv_aload_n C dJ7_fill_53178_10 rfl ?_
      refine jv_iload_n C dJ7_fill_53178_11 rfl ?_
      refine jv_iload_n C dJ7_fill_53178_12 rfl ?_
      refine jv_iast C hs hN ⟨by omega, by omega⟩ dJ7_fill_53178_13 ?_
      rw [jv_fill_s g r v (by omega)]
      refine jv_iincn C dJ7_fill_53178_14 (Nat.lt_of_lt_of_eq (Nat.le_of_ble_eq_true rfl) hml) rfl (fun w ew => ?_)
      have ew' : w = ((i + 1 : Nat) : Int) := by omega
      subst ew'
      refine jv_goto (tgt := 5) C dJ7_fill_53178_17 rfl ?_
      exact ih (i + 1) (by omega)
  have := key N 0 (by omega)
  rw [show ((0 : Nat) : Int) = 0 from rfl, jv_fill_0] at this
  exact this
end JVF
theorem M_X4_progress {l : Launch} {s0 : State} {b0 : Addr} {D : va_G} {ids : Nat → ClassId} {ex : Option Nat} {g : jv_Mem} {t : Int} (ht : jv_isSv t) : jv_M l s0 b0 D ids yX4_progress cX4_progress 1 (some (.object "Clueyard$Progress")) 0 0 0 0 ex jv_SH g [.ref (s0.heap.size + t.toNat)] ex jv_SH (fun v g' => v = some (.ref (s0.heap.size + (t + 1).toNat)) ∧ g' = g) := by
  refine jv_M.of (by decide +kernel) rfl rfl (fun p e s m args below meth c C hml hr hlk hnm => ?_)
  replace C : jv_C p s m args c cX4_progress RX4 s0 b0 D ids := C
  show jv_V p l e (jv_rm 0 0 0 0) s m args below meth c 0 0 (jv_ZM below s0 D ids ex jv_SH _ args s 0 0) s0 D ids ex jv_SH g 0 [some (.ref (s0.heap.size + t.toNat))] []
  refine jv_aload_n C dX4_progress_0 rfl ?_
  refine jv_getr C kf_X4_12 ht.1 rfl dX4_progress_1 ?_
  exact jv_aret C hr hlk ⟨rfl, rfl⟩ dX4_progress_4 ⟨rfl, rfl⟩
end
