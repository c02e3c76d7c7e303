section
-- ===== PART A: goes FIRST, ahead of the names: the tables' words, and 'selects' of the private methods out of them =====
/-- a private method of a class that the tables say can be made, by its rows of tables_1 -/
def lw_okq (q : MethodName × Nat) : Prop := (q.1.cls ≠ "java/lang/invoke/MethodHandle" ∧ q.1.cls ≠ "java/lang/invoke/VarHandle") ∧ Cond.instantiable q.1.cls q.2 ∈ tables_1 ∧ Cond.privateMethod q.1 ∈ tables_1 ∧ Cond.instanceMethod q.1 ∈ tables_1
theorem lw_p0 : lw_okq (⟨"TwistyBarrels", "isUndoneByInverse", "(LTwistyBarrels$Permutation;)Z"⟩, 11) := ⟨⟨by decide +kernel, by decide +kernel⟩, List.mem_of_getElem? (i := 21) (by decide +kernel), List.mem_of_getElem? (i := 266) (by decide +kernel), List.mem_of_getElem? (i := 267) (by decide +kernel)⟩
theorem lw_p1 : lw_okq (⟨"java/lang/Throwable", "fillInStackTrace", "(I)Ljava/lang/Throwable;"⟩, 6) := ⟨⟨by decide +kernel, by decide +kernel⟩, List.mem_of_getElem? (i := 384) (by decide +kernel), List.mem_of_getElem? (i := 382) (by decide +kernel), List.mem_of_getElem? (i := 383) (by decide +kernel)⟩
theorem lw_p2 : lw_okq (⟨"TwistyBarrels", "doLoggedMove", "(III)V"⟩, 11) := ⟨⟨by decide +kernel, by decide +kernel⟩, List.mem_of_getElem? (i := 21) (by decide +kernel), List.mem_of_getElem? (i := 438) (by decide +kernel), List.mem_of_getElem? (i := 439) (by decide +kernel)⟩
theorem lw_p3 : lw_okq (⟨"TwistyBarrels", "doMove", "(III)V"⟩, 11) := ⟨⟨by decide +kernel, by decide +kernel⟩, List.mem_of_getElem? (i := 21) (by decide +kernel), List.mem_of_getElem? (i := 442) (by decide +kernel), List.mem_of_getElem? (i := 443) (by decide +kernel)⟩
theorem lw_p4 : lw_okq (⟨"TwistyBarrels$Permutation", "toTurn", "(II)V"⟩, 1) := ⟨⟨by decide +kernel, by decide +kernel⟩, List.mem_of_getElem? (i := 66) (by decide +kernel), List.mem_of_getElem? (i := 450) (by decide +kernel), List.mem_of_getElem? (i := 451) (by decide +kernel)⟩
theorem lw_p5 : lw_okq (⟨"TwistyBarrels$Permutation", "toShift", "(II)V"⟩, 1) := ⟨⟨by decide +kernel, by decide +kernel⟩, List.mem_of_getElem? (i := 66) (by decide +kernel), List.mem_of_getElem? (i := 454) (by decide +kernel), List.mem_of_getElem? (i := 455) (by decide +kernel)⟩
theorem lw_p6 : lw_okq (⟨"TwistyBarrels", "refuse", "(II)V"⟩, 11) := ⟨⟨by decide +kernel, by decide +kernel⟩, List.mem_of_getElem? (i := 21) (by decide +kernel), List.mem_of_getElem? (i := 486) (by decide +kernel), List.mem_of_getElem? (i := 487) (by decide +kernel)⟩
theorem lw_p7 : lw_okq (⟨"TwistyBarrels", "takeSequence", "()I"⟩, 11) := ⟨⟨by decide +kernel, by decide +kernel⟩, List.mem_of_getElem? (i := 21) (by decide +kernel), List.mem_of_getElem? (i := 597) (by decide +kernel), List.mem_of_getElem? (i := 598) (by decide +kernel)⟩
theorem lw_p8 : lw_okq (⟨"TwistyBarrels$SequenceReader", "sequence", "(ILTwistyBarrels$State;)I"⟩, 6) := ⟨⟨by decide +kernel, by decide +kernel⟩, List.mem_of_getElem? (i := 116) (by decide +kernel), List.mem_of_getElem? (i := 605) (by decide +kernel), List.mem_of_getElem? (i := 606) (by decide +kernel)⟩
theorem lw_p9 : lw_okq (⟨"TwistyBarrels$SequenceReader", "isItemNext", "()Z"⟩, 6) := ⟨⟨by decide +kernel, by decide +kernel⟩, List.mem_of_getElem? (i := 116) (by decide +kernel), List.mem_of_getElem? (i := 614) (by decide +kernel), List.mem_of_getElem? (i := 615) (by decide +kernel)⟩
theorem lw_p10 : lw_okq (⟨"TwistyBarrels$SequenceReader", "item", "(ILTwistyBarrels$State;)I"⟩, 6) := ⟨⟨by decide +kernel, by decide +kernel⟩, List.mem_of_getElem? (i := 116) (by decide +kernel), List.mem_of_getElem? (i := 622) (by decide +kernel), List.mem_of_getElem? (i := 623) (by decide +kernel)⟩
theorem lw_p11 : lw_okq (⟨"TwistyBarrels$SequenceReader", "moveItem", "(ILTwistyBarrels$Permutation;)I"⟩, 6) := ⟨⟨by decide +kernel, by decide +kernel⟩, List.mem_of_getElem? (i := 116) (by decide +kernel), List.mem_of_getElem? (i := 626) (by decide +kernel), List.mem_of_getElem? (i := 627) (by decide +kernel)⟩
theorem lw_p12 : lw_okq (⟨"TwistyBarrels$SequenceReader", "digit", "(II)I"⟩, 6) := ⟨⟨by decide +kernel, by decide +kernel⟩, List.mem_of_getElem? (i := 116) (by decide +kernel), List.mem_of_getElem? (i := 630) (by decide +kernel), List.mem_of_getElem? (i := 631) (by decide +kernel)⟩
theorem lw_p13 : lw_okq (⟨"TwistyBarrels$SequenceReader", "shelfItem", "(LTwistyBarrels$State;LTwistyBarrels$Permutation;)I"⟩, 6) := ⟨⟨by decide +kernel, by decide +kernel⟩, List.mem_of_getElem? (i := 116) (by decide +kernel), List.mem_of_getElem? (i := 636) (by decide +kernel), List.mem_of_getElem? (i := 637) (by decide +kernel)⟩
theorem lw_p14 : lw_okq (⟨"TwistyBarrels$SequenceReader", "repeatedItem", "(ILTwistyBarrels$State;LTwistyBarrels$Permutation;)I"⟩, 6) := ⟨⟨by decide +kernel, by decide +kernel⟩, List.mem_of_getElem? (i := 116) (by decide +kernel), List.mem_of_getElem? (i := 643) (by decide +kernel), List.mem_of_getElem? (i := 644) (by decide +kernel)⟩
theorem lw_p15 : lw_okq (⟨"TwistyBarrels$SequenceReader", "commutedItem", "(ILTwistyBarrels$State;LTwistyBarrels$Permutation;)I"⟩, 6) := ⟨⟨by decide +kernel, by decide +kernel⟩, List.mem_of_getElem? (i := 116) (by decide +kernel), List.mem_of_getElem? (i := 653) (by decide +kernel), List.mem_of_getElem? (i := 654) (by decide +kernel)⟩
def lw_privs_1 : List (MethodName × Nat) := [(⟨"TwistyBarrels", "isUndoneByInverse", "(LTwistyBarrels$Permutation;)Z"⟩, 11), (⟨"java/lang/Throwable", "fillInStackTrace", "(I)Ljava/lang/Throwable;"⟩, 6), (⟨"TwistyBarrels", "doLoggedMove", "(III)V"⟩, 11), (⟨"TwistyBarrels", "doMove", "(III)V"⟩, 11), (⟨"TwistyBarrels$Permutation", "toTurn", "(II)V"⟩, 1), (⟨"TwistyBarrels$Permutation", "toShift", "(II)V"⟩, 1), (⟨"TwistyBarrels", "refuse", "(II)V"⟩, 11), (⟨"TwistyBarrels", "takeSequence", "()I"⟩, 11), (⟨"TwistyBarrels$SequenceReader", "sequence", "(ILTwistyBarrels$State;)I"⟩, 6), (⟨"TwistyBarrels$SequenceReader", "isItemNext", "()Z"⟩, 6), (⟨"TwistyBarrels$SequenceReader", "item", "(ILTwistyBarrels$State;)I"⟩, 6), (⟨"TwistyBarrels$SequenceReader", "moveItem", "(ILTwistyBarrels$Permutation;)I"⟩, 6), (⟨"TwistyBarrels$SequenceReader", "digit", "(II)I"⟩, 6), (⟨"TwistyBarrels$SequenceReader", "shelfItem", "(LTwistyBarrels$State;LTwistyBarrels$Permutation;)I"⟩, 6), (⟨"TwistyBarrels$SequenceReader", "repeatedItem", "(ILTwistyBarrels$State;LTwistyBarrels$Permutation;)I"⟩, 6), (⟨"TwistyBarrels$SequenceReader", "commutedItem", "(ILTwistyBarrels$State;LTwistyBarrels$Permutation;)I"⟩, 6)]
theorem lw_r1 : ∀ q ∈ lw_privs_1, lw_okq q := List.forall_mem_cons.mpr ⟨lw_p0, List.forall_mem_cons.mpr ⟨lw_p1, List.forall_mem_cons.mpr ⟨lw_p2, List.forall_mem_cons.mpr ⟨lw_p3, List.forall_mem_cons.mpr ⟨lw_p4, List.forall_mem_cons.mpr ⟨lw_p5, List.forall_mem_cons.mpr ⟨lw_p6, List.forall_mem_cons.mpr ⟨lw_p7, List.forall_mem_cons.mpr ⟨lw_p8, List.forall_mem_cons.mpr ⟨lw_p9, List.forall_mem_cons.mpr ⟨lw_p10, List.forall_mem_cons.mpr ⟨lw_p11, List.forall_mem_cons.mpr ⟨lw_p12, List.forall_mem_cons.mpr ⟨lw_p13, List.forall_mem_cons.mpr ⟨lw_p14, List.forall_mem_cons.mpr ⟨lw_p15, fun _ h => absurd h List.not_mem_nil⟩⟩⟩⟩⟩⟩⟩⟩⟩⟩⟩⟩⟩⟩⟩⟩
theorem lw_p16 : lw_okq (⟨"TwistyBarrels", "needFilled", "(I)V"⟩, 11) := ⟨⟨by decide +kernel, by decide +kernel⟩, List.mem_of_getElem? (i := 21) (by decide +kernel), List.mem_of_getElem? (i := 689) (by decide +kernel), List.mem_of_getElem? (i := 690) (by decide +kernel)⟩
theorem lw_p17 : lw_okq (⟨"TwistyBarrels", "putMade", "(I)I"⟩, 11) := ⟨⟨by decide +kernel, by decide +kernel⟩, List.mem_of_getElem? (i := 21) (by decide +kernel), List.mem_of_getElem? (i := 705) (by decide +kernel), List.mem_of_getElem? (i := 706) (by decide +kernel)⟩
theorem lw_p18 : lw_okq (⟨"TwistyBarrels", "needLearnt", "(I)V"⟩, 11) := ⟨⟨by decide +kernel, by decide +kernel⟩, List.mem_of_getElem? (i := 21) (by decide +kernel), List.mem_of_getElem? (i := 751) (by decide +kernel), List.mem_of_getElem? (i := 752) (by decide +kernel)⟩
theorem lw_p19 : lw_okq (⟨"TwistyBarrelsModel", "keep", "()V"⟩, 20) := ⟨⟨by decide +kernel, by decide +kernel⟩, List.mem_of_getElem? (i := 971) (by decide +kernel), List.mem_of_getElem? (i := 1050) (by decide +kernel), List.mem_of_getElem? (i := 1051) (by decide +kernel)⟩
theorem lw_p20 : lw_okq (⟨"TwistyBarrelsModel", "fails", "(I)I"⟩, 20) := ⟨⟨by decide +kernel, by decide +kernel⟩, List.mem_of_getElem? (i := 971) (by decide +kernel), List.mem_of_getElem? (i := 1058) (by decide +kernel), List.mem_of_getElem? (i := 1059) (by decide +kernel)⟩
theorem lw_p21 : lw_okq (⟨"TwistyBarrelsModel", "ends", "(I)I"⟩, 20) := ⟨⟨by decide +kernel, by decide +kernel⟩, List.mem_of_getElem? (i := 971) (by decide +kernel), List.mem_of_getElem? (i := 1062) (by decide +kernel), List.mem_of_getElem? (i := 1063) (by decide +kernel)⟩
theorem lw_p22 : lw_okq (⟨"TwistyBarrelsModel", "moves", "(ZII)V"⟩, 20) := ⟨⟨by decide +kernel, by decide +kernel⟩, List.mem_of_getElem? (i := 971) (by decide +kernel), List.mem_of_getElem? (i := 1066) (by decide +kernel), List.mem_of_getElem? (i := 1067) (by decide +kernel)⟩
theorem lw_p23 : lw_okq (⟨"TwistyBarrelsModel", "move", "(ZII)I"⟩, 20) := ⟨⟨by decide +kernel, by decide +kernel⟩, List.mem_of_getElem? (i := 971) (by decide +kernel), List.mem_of_getElem? (i := 1070) (by decide +kernel), List.mem_of_getElem? (i := 1071) (by decide +kernel)⟩
theorem lw_p24 : lw_okq (⟨"TwistyBarrelsModel", "nothing", "()I"⟩, 20) := ⟨⟨by decide +kernel, by decide +kernel⟩, List.mem_of_getElem? (i := 971) (by decide +kernel), List.mem_of_getElem? (i := 1074) (by decide +kernel), List.mem_of_getElem? (i := 1075) (by decide +kernel)⟩
theorem lw_p25 : lw_okq (⟨"TwistyBarrelsModel", "does", "(I)V"⟩, 20) := ⟨⟨by decide +kernel, by decide +kernel⟩, List.mem_of_getElem? (i := 971) (by decide +kernel), List.mem_of_getElem? (i := 1078) (by decide +kernel), List.mem_of_getElem? (i := 1079) (by decide +kernel)⟩
theorem lw_p26 : lw_okq (⟨"TwistyBarrelsModel", "home", "()I"⟩, 20) := ⟨⟨by decide +kernel, by decide +kernel⟩, List.mem_of_getElem? (i := 971) (by decide +kernel), List.mem_of_getElem? (i := 1082) (by decide +kernel), List.mem_of_getElem? (i := 1083) (by decide +kernel)⟩
theorem lw_p27 : lw_okq (⟨"TwistyBarrelsModel", "refuse", "(III)I"⟩, 20) := ⟨⟨by decide +kernel, by decide +kernel⟩, List.mem_of_getElem? (i := 971) (by decide +kernel), List.mem_of_getElem? (i := 1094) (by decide +kernel), List.mem_of_getElem? (i := 1095) (by decide +kernel)⟩
theorem lw_p28 : lw_okq (⟨"TwistyBarrelsModel", "slotOf", "(I)I"⟩, 20) := ⟨⟨by decide +kernel, by decide +kernel⟩, List.mem_of_getElem? (i := 971) (by decide +kernel), List.mem_of_getElem? (i := 1118) (by decide +kernel), List.mem_of_getElem? (i := 1119) (by decide +kernel)⟩
theorem lw_p29 : lw_okq (⟨"TwistyBarrelsModel", "colourIn", "(I)I"⟩, 20) := ⟨⟨by decide +kernel, by decide +kernel⟩, List.mem_of_getElem? (i := 971) (by decide +kernel), List.mem_of_getElem? (i := 1130) (by decide +kernel), List.mem_of_getElem? (i := 1131) (by decide +kernel)⟩
theorem lw_p30 : lw_okq (⟨"TwistyBarrelsModel", "isOne", "(I)Z"⟩, 20) := ⟨⟨by decide +kernel, by decide +kernel⟩, List.mem_of_getElem? (i := 971) (by decide +kernel), List.mem_of_getElem? (i := 1138) (by decide +kernel), List.mem_of_getElem? (i := 1139) (by decide +kernel)⟩
theorem lw_p31 : lw_okq (⟨"TwistyBarrelsModel", "seamMany", "()I"⟩, 20) := ⟨⟨by decide +kernel, by decide +kernel⟩, List.mem_of_getElem? (i := 971) (by decide +kernel), List.mem_of_getElem? (i := 1146) (by decide +kernel), List.mem_of_getElem? (i := 1147) (by decide +kernel)⟩
def lw_privs_2 : List (MethodName × Nat) := [(⟨"TwistyBarrels", "needFilled", "(I)V"⟩, 11), (⟨"TwistyBarrels", "putMade", "(I)I"⟩, 11), (⟨"TwistyBarrels", "needLearnt", "(I)V"⟩, 11), (⟨"TwistyBarrelsModel", "keep", "()V"⟩, 20), (⟨"TwistyBarrelsModel", "fails", "(I)I"⟩, 20), (⟨"TwistyBarrelsModel", "ends", "(I)I"⟩, 20), (⟨"TwistyBarrelsModel", "moves", "(ZII)V"⟩, 20), (⟨"TwistyBarrelsModel", "move", "(ZII)I"⟩, 20), (⟨"TwistyBarrelsModel", "nothing", "()I"⟩, 20), (⟨"TwistyBarrelsModel", "does", "(I)V"⟩, 20), (⟨"TwistyBarrelsModel", "home", "()I"⟩, 20), (⟨"TwistyBarrelsModel", "refuse", "(III)I"⟩, 20), (⟨"TwistyBarrelsModel", "slotOf", "(I)I"⟩, 20), (⟨"TwistyBarrelsModel", "colourIn", "(I)I"⟩, 20), (⟨"TwistyBarrelsModel", "isOne", "(I)Z"⟩, 20), (⟨"TwistyBarrelsModel", "seamMany", "()I"⟩, 20)]
theorem lw_r2 : ∀ q ∈ lw_privs_2, lw_okq q := List.forall_mem_cons.mpr ⟨lw_p16, List.forall_mem_cons.mpr ⟨lw_p17, List.forall_mem_cons.mpr ⟨lw_p18, List.forall_mem_cons.mpr ⟨lw_p19, List.forall_mem_cons.mpr ⟨lw_p20, List.forall_mem_cons.mpr ⟨lw_p21, List.forall_mem_cons.mpr ⟨lw_p22, List.forall_mem_cons.mpr ⟨lw_p23, List.forall_mem_cons.mpr ⟨lw_p24, List.forall_mem_cons.mpr ⟨lw_p25, List.forall_mem_cons.mpr ⟨lw_p26, List.forall_mem_cons.mpr ⟨lw_p27, List.forall_mem_cons.mpr ⟨lw_p28, List.forall_mem_cons.mpr ⟨lw_p29, List.forall_mem_cons.mpr ⟨lw_p30, List.forall_mem_cons.mpr ⟨lw_p31, fun _ h => absurd h List.not_mem_nil⟩⟩⟩⟩⟩⟩⟩⟩⟩⟩⟩⟩⟩⟩⟩⟩
theorem lw_p32 : lw_okq (⟨"TwistyBarrelsModel", "readsText", "(I)I"⟩, 20) := ⟨⟨by decide +kernel, by decide +kernel⟩, List.mem_of_getElem? (i := 971) (by decide +kernel), List.mem_of_getElem? (i := 1165) (by decide +kernel), List.mem_of_getElem? (i := 1166) (by decide +kernel)⟩
theorem lw_p33 : lw_okq (⟨"TwistyBarrelsModel", "sequence", "(I)I"⟩, 20) := ⟨⟨by decide +kernel, by decide +kernel⟩, List.mem_of_getElem? (i := 971) (by decide +kernel), List.mem_of_getElem? (i := 1169) (by decide +kernel), List.mem_of_getElem? (i := 1170) (by decide +kernel)⟩
theorem lw_p34 : lw_okq (⟨"TwistyBarrelsModel", "isItem", "()Z"⟩, 20) := ⟨⟨by decide +kernel, by decide +kernel⟩, List.mem_of_getElem? (i := 971) (by decide +kernel), List.mem_of_getElem? (i := 1173) (by decide +kernel), List.mem_of_getElem? (i := 1174) (by decide +kernel)⟩
theorem lw_p35 : lw_okq (⟨"TwistyBarrelsModel", "isHere", "(CC)Z"⟩, 20) := ⟨⟨by decide +kernel, by decide +kernel⟩, List.mem_of_getElem? (i := 971) (by decide +kernel), List.mem_of_getElem? (i := 1177) (by decide +kernel), List.mem_of_getElem? (i := 1178) (by decide +kernel)⟩
theorem lw_p36 : lw_okq (⟨"TwistyBarrelsModel", "item", "(I)I"⟩, 20) := ⟨⟨by decide +kernel, by decide +kernel⟩, List.mem_of_getElem? (i := 971) (by decide +kernel), List.mem_of_getElem? (i := 1181) (by decide +kernel), List.mem_of_getElem? (i := 1182) (by decide +kernel)⟩
theorem lw_p37 : lw_okq (⟨"TwistyBarrelsModel", "sign", "(CC)I"⟩, 20) := ⟨⟨by decide +kernel, by decide +kernel⟩, List.mem_of_getElem? (i := 971) (by decide +kernel), List.mem_of_getElem? (i := 1185) (by decide +kernel), List.mem_of_getElem? (i := 1186) (by decide +kernel)⟩
theorem lw_p38 : lw_okq (⟨"TwistyBarrelsModel", "ofShelf", "(I)I"⟩, 20) := ⟨⟨by decide +kernel, by decide +kernel⟩, List.mem_of_getElem? (i := 971) (by decide +kernel), List.mem_of_getElem? (i := 1189) (by decide +kernel), List.mem_of_getElem? (i := 1190) (by decide +kernel)⟩
theorem lw_p39 : lw_okq (⟨"TwistyBarrelsModel", "times", "(II)I"⟩, 20) := ⟨⟨by decide +kernel, by decide +kernel⟩, List.mem_of_getElem? (i := 971) (by decide +kernel), List.mem_of_getElem? (i := 1193) (by decide +kernel), List.mem_of_getElem? (i := 1194) (by decide +kernel)⟩
theorem lw_p40 : lw_okq (⟨"TwistyBarrelsModel", "then", "(II)V"⟩, 20) := ⟨⟨by decide +kernel, by decide +kernel⟩, List.mem_of_getElem? (i := 971) (by decide +kernel), List.mem_of_getElem? (i := 1197) (by decide +kernel), List.mem_of_getElem? (i := 1198) (by decide +kernel)⟩
theorem lw_p41 : lw_okq (⟨"TwistyBarrelsModel", "commutator", "(II)I"⟩, 20) := ⟨⟨by decide +kernel, by decide +kernel⟩, List.mem_of_getElem? (i := 971) (by decide +kernel), List.mem_of_getElem? (i := 1201) (by decide +kernel), List.mem_of_getElem? (i := 1202) (by decide +kernel)⟩
theorem lw_p42 : lw_okq (⟨"TwistyBarrelsModel", "inverse", "(I)I"⟩, 20) := ⟨⟨by decide +kernel, by decide +kernel⟩, List.mem_of_getElem? (i := 971) (by decide +kernel), List.mem_of_getElem? (i := 1205) (by decide +kernel), List.mem_of_getElem? (i := 1206) (by decide +kernel)⟩
theorem lw_p43 : lw_okq (⟨"TwistyBarrelsModel", "puts", "(II)I"⟩, 20) := ⟨⟨by decide +kernel, by decide +kernel⟩, List.mem_of_getElem? (i := 971) (by decide +kernel), List.mem_of_getElem? (i := 1220) (by decide +kernel), List.mem_of_getElem? (i := 1221) (by decide +kernel)⟩
theorem lw_p44 : lw_okq (⟨"TwistyBarrelsModel", "movedBy", "(I)I"⟩, 20) := ⟨⟨by decide +kernel, by decide +kernel⟩, List.mem_of_getElem? (i := 971) (by decide +kernel), List.mem_of_getElem? (i := 1224) (by decide +kernel), List.mem_of_getElem? (i := 1225) (by decide +kernel)⟩
theorem lw_p45 : lw_okq (⟨"TwistyBarrelsModel", "isEmpty", "(I)Z"⟩, 20) := ⟨⟨by decide +kernel, by decide +kernel⟩, List.mem_of_getElem? (i := 971) (by decide +kernel), List.mem_of_getElem? (i := 1232) (by decide +kernel), List.mem_of_getElem? (i := 1233) (by decide +kernel)⟩
theorem lw_p46 : lw_okq (⟨"TwistyBarrelsModel", "filledMany", "()I"⟩, 20) := ⟨⟨by decide +kernel, by decide +kernel⟩, List.mem_of_getElem? (i := 971) (by decide +kernel), List.mem_of_getElem? (i := 1252) (by decide +kernel), List.mem_of_getElem? (i := 1253) (by decide +kernel)⟩
theorem lw_p47 : lw_okq (⟨"TwistyBarrelsModel", "goes", "(II)I"⟩, 20) := ⟨⟨by decide +kernel, by decide +kernel⟩, List.mem_of_getElem? (i := 971) (by decide +kernel), List.mem_of_getElem? (i := 1260) (by decide +kernel), List.mem_of_getElem? (i := 1261) (by decide +kernel)⟩
def lw_privs_3 : List (MethodName × Nat) := [(⟨"TwistyBarrelsModel", "readsText", "(I)I"⟩, 20), (⟨"TwistyBarrelsModel", "sequence", "(I)I"⟩, 20), (⟨"TwistyBarrelsModel", "isItem", "()Z"⟩, 20), (⟨"TwistyBarrelsModel", "isHere", "(CC)Z"⟩, 20), (⟨"TwistyBarrelsModel", "item", "(I)I"⟩, 20), (⟨"TwistyBarrelsModel", "sign", "(CC)I"⟩, 20), (⟨"TwistyBarrelsModel", "ofShelf", "(I)I"⟩, 20), (⟨"TwistyBarrelsModel", "times", "(II)I"⟩, 20), (⟨"TwistyBarrelsModel", "then", "(II)V"⟩, 20), (⟨"TwistyBarrelsModel", "commutator", "(II)I"⟩, 20), (⟨"TwistyBarrelsModel", "inverse", "(I)I"⟩, 20), (⟨"TwistyBarrelsModel", "puts", "(II)I"⟩, 20), (⟨"TwistyBarrelsModel", "movedBy", "(I)I"⟩, 20), (⟨"TwistyBarrelsModel", "isEmpty", "(I)Z"⟩, 20), (⟨"TwistyBarrelsModel", "filledMany", "()I"⟩, 20), (⟨"TwistyBarrelsModel", "goes", "(II)I"⟩, 20)]
theorem lw_r3 : ∀ q ∈ lw_privs_3, lw_okq q := List.forall_mem_cons.mpr ⟨lw_p32, List.forall_mem_cons.mpr ⟨lw_p33, List.forall_mem_cons.mpr ⟨lw_p34, List.forall_mem_cons.mpr ⟨lw_p35, List.forall_mem_cons.mpr ⟨lw_p36, List.forall_mem_cons.mpr ⟨lw_p37, List.forall_mem_cons.mpr ⟨lw_p38, List.forall_mem_cons.mpr ⟨lw_p39, List.forall_mem_cons.mpr ⟨lw_p40, List.forall_mem_cons.mpr ⟨lw_p41, List.forall_mem_cons.mpr ⟨lw_p42, List.forall_mem_cons.mpr ⟨lw_p43, List.forall_mem_cons.mpr ⟨lw_p44, List.forall_mem_cons.mpr ⟨lw_p45, List.forall_mem_cons.mpr ⟨lw_p46, List.forall_mem_cons.mpr ⟨lw_p47, fun _ h => absurd h List.not_mem_nil⟩⟩⟩⟩⟩⟩⟩⟩⟩⟩⟩⟩⟩⟩⟩⟩
theorem lw_p48 : lw_okq (⟨"TwistyBarrelsModel", "cycleOf", "(II)I"⟩, 20) := ⟨⟨by decide +kernel, by decide +kernel⟩, List.mem_of_getElem? (i := 971) (by decide +kernel), List.mem_of_getElem? (i := 1268) (by decide +kernel), List.mem_of_getElem? (i := 1269) (by decide +kernel)⟩
theorem lw_p49 : lw_okq (⟨"TwistyBarrelsModel", "isLowest", "(II)Z"⟩, 20) := ⟨⟨by decide +kernel, by decide +kernel⟩, List.mem_of_getElem? (i := 971) (by decide +kernel), List.mem_of_getElem? (i := 1272) (by decide +kernel), List.mem_of_getElem? (i := 1273) (by decide +kernel)⟩
theorem lw_p50 : lw_okq (⟨"TwistyBarrelsModel", "order", "(I)I"⟩, 20) := ⟨⟨by decide +kernel, by decide +kernel⟩, List.mem_of_getElem? (i := 971) (by decide +kernel), List.mem_of_getElem? (i := 1277) (by decide +kernel), List.mem_of_getElem? (i := 1278) (by decide +kernel)⟩
theorem lw_p51 : lw_okq (⟨"TwistyBarrelsModel", "saysNumber", "(I)V"⟩, 20) := ⟨⟨by decide +kernel, by decide +kernel⟩, List.mem_of_getElem? (i := 971) (by decide +kernel), List.mem_of_getElem? (i := 1304) (by decide +kernel), List.mem_of_getElem? (i := 1305) (by decide +kernel)⟩
theorem lw_p52 : lw_okq (⟨"TwistyBarrelsModel", "says", "(C)V"⟩, 20) := ⟨⟨by decide +kernel, by decide +kernel⟩, List.mem_of_getElem? (i := 971) (by decide +kernel), List.mem_of_getElem? (i := 1308) (by decide +kernel), List.mem_of_getElem? (i := 1309) (by decide +kernel)⟩
theorem lw_p53 : lw_okq (⟨"TwistyBarrelsModel", "doneMany", "()I"⟩, 20) := ⟨⟨by decide +kernel, by decide +kernel⟩, List.mem_of_getElem? (i := 971) (by decide +kernel), List.mem_of_getElem? (i := 1328) (by decide +kernel), List.mem_of_getElem? (i := 1329) (by decide +kernel)⟩
def lw_privs_4 : List (MethodName × Nat) := [(⟨"TwistyBarrelsModel", "cycleOf", "(II)I"⟩, 20), (⟨"TwistyBarrelsModel", "isLowest", "(II)Z"⟩, 20), (⟨"TwistyBarrelsModel", "order", "(I)I"⟩, 20), (⟨"TwistyBarrelsModel", "saysNumber", "(I)V"⟩, 20), (⟨"TwistyBarrelsModel", "says", "(C)V"⟩, 20), (⟨"TwistyBarrelsModel", "doneMany", "()I"⟩, 20)]
theorem lw_r4 : ∀ q ∈ lw_privs_4, lw_okq q := List.forall_mem_cons.mpr ⟨lw_p48, List.forall_mem_cons.mpr ⟨lw_p49, List.forall_mem_cons.mpr ⟨lw_p50, List.forall_mem_cons.mpr ⟨lw_p51, List.forall_mem_cons.mpr ⟨lw_p52, List.forall_mem_cons.mpr ⟨lw_p53, fun _ h => absurd h List.not_mem_nil⟩⟩⟩⟩⟩⟩
def lw_privs : List (MethodName × Nat) := lw_privs_1 ++ (lw_privs_2 ++ (lw_privs_3 ++ (lw_privs_4)))
def lw_tbl : List Cond := k2_sels lw_privs ++ tables_1
theorem lw_privs_ok : ∀ q ∈ lw_privs, lw_okq q := by
  show ∀ q ∈ lw_privs_1 ++ (lw_privs_2 ++ (lw_privs_3 ++ (lw_privs_4))), lw_okq q
  exact List.forall_mem_append.mpr ⟨lw_r1, List.forall_mem_append.mpr ⟨lw_r2, List.forall_mem_append.mpr ⟨lw_r3, lw_r4⟩⟩⟩
/-- the streams that the claim lets the run draw from -/
abbrev lw_cs : List Choice := [Jvm.Choice.named "NaN.bits"]
theorem lw_bits : nanBits ∈ lw_cs := by first | decide | exact List.mem_cons_self | simp [lw_cs, nanBits]
end
section
/-! ===== BEGIN words of one list among another's, by their places ===== -/
theorem goodIn_r {big : List Cond} (ws : List Cond) (ps : List Nat) (hp : ws = ps.filterMap (fun i => big[i]?)) (h : ws.all goodWord = true) : GoodIn big ws := by
  intro w hw
  have h1 := List.all_eq_true.mp h w hw
  rw [hp] at hw
  obtain ⟨i, -, hi⟩ := List.mem_filterMap.mp hw
  have hm : w ∈ big := by first | exact List.mem_of_getElem? hi | exact List.getElem?_mem hi
  exact ⟨hm, good_of_word h1⟩
theorem goodIn_app {big a b : List Cond} (ha : GoodIn big a) (hb : GoodIn big b) : GoodIn big (a ++ b) := fun w h => (List.mem_append.mp h).elim (ha w) (hb w)
theorem goodIn_ca {big a b : List Cond} {c : Cond} (ha : GoodIn big (c :: a)) (hb : GoodIn big b) : GoodIn big (c :: (a ++ b)) := fun w h => (List.mem_cons.mp h).elim (fun e => ha w (List.mem_cons.mpr (Or.inl e))) (fun h => (List.mem_append.mp h).elim (fun h => ha w (List.mem_cons.mpr (Or.inr h))) (hb w))
theorem goodIn_sub {big ws : List Cond} (hm : ∀ w ∈ ws, w ∈ big) (h : ws.all goodWord = true) : GoodIn big ws := fun w hw => ⟨hm w hw, good_of_word (List.all_eq_true.mp h w hw)⟩
/-! ===== END ===== -/

/-! ===== BEGIN exceptions that leave a method, and their catching by the caller (launches without stack traces) ===== -/
section VXA
/-! The laws vx_back, vx_callV, vx_callS, vx_callSW, vx_throw0, vx_throwS follow proofs of the library, with one case more: JvmDerived/Free/Laws.lean (Back.of_free), Shelf42/LK1.lean (callV, callS), Shelf/KitTraced.lean (throwNew0V, throwNewS). -/
/-- where a method has thrown q: the class by its name, the cell, what was written, the world -/
def vx_T (XC : String → State → State → Prop) (st : State) (q : Addr) (t : State) (mc ms : Nat) (free : Addr → Prop) : Prop :=
  ∃ (E : String) (ce : Cell) (L : List Loc), XC E st t ∧ t.heap[q]? = some ce ∧ ce.vm = .none ∧ st.vm.findClass E = some ce.cls ∧ st.WarmedH t.vm ∧ st.sameButNew ({ t with vm := st.vm } : State) L mc ms ∧ ∀ z ∈ L, free z.base
def vx_Q (Qc : Array Value → State → Outcome → State → Prop) (XC : String → State → State → Prop) (mc ms : Nat) (free : Addr → Prop) : Array Value → State → Outcome → State → Prop := fun a st o t =>
  (Qc a st o t ∧ ∃ L, FrameEnd st o t L mc ms ∧ ∀ q ∈ L, free q.base) ∨ ∃ q, o = .threw q ∧ vx_T XC st q t mc ms free
/-- a callee that returns or throws -/
def vx_Met (l : Launch) (y : MethodName) (ws : List Cond) (rm : Room) (Pc : Array Value → State → Prop) (Qc : Array Value → State → Outcome → State → Prop) (XC : String → State → State → Prop) (mc ms : Nat) (free : Addr → Prop) : Prop :=
  MetFree l y (headSpec ws rm) Pc (fun _ _ _ _ _ => True) (vx_Q Qc XC mc ms free)
def vx_Post (XC : String → State → State → Prop) (mc ms : Nat) (free : Addr → Prop) : Pt → Array Value → Addr → Pt → Prop := fun A a q B =>
  ∃ (g : JFrame) (mk : MethodId) (t : State) (L : List Loc) (E : String) (ce : Cell), B.U.heap = t.heap ∧ B.U.vm = t.vm ∧ XC E (A.U.calling g mk a) t ∧ t.heap[q]? = some ce ∧ ce.vm = .none ∧ A.U.vm.findClass E = some ce.cls ∧ B.locs = A.locs ++ L ∧ (∀ z ∈ L, free z.base) ∧ B.cells = A.cells + mc ∧ B.slots = A.slots + ms
def vx_Back (l : Launch) (R : Room) (p : Program) (e : Env) (below : List Frame) (s : State) (sargs : Array Value) (y : MethodName) (len W9 : Nat)
    (Pre : Pt → Array Value → Prop) (Post : Pt → Array Value → Option Value → Pt → Prop) (PostX : Pt → Array Value → Addr → Pt → Prop) : Prop :=
  ∀ (m : MethodId) (meth : Method) (c : Code) (A : Pt) (g : JFrame) (ig : Instr) (mk : MethodId) (a : Array Value),
    Stand p l e R s m sargs below meth c A.U A.locs A.cells A.slots → g.method = m → g.locals.size = c.maxLocals → decode c.code g.pc = .ok (ig, len) →
    2 * g.monitorRoom + (g.stack.map fun v => v.category).sum ≤ W9 → A.U.methodNamed? y = some mk → Pre A a →
    (∃ (v : Option Value) (B : Pt), Stand p l e R s m sargs below meth c B.U B.locs B.cells B.slots ∧ Post A a v B ∧
      Steps p.tables e below (doInvoke e (A.U.setTop g) [] mk a).1 (B.U.setTop { g with pc := g.pc + len, stack := v.toList ++ g.stack })) ∨
    (∃ (q : Addr) (B : Pt), Stand p l e R s m sargs below meth c B.U B.locs B.cells B.slots ∧ PostX A a q B ∧
      Steps p.tables e below (doInvoke e (A.U.setTop g) [] mk a).1 ((B.U.setTop g).pushFrame (.throwing q)))
section Payer
variable {l : Launch} {R : Room} {p : Program} {e : Env} {below : List Frame} {s : State} {sargs : Array Value} {y : MethodName} {len W9 : Nat}
theorem vx_back {ws : List Cond} {rm : Room} {Pc : Array Value → State → Prop} {Qc : Array Value → State → Outcome → State → Prop} {XC : String → State → State → Prop} {mc ms : Nat} {free : Addr → Prop} {bytes : ByteArray} {maxL : Nat} {ret : Option FieldType}
    (hM : vx_Met l y ws rm Pc Qc XC mc ms free) (hblind : FrameBlind Pc) (hrc : rm.cells = mc) (hrs : rm.slots = ms)
    (hframes : rm.frames + 1 ≤ R.frames) (hlocals : W9 + (maxL + 11) + rm.locals ≤ R.locals)
    (hws : ∀ w ∈ ws, ∀ a' U, s.WarmedH U.vm → w.before a' U = true) (hcode : Cond.code y bytes maxL ret ∈ ws) (hinit : ∀ a' U, s.WarmedH U.vm → (Cond.initialized y.cls).before a' U = true) :
    vx_Back l R p e below s sargs y len W9 (PreOf R mc ms Pc) (PostOf Qc mc ms free) (vx_Post XC mc ms free) := by
  intro m meth c A g ig mk a X hg hsize hdg hW hn hp
  have h1 : (headSpec ws rm).pre.before a A.U = true := atoms_intro fun w hw => hws w hw _ _ X.warmed
  have h2 : (Cond.code y bytes maxL ret).before a A.U = true := hws _ hcode _ _ X.warmed
  have h3 : (Cond.initialized y.cls).before a A.U = true := hinit _ _ X.warmed
  have h4 : A.cells + (headSpec ws rm).room.cells ≤ R.cells := by rw [show (headSpec ws rm).room.cells = mc from hrc]; exact hp.1
  have h5 : A.slots + (headSpec ws rm).room.slots ≤ R.slots := by rw [show (headSpec ws rm).room.slots = ms from hrs]; exact hp.2.1
  have hPc : Pc a (A.U.calling g mk a) := hblind _ _ _ _ hp.2.2
  obtain ⟨U, Ls, c0, s0⟩ := A
  dsimp only [Pt.U, Pt.locs, Pt.cells, Pt.slots] at h1 h2 h3 h4 h5 X hn hPc ⊢
  obtain ⟨methY, cY, hmY, hcY, -, hlY, -, -, -, -⟩ := Cond.code_spec hn h2
  obtain ⟨kY, hkY, -⟩ := className_of_methodNamed hn
  have hinitY : kY.init = .initialized := Cond.initialized_spec (findClass_of_methodNamed hn) hkY h3
  have h : At U g.method c below := by rw [hg]; exact X.here
  have hlocals9 : W9 + (maxL + 11) + (headSpec ws rm).room.locals ≤ R.locals := hlocals
  have happ : (headSpec ws rm).appliesLoose y e.platform (U.calling g mk a) = true :=
    Spec.appliesLoose_calling (g := g) h hdg hn hkY hinitY
      (X.room_calling (g := g) (R' := (headSpec ws rm).room) hsize hmY hcY hframes (by rw [hlY]; omega) h4 h5) h1
  obtain ⟨mid, hmid⟩ := h.above
  have hfr : (U.setTop g).frames = (.java g :: mid) ++ below := by rw [State.frames_setTop' g h.top, hmid]; rfl
  obtain ⟨o, s₂, hsteps, -, hend, hq⟩ := Steps.callFree hM p X.admits X.cas X.clock (acts := []) hfr happ hPc trivial
  have hq' : vx_Q Qc XC mc ms free a (U.calling g mk a) o s₂ := hq
  rw [State.frames_setTop' g h.top] at hend
  obtain ⟨g₀, hg0⟩ := Option.isSome_iff_exists.mp h.top
  obtain ⟨r, hr⟩ := State.topJava?_eq_some.mp hg0
  have hr' : (({ U with heap := s₂.heap, slotsUsed := s₂.slotsUsed } : State).setVm s₂.vm).frames = .java g₀ :: r := hr
  rcases hq' with ⟨hqc, L, hfe, hL⟩ | ⟨q, rfl, E, ce, L, hx, hce, hcv, hcl, hW₂, hsm, hL⟩
  · obtain ⟨⟨v, rfl⟩, hW₂, e2, q2, q3, q4, q5, q6⟩ := id hfe
    have e3 : s₂ = ({ (U.calling g mk a).setFrames s₂.frames with heap := s₂.heap, slotsUsed := s₂.slotsUsed } : State).setVm s₂.vm := by
      have : s₂ = ({ s₂ with vm := (U.calling g mk a).vm } : State).setVm s₂.vm := rfl
      rw [e2] at this
      exact this
    obtain ⟨c₂, i₂, len₂, hc₂, hd₂, hf₂⟩ := hend
    have hW' : U.WarmedH s₂.vm := hW₂
    have hcc : c₂ = c := by
      have h1 : s₂.code? g.method = U.code? g.method := by
        rw [State.code?_eq, State.code?_eq, hW'.alike.method?]
      exact Option.some.inj (hc₂.symm.trans (h1.trans h.code))
    subst hcc
    have hlen : len₂ = len := by rw [hdg] at hd₂; cases hd₂; rfl
    subst hlen
    have hs₂ : s₂ = (({ U with heap := s₂.heap, slotsUsed := s₂.slotsUsed } : State).setVm s₂.vm).setTop { g with pc := g.pc + len₂, stack := v.toList ++ g.stack } := by
      refine e3.trans ?_
      rw [hf₂, State.calling_eq h.top, State.setFrames_setFrames, State.setTop_of_frames _ hr', hr]
      rfl
    have hsame : U.sameButNew ({ U with heap := s₂.heap, slotsUsed := s₂.slotsUsed } : State) L mc ms := by
      refine ⟨?_, q2, q3, q4, q5, q6⟩
      obtain ⟨t, ht, -⟩ := State.frames_cons hr
      show ({ U with heap := s₂.heap, slotsUsed := s₂.slotsUsed } : State) = { U.setFrames U.frames with heap := s₂.heap, slotsUsed := s₂.slotsUsed }
      rw [State.setFrames_self ht]
    subst hg
    refine Or.inl ⟨v, ⟨(({ U with heap := s₂.heap, slotsUsed := s₂.slotsUsed } : State).setVm s₂.vm), Ls ++ L, c0 + mc, s0 + ms⟩,
      ⟨X.admits, X.cas, X.clock, X.frames, X.room, X.hears, X.method, X.code, (X.here.setHeapUsed s₂.heap s₂.slotsUsed).setVm hW'.alike, X.tail, State.WarmedH.trans X.warmed hW', X.limits, X.bytes, X.same.trans (hsame.setVm s.vm)⟩,
      ⟨g, mk, s₂, L, rfl, rfl, hqc, rfl, hL, rfl, rfl⟩, ?_⟩
    show Steps p.tables e below _ ((({ U with heap := s₂.heap, slotsUsed := s₂.slotsUsed } : State).setVm s₂.vm).setTop { g with pc := g.pc + len₂, stack := v.toList ++ g.stack })
    rw [← hs₂]
    exact hsteps
  · obtain ⟨e2, q2, q3, q4, q5, q6⟩ := id hsm
    have e3 : s₂ = ({ (U.calling g mk a).setFrames s₂.frames with heap := s₂.heap, slotsUsed := s₂.slotsUsed } : State).setVm s₂.vm := by
      have : s₂ = ({ s₂ with vm := (U.calling g mk a).vm } : State).setVm s₂.vm := rfl
      rw [e2] at this
      exact this
    have hf₂ : s₂.frames = .throwing q :: .java g :: U.frames.tail := hend
    have hW' : U.WarmedH s₂.vm := hW₂
    have hs₂ : s₂ = ((({ U with heap := s₂.heap, slotsUsed := s₂.slotsUsed } : State).setVm s₂.vm).setTop g).pushFrame (.throwing q) := by
      refine e3.trans ?_
      rw [hf₂, State.calling_eq h.top, State.setFrames_setFrames, State.pushFrame, State.frames_setTop _ hr', State.setTop_of_frames _ hr', State.setFrames_setFrames, hr]
      rfl
    have hsame : U.sameButNew ({ U with heap := s₂.heap, slotsUsed := s₂.slotsUsed } : State) L mc ms := by
      refine ⟨?_, q2, q3, q4, q5, q6⟩
      obtain ⟨t, ht, -⟩ := State.frames_cons hr
      show ({ U with heap := s₂.heap, slotsUsed := s₂.slotsUsed } : State) = { U.setFrames U.frames with heap := s₂.heap, slotsUsed := s₂.slotsUsed }
      rw [State.setFrames_self ht]
    subst hg
    refine Or.inr ⟨q, ⟨(({ U with heap := s₂.heap, slotsUsed := s₂.slotsUsed } : State).setVm s₂.vm), Ls ++ L, c0 + mc, s0 + ms⟩,
      ⟨X.admits, X.cas, X.clock, X.frames, X.room, X.hears, X.method, X.code, (X.here.setHeapUsed s₂.heap s₂.slotsUsed).setVm hW'.alike, X.tail, State.WarmedH.trans X.warmed hW', X.limits, X.bytes, X.same.trans (hsame.setVm s.vm)⟩,
      ⟨g, mk, s₂, L, E, ce, rfl, rfl, hx, hce, hcv, hcl, rfl, hL, rfl, rfl⟩, ?_⟩
    show Steps p.tables e below _ (((({ U with heap := s₂.heap, slotsUsed := s₂.slotsUsed } : State).setVm s₂.vm).setTop g).pushFrame (.throwing q))
    rw [← hs₂]
    exact hsteps
end Payer
section Calls
variable {p : Program} {l : Launch} {e : Env} {R : Room} {s : State} {m : MethodId} {args : Array Value} {below : List Frame} {meth : Method} {c : Code} {T : State} {locs : List Loc} {cells slots : Nat}
theorem vx_callV (X : Stand p l e R s m args below meth c T locs cells slots) (hexec : p.tables.exec = Jvm.exec) {own C : String} {index : Nat} {y : MethodName} {bytes : ByteArray} {maxL : Nat} {ret : Option FieldType}
    (hown : s.vm.findClass own = some m.cls) (hlink : (Cond.methodLink own index y).before args s = true) (hinst : (Cond.instanceMethod y).before args s = true) (hsel : (Cond.selects C y y).before args s = true)
    (hcode : (Cond.code y bytes maxL ret).before args s = true) (hy : y.cls ≠ "java/lang/invoke/MethodHandle" ∧ y.cls ≠ "java/lang/invoke/VarHandle")
    {W9 : Nat} {Pre : Pt → Array Value → Prop} {Post : Pt → Array Value → Option Value → Pt → Prop} {PostX : Pt → Array Value → Addr → Pt → Prop} (hK : vx_Back l R p e below s args y 3 W9 Pre Post PostX)
    {b : Addr} {cellB : Cell} (hcell : T.heap[b]? = some cellB) (hobj : cellB.vm.isStatics = false) (hcls : s.vm.findClass C = some cellB.cls)
    {g : JFrame} (hg : g.method = m) (hsize : g.locals.size = c.maxLocals) {argsL rest : List Value} (hlen : ∀ sig, parseMethodDescriptor y.desc = some sig → argsL.length = sig.parameters.length)
    (hstack : g.stack = argsL.reverse ++ .ref b :: rest) (hW : 2 * g.monitorRoom + (rest.map fun v => v.category).sum ≤ W9) (hdg : decode c.code g.pc = .ok (.invokevirtual index, 3))
    (hpre : ∀ vm₁, s.WarmedH vm₁ → Pre ⟨T.setVm vm₁, locs, cells, slots⟩ (Value.ref b :: argsL).toArray) :
    (∃ (v : Option Value) (vm₁ : Vm) (B : Pt), s.WarmedH vm₁ ∧ Stand p l e R s m args below meth c B.U B.locs B.cells B.slots ∧ Post ⟨T.setVm vm₁, locs, cells, slots⟩ (Value.ref b :: argsL).toArray v B ∧
      ∀ target, Steps p.tables e below (B.U.setTop { g with pc := g.pc + 3, stack := v.toList ++ rest }) target → Steps p.tables e below (T.setTop g) target) ∨
    (∃ (q : Addr) (vm₁ : Vm) (B : Pt), s.WarmedH vm₁ ∧ Stand p l e R s m args below meth c B.U B.locs B.cells B.slots ∧ PostX ⟨T.setVm vm₁, locs, cells, slots⟩ (Value.ref b :: argsL).toArray q B ∧
      Steps p.tables e below (T.setTop g) ((B.U.setTop { g with stack := rest }).pushFrame (.throwing q))) := by
  obtain ⟨mk, methM, hnamed, hmethM, hstM, habM⟩ := Cond.instanceMethod_spec hinst
  obtain ⟨methM', cM, hmethM', -, -, -, -, -, -, hsigM⟩ := Cond.code_spec hnamed hcode
  cases hmethM.symm.trans hmethM'
  obtain ⟨c2, r2, m2, q1, q2, q3, q4, kP, hkP, hkPi⟩ := Cond.selects_spec hsel
  cases hcls.symm.trans q1
  cases (State.methodFound?_of_named hnamed hy).symm.trans q2
  cases hnamed.symm.trans q3
  have hselP : selectMethod e.platform s.vm cellB.cls mk = .method mk := by rw [Launch.admits_selectMethod X.admits]; exact q4
  obtain ⟨vm₁, X₁, hstep₁⟩ := X.invokevirtual hexec hown hlink hnamed hmethM hstM hkP hkPi hy (a := b) (cell := cellB) hcell
    (fun z h => by rw [h] at hobj; cases hobj) hselP hmethM habM hkP hkPi (g := g) hg (argsL := argsL) (rest := rest) (hlen _ hsigM) hstack hdg
  rcases hK m meth c ⟨T.setVm vm₁, locs, cells, slots⟩ { g with stack := rest } (.invokevirtual index) mk (Value.ref b :: argsL).toArray X₁ hg hsize hdg hW (X₁.named hnamed) (hpre vm₁ X₁.warmed) with ⟨v, B, X', hpost, hsteps⟩ | ⟨q, B, X', hpost, hsteps⟩
  · exact Or.inl ⟨v, vm₁, B, X₁.warmed, X', hpost, fun target h => hstep₁ _ fun acts => by rw [doInvoke_state]; exact hsteps.trans h⟩
  · exact Or.inr ⟨q, vm₁, B, X₁.warmed, X', hpost, hstep₁ _ fun acts => by rw [doInvoke_state]; exact hsteps⟩
theorem vx_callS (X : Stand p l e R s m args below meth c T locs cells slots) (hexec : p.tables.exec = Jvm.exec) {own : String} {index : Nat} {y : MethodName} {bytes : ByteArray} {maxL : Nat} {ret : Option FieldType}
    (hown : s.vm.findClass own = some m.cls) (hlink : (Cond.methodLink own index y).before args s = true) (hstat : (Cond.static y).before args s = true) (hinit : (Cond.initialized y.cls).before args s = true)
    (hcode : (Cond.code y bytes maxL ret).before args s = true) (hy : y.cls ≠ "java/lang/invoke/MethodHandle" ∧ y.cls ≠ "java/lang/invoke/VarHandle")
    {W9 : Nat} {Pre : Pt → Array Value → Prop} {Post : Pt → Array Value → Option Value → Pt → Prop} {PostX : Pt → Array Value → Addr → Pt → Prop} (hK : vx_Back l R p e below s args y 3 W9 Pre Post PostX)
    {g : JFrame} (hg : g.method = m) (hsize : g.locals.size = c.maxLocals) {argsL rest : List Value} (hlen : ∀ sig, parseMethodDescriptor y.desc = some sig → argsL.length = sig.parameters.length)
    (hstack : g.stack = argsL.reverse ++ rest) (hW : 2 * g.monitorRoom + (rest.map fun v => v.category).sum ≤ W9) (hdg : decode c.code g.pc = .ok (.invokestatic index, 3))
    (hpre : ∀ vm₁, s.WarmedH vm₁ → Pre ⟨T.setVm vm₁, locs, cells, slots⟩ argsL.toArray) :
    (∃ (v : Option Value) (vm₁ : Vm) (B : Pt), s.WarmedH vm₁ ∧ Stand p l e R s m args below meth c B.U B.locs B.cells B.slots ∧ Post ⟨T.setVm vm₁, locs, cells, slots⟩ argsL.toArray v B ∧
      ∀ target, Steps p.tables e below (B.U.setTop { g with pc := g.pc + 3, stack := v.toList ++ rest }) target → Steps p.tables e below (T.setTop g) target) ∨
    (∃ (q : Addr) (vm₁ : Vm) (B : Pt), s.WarmedH vm₁ ∧ Stand p l e R s m args below meth c B.U B.locs B.cells B.slots ∧ PostX ⟨T.setVm vm₁, locs, cells, slots⟩ argsL.toArray q B ∧
      Steps p.tables e below (T.setTop g) ((B.U.setTop { g with stack := rest }).pushFrame (.throwing q))) := by
  obtain ⟨mk, hnamed⟩ := Cond.code_named hcode
  obtain ⟨methM, cM, hmethM, -, -, -, -, -, -, hsigM⟩ := Cond.code_spec hnamed hcode
  have hstatic : methM.isStatic = true := Cond.static_spec hnamed hmethM hstat
  obtain ⟨kP, hkP, -⟩ := className_of_methodNamed hnamed
  have hinitP : kP.init = .initialized := Cond.initialized_spec (findClass_of_methodNamed hnamed) hkP hinit
  obtain ⟨vm₁, X₁, hstep₁⟩ := X.invokestatic hexec hown hlink hnamed hmethM hstatic hkP hinitP hy (g := g) hg (argsL := argsL) (rest := rest) (hlen _ hsigM) hstack hdg
  rcases hK m meth c ⟨T.setVm vm₁, locs, cells, slots⟩ { g with stack := rest } (.invokestatic index) mk argsL.toArray X₁ hg hsize hdg hW (X₁.named hnamed) (hpre vm₁ X₁.warmed) with ⟨v, B, X', hpost, hsteps⟩ | ⟨q, B, X', hpost, hsteps⟩
  · exact Or.inl ⟨v, vm₁, B, X₁.warmed, X', hpost, fun target h => hstep₁ _ fun acts => by rw [doInvoke_state]; exact hsteps.trans h⟩
  · exact Or.inr ⟨q, vm₁, B, X₁.warmed, X', hpost, hstep₁ _ fun acts => by rw [doInvoke_state]; exact hsteps⟩
end Calls
theorem vx_cls {s : State} {T : State} {vm₁ : Vm} {E : String} {k : ClassId} (hW : s.WarmedH vm₁) (h : (T.setVm vm₁).vm.findClass E = some k) : s.vm.findClass E = some k := by
  have h1 : vm₁.findClass E = some k := h
  rw [hW.alike.findClass] at h1
  exact h1
/-- the method's frame g, with q thrown over it -/
def vx_W (p : Program) (l : Launch) (e : Env) (R : Room) (s : State) (m : MethodId) (args : Array Value) (below : List Frame) (meth : Method) (c : Code) (H : Heap) (locs : List Loc) (cells slots : Nat) (Q : State → Prop) (g : JFrame) (q : Addr) : Prop :=
  ∀ T : State, T.heap = H → Stand p l e R s m args below meth c T locs cells slots → ∃ t, Steps p.tables e below ((T.setTop g).pushFrame (.throwing q)) t ∧ Q t
def vx_Run (p : Program) (l : Launch) (e : Env) (R : Room) (s : State) (m : MethodId) (args : Array Value) (below : List Frame) (meth : Method) (c : Code) (H : Heap) (locs : List Loc) (cells slots mc ms : Nat) (g : JFrame) (rest : List Value) (Qa : State → Outcome → State → Prop) (XC : String → State → State → Prop) (free : Addr → Prop) : Prop :=
  ∀ T : State, T.heap = H → Stand p l e R s m args below meth c T locs cells slots →
    (∃ (v : Option Value) (st₀ t T' : State) (L : List Loc), st₀.heap = H ∧ Stand p l e R s m args below meth c T' (locs ++ L) (cells + mc) (slots + ms) ∧ (∀ q ∈ L, free q.base) ∧ T'.heap = t.heap ∧ T'.vm = t.vm ∧ Qa st₀ (.returned v) t ∧
      Goes p e below T g T' { g with pc := g.pc + 3, stack := v.toList ++ rest }) ∨
    (∃ (q : Addr) (st₀ t T' : State) (L : List Loc) (E : String) (ce : Cell), st₀.heap = H ∧ Stand p l e R s m args below meth c T' (locs ++ L) (cells + mc) (slots + ms) ∧ (∀ z ∈ L, free z.base) ∧ T'.heap = t.heap ∧ T'.vm = t.vm ∧ XC E st₀ t ∧ t.heap[q]? = some ce ∧ ce.vm = .none ∧ s.vm.findClass E = some ce.cls ∧
      Steps p.tables e below (T.setTop g) ((T'.setTop { g with stack := rest }).pushFrame (.throwing q)))
def vx_X {S : Type} (px : S → Prop) (B : String → S → State → Prop) (A : Nat → Prop) : String → State → State → Prop := fun E st t => ∃ u : S, px u ∧ B E u t ∧ va_F A st t
section Runs
variable {p : Program} {l : Launch} {e : Env} {R : Room} {s : State} {m : MethodId} {args : Array Value} {below : List Frame} {meth : Method} {c : Code} {H : Heap} {locs : List Loc} {cells slots : Nat}
variable {y : MethodName} {bytes cc : ByteArray} {maxL nL mc ms n index : Nat} {ret : Option FieldType} {ws : List Cond} {rm : Room} {Pc : Array Value → State → Prop} {Qc : Array Value → State → Outcome → State → Prop} {XC : String → State → State → Prop} {free : Addr → Prop} {Ts : List Cond} {own C : String} {b : Addr} {As rest : List Value} {g : JFrame}
theorem vx_callBack (cb : CallB R s args own index y bytes maxL ret ws rm mc ms n) (hM : vx_Met l y ws rm Pc Qc XC mc ms free) (hbl : FrameBlind Pc) : vx_Back l R p e below s args y 3 8 (PreOf R mc ms Pc) (PostOf Qc mc ms free) (vx_Post XC mc ms free) := by
  obtain ⟨hrc, hrs, hfr, hlo, hws, hcw, -, hini, -⟩ := cb
  exact vx_back (bytes := bytes) (maxL := maxL) (ret := ret) hM hbl hrc hrs hfr hlo hws hcw (fun a' U hW => word_at hW (Or.inl (by first | rfl | simp [Cond.onTables, Cond.keeps, Cond.steady])) hini)
theorem vx_runV (S : CallFix p m c cc nL s args Ts own) (hM : vx_Met l y ws rm Pc Qc XC mc ms free) (cw : CallW R s args own C index y bytes maxL ret ws rm mc ms n) (hp : PreV s H C b Pc As)
    (hg : g.method = m) (hn : As.length = n) (hsize : g.locals.size = nL) (hstack : g.stack = As.reverse ++ .ref b :: rest) (hW : 2 * g.monitorRoom + (rest.map fun v => v.category).sum ≤ 8) (hdg : decode cc g.pc = .ok (.invokevirtual index, 3)) (hf : cells + mc ≤ R.cells ∧ slots + ms ≤ R.slots) :
    vx_Run p l e R s m args below meth c H locs cells slots mc ms g rest (Qc (Value.ref b :: As).toArray) XC free := by
  have hK : vx_Back l R p e below s args y 3 8 (PreOf R mc ms Pc) (PostOf Qc mc ms free) (vx_Post XC mc ms free) := vx_callBack cw.1 hM hp.1
  obtain ⟨⟨-, -, -, -, -, -, hcode, -, hy, hlen, hl⟩, hin, hse⟩ := cw
  obtain ⟨hx, hb, hml, ho, -⟩ := S
  obtain ⟨-, ⟨cellB, hcB, hoB, hclB⟩, hPc⟩ := hp
  intro T hT X
  rcases vx_callV X hx (C := C) (bytes := bytes) (maxL := maxL) (ret := ret) ho hl hin hse hcode hy hK (by rw [hT]; exact hcB) hoB hclB hg (hsize.trans hml.symm) (argsL := As) (rest := rest) (fun sig h => hn.trans (hlen sig h)) hstack hW (by rw [hb]; exact hdg)
    (fun vm₁ hW₁ => ⟨hf.1, hf.2, hPc (T.setVm vm₁) hT hW₁⟩) with ⟨v, vm₁, ⟨U', l2, c2, s2⟩, hW₁, X', ⟨g', mk, t, L, e1, e2, hq, h1, hL, h2, h3⟩, st⟩ | ⟨q, vm₁, ⟨U', l2, c2, s2⟩, hW₁, X', ⟨g', mk, t, L, E, ce, e1, e2, hq, hce, hcv, hcl, h1, hL, h2, h3⟩, st⟩
  · dsimp only [Pt.U, Pt.locs, Pt.cells, Pt.slots] at X' e1 e2 h1 h2 h3 st
    subst h1; subst h2; subst h3
    exact Or.inl ⟨v, (T.setVm vm₁).calling g' mk (Value.ref b :: As).toArray, t, U', L, hT, X', hL, e1, e2, hq, st⟩
  · dsimp only [Pt.U, Pt.locs, Pt.cells, Pt.slots] at X' e1 e2 h1 h2 h3 st hcl
    subst h1; subst h2; subst h3
    exact Or.inr ⟨q, (T.setVm vm₁).calling g' mk (Value.ref b :: As).toArray, t, U', L, E, ce, hT, X', hL, e1, e2, hq, hce, hcv, vx_cls hW₁ hcl, st⟩
theorem vx_runS (S : CallFix p m c cc nL s args Ts own) (hM : vx_Met l y ws rm Pc Qc XC mc ms free) (cw : CallB R s args own index y bytes maxL ret ws rm mc ms n ∧ (Cond.static y).before args s = true) (hp : PreS s H Pc As)
    (hg : g.method = m) (hn : As.length = n) (hsize : g.locals.size = nL) (hstack : g.stack = As.reverse ++ rest) (hW : 2 * g.monitorRoom + (rest.map fun v => v.category).sum ≤ 8) (hdg : decode cc g.pc = .ok (.invokestatic index, 3)) (hf : cells + mc ≤ R.cells ∧ slots + ms ≤ R.slots) :
    vx_Run p l e R s m args below meth c H locs cells slots mc ms g rest (Qc As.toArray) XC free := by
  have hK : vx_Back l R p e below s args y 3 8 (PreOf R mc ms Pc) (PostOf Qc mc ms free) (vx_Post XC mc ms free) := vx_callBack cw.1 hM hp.1
  obtain ⟨⟨-, -, -, -, -, -, hcode, hini, hy, hlen, hl⟩, hstt⟩ := cw
  obtain ⟨hx, hb, hml, ho, -⟩ := S
  intro T hT X
  rcases vx_callS X hx (bytes := bytes) (maxL := maxL) (ret := ret) ho hl hstt hini hcode hy hK hg (hsize.trans hml.symm) (argsL := As) (rest := rest) (fun sig h => hn.trans (hlen sig h)) hstack hW (by rw [hb]; exact hdg)
    (fun vm₁ hW₁ => ⟨hf.1, hf.2, hp.2 (T.setVm vm₁) hT hW₁⟩) with ⟨v, vm₁, ⟨U', l2, c2, s2⟩, hW₁, X', ⟨g', mk, t, L, e1, e2, hq, h1, hL, h2, h3⟩, st⟩ | ⟨q, vm₁, ⟨U', l2, c2, s2⟩, hW₁, X', ⟨g', mk, t, L, E, ce, e1, e2, hq, hce, hcv, hcl, h1, hL, h2, h3⟩, st⟩
  · dsimp only [Pt.U, Pt.locs, Pt.cells, Pt.slots] at X' e1 e2 h1 h2 h3 st
    subst h1; subst h2; subst h3
    exact Or.inl ⟨v, (T.setVm vm₁).calling g' mk As.toArray, t, U', L, hT, X', hL, e1, e2, hq, st⟩
  · dsimp only [Pt.U, Pt.locs, Pt.cells, Pt.slots] at X' e1 e2 h1 h2 h3 st hcl
    subst h1; subst h2; subst h3
    exact Or.inr ⟨q, (T.setVm vm₁).calling g' mk As.toArray, t, U', L, E, ce, hT, X', hL, e1, e2, hq, hce, hcv, vx_cls hW₁ hcl, st⟩
end Runs
section Rows
variable {p : Program} {l : Launch} {e : Env} {R : Room} {s : State} {m : MethodId} {args : Array Value} {below : List Frame} {meth : Method} {c : Code} {H : Heap} {locs : List Loc} {cells slots : Nat} {Q : State → Prop}
variable {mc ms : Nat} {free : Addr → Prop} {A0 A1 : Nat → Prop} {H0 : Heap} {a : Array Value} {pc : Nat} {ls : Array Slot} {st0 rest : List Value}
theorem vx_keep {st₀ t T' : State} {L : List Loc} (h0 : st₀.heap = H) (e1 : T'.heap = t.heap) (hS : va_S A0 H0 H locs) (hA : ∀ q, q < H.size → A1 q → A0 q) (hf : ∀ q, free q → A0 q) (hL : ∀ q ∈ L, free q.base) (hF : va_F A1 st₀ t) :
    H.size ≤ T'.heap.size ∧ (∀ q : Nat, q < H.size → ¬ A1 q → T'.heap[q]? = H[q]?) ∧ va_S A0 H0 T'.heap (locs ++ L) := by
  obtain ⟨hz, hk⟩ := hF
  rw [h0] at hz hk
  exact ⟨by rw [e1]; exact hz, fun q h1 h2 => by rw [e1]; exact hk q h1 h2,
    ⟨Nat.le_trans hS.1 (by rw [e1]; exact hz), fun q h1 h2 => by rw [e1, hk q (Nat.lt_of_lt_of_le h1 hS.1) (fun z => h2 (hA q (Nat.lt_of_lt_of_le h1 hS.1) z))]; exact hS.2.1 q h1 h2, fun q hq => by
      rcases List.mem_append.mp hq with h | h
      · exact hS.2.2 q h
      · exact hf _ (hL q h)⟩⟩
theorem vx_calli {S SX : Type} {post : Int32 → S → Prop} {px : SX → Prop} {B : S → State → Prop} {BX : String → SX → State → Prop} {AX : Nat → Prop} (hr : vx_Run p l e R s m args below meth c H locs cells slots mc ms (F0 m pc ls st0) rest (va_Qi post B A1 a) (vx_X px BX AX) free) (hS : va_S A0 H0 H locs) (hA : ∀ q, q < H.size → A1 q → A0 q) (hf : ∀ q, free q → A0 q) (hAX : ∀ q, q < H.size → AX q → A0 q)
    (kx : ∀ (E : String) (ce : Cell) (q9 : Addr) (u : SX) (t : State) (H1 : Heap) (locs1 : List Loc), t.heap = H1 → s.vm.Alike t.vm → px u → BX E u t → H.size ≤ H1.size → (∀ q : Nat, q < H.size → ¬ AX q → H1[q]? = H[q]?) → va_S A0 H0 H1 locs1 → H1[q9]? = some ce → ce.vm = .none → s.vm.findClass E = some ce.cls → vx_W p l e R s m args below meth c H1 locs1 (cells + mc) (slots + ms) Q (F0 m pc ls rest) q9)
    (kk : ∀ (r : Int32) (u : S) (t : State) (H1 : Heap) (locs1 : List Loc), t.heap = H1 → s.vm.Alike t.vm → post r u → B u t → H.size ≤ H1.size → (∀ q : Nat, q < H.size → ¬ A1 q → H1[q]? = H[q]?) → va_S A0 H0 H1 locs1 → W p l e R s m args below meth c H1 locs1 (cells + mc) (slots + ms) Q (F0 m (pc + 3) ls (.int r :: rest))) : W p l e R s m args below meth c H locs cells slots Q (F0 m pc ls st0) := by
  intro T hT X
  rcases hr T hT X with ⟨v, st₀, t, T', L, h0, X', hL, e1, e2, ⟨⟨r, u, hv, hp, hb⟩, hF⟩, st⟩ | ⟨q, st₀, t, T', L, E, ce, h0, X', hL, e1, e2, ⟨u, hp, hb, hF⟩, hce, hcv, hcl, st⟩
  · cases hv
    obtain ⟨k1, k2, k3⟩ := vx_keep h0 e1 hS hA hf hL hF
    obtain ⟨t2, a1, b1⟩ := kk r u t T'.heap (locs ++ L) e1.symm (by rw [← e2]; exact X'.warmed.alike) hp hb k1 k2 k3 T' rfl X'
    exact ⟨t2, st t2 a1, b1⟩
  · obtain ⟨k1, k2, k3⟩ := vx_keep h0 e1 hS hAX hf hL hF
    obtain ⟨t2, a1, b1⟩ := kx E ce q u t T'.heap (locs ++ L) e1.symm (by rw [← e2]; exact X'.warmed.alike) hp hb k1 k2 k3 (by rw [e1]; exact hce) hcv hcl T' rfl X'
    exact ⟨t2, st.trans a1, b1⟩
theorem vx_calll {S SX : Type} {post : Int64 → S → Prop} {px : SX → Prop} {B : S → State → Prop} {BX : String → SX → State → Prop} {AX : Nat → Prop} (hr : vx_Run p l e R s m args below meth c H locs cells slots mc ms (F0 m pc ls st0) rest (va_Ql post B A1 a) (vx_X px BX AX) free) (hS : va_S A0 H0 H locs) (hA : ∀ q, q < H.size → A1 q → A0 q) (hf : ∀ q, free q → A0 q) (hAX : ∀ q, q < H.size → AX q → A0 q)
    (kx : ∀ (E : String) (ce : Cell) (q9 : Addr) (u : SX) (t : State) (H1 : Heap) (locs1 : List Loc), t.heap = H1 → s.vm.Alike t.vm → px u → BX E u t → H.size ≤ H1.size → (∀ q : Nat, q < H.size → ¬ AX q → H1[q]? = H[q]?) → va_S A0 H0 H1 locs1 → H1[q9]? = some ce → ce.vm = .none → s.vm.findClass E = some ce.cls → vx_W p l e R s m args below meth c H1 locs1 (cells + mc) (slots + ms) Q (F0 m pc ls rest) q9)
    (kk : ∀ (r : Int64) (u : S) (t : State) (H1 : Heap) (locs1 : List Loc), t.heap = H1 → s.vm.Alike t.vm → post r u → B u t → H.size ≤ H1.size → (∀ q : Nat, q < H.size → ¬ A1 q → H1[q]? = H[q]?) → va_S A0 H0 H1 locs1 → W p l e R s m args below meth c H1 locs1 (cells + mc) (slots + ms) Q (F0 m (pc + 3) ls (.long r :: rest))) : W p l e R s m args below meth c H locs cells slots Q (F0 m pc ls st0) := by
  intro T hT X
  rcases hr T hT X with ⟨v, st₀, t, T', L, h0, X', hL, e1, e2, ⟨⟨r, u, hv, hp, hb⟩, hF⟩, st⟩ | ⟨q, st₀, t, T', L, E, ce, h0, X', hL, e1, e2, ⟨u, hp, hb, hF⟩, hce, hcv, hcl, st⟩
  · cases hv
    obtain ⟨k1, k2, k3⟩ := vx_keep h0 e1 hS hA hf hL hF
    obtain ⟨t2, a1, b1⟩ := kk r u t T'.heap (locs ++ L) e1.symm (by rw [← e2]; exact X'.warmed.alike) hp hb k1 k2 k3 T' rfl X'
    exact ⟨t2, st t2 a1, b1⟩
  · obtain ⟨k1, k2, k3⟩ := vx_keep h0 e1 hS hAX hf hL hF
    obtain ⟨t2, a1, b1⟩ := kx E ce q u t T'.heap (locs ++ L) e1.symm (by rw [← e2]; exact X'.warmed.alike) hp hb k1 k2 k3 (by rw [e1]; exact hce) hcv hcl T' rfl X'
    exact ⟨t2, st.trans a1, b1⟩
theorem vx_callf {S SX : Type} {post : UInt32 → S → Prop} {px : SX → Prop} {B : S → State → Prop} {BX : String → SX → State → Prop} {AX : Nat → Prop} (hr : vx_Run p l e R s m args below meth c H locs cells slots mc ms (F0 m pc ls st0) rest (va_Qf post B A1 a) (vx_X px BX AX) free) (hS : va_S A0 H0 H locs) (hA : ∀ q, q < H.size → A1 q → A0 q) (hf : ∀ q, free q → A0 q) (hAX : ∀ q, q < H.size → AX q → A0 q)
    (kx : ∀ (E : String) (ce : Cell) (q9 : Addr) (u : SX) (t : State) (H1 : Heap) (locs1 : List Loc), t.heap = H1 → s.vm.Alike t.vm → px u → BX E u t → H.size ≤ H1.size → (∀ q : Nat, q < H.size → ¬ AX q → H1[q]? = H[q]?) → va_S A0 H0 H1 locs1 → H1[q9]? = some ce → ce.vm = .none → s.vm.findClass E = some ce.cls → vx_W p l e R s m args below meth c H1 locs1 (cells + mc) (slots + ms) Q (F0 m pc ls rest) q9)
    (kk : ∀ (r : UInt32) (u : S) (t : State) (H1 : Heap) (locs1 : List Loc), t.heap = H1 → s.vm.Alike t.vm → post r u → B u t → H.size ≤ H1.size → (∀ q : Nat, q < H.size → ¬ A1 q → H1[q]? = H[q]?) → va_S A0 H0 H1 locs1 → W p l e R s m args below meth c H1 locs1 (cells + mc) (slots + ms) Q (F0 m (pc + 3) ls (.float r :: rest))) : W p l e R s m args below meth c H locs cells slots Q (F0 m pc ls st0) := by
  intro T hT X
  rcases hr T hT X with ⟨v, st₀, t, T', L, h0, X', hL, e1, e2, ⟨⟨r, u, hv, hp, hb⟩, hF⟩, st⟩ | ⟨q, st₀, t, T', L, E, ce, h0, X', hL, e1, e2, ⟨u, hp, hb, hF⟩, hce, hcv, hcl, st⟩
  · cases hv
    obtain ⟨k1, k2, k3⟩ := vx_keep h0 e1 hS hA hf hL hF
    obtain ⟨t2, a1, b1⟩ := kk r u t T'.heap (locs ++ L) e1.symm (by rw [← e2]; exact X'.warmed.alike) hp hb k1 k2 k3 T' rfl X'
    exact ⟨t2, st t2 a1, b1⟩
  · obtain ⟨k1, k2, k3⟩ := vx_keep h0 e1 hS hAX hf hL hF
    obtain ⟨t2, a1, b1⟩ := kx E ce q u t T'.heap (locs ++ L) e1.symm (by rw [← e2]; exact X'.warmed.alike) hp hb k1 k2 k3 (by rw [e1]; exact hce) hcv hcl T' rfl X'
    exact ⟨t2, st.trans a1, b1⟩
theorem vx_calld {S SX : Type} {post : UInt64 → S → Prop} {px : SX → Prop} {B : S → State → Prop} {BX : String → SX → State → Prop} {AX : Nat → Prop} (hr : vx_Run p l e R s m args below meth c H locs cells slots mc ms (F0 m pc ls st0) rest (va_Qd post B A1 a) (vx_X px BX AX) free) (hS : va_S A0 H0 H locs) (hA : ∀ q, q < H.size → A1 q → A0 q) (hf : ∀ q, free q → A0 q) (hAX : ∀ q, q < H.size → AX q → A0 q)
    (kx : ∀ (E : String) (ce : Cell) (q9 : Addr) (u : SX) (t : State) (H1 : Heap) (locs1 : List Loc), t.heap = H1 → s.vm.Alike t.vm → px u → BX E u t → H.size ≤ H1.size → (∀ q : Nat, q < H.size → ¬ AX q → H1[q]? = H[q]?) → va_S A0 H0 H1 locs1 → H1[q9]? = some ce → ce.vm = .none → s.vm.findClass E = some ce.cls → vx_W p l e R s m args below meth c H1 locs1 (cells + mc) (slots + ms) Q (F0 m pc ls rest) q9)
    (kk : ∀ (r : UInt64) (u : S) (t : State) (H1 : Heap) (locs1 : List Loc), t.heap = H1 → s.vm.Alike t.vm → post r u → B u t → H.size ≤ H1.size → (∀ q : Nat, q < H.size → ¬ A1 q → H1[q]? = H[q]?) → va_S A0 H0 H1 locs1 → W p l e R s m args below meth c H1 locs1 (cells + mc) (slots + ms) Q (F0 m (pc + 3) ls (.double r :: rest))) : W p l e R s m args below meth c H locs cells slots Q (F0 m pc ls st0) := by
  intro T hT X
  rcases hr T hT X with ⟨v, st₀, t, T', L, h0, X', hL, e1, e2, ⟨⟨r, u, hv, hp, hb⟩, hF⟩, st⟩ | ⟨q, st₀, t, T', L, E, ce, h0, X', hL, e1, e2, ⟨u, hp, hb, hF⟩, hce, hcv, hcl, st⟩
  · cases hv
    obtain ⟨k1, k2, k3⟩ := vx_keep h0 e1 hS hA hf hL hF
    obtain ⟨t2, a1, b1⟩ := kk r u t T'.heap (locs ++ L) e1.symm (by rw [← e2]; exact X'.warmed.alike) hp hb k1 k2 k3 T' rfl X'
    exact ⟨t2, st t2 a1, b1⟩
  · obtain ⟨k1, k2, k3⟩ := vx_keep h0 e1 hS hAX hf hL hF
    obtain ⟨t2, a1, b1⟩ := kx E ce q u t T'.heap (locs ++ L) e1.symm (by rw [← e2]; exact X'.warmed.alike) hp hb k1 k2 k3 (by rw [e1]; exact hce) hcv hcl T' rfl X'
    exact ⟨t2, st.trans a1, b1⟩
theorem vx_callv {S SX : Type} {post : S → Prop} {px : SX → Prop} {B : S → State → Prop} {BX : String → SX → State → Prop} {AX : Nat → Prop} (hr : vx_Run p l e R s m args below meth c H locs cells slots mc ms (F0 m pc ls st0) rest (va_Qv post B A1 a) (vx_X px BX AX) free) (hS : va_S A0 H0 H locs) (hA : ∀ q, q < H.size → A1 q → A0 q) (hf : ∀ q, free q → A0 q) (hAX : ∀ q, q < H.size → AX q → A0 q)
    (kx : ∀ (E : String) (ce : Cell) (q9 : Addr) (u : SX) (t : State) (H1 : Heap) (locs1 : List Loc), t.heap = H1 → s.vm.Alike t.vm → px u → BX E u t → H.size ≤ H1.size → (∀ q : Nat, q < H.size → ¬ AX q → H1[q]? = H[q]?) → va_S A0 H0 H1 locs1 → H1[q9]? = some ce → ce.vm = .none → s.vm.findClass E = some ce.cls → vx_W p l e R s m args below meth c H1 locs1 (cells + mc) (slots + ms) Q (F0 m pc ls rest) q9)
    (kk : ∀ (u : S) (t : State) (H1 : Heap) (locs1 : List Loc), t.heap = H1 → s.vm.Alike t.vm → post u → B u t → H.size ≤ H1.size → (∀ q : Nat, q < H.size → ¬ A1 q → H1[q]? = H[q]?) → va_S A0 H0 H1 locs1 → W p l e R s m args below meth c H1 locs1 (cells + mc) (slots + ms) Q (F0 m (pc + 3) ls (rest))) : W p l e R s m args below meth c H locs cells slots Q (F0 m pc ls st0) := by
  intro T hT X
  rcases hr T hT X with ⟨v, st₀, t, T', L, h0, X', hL, e1, e2, ⟨⟨u, hv, hp, hb⟩, hF⟩, st⟩ | ⟨q, st₀, t, T', L, E, ce, h0, X', hL, e1, e2, ⟨u, hp, hb, hF⟩, hce, hcv, hcl, st⟩
  · cases hv
    obtain ⟨k1, k2, k3⟩ := vx_keep h0 e1 hS hA hf hL hF
    obtain ⟨t2, a1, b1⟩ := kk u t T'.heap (locs ++ L) e1.symm (by rw [← e2]; exact X'.warmed.alike) hp hb k1 k2 k3 T' rfl X'
    exact ⟨t2, st t2 a1, b1⟩
  · obtain ⟨k1, k2, k3⟩ := vx_keep h0 e1 hS hAX hf hL hF
    obtain ⟨t2, a1, b1⟩ := kx E ce q u t T'.heap (locs ++ L) e1.symm (by rw [← e2]; exact X'.warmed.alike) hp hb k1 k2 k3 (by rw [e1]; exact hce) hcv hcl T' rfl X'
    exact ⟨t2, st.trans a1, b1⟩
/-- caught by the row x of this method's table; the rows ahead don't take it -/
theorem vx_catch {own name : String} {E : String} {ce : Cell} {q : Addr} (hown : s.vm.findClass own = some m.cls) (pre : List ExceptionTableEntry) (x : ExceptionTableEntry) (suf : List ExceptionTableEntry) (hsplit : c.exceptionTable.toList = pre ++ x :: suf)
    (hpass : ∀ z ∈ pre, covers z pc = false ∨ (z.catchType ≠ 0 ∧ ∃ nm : String, (Cond.classLink own z.catchType nm).before args s = true ∧ va_Nc E nm s)) (hx : covers x pc = true) (h0 : x.catchType ≠ 0)
    (hlink : (Cond.classLink own x.catchType name).before args s = true) (hcast : (Cond.castable E name).before args s = true) (hcell : H[q]? = some ce) (hv : ce.vm = .none) (hcl : s.vm.findClass E = some ce.cls)
    (kk : W p l e R s m args below meth c H locs cells slots Q (F0 m x.handlerPc ls [.ref q])) : vx_W p l e R s m args below meth c H locs cells slots Q (F0 m pc ls rest) q := by
  intro T hT X
  have hpl : e.platform.magicAccessors = ({} : Platform).magicAccessors := by rw [X.admits.platform]
  obtain ⟨c3, c4, hc3, hc4, hasg⟩ := Cond.castable_spec hcast
  cases Option.some.inj (hc3.symm.trans hcl)
  obtain ⟨c5, hc5, hcl5⟩ := Cond.classLink_spec hown hlink e.platform hpl
  cases Option.some.inj (hc4.symm.trans hc5)
  obtain ⟨vm', X', st⟩ := X.thenCaughtThrough q (g := F0 m pc ls rest) rfl (Steps.refl _) (by rw [hT]; exact hcell) (by rw [hv]; rfl) (by obtain ⟨k9, h9, -⟩ := Vm.findClass_spec hcl; exact ⟨k9, h9⟩) pre x suf hsplit
    (fun z hz => by
      rcases hpass z hz with h | ⟨hz0, nm, hl1, hn1⟩
      · exact Or.inl h
      · obtain ⟨c6, hc6, hcl6⟩ := Cond.classLink_spec hown hl1 e.platform hpl
        obtain ⟨a8, b8, h1, h2, h3⟩ := hn1
        cases Option.some.inj (h1.symm.trans hcl)
        cases Option.some.inj (h2.symm.trans hc6)
        exact Or.inr ⟨hz0, _, hcl6, h3⟩) hx (Or.inr ⟨h0, c4, hcl5, hasg⟩)
  obtain ⟨t, a1, b1⟩ := kk (T.setVm vm') hT X'
  exact ⟨t, st.trans a1, b1⟩
end Rows
section Ends
variable {p : Program} {l : Launch} {e : Env} {R : Room} {s : State} {m : MethodId} {args : Array Value} {below : List Frame} {meth : Method} {c : Code} {H : Heap} {locs : List Loc} {cells slots : Nat} {Q : State → Prop}
variable {mc ms : Nat} {free : Addr → Prop} {A0 A1 : Nat → Prop} {H0 : Heap} {a : Array Value} {ls : Array Slot} {st0 rest : List Value}
variable {Qc : Array Value → State → Outcome → State → Prop} {XC : String → State → State → Prop}
/-- what a body that may throw owes at its end -/
def vx_MQ (below : List Frame) (Qc : Array Value → State → Outcome → State → Prop) (XC : String → State → State → Prop) (a : Array Value) (s : State) (mc ms : Nat) (free : Addr → Prop) : State → Prop := fun t =>
  ∃ o, t.status = .running ∧ Ended t below o ∧ vx_Q Qc XC mc ms free a s o t
theorem vx_ret {g : JFrame} {mc ms : Nat} (k : W p l e R s m args below meth c H locs cells slots (MQ below Qc args s mc ms free) g) : W p l e R s m args below meth c H locs cells slots (vx_MQ below Qc XC args s mc ms free) g := by
  intro T hT X
  obtain ⟨t, a1, o, b1, b2, b3, b4⟩ := k T hT X
  exact ⟨t, a1, o, b1, b2, Or.inl ⟨b3, b4⟩⟩
/-- not caught here: it goes on to the caller -/
theorem vx_widen {g : JFrame} {q : Addr} {k n : Nat} (h1 : cells ≤ k) (h2 : slots ≤ n) (kk : vx_W p l e R s m args below meth c H locs k n Q g q) : vx_W p l e R s m args below meth c H locs cells slots Q g q := fun T hT X => kk T hT (stand_widen X h1 h2)
theorem vx_out {pc : Nat} {E : String} {ce : Cell} {q : Addr} {mc ms : Nat} (hout : ∀ x ∈ c.exceptionTable.toList, covers x pc = false) (hlocks : meth.locks = false) (hcell : H[q]? = some ce) (hv : ce.vm = .none) (hcl : s.vm.findClass E = some ce.cls)
    (hx : ∀ t : State, t.heap = H → s.vm.Alike t.vm → XC E s t) (hf : ∀ z ∈ locs, free z.base) (hc : cells ≤ mc) (hs : slots ≤ ms) :
    vx_W p l e R s m args below meth c H locs cells slots (vx_MQ below Qc XC args s mc ms free) (F0 m pc ls rest) q := by
  intro T hT X
  obtain ⟨st1, hrun, hend, hW, hsm⟩ := X.leaveThrown q (g := F0 m pc ls rest) rfl rfl rfl hout hlocks
  have hcell9 : (T.setFrames (.throwing q :: below)).heap[q]? = some ce := by
    show T.heap[q]? = some ce
    rw [hT]; exact hcell
  exact ⟨_, st1, .threw q, hrun, hend, Or.inr ⟨q, rfl, E, ce, locs, hx _ hT hW.alike, hcell9, hv, hcl, hW, hsm.mono hc hs, hf⟩⟩
theorem vx_frame {U : State} {k n : Nat} (h : s.sameButNew ({ U with vm := s.vm } : State) locs k n) : s.heap.size ≤ U.heap.size ∧ ∀ q : Nat, q < s.heap.size → (∀ z ∈ locs, z.base ≠ q) → U.heap[q]? = s.heap[q]? := by
  obtain ⟨-, h2, -, -, -, h6⟩ := h
  refine ⟨h2, fun q hq hz => ?_⟩
  obtain ⟨c9, e1, e2, e3, e4⟩ := h6 q _ (Array.getElem?_eq_getElem hq)
  have hs : c9.slots = (s.heap[q]).slots := Array.ext_getElem? fun i => e4 i fun hm => hz _ hm rfl
  have h9 : c9 = s.heap[q] := by
    rw [hs] at e2
    exact e2
  have e5 : U.heap[q]? = some c9 := e1
  rw [e5, h9, Array.getElem?_eq_getElem hq]
/-- the words of a throw but the four that speak of the heap -/
def vx_no (w : Cond) : Bool := decide (w ≠ .isRef (.static Bundle.tN "UNASSIGNED_STACK" Bundle.steD)) && decide (w ≠ .isRef (.static Bundle.tN "SUPPRESSED_SENTINEL" Bundle.listD)) && decide (w ≠ .laysStatic Bundle.tN "UNASSIGNED_STACK" Bundle.steD) && decide (w ≠ .laysStatic Bundle.tN "SUPPRESSED_SENTINEL" Bundle.listD)
def vx_at0 (own : String) (ic : Nat) (X : String) (names : List String) : List Cond := (Bundle.ownAtoms0 own ic X names).filter vx_no
def vx_atS (own : String) (ic : Nat) (X : String) (names : List String) : List Cond := (Bundle.ownAtoms own ic X names).filter vx_no
/-- a word that the tables alone decide, or a good one -/
def vx_ot (w : Cond) : Bool := w.onTables || goodWord w
theorem vx_ot_at {args a' : Array Value} {s U : State} {w : Cond} (hW : s.WarmedH U.vm) (hvm : s.vm = U.vm) (hg : vx_ot w = true) (h : w.before args s = true) : w.before a' U = true := by
  simp only [vx_ot, Bool.or_eq_true] at hg
  rcases hg with hg | hg
  · exact va_tabs hg hvm h
  · exact word_at hW (good_of_word hg) h
/-- a list's words: the good ones out of the method's own list, the others by premises of their own -/
theorem vx_hat {args : Array Value} {s : State} {L B : List Cond} (h1 : ∀ w ∈ L.filter goodWord, w.before args s = true) (h2 : ∀ w ∈ L.filter (fun w => !goodWord w), w ∈ B) (h3 : ∀ w ∈ B, w.before args s = true) : ∀ w ∈ L, w.before args s = true := by
  intro w hw
  by_cases g : goodWord w = true
  · exact h1 w (List.mem_filter.mpr ⟨hw, g⟩)
  · refine h3 w (h2 w (List.mem_filter.mpr ⟨hw, ?_⟩))
    show (!goodWord w) = true
    cases hgw : goodWord w
    · rfl
    · exact absurd hgw g
theorem vx_c {args : Array Value} {s : State} {w : Cond} {B : List Cond} (h : w.before args s = true) (t : ∀ w ∈ B, w.before args s = true) : ∀ w' ∈ w :: B, w'.before args s = true := fun w' h' => (List.mem_cons.mp h').elim (fun e => by rw [e]; exact h) (t w')
theorem vx_n {args : Array Value} {s : State} : ∀ w ∈ ([] : List Cond), w.before args s = true := fun _ h => nomatch h
theorem vx_own {args : Array Value} {s : State} {L : List Cond} (h1 : ∀ w ∈ L.filter vx_no, w.before args s = true)
    (hU : (Cond.isRef (.static Bundle.tN "UNASSIGNED_STACK" Bundle.steD)).before args s = true) (hN : (Cond.isRef (.static Bundle.tN "SUPPRESSED_SENTINEL" Bundle.listD)).before args s = true)
    (lU : (Cond.laysStatic Bundle.tN "UNASSIGNED_STACK" Bundle.steD).before args s = true) (lN : (Cond.laysStatic Bundle.tN "SUPPRESSED_SENTINEL" Bundle.listD).before args s = true) : ∀ w ∈ L, w.before args s = true := by
  intro w hw
  by_cases e1 : w = .isRef (.static Bundle.tN "UNASSIGNED_STACK" Bundle.steD)
  · rw [e1]; exact hU
  · by_cases e2 : w = .isRef (.static Bundle.tN "SUPPRESSED_SENTINEL" Bundle.listD)
    · rw [e2]; exact hN
    · by_cases e3 : w = .laysStatic Bundle.tN "UNASSIGNED_STACK" Bundle.steD
      · rw [e3]; exact lU
      · by_cases e4 : w = .laysStatic Bundle.tN "SUPPRESSED_SENTINEL" Bundle.listD
        · rw [e4]; exact lN
        · exact h1 w (List.mem_filter.mpr ⟨hw, by unfold vx_no; rw [decide_eq_true e1, decide_eq_true e2, decide_eq_true e3, decide_eq_true e4]; rfl⟩)
/-- where a static field lies, its class's statics cell in H -/
def vx_L (C n d : String) (A : Nat → Prop) (U : State) (H : Heap) : Prop := ∃ (c : ClassId) (k : Class) (i : Nat) (f : Field) (a : Nat) (cell : Cell), U.vm.findClass C = some c ∧ U.fieldFound? C n d = some (c, k, i, f) ∧ f.isStatic = true ∧ k.statics = some a ∧ H[a]? = some cell ∧ cell.vm.isStatics = true ∧ cell.cls = c ∧ f.slot < cell.slots.size ∧ k.staticTypes[f.slot]? = some f.type ∧ ¬ A a
theorem vx_L.moved {C n d : String} {A : Nat → Prop} {u U : State} {H : Heap} (hvm : u.vm.Alike U.vm) (h : vx_L C n d A u H) : vx_L C n d A U H := by
  obtain ⟨c, k, i, f, a, cell, h1, h2, h3, h4, h5, h6, h7, h8, h9, h10⟩ := h
  obtain ⟨k', hi', he⟩ := State.fieldFound?_setVm hvm h2
  exact ⟨c, k', i, f, a, cell, by rw [hvm.findClass]; exact h1, hi', h3, by rw [he]; exact h4, h5, h6, h7, h8, by rw [he]; exact h9, h10⟩
theorem vx_L.kept {C n d : String} {A : Nat → Prop} {U : State} {H H1 : Heap} (h : vx_L C n d A U H) (hq : ∀ a : Nat, a < H.size → ¬ A a → H1[a]? = H[a]?) : vx_L C n d A U H1 := by
  obtain ⟨c, k, i, f, a, cell, h1, h2, h3, h4, h5, h6, h7, h8, h9, h10⟩ := h
  exact ⟨c, k, i, f, a, cell, h1, h2, h3, h4, by rw [hq a (Array.getElem?_eq_some_iff.mp h5).1 h10]; exact h5, h6, h7, h8, h9, h10⟩
theorem vx_L.narrow {C n d : String} {A B : Nat → Prop} {U : State} {H : Heap} (h : vx_L C n d A U H) (hAB : ∀ q, B q → A q) : vx_L C n d B U H := by
  obtain ⟨c, k, i, f, a, cell, h1, h2, h3, h4, h5, h6, h7, h8, h9, h10⟩ := h
  exact ⟨c, k, i, f, a, cell, h1, h2, h3, h4, h5, h6, h7, h8, h9, fun z => h10 (hAB _ z)⟩
theorem vx_L.word {C n d : String} {A : Nat → Prop} {s : State} {args : Array Value} (h : vx_L C n d A s s.heap) : (Cond.laysStatic C n d).before args s = true := by
  obtain ⟨c, k, i, f, a, cell, h1, h2, h3, h4, h5, h6, h7, h8, h9, -⟩ := h
  show (Cond.laysStatic C n d).holds args s none s [] = true
  exact Cond.laysStatic_of h1 h2 h3 h4 h5 h6 h7 h8 h9
/-- .. and what it holds: null or some reference -/
def vx_Zq (C n d : String) (A : Nat → Prop) (U : State) (H : Heap) : Prop := va_Zq C n d A U H ∧ vx_L C n d A U H
theorem vx_Zq.moved {C n d : String} {A : Nat → Prop} {u U : State} {H : Heap} (hvm : u.vm.Alike U.vm) (h : vx_Zq C n d A u H) : vx_Zq C n d A U H := ⟨va_Zq.moved hvm h.1, vx_L.moved hvm h.2⟩
theorem vx_Zq.kept {C n d : String} {A : Nat → Prop} {U : State} {H H1 : Heap} (h : vx_Zq C n d A U H) (hq : ∀ a : Nat, a < H.size → ¬ A a → H1[a]? = H[a]?) : vx_Zq C n d A U H1 := ⟨va_Zq.kept h.1 hq, vx_L.kept h.2 hq⟩
theorem vx_Zq.narrow {C n d : String} {A B : Nat → Prop} {U : State} {H : Heap} (h : vx_Zq C n d A U H) (hAB : ∀ q, B q → A q) : vx_Zq C n d B U H := ⟨va_Zq.narrow h.1 hAB, vx_L.narrow h.2 hAB⟩
theorem vx_Zqof {args : Array Value} {s : State} {C n d : String} {A : Nat → Prop} (hl : (Cond.laysStatic C n d).before args s = true) (hini : (Cond.initialized C).before args s = true) (h : (Cond.isRef (.static C n d)).before args s = true) (hA : ∀ a : Nat, a < s.heap.size → ¬ A a) : vx_Zq C n d A s s.heap := by
  refine ⟨va_Zqof hl hini h hA, ?_⟩
  obtain ⟨c, k, i, f, a, cell, h1, h2, h3, h4, h5, h6, h7, h8, h9⟩ := Cond.laysStatic_spec hl
  exact ⟨c, k, i, f, a, cell, h1, h2, h3, h4, h5, h6, h7, h8, h9, hA a (Array.getElem?_eq_some_iff.mp h5).1⟩
theorem vx_isRef {C n d : String} {v : Value} {A : Nat → Prop} {s : State} {args : Array Value} (h : va_Z C n d v A s s.heap) (hv : v.isRef = true) : (Cond.isRef (.static C n d)).before args s = true := by
  obtain ⟨cf, kf, fi, f, a, cell, h1, h2, h3, h4, h5, h6, h7, -⟩ := h
  have he : (Term.static C n d).eval args s none [] s = some v := by
    simp [Term.eval, State.fieldNamed?, h1, h2, h4, h5, h6, h7]
  simp only [Cond.before, Cond.holds, Cond.value, he]
  cases v <;> simp_all [Value.isRef]
theorem vx_isRefq {C n d : String} {A : Nat → Prop} {s : State} {args : Array Value} (h : va_Zq C n d A s s.heap) : (Cond.isRef (.static C n d)).before args s = true := by
  rcases h with h | ⟨t, h⟩
  · exact vx_isRef h rfl
  · exact vx_isRef h rfl
/-- the same frame, seen from here: as if the method were called anew in this heap -/
theorem vx_rebase {T : State} (X : Stand p l e R s m args below meth c T locs cells slots) {R' : Room} (hf : R'.frames ≤ R.frames) (hl : R'.locals ≤ R.locals) (hc : cells + R'.cells ≤ R.cells) (hs : slots + R'.slots ≤ R.slots) :
    Stand p l e R' ((T.setVm s.vm).setFrames (.invoking m args :: below)) m args below meth c T [] 0 0 := by
  have htop : (T.setVm s.vm).topJava?.isSome := X.here.top
  have hF : ((T.setVm s.vm).setFrames (.invoking m args :: below)).frames = .invoking m args :: below := State.frames_setFrames _ (State.cur_lt_of_top htop)
  obtain ⟨g₀, hg0⟩ := Option.isSome_iff_exists.mp htop
  obtain ⟨r, hr⟩ := State.topJava?_eq_some.mp hg0
  have hl9 : e.platform.stackLimits (T.setVm s.vm).me = e.platform.stackLimits s.me := X.limits
  have hb9 : (T.setVm s.vm).me.stackBytes = s.me.stackBytes := X.bytes
  refine ⟨X.admits, X.cas, X.clock, hF, ?_, X.hears, X.method, X.code, X.here, X.tail, X.warmed, ?_, ?_, ?_⟩
  · have h := X.room
    have hU : ((T.setVm s.vm).setFrames (.invoking m args :: below)).localsInUse = s.localsInUse := by
      rw [State.localsInUse_invoking hF (meth := meth) (c := c) X.method X.code, State.localsInUse_invoking X.frames X.method X.code]
    simp only [State.hasRoom, Bool.and_eq_true, decide_eq_true_eq] at h ⊢
    obtain ⟨⟨⟨⟨h1, h2, h3, h4, h5, h6⟩, h7⟩, h8⟩, h9⟩ := h
    rw [X.frames, List.length_cons] at h2 h3
    have q1 := X.heapSize
    have q2 := X.used
    simp only [hF, hU, List.length_cons, State.stackLimits_setFrames, State.stackBytes_setFrames, hl9, hb9]
    refine ⟨⟨⟨⟨by omega, by omega, by omega, by omega, by omega, h6⟩, ?_⟩, ?_⟩, X.book⟩
    · show T.heap.size + R'.cells ≤ e.platform.maxCells
      omega
    · show T.slotsUsed + R'.slots ≤ e.platform.maxSlots
      omega
  · rw [State.stackLimits_setFrames]; rfl
  · rw [State.stackBytes_setFrames]; rfl
  · refine ⟨?_, Nat.le_refl _, Nat.le_refl _, ?_, ?_, fun a c9 h9 => ⟨c9, h9, rfl, rfl, fun _ _ => rfl⟩⟩
    · obtain ⟨t, ht, -⟩ := State.frames_cons hr
      show T.setVm s.vm = { ((T.setVm s.vm).setFrames (.invoking m args :: below)).setFrames (T.setVm s.vm).frames with heap := T.heap, slotsUsed := T.slotsUsed }
      rw [State.setFrames_setFrames, State.setFrames_self ht]
      rfl
    · show T.slotsUsed = T.slotsUsed + ((T.heap.toList.drop T.heap.size).map (·.slots.size)).sum
      rw [List.drop_eq_nil_of_le (Nat.le_of_eq Array.length_toList)]
      rfl
    · show ((T.heap.toList.drop T.heap.size).map (·.slots.size)).sum ≤ 0
      rw [List.drop_eq_nil_of_le (Nat.le_of_eq Array.length_toList)]
      exact Nat.le_refl _
/-- 'throw new E()': new; dup; invokespecial; athrow -/
theorem vx_throw0 {cc : ByteArray} {pc : Nat} (hexec : p.tables.exec = Jvm.exec) (hb : c.code = cc) (hl : l.stackTraces = false) {own cls : String} {names : List String} {ik ic mc ms : Nat} {A : Nat → Prop}
    (hown : s.vm.findClass own = some m.cls) (hcls : Bundle.fit cls = true) (hnames : ∀ n ∈ names, Bundle.fit n = true)
    (hk : (Cond.classLink own ik cls).before args s = true) (hini : (Cond.initialized cls).before args s = true) (hat : ∀ w ∈ vx_at0 own ic cls names, w.before args s = true)
    (hgood : ∀ w ∈ Cond.classLink own ik cls :: Cond.initialized cls :: vx_at0 own ic cls names, vx_ot w = true)
    (hU : vx_Zq Bundle.tN "UNASSIGNED_STACK" Bundle.steD A s s.heap) (hN : vx_Zq Bundle.tN "SUPPRESSED_SENTINEL" Bundle.listD A s s.heap) (hS : va_S A s.heap H locs) (hsize : ls.size = c.maxLocals)
    (d0 : decode cc pc = .ok (.new ik, 3)) (d3 : decode cc (pc + 3) = .ok (.dup, 1)) (d4 : decode cc (pc + 4) = .ok (.invokespecial ic, 3)) (d7 : decode cc (pc + 7) = .ok (.athrow, 1))
    (hout : ∀ x ∈ c.exceptionTable.toList, covers x (pc + 7) = false)
    (hRframes : names.length + 3 < R.frames) (hRlocals : (rest.map fun v => v.category).sum + (13 * (names.length + 1) + 42) ≤ R.locals) (hRcells : cells + 1 ≤ R.cells) (hRslots : slots + 6 ≤ R.slots) (hlocks : meth.locks = false)
    (hx : ∀ t : State, s.vm.Alike t.vm → H.size ≤ t.heap.size → (∀ q : Nat, q < H.size → t.heap[q]? = H[q]?) → XC cls s t)
    (hf : ∀ z ∈ locs, free z.base) (hc : cells + 1 ≤ mc) (hs : slots + 6 ≤ ms) :
    W p l e R s m args below meth c H locs cells slots (vx_MQ below Qc XC args s mc ms free) (F0 m pc ls rest) := by
  intro T hT X
  have htr : e.platform.stackTraces = false := (show e.platform.stackTraces = l.stackTraces by rw [X.admits.platform]).trans hl
  have Y := vx_rebase X (R' := { frames := R.frames, locals := R.locals, cells := 1, slots := 6 }) (Nat.le_refl _) (Nat.le_refl _) hRcells hRslots
  obtain ⟨s', hA⟩ : ∃ z, z = (T.setVm s.vm).setFrames (.invoking m args :: below) := ⟨_, rfl⟩
  rw [← hA] at Y
  have hvm : s'.vm = s.vm := by rw [hA]; rfl
  have hhp : s'.heap = H := by rw [hA]; exact hT
  have hW0 : s.WarmedH s'.vm := by rw [hvm]; exact State.WarmedH.refl s
  have hat' : ∀ w ∈ vx_at0 own ic cls names, w.before args s' = true := fun w hw => vx_ot_at hW0 hvm.symm (hgood w (List.mem_cons_of_mem _ (List.mem_cons_of_mem _ hw))) (hat w hw)
  have hk' : (Cond.classLink own ik cls).before args s' = true := vx_ot_at hW0 hvm.symm (hgood _ List.mem_cons_self) hk
  have hini' : (Cond.initialized cls).before args s' = true := vx_ot_at hW0 hvm.symm (hgood _ (List.mem_cons_of_mem _ List.mem_cons_self)) hini
  have hU' : vx_Zq Bundle.tN "UNASSIGNED_STACK" Bundle.steD A s' s'.heap := by rw [hhp]; exact vx_Zq.moved hW0.alike (hU.kept hS.2.1)
  have hN' : vx_Zq Bundle.tN "SUPPRESSED_SENTINEL" Bundle.listD A s' s'.heap := by rw [hhp]; exact vx_Zq.moved hW0.alike (hN.kept hS.2.1)
  have h : ∀ w ∈ Bundle.ownAtoms0 own ic cls names, w.before args s' = true := vx_own hat' (vx_isRefq hU'.1) (vx_isRefq hN'.1) hU'.2.word hN'.2.word
  have hown' : s'.vm.findClass own = some m.cls := by rw [hvm]; exact hown
  have hins : (Cond.instantiable cls 6).before args s' = true := h _ (by simp [Bundle.ownAtoms0])
  obtain ⟨vm₁, cX, kX, hfX, hkX, -, -, X₁, st1⟩ := Y.newCold hexec (own := own) (C := cls) (index := ik) (n := 6) hown' hk' hins hini'
    (g := F0 m pc ls rest) rfl (by rw [hb]; exact d0) (Nat.le_refl _) (Nat.le_refl _)
  generalize hT1 : (T.setVm vm₁).pushCell { cls := cX, slots := kX.instanceTypes.map defaultValue, vm := .none } = T1 at X₁ st1
  have hcat : (Value.ref T.heap.size).category = 1 := rfl
  have hcellA : T1.heap[T.heap.size]? = some (freshCell cX kX) := by rw [← hT1]; exact State.heap_pushCell_size _ _
  have d3' : decode c.code (pc + 3) = .ok (.dup, 1) := by rw [hb]; exact d3
  obtain ⟨U, hsteps, hrun, hend, hW, hsame, ce, hce, hO⟩ := X₁.ctorThrow0 hexec htr (own := own) (cls := cls) (names := names) (ic := ic) hown' hcls hnames h (fun x hx => nomatch hx) hfX hkX hcellA (by rw [hhp, hT]; exact Nat.le_refl _)
    (g := { method := m, pc := pc + 4, locals := ls, stack := .ref T.heap.size :: .ref T.heap.size :: rest, locked := none }) rfl hsize rfl rfl (rest := rest) rfl
    (by rw [hb]; exact d4) (by rw [hb]; exact d7) hout hRframes (by simp only [List.map_cons, List.sum_cons, hcat]; omega) hlocks
  obtain ⟨f1, f2⟩ := vx_frame hsame
  rw [hhp] at f1 f2
  have hWs : s.WarmedH U.vm := State.WarmedH.trans hW0 hW
  have hcl : s.vm.findClass cls = some ce.cls := by
    have h9 := hO.cls
    rw [hvm] at h9
    exact h9
  have hall : s.sameButNew ({ U with vm := s.vm } : State) locs mc ms := by
    subst hA
    obtain ⟨e1, e2⟩ := hsame
    rw [State.setFrames_setFrames] at e1
    have h2 : (T.setVm s.vm).sameButNew ({ U with vm := s.vm } : State) [] (0 + 1) (0 + 6) := ⟨e1, e2⟩
    have h3 := X.same.trans h2
    rw [List.append_nil] at h3
    exact h3.mono hc hs
  refine ⟨U, ?_, .threw T.heap.size, hrun, hend, Or.inr ⟨T.heap.size, rfl, cls, ce, locs, hx U hWs.alike f1 (fun q hq => f2 q hq (fun z hz => nomatch hz)), hce, hO.vm, hcl, hWs, hall, hf⟩⟩
  refine st1 _ ?_
  show Steps p.tables e below (T1.setTop { method := m, pc := pc + 3, locals := ls, stack := .ref T.heap.size :: rest, locked := none }) _
  jvm_step X₁.here [X₁.here.top, hexec, d3', Value.category]
  exact hsteps
/-- 'throw new E("text")': new; dup; ldc; invokespecial; athrow -/
theorem vx_throwS {cc : ByteArray} {pc : Nat} (hexec : p.tables.exec = Jvm.exec) (hb : c.code = cc) (hl : l.stackTraces = false) {own cls text : String} {names : List String} {ik is ic mc ms sa : Nat} {A : Nat → Prop}
    (hown : s.vm.findClass own = some m.cls) (hcls : Bundle.fit cls = true) (hnames : ∀ n ∈ names, Bundle.fit n = true)
    (hk : (Cond.classLink own ik cls).before args s = true) (hini : (Cond.initialized cls).before args s = true) (hstr : vk_R own is text sa s) (hat : ∀ w ∈ vx_atS own ic cls names, w.before args s = true)
    (hgood : ∀ w ∈ Cond.classLink own ik cls :: Cond.initialized cls :: vx_atS own ic cls names, vx_ot w = true)
    (hU : vx_Zq Bundle.tN "UNASSIGNED_STACK" Bundle.steD A s s.heap) (hN : vx_Zq Bundle.tN "SUPPRESSED_SENTINEL" Bundle.listD A s s.heap) (hS : va_S A s.heap H locs) (hsize : ls.size = c.maxLocals)
    (d0 : decode cc pc = .ok (.new ik, 3)) (d3 : decode cc (pc + 3) = .ok (.dup, 1)) (d4 : decode cc (pc + 4) = .ok (.ldc is, 2)) (d6 : decode cc (pc + 6) = .ok (.invokespecial ic, 3)) (d9 : decode cc (pc + 9) = .ok (.athrow, 1))
    (hout : ∀ x ∈ c.exceptionTable.toList, covers x (pc + 9) = false)
    (hRframes : names.length + 3 < R.frames) (hRlocals : (rest.map fun v => v.category).sum + (13 * (names.length + 1) + 43) ≤ R.locals) (hRcells : cells + 1 ≤ R.cells) (hRslots : slots + 6 ≤ R.slots) (hlocks : meth.locks = false)
    (hx : ∀ t : State, s.vm.Alike t.vm → H.size ≤ t.heap.size → (∀ q : Nat, q < H.size → t.heap[q]? = H[q]?) → XC cls s t)
    (hf : ∀ z ∈ locs, free z.base) (hc : cells + 1 ≤ mc) (hs : slots + 6 ≤ ms) :
    W p l e R s m args below meth c H locs cells slots (vx_MQ below Qc XC args s mc ms free) (F0 m pc ls rest) := by
  intro T hT X
  have htr : e.platform.stackTraces = false := (show e.platform.stackTraces = l.stackTraces by rw [X.admits.platform]).trans hl
  have Y := vx_rebase X (R' := { frames := R.frames, locals := R.locals, cells := 1, slots := 6 }) (Nat.le_refl _) (Nat.le_refl _) hRcells hRslots
  obtain ⟨s', hA⟩ : ∃ z, z = (T.setVm s.vm).setFrames (.invoking m args :: below) := ⟨_, rfl⟩
  rw [← hA] at Y
  have hvm : s'.vm = s.vm := by rw [hA]; rfl
  have hhp : s'.heap = H := by rw [hA]; exact hT
  have hW0 : s.WarmedH s'.vm := by rw [hvm]; exact State.WarmedH.refl s
  have hat' : ∀ w ∈ vx_atS own ic cls names, w.before args s' = true := fun w hw => vx_ot_at hW0 hvm.symm (hgood w (List.mem_cons_of_mem _ (List.mem_cons_of_mem _ hw))) (hat w hw)
  have hk' : (Cond.classLink own ik cls).before args s' = true := vx_ot_at hW0 hvm.symm (hgood _ List.mem_cons_self) hk
  have hini' : (Cond.initialized cls).before args s' = true := vx_ot_at hW0 hvm.symm (hgood _ (List.mem_cons_of_mem _ List.mem_cons_self)) hini
  have hU' : vx_Zq Bundle.tN "UNASSIGNED_STACK" Bundle.steD A s' s'.heap := by rw [hhp]; exact vx_Zq.moved hW0.alike (hU.kept hS.2.1)
  have hN' : vx_Zq Bundle.tN "SUPPRESSED_SENTINEL" Bundle.listD A s' s'.heap := by rw [hhp]; exact vx_Zq.moved hW0.alike (hN.kept hS.2.1)
  have h : ∀ w ∈ Bundle.ownAtoms own ic cls names, w.before args s' = true := vx_own hat' (vx_isRefq hU'.1) (vx_isRefq hN'.1) hU'.2.word hN'.2.word
  have hown' : s'.vm.findClass own = some m.cls := by rw [hvm]; exact hown
  have hins : (Cond.instantiable cls 6).before args s' = true := h _ (by simp [Bundle.ownAtoms])
  obtain ⟨vm₁, cX, kX, hfX, hkX, -, -, X₁, st1⟩ := Y.newCold hexec (own := own) (C := cls) (index := ik) (n := 6) hown' hk' hins hini'
    (g := F0 m pc ls rest) rfl (by rw [hb]; exact d0) (Nat.le_refl _) (Nat.le_refl _)
  generalize hT1 : (T.setVm vm₁).pushCell { cls := cX, slots := kX.instanceTypes.map defaultValue, vm := .none } = T1 at X₁ st1
  have hcat : (Value.ref T.heap.size).category = 1 := rfl
  have hcellA : T1.heap[T.heap.size]? = some (freshCell cX kX) := by rw [← hT1]; exact State.heap_pushCell_size _ _
  have d3' : decode c.code (pc + 3) = .ok (.dup, 1) := by rw [hb]; exact d3
  have d4' : decode c.code (pc + 4) = .ok (.ldc is, 2) := by rw [hb]; exact d4
  have hstr' : vk_R own is text sa s' := vk_R.warm hW0 hstr
  obtain ⟨U, hsteps, hrun, hend, hW, hsame, ce, hce, hO⟩ := X₁.ctorThrowS hexec htr (own := own) (cls := cls) (names := names) (ic := ic) hown' hcls hnames h (fun x hx => nomatch hx) hfX hkX hcellA (by rw [hhp, hT]; exact Nat.le_refl _) (msg := .ref sa) rfl
    (g := { method := m, pc := pc + 6, locals := ls, stack := .ref sa :: .ref T.heap.size :: .ref T.heap.size :: rest, locked := none }) rfl hsize rfl rfl (rest := rest) rfl
    (by rw [hb]; exact d6) (by rw [hb]; exact d9) hout hRframes (by simp only [List.map_cons, List.sum_cons, hcat]; omega) hlocks
  obtain ⟨f1, f2⟩ := vx_frame hsame
  rw [hhp] at f1 f2
  have hWs : s.WarmedH U.vm := State.WarmedH.trans hW0 hW
  have hcl : s.vm.findClass cls = some ce.cls := by
    have h9 := hO.cls
    rw [hvm] at h9
    exact h9
  have hall : s.sameButNew ({ U with vm := s.vm } : State) locs mc ms := by
    subst hA
    obtain ⟨e1, e2⟩ := hsame
    rw [State.setFrames_setFrames] at e1
    have h2 : (T.setVm s.vm).sameButNew ({ U with vm := s.vm } : State) [] (0 + 1) (0 + 6) := ⟨e1, e2⟩
    have h3 := X.same.trans h2
    rw [List.append_nil] at h3
    exact h3.mono hc hs
  refine ⟨U, ?_, .threw T.heap.size, hrun, hend, Or.inr ⟨T.heap.size, rfl, cls, ce, locs, hx U hWs.alike f1 (fun q hq => f2 q hq (fun z hz => nomatch hz)), hce, hO.vm, hcl, hWs, hall, hf⟩⟩
  refine st1 _ ?_
  show Steps p.tables e below (T1.setTop { method := m, pc := pc + 3, locals := ls, stack := .ref T.heap.size :: rest, locked := none }) _
  jvm_step X₁.here [X₁.here.top, hexec, d3', Value.category]
  exact X₁.ldcString hexec (own := own) (text := text) (index := is) (a := sa) hown' hstr'.1 hstr'.2
    (g := { method := m, pc := pc + 4, locals := ls, stack := .ref T.heap.size :: .ref T.heap.size :: rest, locked := none }) rfl d4' _ hsteps
/-- 'throw new E("text")', the text by a wide index -/
theorem vx_throwSW {cc : ByteArray} {pc : Nat} (hexec : p.tables.exec = Jvm.exec) (hb : c.code = cc) (hl : l.stackTraces = false) {own cls text : String} {names : List String} {ik is ic mc ms sa : Nat} {A : Nat → Prop}
    (hown : s.vm.findClass own = some m.cls) (hcls : Bundle.fit cls = true) (hnames : ∀ n ∈ names, Bundle.fit n = true)
    (hk : (Cond.classLink own ik cls).before args s = true) (hini : (Cond.initialized cls).before args s = true) (hstr : vk_R own is text sa s) (hat : ∀ w ∈ vx_atS own ic cls names, w.before args s = true)
    (hgood : ∀ w ∈ Cond.classLink own ik cls :: Cond.initialized cls :: vx_atS own ic cls names, vx_ot w = true)
    (hU : vx_Zq Bundle.tN "UNASSIGNED_STACK" Bundle.steD A s s.heap) (hN : vx_Zq Bundle.tN "SUPPRESSED_SENTINEL" Bundle.listD A s s.heap) (hS : va_S A s.heap H locs) (hsize : ls.size = c.maxLocals)
    (d0 : decode cc pc = .ok (.new ik, 3)) (d3 : decode cc (pc + 3) = .ok (.dup, 1)) (d4 : decode cc (pc + 4) = .ok (.ldc_w is, 3)) (d7 : decode cc (pc + 7) = .ok (.invokespecial ic, 3)) (d10 : decode cc (pc + 10) = .ok (.athrow, 1))
    (hout : ∀ x ∈ c.exceptionTable.toList, covers x (pc + 10) = false)
    (hRframes : names.length + 3 < R.frames) (hRlocals : (rest.map fun v => v.category).sum + (13 * (names.length + 1) + 43) ≤ R.locals) (hRcells : cells + 1 ≤ R.cells) (hRslots : slots + 6 ≤ R.slots) (hlocks : meth.locks = false)
    (hx : ∀ t : State, s.vm.Alike t.vm → H.size ≤ t.heap.size → (∀ q : Nat, q < H.size → t.heap[q]? = H[q]?) → XC cls s t)
    (hf : ∀ z ∈ locs, free z.base) (hc : cells + 1 ≤ mc) (hs : slots + 6 ≤ ms) :
    W p l e R s m args below meth c H locs cells slots (vx_MQ below Qc XC args s mc ms free) (F0 m pc ls rest) := by
  intro T hT X
  have htr : e.platform.stackTraces = false := (show e.platform.stackTraces = l.stackTraces by rw [X.admits.platform]).trans hl
  have Y := vx_rebase X (R' := { frames := R.frames, locals := R.locals, cells := 1, slots := 6 }) (Nat.le_refl _) (Nat.le_refl _) hRcells hRslots
  obtain ⟨s', hA⟩ : ∃ z, z = (T.setVm s.vm).setFrames (.invoking m args :: below) := ⟨_, rfl⟩
  rw [← hA] at Y
  have hvm : s'.vm = s.vm := by rw [hA]; rfl
  have hhp : s'.heap = H := by rw [hA]; exact hT
  have hW0 : s.WarmedH s'.vm := by rw [hvm]; exact State.WarmedH.refl s
  have hat' : ∀ w ∈ vx_atS own ic cls names, w.before args s' = true := fun w hw => vx_ot_at hW0 hvm.symm (hgood w (List.mem_cons_of_mem _ (List.mem_cons_of_mem _ hw))) (hat w hw)
  have hk' : (Cond.classLink own ik cls).before args s' = true := vx_ot_at hW0 hvm.symm (hgood _ List.mem_cons_self) hk
  have hini' : (Cond.initialized cls).before args s' = true := vx_ot_at hW0 hvm.symm (hgood _ (List.mem_cons_of_mem _ List.mem_cons_self)) hini
  have hU' : vx_Zq Bundle.tN "UNASSIGNED_STACK" Bundle.steD A s' s'.heap := by rw [hhp]; exact vx_Zq.moved hW0.alike (hU.kept hS.2.1)
  have hN' : vx_Zq Bundle.tN "SUPPRESSED_SENTINEL" Bundle.listD A s' s'.heap := by rw [hhp]; exact vx_Zq.moved hW0.alike (hN.kept hS.2.1)
  have h : ∀ w ∈ Bundle.ownAtoms own ic cls names, w.before args s' = true := vx_own hat' (vx_isRefq hU'.1) (vx_isRefq hN'.1) hU'.2.word hN'.2.word
  have hown' : s'.vm.findClass own = some m.cls := by rw [hvm]; exact hown
  have hins : (Cond.instantiable cls 6).before args s' = true := h _ (by simp [Bundle.ownAtoms])
  obtain ⟨vm₁, cX, kX, hfX, hkX, -, -, X₁, st1⟩ := Y.newCold hexec (own := own) (C := cls) (index := ik) (n := 6) hown' hk' hins hini'
    (g := F0 m pc ls rest) rfl (by rw [hb]; exact d0) (Nat.le_refl _) (Nat.le_refl _)
  generalize hT1 : (T.setVm vm₁).pushCell { cls := cX, slots := kX.instanceTypes.map defaultValue, vm := .none } = T1 at X₁ st1
  have hcat : (Value.ref T.heap.size).category = 1 := rfl
  have hcellA : T1.heap[T.heap.size]? = some (freshCell cX kX) := by rw [← hT1]; exact State.heap_pushCell_size _ _
  have d3' : decode c.code (pc + 3) = .ok (.dup, 1) := by rw [hb]; exact d3
  have d4' : decode c.code (pc + 4) = .ok (.ldc_w is, 3) := by rw [hb]; exact d4
  have hstr' : vk_R own is text sa s' := vk_R.warm hW0 hstr
  obtain ⟨U, hsteps, hrun, hend, hW, hsame, ce, hce, hO⟩ := X₁.ctorThrowS hexec htr (own := own) (cls := cls) (names := names) (ic := ic) hown' hcls hnames h (fun x hx => nomatch hx) hfX hkX hcellA (by rw [hhp, hT]; exact Nat.le_refl _) (msg := .ref sa) rfl
    (g := { method := m, pc := pc + 7, locals := ls, stack := .ref sa :: .ref T.heap.size :: .ref T.heap.size :: rest, locked := none }) rfl hsize rfl rfl (rest := rest) rfl
    (by rw [hb]; exact d7) (by rw [hb]; exact d10) hout hRframes (by simp only [List.map_cons, List.sum_cons, hcat]; omega) hlocks
  obtain ⟨f1, f2⟩ := vx_frame hsame
  rw [hhp] at f1 f2
  have hWs : s.WarmedH U.vm := State.WarmedH.trans hW0 hW
  have hcl : s.vm.findClass cls = some ce.cls := by
    have h9 := hO.cls
    rw [hvm] at h9
    exact h9
  have hall : s.sameButNew ({ U with vm := s.vm } : State) locs mc ms := by
    subst hA
    obtain ⟨e1, e2⟩ := hsame
    rw [State.setFrames_setFrames] at e1
    have h2 : (T.setVm s.vm).sameButNew ({ U with vm := s.vm } : State) [] (0 + 1) (0 + 6) := ⟨e1, e2⟩
    have h3 := X.same.trans h2
    rw [List.append_nil] at h3
    exact h3.mono hc hs
  refine ⟨U, ?_, .threw T.heap.size, hrun, hend, Or.inr ⟨T.heap.size, rfl, cls, ce, locs, hx U hWs.alike f1 (fun q hq => f2 q hq (fun z hz => nomatch hz)), hce, hO.vm, hcl, hWs, hall, hf⟩⟩
  refine st1 _ ?_
  show Steps p.tables e below (T1.setTop { method := m, pc := pc + 3, locals := ls, stack := .ref T.heap.size :: rest, locked := none }) _
  jvm_step X₁.here [X₁.here.top, hexec, d3', Value.category]
  exact X₁.ldcStringW hexec (own := own) (text := text) (index := is) (a := sa) hown' hstr'.1 hstr'.2
    (g := { method := m, pc := pc + 4, locals := ls, stack := .ref T.heap.size :: .ref T.heap.size :: rest, locked := none }) rfl d4' _ hsteps
end Ends
section Bodies
variable {l : Launch}
theorem vx_ofW {y : MethodName} {ws ws' : List Cond} {rm : Room} {Pc : Array Value → State → Prop} {Qc : Array Value → State → Outcome → State → Prop} {XC : String → State → State → Prop} {mc ms : Nat} {free : Addr → Prop} {cc : ByteArray} {maxL : Nat} {ret : Option FieldType}
    (hy : plainName y.cls = true) (hw : ws = Cond.code y cc maxL ret :: ws')
    (body : ∀ p e s m args below meth c s₁, BodyLoose p l y (headSpec ws rm) cc maxL ret e s m args below meth c s₁ → c.maxLocals = maxL → (∀ x ∈ c.exceptionTable.toList, False) → Pc args s →
      W p l e (headSpec ws rm).room s m args below meth c s.heap [] 0 0 (vx_MQ below Qc XC args s mc ms free) (entryFrame m args maxL)) : vx_Met l y ws rm Pc Qc XC mc ms free := by
  refine MetFree.of_bodyS (code := cc) (maxLocals := maxL) (ret := ret) hy ?_ ?_
  · intro args s m h hn
    obtain ⟨meth, c, h1, h2, h3, h4, h5, h6, -, -⟩ := Cond.code_spec hn (atoms_spec (ws := ws) h _ (by rw [hw]; exact List.mem_cons_self))
    exact ⟨meth, c, h1, h2, h3, h4, h5, h6⟩
  · intro p e s m args below meth c s₁ B hml hP _
    have hh0 : s₁.heap = s.heap := by rw [B.state]; rfl
    have ht : ∀ x ∈ c.exceptionTable.toList, False := by
      obtain ⟨meth9, c9, h1, h2, -, -, -, -, h7, -⟩ := Cond.code_spec B.named (atoms_spec (ws := ws) B.pre _ (by rw [hw]; exact List.mem_cons_self))
      cases Option.some.inj (h1.symm.trans B.method)
      cases Option.some.inj (h2.symm.trans (Stand.of_body B).code)
      intro x hx
      rw [Array.isEmpty_iff.mp h7] at hx
      cases hx
    obtain ⟨t, a1, o, b1, b2, b3⟩ := body p e s m args below meth c s₁ B hml ht hP s₁ hh0 (Stand.of_body B)
    exact ⟨t, o, a1, b1, b2, b3⟩
/-- the table of a body with handlers -/
theorem vx_table {p : Program} {x y : MethodName} {S : Spec} {cc bytes : ByteArray} {maxL maxL' : Nat} {ret ret' : Option FieldType} {e : Env} {s s₁ : State} {m : MethodId} {args : Array Value} {below : List Frame} {meth : Method} {c : Code} {hh : List (Nat × Nat × Nat × Nat)}
    (B : BodyLoose p l y S cc maxL ret e s m args below meth c s₁) (h : (Cond.codeWith y bytes maxL' ret' hh).before args s = true) : c.exceptionTable.toList = tableOf hh := by
  obtain ⟨m9, meth9, c9, hn9, h1, h2, -, -, h6, -⟩ := Cond.codeWith_spec h
  cases Option.some.inj (hn9.symm.trans B.named)
  cases Option.some.inj (h1.symm.trans B.method)
  cases Option.some.inj (h2.symm.trans (Stand.of_body B).code)
  rw [← h6, table_eq]
end Bodies
end VXA
/-! ===== END ===== -/
/-! ===== BEGIN a static call of a method with an exception table ===== -/
section VXS
variable {p : Program} {l : Launch} {e : Env} {R : Room} {s : State} {m : MethodId} {args : Array Value} {below : List Frame} {meth : Method} {c : Code} {T : State} {H : Heap} {locs : List Loc} {cells slots : Nat}
abbrev vx_CSW (R : Room) (s : State) (args : Array Value) (own : String) (index : Nat) (y : MethodName) (bytes : ByteArray) (maxL : Nat) (ret : Option FieldType) (hh : List (Nat × Nat × Nat × Nat)) (ws : List Cond) (rm : Room) (mc ms n : Nat) : Prop :=
  (rm.cells = mc ∧ rm.slots = ms ∧ rm.frames + 1 ≤ R.frames ∧ 8 + (maxL + 11) + rm.locals ≤ R.locals ∧ (∀ w ∈ ws, ∀ (a' : Array Value) (U : State), s.WarmedH U.vm → w.before a' U = true) ∧ Cond.codeWith y bytes maxL ret hh ∈ ws) ∧
  (Cond.codeWith y bytes maxL ret hh).before args s = true ∧ (Cond.initialized y.cls).before args s = true ∧ (y.cls ≠ "java/lang/invoke/MethodHandle" ∧ y.cls ≠ "java/lang/invoke/VarHandle") ∧
  (∀ sig, parseMethodDescriptor y.desc = some sig → n = sig.parameters.length) ∧ (Cond.methodLink own index y).before args s = true ∧ (Cond.static y).before args s = true
theorem vx_cwSW {own : String} {index maxL mc ms : Nat} {y : MethodName} {bytes : ByteArray} {ret : Option FieldType} {hh : List (Nat × Nat × Nat × Nat)} {Ts ws ws' : List Cond} {rm : Room} (n : Nat) (ht : ∀ w ∈ Ts, w.before args s = true) (hT : GoodIn Ts (va_wsS own index y ws)) (hw : ws = Cond.codeWith y bytes maxL ret hh :: ws') (hrc : rm.cells = mc) (hrs : rm.slots = ms)
    (hd : y.cls ≠ "java/lang/invoke/MethodHandle" ∧ y.cls ≠ "java/lang/invoke/VarHandle" ∧ (parseMethodDescriptor y.desc).map (fun d => d.parameters.length) = some n) (hR : rm.frames + 1 ≤ R.frames ∧ 8 + (maxL + 11) + rm.locals ≤ R.locals) :
    vx_CSW R s args own index y bytes maxL ret hh ws rm mc ms n := by
  have ok : ∀ w ∈ va_wsS own index y ws, w.before args s = true := fun w h => ht w (hT w h).1
  have hG : GoodIn Ts ws := fun w h => hT w (by unfold va_wsS; exact List.mem_append_right _ h)
  have hc : Cond.codeWith y bytes maxL ret hh ∈ ws := by rw [hw]; exact List.mem_cons_self
  refine ⟨⟨hrc, hrs, hR.1, hR.2, pay_in ht hG, hc⟩, ht _ (hG _ hc).1, ok _ (by simp [va_wsS]), ⟨hd.1, hd.2.1⟩, fun sig h => ?_, ok _ (by simp [va_wsS]), ok _ (by simp [va_wsS])⟩
  have h2 := hd.2.2
  rw [h] at h2
  exact (Option.some.inj h2).symm
theorem vx_callSW (X : Stand p l e R s m args below meth c T locs cells slots) (hexec : p.tables.exec = Jvm.exec) {own : String} {index : Nat} {y : MethodName} {bytes : ByteArray} {maxL : Nat} {ret : Option FieldType} {hh : List (Nat × Nat × Nat × Nat)}
    (hown : s.vm.findClass own = some m.cls) (hlink : (Cond.methodLink own index y).before args s = true) (hstat : (Cond.static y).before args s = true) (hinit : (Cond.initialized y.cls).before args s = true)
    (hcode : (Cond.codeWith y bytes maxL ret hh).before args s = true) (hy : y.cls ≠ "java/lang/invoke/MethodHandle" ∧ y.cls ≠ "java/lang/invoke/VarHandle")
    {W9 : Nat} {Pre : Pt → Array Value → Prop} {Post : Pt → Array Value → Option Value → Pt → Prop} (hK : Back l R p e below s args y 3 W9 Pre Post)
    {g : JFrame} (hg : g.method = m) (hsize : g.locals.size = c.maxLocals) {argsL rest : List Value} (hlen : ∀ sig, parseMethodDescriptor y.desc = some sig → argsL.length = sig.parameters.length)
    (hstack : g.stack = argsL.reverse ++ rest) (hW : 2 * g.monitorRoom + (rest.map fun v => v.category).sum ≤ W9) (hdg : decode c.code g.pc = .ok (.invokestatic index, 3))
    (hpre : ∀ vm₁, s.WarmedH vm₁ → Pre ⟨T.setVm vm₁, locs, cells, slots⟩ argsL.toArray) :
    ∃ (v : Option Value) (vm₁ : Vm) (B : Pt), s.WarmedH vm₁ ∧ Stand p l e R s m args below meth c B.U B.locs B.cells B.slots ∧ Post ⟨T.setVm vm₁, locs, cells, slots⟩ argsL.toArray v B ∧
      ∀ target, Steps p.tables e below (B.U.setTop { g with pc := g.pc + 3, stack := v.toList ++ rest }) target → Steps p.tables e below (T.setTop g) target := by
  obtain ⟨mk, methM, cM, hnamed, hmethM, -, -, -, -, -, -, hsigM⟩ := Cond.codeWith_spec hcode
  have hstatic : methM.isStatic = true := Cond.static_spec hnamed hmethM hstat
  obtain ⟨kP, hkP, -⟩ := className_of_methodNamed hnamed
  have hinitP : kP.init = .initialized := Cond.initialized_spec (findClass_of_methodNamed hnamed) hkP hinit
  obtain ⟨vm₁, X₁, hstep₁⟩ := X.invokestatic hexec hown hlink hnamed hmethM hstatic hkP hinitP hy (g := g) hg (argsL := argsL) (rest := rest) (hlen _ hsigM) hstack hdg
  obtain ⟨v, B, X', hpost, hsteps⟩ := hK m meth c ⟨T.setVm vm₁, locs, cells, slots⟩ { g with stack := rest } (.invokestatic index) mk argsL.toArray X₁ hg hsize hdg hW (X₁.named hnamed) (hpre vm₁ X₁.warmed)
  exact ⟨v, vm₁, B, X₁.warmed, X', hpost, fun target h => hstep₁ _ fun acts => by rw [doInvoke_state]; exact hsteps.trans h⟩
theorem vx_runSW {y : MethodName} {bytes cc : ByteArray} {maxL nL mc ms n index : Nat} {ret : Option FieldType} {hh : List (Nat × Nat × Nat × Nat)} {ws : List Cond} {rm : Room} {Pc : Array Value → State → Prop} {Qc : Array Value → State → Outcome → State → Prop} {free : Addr → Prop} {Ts : List Cond} {own : String} {As rest : List Value} {g : JFrame}
    (S : CallFix p m c cc nL s args Ts own) (hM : Met l y ws rm Pc Qc mc ms free) (cw : vx_CSW R s args own index y bytes maxL ret hh ws rm mc ms n) (hp : PreS s H Pc As)
    (hg : g.method = m) (hn : As.length = n) (hsize : g.locals.size = nL) (hstack : g.stack = As.reverse ++ rest) (hW : 2 * g.monitorRoom + (rest.map fun v => v.category).sum ≤ 8) (hdg : decode cc g.pc = .ok (.invokestatic index, 3)) (hf : cells + mc ≤ R.cells ∧ slots + ms ≤ R.slots) :
    va_Run p l e R s m args below meth c H locs cells slots mc ms g rest (Qc As.toArray) (free) := by
  obtain ⟨⟨hrc, hrs, hfr, hlo, hws, hcw⟩, hcode, hini, hy, hlen, hl, hstt⟩ := cw
  have hK : Back l R p e below s args y 3 8 (PreOf R mc ms Pc) (PostOf Qc mc ms free) := va_backW (hh := hh) (bytes := bytes) (maxL := maxL) (ret := ret) hM hp.1 hrc hrs hfr hlo hws hcw (fun a' U hW => word_at hW (Or.inl (by first | rfl | simp [Cond.onTables, Cond.keeps, Cond.steady])) hini)
  obtain ⟨hx, hb, hml, ho, -⟩ := S
  intro T hT X
  obtain ⟨v, vm₁, ⟨U', l2, c2, s2⟩, hW₁, X', ⟨g', mk, t, L, e1, e2, hq, h1, hL, h2, h3⟩, st⟩ := vx_callSW X hx (hh := hh) (bytes := bytes) (maxL := maxL) (ret := ret) ho hl hstt hini hcode hy hK hg (hsize.trans hml.symm) (argsL := As) (rest := rest) (fun sig h => hn.trans (hlen sig h)) hstack hW (by rw [hb]; exact hdg)
    (fun vm₁ hW₁ => ⟨hf.1, hf.2, hp.2 (T.setVm vm₁) hT hW₁⟩)
  dsimp only [Pt.U, Pt.locs, Pt.cells, Pt.slots] at X' e1 e2 h1 h2 h3 st
  subst h1; subst h2; subst h3
  exact ⟨v, (T.setVm vm₁).calling g' mk As.toArray, t, U', L, hT, X', hL, e1, e2, hq, st⟩
/-- not caught here, past rows that name other classes: it goes on to the caller -/
theorem vx_outP {p : Program} {l : Launch} {e : Env} {R : Room} {s : State} {m : MethodId} {args : Array Value} {below : List Frame} {meth : Method} {c : Code} {H : Heap} {locs : List Loc} {cells slots : Nat} {free : Addr → Prop} {ls : Array Slot} {rest : List Value} {Qc : Array Value → State → Outcome → State → Prop} {XC : String → State → State → Prop}
    {pc : Nat} {own E : String} {ce : Cell} {q : Addr} {mc ms : Nat} (hown : s.vm.findClass own = some m.cls) (hlocks : meth.locks = false)
    (hpass : ∀ z ∈ c.exceptionTable.toList, covers z pc = false ∨ (z.catchType ≠ 0 ∧ ∃ nm : String, (Cond.classLink own z.catchType nm).before args s = true ∧ va_Nc E nm s)) (hcell : H[q]? = some ce) (hv : ce.vm = .none) (hcl : s.vm.findClass E = some ce.cls)
    (hx : ∀ t : State, t.heap = H → s.vm.Alike t.vm → XC E s t) (hf : ∀ z ∈ locs, free z.base) (hc : cells ≤ mc) (hs : slots ≤ ms) :
    vx_W p l e R s m args below meth c H locs cells slots (vx_MQ below Qc XC args s mc ms free) (F0 m pc ls rest) q := by
  intro T hT X
  have hpl : e.platform.magicAccessors = ({} : Platform).magicAccessors := by rw [X.admits.platform]
  obtain ⟨vm', hW', X', st⟩ := X.outThrough hlocks q (g := F0 m pc ls rest) rfl rfl rfl (cell := ce) (by rw [hT]; exact hcell) (by rw [hv]; rfl)
    (by obtain ⟨k9, h9, -⟩ := Vm.findClass_spec hcl; exact ⟨k9, h9⟩) (fun z hz => by
      rcases hpass z hz with h | ⟨hz0, nm, hl1, hn1⟩
      · exact Or.inl h
      · obtain ⟨c6, hc6, hcl6⟩ := Cond.classLink_spec hown hl1 e.platform hpl
        obtain ⟨a8, b8, h1, h2, h3⟩ := hn1
        cases Option.some.inj (h1.symm.trans hcl)
        cases Option.some.inj (h2.symm.trans hc6)
        exact Or.inr ⟨hz0, _, hcl6, h3⟩)
  obtain ⟨g₀, hfr⟩ := X'.frames_eq
  have hcell9 : ((T.setVm vm').setFrames (.throwing q :: below)).heap[q]? = some ce := by
    show T.heap[q]? = some ce
    rw [hT]; exact hcell
  have hend : Ended ((T.setVm vm').setFrames (.throwing q :: below)) below (.threw q) := State.frames_setFrames _ (State.cur_lt_of_frames hfr)
  refine ⟨(T.setVm vm').setFrames (.throwing q :: below), ?_, .threw q, X'.here.running, hend, Or.inr ⟨q, rfl, E, ce, locs, hx _ hT (X'.ends _).1.alike, hcell9, hv, hcl, (X'.ends _).1, (X'.ends _).2.mono hc hs, hf⟩⟩
  rw [X.pushThrowing_eq]
  exact st
/-- a thing of a world lies in the heap -/
theorem vx_lt {D : va_G} {cl : List vw_C} {ws : va_W} {H1 : Heap} (h : va_P D cl ws H1) {k : Nat} {q : Nat × va_E} (hk : ws[k]? = some q) : q.1 < H1.size := (h k q hk).lt
end VXS
/-! ===== END ===== -/
/-! ===== BEGIN methods with a table of their own: called by a name, returning or throwing ===== -/
section VXH
/-! vx_backW, vx_callVX, vx_callSX, vx_callVW, vx_runVW, vx_runVX, vx_runSX, vx_ofWH follow the same proofs as their sisters above (Free/Laws.lean, Shelf42/LK1.lean); vx_outP calls Shelf42/NT130.lean (outThrough). -/
section
variable {l : Launch} {R : Room} {p : Program} {e : Env} {below : List Frame} {s : State} {sargs : Array Value} {y : MethodName} {len W9 : Nat}
theorem vx_backW {ws : List Cond} {rm : Room} {Pc : Array Value → State → Prop} {Qc : Array Value → State → Outcome → State → Prop} {XC : String → State → State → Prop} {mc ms : Nat} {free : Addr → Prop} {bytes : ByteArray} {maxL : Nat} {ret : Option FieldType} {hh : List (Nat × Nat × Nat × Nat)}
    (hM : vx_Met l y ws rm Pc Qc XC mc ms free) (hblind : FrameBlind Pc) (hrc : rm.cells = mc) (hrs : rm.slots = ms)
    (hframes : rm.frames + 1 ≤ R.frames) (hlocals : W9 + (maxL + 11) + rm.locals ≤ R.locals)
    (hws : ∀ w ∈ ws, ∀ a' U, s.WarmedH U.vm → w.before a' U = true) (hcode : Cond.codeWith y bytes maxL ret hh ∈ ws) (hinit : ∀ a' U, s.WarmedH U.vm → (Cond.initialized y.cls).before a' U = true) :
    vx_Back l R p e below s sargs y len W9 (PreOf R mc ms Pc) (PostOf Qc mc ms free) (vx_Post XC mc ms free) := by
  intro m meth c A g ig mk a X hg hsize hdg hW hn hp
  have h1 : (headSpec ws rm).pre.before a A.U = true := atoms_intro fun w hw => hws w hw _ _ X.warmed
  have h2 : (Cond.codeWith y bytes maxL ret hh).before a A.U = true := hws _ hcode _ _ X.warmed
  have h3 : (Cond.initialized y.cls).before a A.U = true := hinit _ _ X.warmed
  have h4 : A.cells + (headSpec ws rm).room.cells ≤ R.cells := by rw [show (headSpec ws rm).room.cells = mc from hrc]; exact hp.1
  have h5 : A.slots + (headSpec ws rm).room.slots ≤ R.slots := by rw [show (headSpec ws rm).room.slots = ms from hrs]; exact hp.2.1
  have hPc : Pc a (A.U.calling g mk a) := hblind _ _ _ _ hp.2.2
  obtain ⟨U, Ls, c0, s0⟩ := A
  dsimp only [Pt.U, Pt.locs, Pt.cells, Pt.slots] at h1 h2 h3 h4 h5 X hn hPc ⊢
  obtain ⟨m9, methY, cY, hn9, hmY, hcY, -, hlY, -⟩ := Cond.codeWith_spec h2
  cases Option.some.inj (hn9.symm.trans hn)
  obtain ⟨kY, hkY, -⟩ := className_of_methodNamed hn
  have hinitY : kY.init = .initialized := Cond.initialized_spec (findClass_of_methodNamed hn) hkY h3
  have h : At U g.method c below := by rw [hg]; exact X.here
  have hlocals9 : W9 + (maxL + 11) + (headSpec ws rm).room.locals ≤ R.locals := hlocals
  have happ : (headSpec ws rm).appliesLoose y e.platform (U.calling g mk a) = true :=
    Spec.appliesLoose_calling (g := g) h hdg hn hkY hinitY
      (X.room_calling (g := g) (R' := (headSpec ws rm).room) hsize hmY hcY hframes (by rw [hlY]; omega) h4 h5) h1
  obtain ⟨mid, hmid⟩ := h.above
  have hfr : (U.setTop g).frames = (.java g :: mid) ++ below := by rw [State.frames_setTop' g h.top, hmid]; rfl
  obtain ⟨o, s₂, hsteps, -, hend, hq⟩ := Steps.callFree hM p X.admits X.cas X.clock (acts := []) hfr happ hPc trivial
  have hq' : vx_Q Qc XC mc ms free a (U.calling g mk a) o s₂ := hq
  rw [State.frames_setTop' g h.top] at hend
  obtain ⟨g₀, hg0⟩ := Option.isSome_iff_exists.mp h.top
  obtain ⟨r, hr⟩ := State.topJava?_eq_some.mp hg0
  have hr' : (({ U with heap := s₂.heap, slotsUsed := s₂.slotsUsed } : State).setVm s₂.vm).frames = .java g₀ :: r := hr
  rcases hq' with ⟨hqc, L, hfe, hL⟩ | ⟨q, rfl, E, ce, L, hx, hce, hcv, hcl, hW₂, hsm, hL⟩
  · obtain ⟨⟨v, rfl⟩, hW₂, e2, q2, q3, q4, q5, q6⟩ := id hfe
    have e3 : s₂ = ({ (U.calling g mk a).setFrames s₂.frames with heap := s₂.heap, slotsUsed := s₂.slotsUsed } : State).setVm s₂.vm := by
      have : s₂ = ({ s₂ with vm := (U.calling g mk a).vm } : State).setVm s₂.vm := rfl
      rw [e2] at this
      exact this
    obtain ⟨c₂, i₂, len₂, hc₂, hd₂, hf₂⟩ := hend
    have hW' : U.WarmedH s₂.vm := hW₂
    have hcc : c₂ = c := by
      have h1 : s₂.code? g.method = U.code? g.method := by
        rw [State.code?_eq, State.code?_eq, hW'.alike.method?]
      exact Option.some.inj (hc₂.symm.trans (h1.trans h.code))
    subst hcc
    have hlen : len₂ = len := by rw [hdg] at hd₂; cases hd₂; rfl
    subst hlen
    have hs₂ : s₂ = (({ U with heap := s₂.heap, slotsUsed := s₂.slotsUsed } : State).setVm s₂.vm).setTop { g with pc := g.pc + len₂, stack := v.toList ++ g.stack } := by
      refine e3.trans ?_
      rw [hf₂, State.calling_eq h.top, State.setFrames_setFrames, State.setTop_of_frames _ hr', hr]
      rfl
    have hsame : U.sameButNew ({ U with heap := s₂.heap, slotsUsed := s₂.slotsUsed } : State) L mc ms := by
      refine ⟨?_, q2, q3, q4, q5, q6⟩
      obtain ⟨t, ht, -⟩ := State.frames_cons hr
      show ({ U with heap := s₂.heap, slotsUsed := s₂.slotsUsed } : State) = { U.setFrames U.frames with heap := s₂.heap, slotsUsed := s₂.slotsUsed }
      rw [State.setFrames_self ht]
    subst hg
    refine Or.inl ⟨v, ⟨(({ U with heap := s₂.heap, slotsUsed := s₂.slotsUsed } : State).setVm s₂.vm), Ls ++ L, c0 + mc, s0 + ms⟩,
      ⟨X.admits, X.cas, X.clock, X.frames, X.room, X.hears, X.method, X.code, (X.here.setHeapUsed s₂.heap s₂.slotsUsed).setVm hW'.alike, X.tail, State.WarmedH.trans X.warmed hW', X.limits, X.bytes, X.same.trans (hsame.setVm s.vm)⟩,
      ⟨g, mk, s₂, L, rfl, rfl, hqc, rfl, hL, rfl, rfl⟩, ?_⟩
    show Steps p.tables e below _ ((({ U with heap := s₂.heap, slotsUsed := s₂.slotsUsed } : State).setVm s₂.vm).setTop { g with pc := g.pc + len₂, stack := v.toList ++ g.stack })
    rw [← hs₂]
    exact hsteps
  · obtain ⟨e2, q2, q3, q4, q5, q6⟩ := id hsm
    have e3 : s₂ = ({ (U.calling g mk a).setFrames s₂.frames with heap := s₂.heap, slotsUsed := s₂.slotsUsed } : State).setVm s₂.vm := by
      have : s₂ = ({ s₂ with vm := (U.calling g mk a).vm } : State).setVm s₂.vm := rfl
      rw [e2] at this
      exact this
    have hf₂ : s₂.frames = .throwing q :: .java g :: U.frames.tail := hend
    have hW' : U.WarmedH s₂.vm := hW₂
    have hs₂ : s₂ = ((({ U with heap := s₂.heap, slotsUsed := s₂.slotsUsed } : State).setVm s₂.vm).setTop g).pushFrame (.throwing q) := by
      refine e3.trans ?_
      rw [hf₂, State.calling_eq h.top, State.setFrames_setFrames, State.pushFrame, State.frames_setTop _ hr', State.setTop_of_frames _ hr', State.setFrames_setFrames, hr]
      rfl
    have hsame : U.sameButNew ({ U with heap := s₂.heap, slotsUsed := s₂.slotsUsed } : State) L mc ms := by
      refine ⟨?_, q2, q3, q4, q5, q6⟩
      obtain ⟨t, ht, -⟩ := State.frames_cons hr
      show ({ U with heap := s₂.heap, slotsUsed := s₂.slotsUsed } : State) = { U.setFrames U.frames with heap := s₂.heap, slotsUsed := s₂.slotsUsed }
      rw [State.setFrames_self ht]
    subst hg
    refine Or.inr ⟨q, ⟨(({ U with heap := s₂.heap, slotsUsed := s₂.slotsUsed } : State).setVm s₂.vm), Ls ++ L, c0 + mc, s0 + ms⟩,
      ⟨X.admits, X.cas, X.clock, X.frames, X.room, X.hears, X.method, X.code, (X.here.setHeapUsed s₂.heap s₂.slotsUsed).setVm hW'.alike, X.tail, State.WarmedH.trans X.warmed hW', X.limits, X.bytes, X.same.trans (hsame.setVm s.vm)⟩,
      ⟨g, mk, s₂, L, E, ce, rfl, rfl, hx, hce, hcv, hcl, rfl, hL, rfl, rfl⟩, ?_⟩
    show Steps p.tables e below _ (((({ U with heap := s₂.heap, slotsUsed := s₂.slotsUsed } : State).setVm s₂.vm).setTop g).pushFrame (.throwing q))
    rw [← hs₂]
    exact hsteps
end
variable {p : Program} {l : Launch} {e : Env} {R : Room} {s : State} {m : MethodId} {args : Array Value} {below : List Frame} {meth : Method} {c : Code} {T : State} {H : Heap} {locs : List Loc} {cells slots : Nat}
theorem vx_callVX (X : Stand p l e R s m args below meth c T locs cells slots) (hexec : p.tables.exec = Jvm.exec) {own C : String} {index : Nat} {y : MethodName} {bytes : ByteArray} {maxL : Nat} {ret : Option FieldType} {hh : List (Nat × Nat × Nat × Nat)}
    (hown : s.vm.findClass own = some m.cls) (hlink : (Cond.methodLink own index y).before args s = true) (hinst : (Cond.instanceMethod y).before args s = true) (hsel : (Cond.selects C y y).before args s = true)
    (hcode : (Cond.codeWith y bytes maxL ret hh).before args s = true) (hy : y.cls ≠ "java/lang/invoke/MethodHandle" ∧ y.cls ≠ "java/lang/invoke/VarHandle")
    {W9 : Nat} {Pre : Pt → Array Value → Prop} {Post : Pt → Array Value → Option Value → Pt → Prop} {PostX : Pt → Array Value → Addr → Pt → Prop} (hK : vx_Back l R p e below s args y 3 W9 Pre Post PostX)
    {b : Addr} {cellB : Cell} (hcell : T.heap[b]? = some cellB) (hobj : cellB.vm.isStatics = false) (hcls : s.vm.findClass C = some cellB.cls)
    {g : JFrame} (hg : g.method = m) (hsize : g.locals.size = c.maxLocals) {argsL rest : List Value} (hlen : ∀ sig, parseMethodDescriptor y.desc = some sig → argsL.length = sig.parameters.length)
    (hstack : g.stack = argsL.reverse ++ .ref b :: rest) (hW : 2 * g.monitorRoom + (rest.map fun v => v.category).sum ≤ W9) (hdg : decode c.code g.pc = .ok (.invokevirtual index, 3))
    (hpre : ∀ vm₁, s.WarmedH vm₁ → Pre ⟨T.setVm vm₁, locs, cells, slots⟩ (Value.ref b :: argsL).toArray) :
    (∃ (v : Option Value) (vm₁ : Vm) (B : Pt), s.WarmedH vm₁ ∧ Stand p l e R s m args below meth c B.U B.locs B.cells B.slots ∧ Post ⟨T.setVm vm₁, locs, cells, slots⟩ (Value.ref b :: argsL).toArray v B ∧
      ∀ target, Steps p.tables e below (B.U.setTop { g with pc := g.pc + 3, stack := v.toList ++ rest }) target → Steps p.tables e below (T.setTop g) target) ∨
    (∃ (q : Addr) (vm₁ : Vm) (B : Pt), s.WarmedH vm₁ ∧ Stand p l e R s m args below meth c B.U B.locs B.cells B.slots ∧ PostX ⟨T.setVm vm₁, locs, cells, slots⟩ (Value.ref b :: argsL).toArray q B ∧
      Steps p.tables e below (T.setTop g) ((B.U.setTop { g with stack := rest }).pushFrame (.throwing q))) := by
  obtain ⟨mk, methM, hnamed, hmethM, hstM, habM⟩ := Cond.instanceMethod_spec hinst
  obtain ⟨m8, methM', cM, hn8, hmethM', -, -, -, -, -, -, hsigM⟩ := Cond.codeWith_spec hcode
  cases Option.some.inj (hn8.symm.trans hnamed)
  cases hmethM.symm.trans hmethM'
  obtain ⟨c2, r2, m2, q1, q2, q3, q4, kP, hkP, hkPi⟩ := Cond.selects_spec hsel
  cases hcls.symm.trans q1
  cases (State.methodFound?_of_named hnamed hy).symm.trans q2
  cases hnamed.symm.trans q3
  have hselP : selectMethod e.platform s.vm cellB.cls mk = .method mk := by rw [Launch.admits_selectMethod X.admits]; exact q4
  obtain ⟨vm₁, X₁, hstep₁⟩ := X.invokevirtual hexec hown hlink hnamed hmethM hstM hkP hkPi hy (a := b) (cell := cellB) hcell
    (fun z h => by rw [h] at hobj; cases hobj) hselP hmethM habM hkP hkPi (g := g) hg (argsL := argsL) (rest := rest) (hlen _ hsigM) hstack hdg
  rcases hK m meth c ⟨T.setVm vm₁, locs, cells, slots⟩ { g with stack := rest } (.invokevirtual index) mk (Value.ref b :: argsL).toArray X₁ hg hsize hdg hW (X₁.named hnamed) (hpre vm₁ X₁.warmed) with ⟨v, B, X', hpost, hsteps⟩ | ⟨q, B, X', hpost, hsteps⟩
  · exact Or.inl ⟨v, vm₁, B, X₁.warmed, X', hpost, fun target h => hstep₁ _ fun acts => by rw [doInvoke_state]; exact hsteps.trans h⟩
  · exact Or.inr ⟨q, vm₁, B, X₁.warmed, X', hpost, hstep₁ _ fun acts => by rw [doInvoke_state]; exact hsteps⟩
theorem vx_callSX (X : Stand p l e R s m args below meth c T locs cells slots) (hexec : p.tables.exec = Jvm.exec) {own : String} {index : Nat} {y : MethodName} {bytes : ByteArray} {maxL : Nat} {ret : Option FieldType} {hh : List (Nat × Nat × Nat × Nat)}
    (hown : s.vm.findClass own = some m.cls) (hlink : (Cond.methodLink own index y).before args s = true) (hstat : (Cond.static y).before args s = true) (hinit : (Cond.initialized y.cls).before args s = true)
    (hcode : (Cond.codeWith y bytes maxL ret hh).before args s = true) (hy : y.cls ≠ "java/lang/invoke/MethodHandle" ∧ y.cls ≠ "java/lang/invoke/VarHandle")
    {W9 : Nat} {Pre : Pt → Array Value → Prop} {Post : Pt → Array Value → Option Value → Pt → Prop} {PostX : Pt → Array Value → Addr → Pt → Prop} (hK : vx_Back l R p e below s args y 3 W9 Pre Post PostX)
    {g : JFrame} (hg : g.method = m) (hsize : g.locals.size = c.maxLocals) {argsL rest : List Value} (hlen : ∀ sig, parseMethodDescriptor y.desc = some sig → argsL.length = sig.parameters.length)
    (hstack : g.stack = argsL.reverse ++ rest) (hW : 2 * g.monitorRoom + (rest.map fun v => v.category).sum ≤ W9) (hdg : decode c.code g.pc = .ok (.invokestatic index, 3))
    (hpre : ∀ vm₁, s.WarmedH vm₁ → Pre ⟨T.setVm vm₁, locs, cells, slots⟩ argsL.toArray) :
    (∃ (v : Option Value) (vm₁ : Vm) (B : Pt), s.WarmedH vm₁ ∧ Stand p l e R s m args below meth c B.U B.locs B.cells B.slots ∧ Post ⟨T.setVm vm₁, locs, cells, slots⟩ argsL.toArray v B ∧
      ∀ target, Steps p.tables e below (B.U.setTop { g with pc := g.pc + 3, stack := v.toList ++ rest }) target → Steps p.tables e below (T.setTop g) target) ∨
    (∃ (q : Addr) (vm₁ : Vm) (B : Pt), s.WarmedH vm₁ ∧ Stand p l e R s m args below meth c B.U B.locs B.cells B.slots ∧ PostX ⟨T.setVm vm₁, locs, cells, slots⟩ argsL.toArray q B ∧
      Steps p.tables e below (T.setTop g) ((B.U.setTop { g with stack := rest }).pushFrame (.throwing q))) := by
  obtain ⟨mk, methM, cM, hnamed, hmethM, -, -, -, -, -, -, hsigM⟩ := Cond.codeWith_spec hcode
  have hstatic : methM.isStatic = true := Cond.static_spec hnamed hmethM hstat
  obtain ⟨kP, hkP, -⟩ := className_of_methodNamed hnamed
  have hinitP : kP.init = .initialized := Cond.initialized_spec (findClass_of_methodNamed hnamed) hkP hinit
  obtain ⟨vm₁, X₁, hstep₁⟩ := X.invokestatic hexec hown hlink hnamed hmethM hstatic hkP hinitP hy (g := g) hg (argsL := argsL) (rest := rest) (hlen _ hsigM) hstack hdg
  rcases hK m meth c ⟨T.setVm vm₁, locs, cells, slots⟩ { g with stack := rest } (.invokestatic index) mk argsL.toArray X₁ hg hsize hdg hW (X₁.named hnamed) (hpre vm₁ X₁.warmed) with ⟨v, B, X', hpost, hsteps⟩ | ⟨q, B, X', hpost, hsteps⟩
  · exact Or.inl ⟨v, vm₁, B, X₁.warmed, X', hpost, fun target h => hstep₁ _ fun acts => by rw [doInvoke_state]; exact hsteps.trans h⟩
  · exact Or.inr ⟨q, vm₁, B, X₁.warmed, X', hpost, hstep₁ _ fun acts => by rw [doInvoke_state]; exact hsteps⟩
theorem vx_callVW (X : Stand p l e R s m args below meth c T locs cells slots) (hexec : p.tables.exec = Jvm.exec) {own C : String} {index : Nat} {y : MethodName} {bytes : ByteArray} {maxL : Nat} {ret : Option FieldType} {hh : List (Nat × Nat × Nat × Nat)}
    (hown : s.vm.findClass own = some m.cls) (hlink : (Cond.methodLink own index y).before args s = true) (hinst : (Cond.instanceMethod y).before args s = true) (hsel : (Cond.selects C y y).before args s = true)
    (hcode : (Cond.codeWith y bytes maxL ret hh).before args s = true) (hy : y.cls ≠ "java/lang/invoke/MethodHandle" ∧ y.cls ≠ "java/lang/invoke/VarHandle")
    {W9 : Nat} {Pre : Pt → Array Value → Prop} {Post : Pt → Array Value → Option Value → Pt → Prop} (hK : Back l R p e below s args y 3 W9 Pre Post)
    {b : Addr} {cellB : Cell} (hcell : T.heap[b]? = some cellB) (hobj : cellB.vm.isStatics = false) (hcls : s.vm.findClass C = some cellB.cls)
    {g : JFrame} (hg : g.method = m) (hsize : g.locals.size = c.maxLocals) {argsL rest : List Value} (hlen : ∀ sig, parseMethodDescriptor y.desc = some sig → argsL.length = sig.parameters.length)
    (hstack : g.stack = argsL.reverse ++ .ref b :: rest) (hW : 2 * g.monitorRoom + (rest.map fun v => v.category).sum ≤ W9) (hdg : decode c.code g.pc = .ok (.invokevirtual index, 3))
    (hpre : ∀ vm₁, s.WarmedH vm₁ → Pre ⟨T.setVm vm₁, locs, cells, slots⟩ (Value.ref b :: argsL).toArray) :
    ∃ (v : Option Value) (vm₁ : Vm) (B : Pt), s.WarmedH vm₁ ∧ Stand p l e R s m args below meth c B.U B.locs B.cells B.slots ∧ Post ⟨T.setVm vm₁, locs, cells, slots⟩ (Value.ref b :: argsL).toArray v B ∧
      ∀ target, Steps p.tables e below (B.U.setTop { g with pc := g.pc + 3, stack := v.toList ++ rest }) target → Steps p.tables e below (T.setTop g) target := by
  obtain ⟨mk, methM, hnamed, hmethM, hstM, habM⟩ := Cond.instanceMethod_spec hinst
  obtain ⟨m8, methM', cM, hn8, hmethM', -, -, -, -, -, -, hsigM⟩ := Cond.codeWith_spec hcode
  cases Option.some.inj (hn8.symm.trans hnamed)
  cases hmethM.symm.trans hmethM'
  obtain ⟨c2, r2, m2, q1, q2, q3, q4, kP, hkP, hkPi⟩ := Cond.selects_spec hsel
  cases hcls.symm.trans q1
  cases (State.methodFound?_of_named hnamed hy).symm.trans q2
  cases hnamed.symm.trans q3
  have hselP : selectMethod e.platform s.vm cellB.cls mk = .method mk := by rw [Launch.admits_selectMethod X.admits]; exact q4
  obtain ⟨vm₁, X₁, hstep₁⟩ := X.invokevirtual hexec hown hlink hnamed hmethM hstM hkP hkPi hy (a := b) (cell := cellB) hcell
    (fun z h => by rw [h] at hobj; cases hobj) hselP hmethM habM hkP hkPi (g := g) hg (argsL := argsL) (rest := rest) (hlen _ hsigM) hstack hdg
  obtain ⟨v, B, X', hpost, hsteps⟩ := hK m meth c ⟨T.setVm vm₁, locs, cells, slots⟩ { g with stack := rest } (.invokevirtual index) mk (Value.ref b :: argsL).toArray X₁ hg hsize hdg hW (X₁.named hnamed) (hpre vm₁ X₁.warmed)
  exact ⟨v, vm₁, B, X₁.warmed, X', hpost, fun target h => hstep₁ _ fun acts => by rw [doInvoke_state]; exact hsteps.trans h⟩
abbrev vx_CVW (R : Room) (s : State) (args : Array Value) (own C : String) (index : Nat) (y : MethodName) (bytes : ByteArray) (maxL : Nat) (ret : Option FieldType) (hh : List (Nat × Nat × Nat × Nat)) (ws : List Cond) (rm : Room) (mc ms n : Nat) : Prop :=
  (rm.cells = mc ∧ rm.slots = ms ∧ rm.frames + 1 ≤ R.frames ∧ 8 + (maxL + 11) + rm.locals ≤ R.locals ∧ (∀ w ∈ ws, ∀ (a' : Array Value) (U : State), s.WarmedH U.vm → w.before a' U = true) ∧ Cond.codeWith y bytes maxL ret hh ∈ ws) ∧
  (Cond.codeWith y bytes maxL ret hh).before args s = true ∧ (Cond.initialized y.cls).before args s = true ∧ (y.cls ≠ "java/lang/invoke/MethodHandle" ∧ y.cls ≠ "java/lang/invoke/VarHandle") ∧
  (∀ sig, parseMethodDescriptor y.desc = some sig → n = sig.parameters.length) ∧ (Cond.methodLink own index y).before args s = true ∧ (Cond.instanceMethod y).before args s = true ∧ (Cond.selects C y y).before args s = true
theorem vx_cwVW {own C : String} {index maxL mc ms : Nat} {y : MethodName} {bytes : ByteArray} {ret : Option FieldType} {hh : List (Nat × Nat × Nat × Nat)} {Ts ws ws' : List Cond} {rm : Room} (n : Nat) (ht : ∀ w ∈ Ts, w.before args s = true) (hT : GoodIn Ts (wsV own index C y ws)) (hw : ws = Cond.codeWith y bytes maxL ret hh :: ws') (hrc : rm.cells = mc) (hrs : rm.slots = ms)
    (hd : y.cls = C ∧ y.cls ≠ "java/lang/invoke/MethodHandle" ∧ y.cls ≠ "java/lang/invoke/VarHandle" ∧ (parseMethodDescriptor y.desc).map (fun d => d.parameters.length) = some n) (hR : rm.frames + 1 ≤ R.frames ∧ 8 + (maxL + 11) + rm.locals ≤ R.locals) :
    vx_CVW R s args own C index y bytes maxL ret hh ws rm mc ms n := by
  obtain ⟨hC, hd⟩ := hd
  subst hC
  have ok : ∀ w ∈ wsV own index y.cls y ws, w.before args s = true := fun w h => ht w (hT w h).1
  have hG : GoodIn Ts ws := fun w h => hT w (by unfold wsV; exact List.mem_append_right _ h)
  have hc : Cond.codeWith y bytes maxL ret hh ∈ ws := by rw [hw]; exact List.mem_cons_self
  refine ⟨⟨hrc, hrs, hR.1, hR.2, pay_in ht hG, hc⟩, ht _ (hG _ hc).1, ok _ (by simp [wsV]), ⟨hd.1, hd.2.1⟩, fun sig h => ?_, ok _ (by simp [wsV]), ok _ (by simp [wsV]), ok _ (by simp [wsV])⟩
  have h2 := hd.2.2
  rw [h] at h2
  exact (Option.some.inj h2).symm
theorem vx_runVW {y : MethodName} {bytes cc : ByteArray} {maxL nL mc ms n index : Nat} {ret : Option FieldType} {hh : List (Nat × Nat × Nat × Nat)} {ws : List Cond} {rm : Room} {Pc : Array Value → State → Prop} {Qc : Array Value → State → Outcome → State → Prop} {free : Addr → Prop} {Ts : List Cond} {own C : String} {b : Addr} {As rest : List Value} {g : JFrame}
    (S : CallFix p m c cc nL s args Ts own) (hM : Met l y ws rm Pc Qc mc ms free) (cw : vx_CVW R s args own C index y bytes maxL ret hh ws rm mc ms n) (hp : PreV s H C b Pc As)
    (hg : g.method = m) (hn : As.length = n) (hsize : g.locals.size = nL) (hstack : g.stack = As.reverse ++ .ref b :: rest) (hW : 2 * g.monitorRoom + (rest.map fun v => v.category).sum ≤ 8) (hdg : decode cc g.pc = .ok (.invokevirtual index, 3)) (hf : cells + mc ≤ R.cells ∧ slots + ms ≤ R.slots) :
    va_Run p l e R s m args below meth c H locs cells slots mc ms g rest (Qc (Value.ref b :: As).toArray) free := by
  obtain ⟨⟨hrc, hrs, hfr, hlo, hws, hcw⟩, hcode, hini, hy, hlen, hl, hin, hse⟩ := cw
  have hK : Back l R p e below s args y 3 8 (PreOf R mc ms Pc) (PostOf Qc mc ms free) := va_backW (hh := hh) (bytes := bytes) (maxL := maxL) (ret := ret) hM hp.1 hrc hrs hfr hlo hws hcw (fun a' U hW => word_at hW (Or.inl (by first | rfl | simp [Cond.onTables, Cond.keeps, Cond.steady])) hini)
  obtain ⟨hx, hb, hml, ho, -⟩ := S
  obtain ⟨-, ⟨cellB, hcB, hoB, hclB⟩, hPc⟩ := hp
  intro T hT X
  obtain ⟨v, vm₁, ⟨U', l2, c2, s2⟩, hW₁, X', ⟨g', mk, t, L, e1, e2, hq, h1, hL, h2, h3⟩, st⟩ := vx_callVW X hx (C := C) (hh := hh) (bytes := bytes) (maxL := maxL) (ret := ret) ho hl hin hse hcode hy hK (by rw [hT]; exact hcB) hoB hclB hg (hsize.trans hml.symm) (argsL := As) (rest := rest) (fun sig h => hn.trans (hlen sig h)) hstack hW (by rw [hb]; exact hdg)
    (fun vm₁ hW₁ => ⟨hf.1, hf.2, hPc (T.setVm vm₁) hT hW₁⟩)
  dsimp only [Pt.U, Pt.locs, Pt.cells, Pt.slots] at X' e1 e2 h1 h2 h3 st
  subst h1; subst h2; subst h3
  exact ⟨v, (T.setVm vm₁).calling g' mk (Value.ref b :: As).toArray, t, U', L, hT, X', hL, e1, e2, hq, st⟩
section
variable {y : MethodName} {bytes cc : ByteArray} {maxL nL mc ms n index : Nat} {ret : Option FieldType} {ws : List Cond} {rm : Room} {Pc : Array Value → State → Prop} {Qc : Array Value → State → Outcome → State → Prop} {XC : String → State → State → Prop} {free : Addr → Prop} {Ts : List Cond} {own C : String} {b : Addr} {As rest : List Value} {g : JFrame}
theorem vx_runVX {hh : List (Nat × Nat × Nat × Nat)} (S : CallFix p m c cc nL s args Ts own) (hM : vx_Met l y ws rm Pc Qc XC mc ms free) (cw : vx_CVW R s args own C index y bytes maxL ret hh ws rm mc ms n) (hp : PreV s H C b Pc As)
    (hg : g.method = m) (hn : As.length = n) (hsize : g.locals.size = nL) (hstack : g.stack = As.reverse ++ .ref b :: rest) (hW : 2 * g.monitorRoom + (rest.map fun v => v.category).sum ≤ 8) (hdg : decode cc g.pc = .ok (.invokevirtual index, 3)) (hf : cells + mc ≤ R.cells ∧ slots + ms ≤ R.slots) :
    vx_Run p l e R s m args below meth c H locs cells slots mc ms g rest (Qc (Value.ref b :: As).toArray) XC free := by
  obtain ⟨⟨hrc, hrs, hfr, hlo, hws, hcw⟩, hcode, hini, hy, hlen, hl, hin, hse⟩ := cw
  have hK : vx_Back l R p e below s args y 3 8 (PreOf R mc ms Pc) (PostOf Qc mc ms free) (vx_Post XC mc ms free) := vx_backW (hh := hh) (bytes := bytes) (maxL := maxL) (ret := ret) hM hp.1 hrc hrs hfr hlo hws hcw (fun a' U hW => word_at hW (Or.inl (by first | rfl | simp [Cond.onTables, Cond.keeps, Cond.steady])) hini)
  obtain ⟨hx, hb, hml, ho, -⟩ := S
  obtain ⟨-, ⟨cellB, hcB, hoB, hclB⟩, hPc⟩ := hp
  intro T hT X
  rcases vx_callVX X hx (C := C) (hh := hh) (bytes := bytes) (maxL := maxL) (ret := ret) ho hl hin hse hcode hy hK (by rw [hT]; exact hcB) hoB hclB hg (hsize.trans hml.symm) (argsL := As) (rest := rest) (fun sig h => hn.trans (hlen sig h)) hstack hW (by rw [hb]; exact hdg)
    (fun vm₁ hW₁ => ⟨hf.1, hf.2, hPc (T.setVm vm₁) hT hW₁⟩) with ⟨v, vm₁, ⟨U', l2, c2, s2⟩, hW₁, X', ⟨g', mk, t, L, e1, e2, hq, h1, hL, h2, h3⟩, st⟩ | ⟨q, vm₁, ⟨U', l2, c2, s2⟩, hW₁, X', ⟨g', mk, t, L, E, ce, e1, e2, hq, hce, hcv, hcl, h1, hL, h2, h3⟩, st⟩
  · dsimp only [Pt.U, Pt.locs, Pt.cells, Pt.slots] at X' e1 e2 h1 h2 h3 st
    subst h1; subst h2; subst h3
    exact Or.inl ⟨v, (T.setVm vm₁).calling g' mk (Value.ref b :: As).toArray, t, U', L, hT, X', hL, e1, e2, hq, st⟩
  · dsimp only [Pt.U, Pt.locs, Pt.cells, Pt.slots] at X' e1 e2 h1 h2 h3 st hcl
    subst h1; subst h2; subst h3
    exact Or.inr ⟨q, (T.setVm vm₁).calling g' mk (Value.ref b :: As).toArray, t, U', L, E, ce, hT, X', hL, e1, e2, hq, hce, hcv, vx_cls hW₁ hcl, st⟩
theorem vx_runSX {hh : List (Nat × Nat × Nat × Nat)} (S : CallFix p m c cc nL s args Ts own) (hM : vx_Met l y ws rm Pc Qc XC mc ms free) (cw : vx_CSW R s args own index y bytes maxL ret hh ws rm mc ms n) (hp : PreS s H Pc As)
    (hg : g.method = m) (hn : As.length = n) (hsize : g.locals.size = nL) (hstack : g.stack = As.reverse ++ rest) (hW : 2 * g.monitorRoom + (rest.map fun v => v.category).sum ≤ 8) (hdg : decode cc g.pc = .ok (.invokestatic index, 3)) (hf : cells + mc ≤ R.cells ∧ slots + ms ≤ R.slots) :
    vx_Run p l e R s m args below meth c H locs cells slots mc ms g rest (Qc As.toArray) XC free := by
  obtain ⟨⟨hrc, hrs, hfr, hlo, hws, hcw⟩, hcode, hini, hy, hlen, hl, hstt⟩ := cw
  have hK : vx_Back l R p e below s args y 3 8 (PreOf R mc ms Pc) (PostOf Qc mc ms free) (vx_Post XC mc ms free) := vx_backW (hh := hh) (bytes := bytes) (maxL := maxL) (ret := ret) hM hp.1 hrc hrs hfr hlo hws hcw (fun a' U hW => word_at hW (Or.inl (by first | rfl | simp [Cond.onTables, Cond.keeps, Cond.steady])) hini)
  obtain ⟨hx, hb, hml, ho, -⟩ := S
  intro T hT X
  rcases vx_callSX X hx (hh := hh) (bytes := bytes) (maxL := maxL) (ret := ret) ho hl hstt hini hcode hy hK hg (hsize.trans hml.symm) (argsL := As) (rest := rest) (fun sig h => hn.trans (hlen sig h)) hstack hW (by rw [hb]; exact hdg)
    (fun vm₁ hW₁ => ⟨hf.1, hf.2, hp.2 (T.setVm vm₁) hT hW₁⟩) with ⟨v, vm₁, ⟨U', l2, c2, s2⟩, hW₁, X', ⟨g', mk, t, L, e1, e2, hq, h1, hL, h2, h3⟩, st⟩ | ⟨q, vm₁, ⟨U', l2, c2, s2⟩, hW₁, X', ⟨g', mk, t, L, E, ce, e1, e2, hq, hce, hcv, hcl, h1, hL, h2, h3⟩, st⟩
  · dsimp only [Pt.U, Pt.locs, Pt.cells, Pt.slots] at X' e1 e2 h1 h2 h3 st
    subst h1; subst h2; subst h3
    exact Or.inl ⟨v, (T.setVm vm₁).calling g' mk As.toArray, t, U', L, hT, X', hL, e1, e2, hq, st⟩
  · dsimp only [Pt.U, Pt.locs, Pt.cells, Pt.slots] at X' e1 e2 h1 h2 h3 st hcl
    subst h1; subst h2; subst h3
    exact Or.inr ⟨q, (T.setVm vm₁).calling g' mk As.toArray, t, U', L, E, ce, hT, X', hL, e1, e2, hq, hce, hcv, vx_cls hW₁ hcl, st⟩
end
end VXH
theorem vx_ofWH {l : Launch} {y : MethodName} {ws ws' : List Cond} {rm : Room} {Pc : Array Value → State → Prop} {Qc : Array Value → State → Outcome → State → Prop} {XC : String → State → State → Prop} {mc ms : Nat} {free : Addr → Prop} {cc : ByteArray} {maxL : Nat} {ret : Option FieldType} {hh : List (Nat × Nat × Nat × Nat)}
    (hy : plainName y.cls = true) (hw : ws = Cond.codeWith y cc maxL ret hh :: ws')
    (body : ∀ p e s m args below meth c s₁, BodyLoose p l y (headSpec ws rm) cc maxL ret e s m args below meth c s₁ → c.maxLocals = maxL → Pc args s →
      W p l e (headSpec ws rm).room s m args below meth c s.heap [] 0 0 (vx_MQ below Qc XC args s mc ms free) (entryFrame m args maxL)) : vx_Met l y ws rm Pc Qc XC mc ms free := by
  refine MetFree.of_bodyS (code := cc) (maxLocals := maxL) (ret := ret) hy ?_ ?_
  · intro args s m h hn
    obtain ⟨m9, meth, c, hn9, h1, h2, h3, h4, -, h5, h6, -⟩ := Cond.codeWith_spec (atoms_spec (ws := ws) h _ (by rw [hw]; exact List.mem_cons_self))
    cases hn.symm.trans hn9
    exact ⟨meth, c, h1, h2, h3, h4, h5, h6⟩
  · intro p e s m args below meth c s₁ B hml hP _
    have hh0 : s₁.heap = s.heap := by rw [B.state]; rfl
    obtain ⟨t, a1, o, b1, b2, b3⟩ := body p e s m args below meth c s₁ B hml hP s₁ hh0 (Stand.of_body B)
    exact ⟨t, o, a1, b1, b2, b3⟩
/-! ===== END ===== -/

/-! ===== BEGIN a private method of a nest mate that may throw (follows va_callVN, va_callSN, va_runVN, va_runSN) ===== -/
section
variable {p : Program} {l : Launch} {e : Env} {R : Room} {s : State} {m : MethodId} {args : Array Value} {below : List Frame} {meth : Method} {c : Code} {H : Heap} {locs : List Loc} {cells slots : Nat}
variable {T : State}
theorem vx_callVN (X : Stand p l e R s m args below meth c T locs cells slots) (hexec : p.tables.exec = Jvm.exec) {own C : String} {index : Nat} {host : String} {y : MethodName} {bytes : ByteArray} {maxL : Nat} {ret : Option FieldType}
    (hown : s.vm.findClass own = some m.cls) (hlink : (Cond.methodLinkNest own index y host).before args s = true) (hinst : (Cond.instanceMethod y).before args s = true) (hsel : (Cond.selects C y y).before args s = true)
    (hcode : (Cond.code y bytes maxL ret).before args s = true) (hy : y.cls ≠ "java/lang/invoke/MethodHandle" ∧ y.cls ≠ "java/lang/invoke/VarHandle")
    {W : Nat} {Pre : Pt → Array Value → Prop} {Post : Pt → Array Value → Option Value → Pt → Prop} {PostX : Pt → Array Value → Addr → Pt → Prop} (hK : vx_Back l R p e below s args y 3 W Pre Post PostX)
    {b : Addr} {cellB : Cell} (hcell : T.heap[b]? = some cellB) (hobj : cellB.vm.isStatics = false) (hcls : s.vm.findClass C = some cellB.cls)
    {g : JFrame} (hg : g.method = m) (hsize : g.locals.size = c.maxLocals) {argsL rest : List Value} (hlen : ∀ sig, parseMethodDescriptor y.desc = some sig → argsL.length = sig.parameters.length)
    (hstack : g.stack = argsL.reverse ++ .ref b :: rest) (hW : 2 * g.monitorRoom + (rest.map fun v => v.category).sum ≤ W) (hdg : decode c.code g.pc = .ok (.invokevirtual index, 3))
    (hpre : ∀ vm₁, s.WarmedH vm₁ → Pre ⟨T.setVm vm₁, locs, cells, slots⟩ (Value.ref b :: argsL).toArray) :
    (∃ (v : Option Value) (vm₁ : Vm) (B : Pt), s.WarmedH vm₁ ∧ Stand p l e R s m args below meth c B.U B.locs B.cells B.slots ∧ Post ⟨T.setVm vm₁, locs, cells, slots⟩ (Value.ref b :: argsL).toArray v B ∧
      ∀ target, Steps p.tables e below (B.U.setTop { g with pc := g.pc + 3, stack := v.toList ++ rest }) target → Steps p.tables e below (T.setTop g) target) ∨
    (∃ (q : Addr) (vm₁ : Vm) (B : Pt), s.WarmedH vm₁ ∧ Stand p l e R s m args below meth c B.U B.locs B.cells B.slots ∧ PostX ⟨T.setVm vm₁, locs, cells, slots⟩ (Value.ref b :: argsL).toArray q B ∧
      Steps p.tables e below (T.setTop g) ((B.U.setTop { g with stack := rest }).pushFrame (.throwing q))) := by
  obtain ⟨mk, methM, hnamed, hmethM, hstM, habM⟩ := Cond.instanceMethod_spec hinst
  obtain ⟨methM', cM, hmethM', -, -, -, -, -, -, hsigM⟩ := Cond.code_spec hnamed hcode
  cases hmethM.symm.trans hmethM'
  obtain ⟨c2, r2, m2, q1, q2, q3, q4, kP, hkP, hkPi⟩ := Cond.selects_spec hsel
  cases hcls.symm.trans q1
  cases (State.methodFound?_of_named hnamed hy).symm.trans q2
  cases hnamed.symm.trans q3
  have hselP : selectMethod e.platform s.vm cellB.cls mk = .method mk := by rw [Launch.admits_selectMethod X.admits]; exact q4
  obtain ⟨vm₁, X₁, hstep₁⟩ := X.invokevirtualNest hexec hown hlink hnamed hmethM hstM hkP hkPi hy (a := b) (cell := cellB) hcell
    (fun z h => by rw [h] at hobj; cases hobj) hselP hmethM habM hkP hkPi (g := g) hg (argsL := argsL) (rest := rest) (hlen _ hsigM) hstack hdg
  rcases hK m meth c ⟨T.setVm vm₁, locs, cells, slots⟩ { g with stack := rest } (.invokevirtual index) mk (Value.ref b :: argsL).toArray X₁ hg hsize hdg hW (X₁.named hnamed) (hpre vm₁ X₁.warmed) with ⟨v, B, X', hpost, hsteps⟩ | ⟨q, B, X', hpost, hsteps⟩
  · exact Or.inl ⟨v, vm₁, B, X₁.warmed, X', hpost, fun target h => hstep₁ _ fun acts => by rw [doInvoke_state]; exact hsteps.trans h⟩
  · exact Or.inr ⟨q, vm₁, B, X₁.warmed, X', hpost, hstep₁ _ fun acts => by rw [doInvoke_state]; exact hsteps⟩
theorem vx_callSN (X : Stand p l e R s m args below meth c T locs cells slots) (hexec : p.tables.exec = Jvm.exec) {own : String} {index : Nat} {host : String} {y : MethodName} {bytes : ByteArray} {maxL : Nat} {ret : Option FieldType}
    (hown : s.vm.findClass own = some m.cls) (hlink : (Cond.methodLinkNest own index y host).before args s = true) (hstat : (Cond.static y).before args s = true) (hinit : (Cond.initialized y.cls).before args s = true)
    (hcode : (Cond.code y bytes maxL ret).before args s = true) (hy : y.cls ≠ "java/lang/invoke/MethodHandle" ∧ y.cls ≠ "java/lang/invoke/VarHandle")
    {W : Nat} {Pre : Pt → Array Value → Prop} {Post : Pt → Array Value → Option Value → Pt → Prop} {PostX : Pt → Array Value → Addr → Pt → Prop} (hK : vx_Back l R p e below s args y 3 W Pre Post PostX)
    {g : JFrame} (hg : g.method = m) (hsize : g.locals.size = c.maxLocals) {argsL rest : List Value} (hlen : ∀ sig, parseMethodDescriptor y.desc = some sig → argsL.length = sig.parameters.length)
    (hstack : g.stack = argsL.reverse ++ rest) (hW : 2 * g.monitorRoom + (rest.map fun v => v.category).sum ≤ W) (hdg : decode c.code g.pc = .ok (.invokestatic index, 3))
    (hpre : ∀ vm₁, s.WarmedH vm₁ → Pre ⟨T.setVm vm₁, locs, cells, slots⟩ argsL.toArray) :
    (∃ (v : Option Value) (vm₁ : Vm) (B : Pt), s.WarmedH vm₁ ∧ Stand p l e R s m args below meth c B.U B.locs B.cells B.slots ∧ Post ⟨T.setVm vm₁, locs, cells, slots⟩ argsL.toArray v B ∧
      ∀ target, Steps p.tables e below (B.U.setTop { g with pc := g.pc + 3, stack := v.toList ++ rest }) target → Steps p.tables e below (T.setTop g) target) ∨
    (∃ (q : Addr) (vm₁ : Vm) (B : Pt), s.WarmedH vm₁ ∧ Stand p l e R s m args below meth c B.U B.locs B.cells B.slots ∧ PostX ⟨T.setVm vm₁, locs, cells, slots⟩ argsL.toArray q B ∧
      Steps p.tables e below (T.setTop g) ((B.U.setTop { g with stack := rest }).pushFrame (.throwing q))) := by
  obtain ⟨mk, hnamed⟩ := Cond.code_named hcode
  obtain ⟨methM, cM, hmethM, -, -, -, -, -, -, hsigM⟩ := Cond.code_spec hnamed hcode
  have hstatic : methM.isStatic = true := Cond.static_spec hnamed hmethM hstat
  obtain ⟨kP, hkP, -⟩ := className_of_methodNamed hnamed
  have hinitP : kP.init = .initialized := Cond.initialized_spec (findClass_of_methodNamed hnamed) hkP hinit
  obtain ⟨vm₁, X₁, hstep₁⟩ := X.invokestaticNest hexec hown hlink hnamed hmethM hstatic hkP hinitP hy (g := g) hg (argsL := argsL) (rest := rest) (hlen _ hsigM) hstack hdg
  rcases hK m meth c ⟨T.setVm vm₁, locs, cells, slots⟩ { g with stack := rest } (.invokestatic index) mk argsL.toArray X₁ hg hsize hdg hW (X₁.named hnamed) (hpre vm₁ X₁.warmed) with ⟨v, B, X', hpost, hsteps⟩ | ⟨q, B, X', hpost, hsteps⟩
  · exact Or.inl ⟨v, vm₁, B, X₁.warmed, X', hpost, fun target h => hstep₁ _ fun acts => by rw [doInvoke_state]; exact hsteps.trans h⟩
  · exact Or.inr ⟨q, vm₁, B, X₁.warmed, X', hpost, hstep₁ _ fun acts => by rw [doInvoke_state]; exact hsteps⟩
theorem vx_runVN {y : MethodName} {bytes cc : ByteArray} {maxL nL mc ms n index : Nat} {ret : Option FieldType} {ws : List Cond} {rm : Room} {Pc : Array Value → State → Prop} {Qc : Array Value → State → Outcome → State → Prop} {XC : String → State → State → Prop} {free : Addr → Prop} {Ts : List Cond} {own C host : String} {b : Addr} {As rest : List Value} {g : JFrame}
    (S : CallFix p m c cc nL s args Ts own) (hM : vx_Met l y ws rm Pc Qc XC mc ms free) (cw : va_CN R s args own index y host bytes maxL ret ws rm mc ms n ∧ (Cond.instanceMethod y).before args s = true ∧ (Cond.selects C y y).before args s = true) (hp : PreV s H C b Pc As)
    (hg : g.method = m) (hn : As.length = n) (hsize : g.locals.size = nL) (hstack : g.stack = As.reverse ++ .ref b :: rest) (hW : 2 * g.monitorRoom + (rest.map fun v => v.category).sum ≤ 8) (hdg : decode cc g.pc = .ok (.invokevirtual index, 3)) (hf : cells + mc ≤ R.cells ∧ slots + ms ≤ R.slots) :
    vx_Run p l e R s m args below meth c H locs cells slots mc ms g rest (Qc (Value.ref b :: As).toArray) XC free := by
  obtain ⟨⟨⟨hrc, hrs, hfr, hlo, hws, hcw⟩, hcode, hini, hy, hlen, hl⟩, hx1, hx2⟩ := cw
  have hK : vx_Back l R p e below s args y 3 8 (PreOf R mc ms Pc) (PostOf Qc mc ms free) (vx_Post XC mc ms free) := vx_back (bytes := bytes) (maxL := maxL) (ret := ret) hM hp.1 hrc hrs hfr hlo hws hcw (fun a' U hW => word_at hW (Or.inl (by first | rfl | simp [Cond.onTables, Cond.keeps, Cond.steady])) hini)
  obtain ⟨hx, hb, hml, ho, -⟩ := S
  obtain ⟨-, ⟨cellB, hcB, hoB, hclB⟩, hPc⟩ := hp
  intro T hT X
  rcases vx_callVN X hx (C := C) (bytes := bytes) (maxL := maxL) (ret := ret) ho hl hx1 hx2 hcode hy hK (by rw [hT]; exact hcB) hoB hclB hg (hsize.trans hml.symm) (argsL := As) (rest := rest) (fun sig h => hn.trans (hlen sig h)) hstack hW (by rw [hb]; exact hdg)
    (fun vm₁ hW₁ => ⟨hf.1, hf.2, hPc (T.setVm vm₁) hT hW₁⟩) with ⟨v, vm₁, ⟨U', l2, c2, s2⟩, hW₁, X', ⟨g', mk, t, L, e1, e2, hq, h1, hL, h2, h3⟩, st⟩ | ⟨q, vm₁, ⟨U', l2, c2, s2⟩, hW₁, X', ⟨g', mk, t, L, E, ce, e1, e2, hq, hce, hcv, hcl, h1, hL, h2, h3⟩, st⟩
  · dsimp only [Pt.U, Pt.locs, Pt.cells, Pt.slots] at X' e1 e2 h1 h2 h3 st
    subst h1; subst h2; subst h3
    exact Or.inl ⟨v, (T.setVm vm₁).calling g' mk (Value.ref b :: As).toArray, t, U', L, hT, X', hL, e1, e2, hq, st⟩
  · dsimp only [Pt.U, Pt.locs, Pt.cells, Pt.slots] at X' e1 e2 h1 h2 h3 st hcl
    subst h1; subst h2; subst h3
    exact Or.inr ⟨q, (T.setVm vm₁).calling g' mk (Value.ref b :: As).toArray, t, U', L, E, ce, hT, X', hL, e1, e2, hq, hce, hcv, vx_cls hW₁ hcl, st⟩
theorem vx_runSN {y : MethodName} {bytes cc : ByteArray} {maxL nL mc ms n index : Nat} {ret : Option FieldType} {ws : List Cond} {rm : Room} {Pc : Array Value → State → Prop} {Qc : Array Value → State → Outcome → State → Prop} {XC : String → State → State → Prop} {free : Addr → Prop} {Ts : List Cond} {own host : String} {As rest : List Value} {g : JFrame}
    (S : CallFix p m c cc nL s args Ts own) (hM : vx_Met l y ws rm Pc Qc XC mc ms free) (cw : va_CN R s args own index y host bytes maxL ret ws rm mc ms n ∧ (Cond.static y).before args s = true ∧ True) (hp : PreS s H Pc As)
    (hg : g.method = m) (hn : As.length = n) (hsize : g.locals.size = nL) (hstack : g.stack = As.reverse ++ rest) (hW : 2 * g.monitorRoom + (rest.map fun v => v.category).sum ≤ 8) (hdg : decode cc g.pc = .ok (.invokestatic index, 3)) (hf : cells + mc ≤ R.cells ∧ slots + ms ≤ R.slots) :
    vx_Run p l e R s m args below meth c H locs cells slots mc ms g rest (Qc As.toArray) XC free := by
  obtain ⟨⟨⟨hrc, hrs, hfr, hlo, hws, hcw⟩, hcode, hini, hy, hlen, hl⟩, hx1, hx2⟩ := cw
  have hK : vx_Back l R p e below s args y 3 8 (PreOf R mc ms Pc) (PostOf Qc mc ms free) (vx_Post XC mc ms free) := vx_back (bytes := bytes) (maxL := maxL) (ret := ret) hM hp.1 hrc hrs hfr hlo hws hcw (fun a' U hW => word_at hW (Or.inl (by first | rfl | simp [Cond.onTables, Cond.keeps, Cond.steady])) hini)
  obtain ⟨hx, hb, hml, ho, -⟩ := S
  have hPc := hp.2
  intro T hT X
  rcases vx_callSN X hx (bytes := bytes) (maxL := maxL) (ret := ret) ho hl hx1 hini hcode hy hK hg (hsize.trans hml.symm) (argsL := As) (rest := rest) (fun sig h => hn.trans (hlen sig h)) hstack hW (by rw [hb]; exact hdg)
    (fun vm₁ hW₁ => ⟨hf.1, hf.2, hPc (T.setVm vm₁) hT hW₁⟩) with ⟨v, vm₁, ⟨U', l2, c2, s2⟩, hW₁, X', ⟨g', mk, t, L, e1, e2, hq, h1, hL, h2, h3⟩, st⟩ | ⟨q, vm₁, ⟨U', l2, c2, s2⟩, hW₁, X', ⟨g', mk, t, L, E, ce, e1, e2, hq, hce, hcv, hcl, h1, hL, h2, h3⟩, st⟩
  · dsimp only [Pt.U, Pt.locs, Pt.cells, Pt.slots] at X' e1 e2 h1 h2 h3 st
    subst h1; subst h2; subst h3
    exact Or.inl ⟨v, (T.setVm vm₁).calling g' mk As.toArray, t, U', L, hT, X', hL, e1, e2, hq, st⟩
  · dsimp only [Pt.U, Pt.locs, Pt.cells, Pt.slots] at X' e1 e2 h1 h2 h3 st hcl
    subst h1; subst h2; subst h3
    exact Or.inr ⟨q, (T.setVm vm₁).calling g' mk As.toArray, t, U', L, E, ce, hT, X', hL, e1, e2, hq, hce, hcv, vx_cls hW₁ hcl, st⟩
end
/-! ===== END ===== -/
end
section
def RX0 : String := "TwistyBarrels$Barrel"
def TX0 : u_T := fun k => match k with
  | 0 => ("TwistyBarrels$Barrel", "stickers", "[I", true)
  | 1 => ("TwistyBarrels$Barrel", "slots", "[I", true)
  | _ => ("TwistyBarrels$Barrel", "colours", "[I", true)
def tyX0 : Nat → FieldType := fun k => match k with
  | 0 => .array .int
  | 1 => .array .int
  | _ => .array .int
theorem nmX0 : ∀ a, a < 3 → ∀ b, b < 3 → a ≠ b → (TX0 a).2.1 ≠ (TX0 b).2.1 := by decide +kernel
theorem tyX0_ok : ∀ k, k < 3 → parseFieldDescriptor (TX0 k).2.2.1 = some (tyX0 k) := by decide +kernel
abbrev cX0_init : ByteArray := prog_2_method_1_code
def yX0_init : MethodName := ⟨RX0, "<init>", "()V"⟩
abbrev cX0_copyFrom : ByteArray := prog_2_method_2_code
def yX0_copyFrom : MethodName := ⟨RX0, "copyFrom", "(LTwistyBarrels$Barrel;)V"⟩
abbrev cX0_stickerIn : ByteArray := prog_2_method_3_code
def yX0_stickerIn : MethodName := ⟨RX0, "stickerIn", "(I)I"⟩
abbrev cX0_slotOf : ByteArray := prog_2_method_4_code
def yX0_slotOf : MethodName := ⟨RX0, "slotOf", "(I)I"⟩
abbrev cX0_colourOf : ByteArray := prog_2_method_5_code
def yX0_colourOf : MethodName := ⟨RX0, "colourOf", "(I)I"⟩
abbrev cX0_colourIn : ByteArray := prog_2_method_6_code
def yX0_colourIn : MethodName := ⟨RX0, "colourIn", "(I)I"⟩
abbrev cX0_giveColour : ByteArray := prog_2_method_7_code
def yX0_giveColour : MethodName := ⟨RX0, "giveColour", "(II)V"⟩
abbrev cX0_follow : ByteArray := prog_2_method_8_code
def yX0_follow : MethodName := ⟨RX0, "follow", "(LTwistyBarrels$Permutation;)V"⟩
abbrev cX0_countHome : ByteArray := prog_2_method_9_code
def yX0_countHome : MethodName := ⟨RX0, "countHome", "()I"⟩
abbrev cX0_hasOneColour : ByteArray := prog_2_method_10_code
def yX0_hasOneColour : MethodName := ⟨RX0, "hasOneColour", "(I)Z"⟩
abbrev cX0_countDone : ByteArray := prog_2_method_11_code
def yX0_countDone : MethodName := ⟨RX0, "countDone", "()I"⟩
abbrev cX0_countSeams : ByteArray := prog_2_method_12_code
def yX0_countSeams : MethodName := ⟨RX0, "countSeams", "()I"⟩
abbrev cX0_movesToHomes : ByteArray := prog_2_method_13_code
def yX0_movesToHomes : MethodName := ⟨RX0, "movesToHomes", "()I"⟩
abbrev cX0_isEachWhereTold : ByteArray := prog_2_method_14_code
def yX0_isEachWhereTold : MethodName := ⟨RX0, "isEachWhereTold", "()Z"⟩
def RX1 : String := "TwistyBarrels$MoveLog"
def TX1 : u_T := fun k => match k with
  | 0 => ("TwistyBarrels$MoveLog", "parts", "[I", true)
  | _ => ("TwistyBarrels$MoveLog", "moves", "I", false)
def tyX1 : Nat → FieldType := fun k => match k with
  | 0 => .array .int
  | _ => .int
theorem nmX1 : ∀ a, a < 2 → ∀ b, b < 2 → a ≠ b → (TX1 a).2.1 ≠ (TX1 b).2.1 := by decide +kernel
theorem tyX1_ok : ∀ k, k < 2 → parseFieldDescriptor (TX1 k).2.2.1 = some (tyX1 k) := by decide +kernel
abbrev cX1_init : ByteArray := prog_3_method_1_code
def yX1_init : MethodName := ⟨RX1, "<init>", "()V"⟩
abbrev cX1_copyFrom : ByteArray := prog_3_method_2_code
def yX1_copyFrom : MethodName := ⟨RX1, "copyFrom", "(LTwistyBarrels$MoveLog;)V"⟩
abbrev cX1_size : ByteArray := prog_3_method_3_code
def yX1_size : MethodName := ⟨RX1, "size", "()I"⟩
abbrev cX1_part : ByteArray := prog_3_method_4_code
def yX1_part : MethodName := ⟨RX1, "part", "(II)I"⟩
abbrev cX1_add : ByteArray := prog_3_method_5_code
def yX1_add : MethodName := ⟨RX1, "add", "(III)V"⟩
abbrev cX1_dropLast : ByteArray := prog_3_method_6_code
def yX1_dropLast : MethodName := ⟨RX1, "dropLast", "()V"⟩
abbrev cX1_clear : ByteArray := prog_3_method_7_code
def yX1_clear : MethodName := ⟨RX1, "clear", "()V"⟩
def RX2 : String := "TwistyBarrels$Past"
def TX2 : u_T := fun k => match k with
  | 0 => ("TwistyBarrels$Past", "states", "[LTwistyBarrels$State;", true)
  | _ => ("TwistyBarrels$Past", "held", "I", false)
def tyX2 : Nat → FieldType := fun k => match k with
  | 0 => .array (.object "TwistyBarrels$State")
  | _ => .int
theorem nmX2 : ∀ a, a < 2 → ∀ b, b < 2 → a ≠ b → (TX2 a).2.1 ≠ (TX2 b).2.1 := by decide +kernel
theorem tyX2_ok : ∀ k, k < 2 → parseFieldDescriptor (TX2 k).2.2.1 = some (tyX2 k) := by decide +kernel
abbrev cX2_init : ByteArray := prog_4_method_1_code
def yX2_init : MethodName := ⟨RX2, "<init>", "()V"⟩
abbrev cX2_size : ByteArray := prog_4_method_2_code
def yX2_size : MethodName := ⟨RX2, "size", "()I"⟩
abbrev cX2_clear : ByteArray := prog_4_method_3_code
def yX2_clear : MethodName := ⟨RX2, "clear", "()V"⟩
abbrev cX2_hold : ByteArray := prog_4_method_4_code
def yX2_hold : MethodName := ⟨RX2, "hold", "(LTwistyBarrels$State;)V"⟩
abbrev cX2_giveBack : ByteArray := prog_4_method_5_code
def yX2_giveBack : MethodName := ⟨RX2, "giveBack", "(LTwistyBarrels$State;)V"⟩
def RX3 : String := "TwistyBarrels$Permutation"
def TX3 : u_T := fun k => match k with
  | _ => ("TwistyBarrels$Permutation", "goes", "[I", true)
def tyX3 : Nat → FieldType := fun k => match k with
  | _ => .array .int
theorem nmX3 : ∀ a, a < 1 → ∀ b, b < 1 → a ≠ b → (TX3 a).2.1 ≠ (TX3 b).2.1 := by decide +kernel
theorem tyX3_ok : ∀ k, k < 1 → parseFieldDescriptor (TX3 k).2.2.1 = some (tyX3 k) := by decide +kernel
abbrev cX3_init : ByteArray := prog_5_method_1_code
def yX3_init : MethodName := ⟨RX3, "<init>", "()V"⟩
abbrev cX3_of : ByteArray := prog_5_method_2_code
def yX3_of : MethodName := ⟨RX3, "of", "(I)I"⟩
abbrev cX3_toNothing : ByteArray := prog_5_method_3_code
def yX3_toNothing : MethodName := ⟨RX3, "toNothing", "()V"⟩
abbrev cX3_toCopy : ByteArray := prog_5_method_4_code
def yX3_toCopy : MethodName := ⟨RX3, "toCopy", "(LTwistyBarrels$Permutation;)V"⟩
abbrev cX3_toMove : ByteArray := prog_5_method_5_code
def yX3_toMove : MethodName := ⟨RX3, "toMove", "(III)V"⟩
abbrev cX3_toTurn : ByteArray := prog_5_method_6_code
def yX3_toTurn : MethodName := ⟨RX3, "toTurn", "(II)V"⟩
abbrev cX3_toShift : ByteArray := prog_5_method_7_code
def yX3_toShift : MethodName := ⟨RX3, "toShift", "(II)V"⟩
abbrev cX3_toInverse : ByteArray := prog_5_method_8_code
def yX3_toInverse : MethodName := ⟨RX3, "toInverse", "(LTwistyBarrels$Permutation;)V"⟩
abbrev cX3_then : ByteArray := prog_5_method_9_code
def yX3_then : MethodName := ⟨RX3, "then", "(LTwistyBarrels$Permutation;)V"⟩
abbrev cX3_toPower : ByteArray := prog_5_method_10_code
def yX3_toPower : MethodName := ⟨RX3, "toPower", "(LTwistyBarrels$Permutation;I)V"⟩
abbrev cX3_toCommuted : ByteArray := prog_5_method_11_code
def yX3_toCommuted : MethodName := ⟨RX3, "toCommuted", "(LTwistyBarrels$Permutation;LTwistyBarrels$Permutation;LTwistyBarrels$Permutation;)V"⟩
abbrev cX3_movesNothing : ByteArray := prog_5_method_12_code
def yX3_movesNothing : MethodName := ⟨RX3, "movesNothing", "()Z"⟩
abbrev cX3_countMoved : ByteArray := prog_5_method_13_code
def yX3_countMoved : MethodName := ⟨RX3, "countMoved", "()I"⟩
abbrev cX3_cycleLength : ByteArray := prog_5_method_14_code
def yX3_cycleLength : MethodName := ⟨RX3, "cycleLength", "(I)I"⟩
abbrev cX3_isLowestOfCycle : ByteArray := prog_5_method_15_code
def yX3_isLowestOfCycle : MethodName := ⟨RX3, "isLowestOfCycle", "(I)Z"⟩
abbrev cX3_countCycles : ByteArray := prog_5_method_16_code
def yX3_countCycles : MethodName := ⟨RX3, "countCycles", "(I)I"⟩
abbrev cX3_longestCycle : ByteArray := prog_5_method_17_code
def yX3_longestCycle : MethodName := ⟨RX3, "longestCycle", "()I"⟩
abbrev cX3_orderByCycles : ByteArray := prog_5_method_18_code
def yX3_orderByCycles : MethodName := ⟨RX3, "orderByCycles", "()I"⟩
abbrev cX3_orderByDoing : ByteArray := prog_5_method_19_code
def yX3_orderByDoing : MethodName := ⟨RX3, "orderByDoing", "(LTwistyBarrels$Permutation;)I"⟩
abbrev cX3_isEvenByCycles : ByteArray := prog_5_method_20_code
def yX3_isEvenByCycles : MethodName := ⟨RX3, "isEvenByCycles", "()Z"⟩
abbrev cX3_isEvenByPairs : ByteArray := prog_5_method_21_code
def yX3_isEvenByPairs : MethodName := ⟨RX3, "isEvenByPairs", "()Z"⟩
abbrev cX3_isInEitherOrder : ByteArray := prog_5_method_22_code
def yX3_isInEitherOrder : MethodName := ⟨RX3, "isInEitherOrder", "(LTwistyBarrels$Permutation;)Z"⟩
abbrev cX3_leastCommonMultiple : ByteArray := prog_5_method_23_code
def yX3_leastCommonMultiple : MethodName := ⟨RX3, "leastCommonMultiple", "(II)I"⟩
def RX4 : String := "TwistyBarrels$SequenceReader"
def TX4 : u_T := fun k => match k with
  | 0 => ("TwistyBarrels$SequenceReader", "text", "LTwistyBarrels$Signs;", true)
  | 1 => ("TwistyBarrels$SequenceReader", "place", "I", false)
  | 2 => ("TwistyBarrels$SequenceReader", "sequences", "[LTwistyBarrels$Permutation;", true)
  | 3 => ("TwistyBarrels$SequenceReader", "items", "[LTwistyBarrels$Permutation;", true)
  | 4 => ("TwistyBarrels$SequenceReader", "firsts", "[LTwistyBarrels$Permutation;", true)
  | _ => ("TwistyBarrels$SequenceReader", "inverse", "LTwistyBarrels$Permutation;", true)
def tyX4 : Nat → FieldType := fun k => match k with
  | 0 => .object "TwistyBarrels$Signs"
  | 1 => .int
  | 2 => .array (.object "TwistyBarrels$Permutation")
  | 3 => .array (.object "TwistyBarrels$Permutation")
  | 4 => .array (.object "TwistyBarrels$Permutation")
  | _ => .object "TwistyBarrels$Permutation"
theorem nmX4 : ∀ a, a < 6 → ∀ b, b < 6 → a ≠ b → (TX4 a).2.1 ≠ (TX4 b).2.1 := by decide +kernel
theorem tyX4_ok : ∀ k, k < 6 → parseFieldDescriptor (TX4 k).2.2.1 = some (tyX4 k) := by decide +kernel
abbrev cX4_init : ByteArray := prog_6_method_1_code
def yX4_init : MethodName := ⟨RX4, "<init>", "()V"⟩
abbrev cX4_place : ByteArray := prog_6_method_2_code
def yX4_place : MethodName := ⟨RX4, "place", "()I"⟩
abbrev cX4_result : ByteArray := prog_6_method_3_code
def yX4_result : MethodName := ⟨RX4, "result", "()LTwistyBarrels$Permutation;"⟩
abbrev cX4_understand : ByteArray := prog_6_method_4_code
def yX4_understand : MethodName := ⟨RX4, "understand", "(LTwistyBarrels$State;)I"⟩
abbrev cX4_isItemNext : ByteArray := prog_6_method_5_code
def yX4_isItemNext : MethodName := ⟨RX4, "isItemNext", "()Z"⟩
abbrev cX4_sequence : ByteArray := prog_6_method_6_code
def yX4_sequence : MethodName := ⟨RX4, "sequence", "(ILTwistyBarrels$State;)I"⟩
abbrev cX4_item : ByteArray := prog_6_method_7_code
def yX4_item : MethodName := ⟨RX4, "item", "(ILTwistyBarrels$State;)I"⟩
abbrev cX4_digit : ByteArray := prog_6_method_8_code
def yX4_digit : MethodName := ⟨RX4, "digit", "(II)I"⟩
abbrev cX4_moveItem : ByteArray := prog_6_method_9_code
def yX4_moveItem : MethodName := ⟨RX4, "moveItem", "(ILTwistyBarrels$Permutation;)I"⟩
abbrev cX4_shelfItem : ByteArray := prog_6_method_10_code
def yX4_shelfItem : MethodName := ⟨RX4, "shelfItem", "(LTwistyBarrels$State;LTwistyBarrels$Permutation;)I"⟩
abbrev cX4_repeatedItem : ByteArray := prog_6_method_11_code
def yX4_repeatedItem : MethodName := ⟨RX4, "repeatedItem", "(ILTwistyBarrels$State;LTwistyBarrels$Permutation;)I"⟩
abbrev cX4_commutedItem : ByteArray := prog_6_method_12_code
def yX4_commutedItem : MethodName := ⟨RX4, "commutedItem", "(ILTwistyBarrels$State;LTwistyBarrels$Permutation;)I"⟩
def RX5 : String := "TwistyBarrels$Signs"
def TX5 : u_T := fun k => match k with
  | 0 => ("TwistyBarrels$Signs", "signs", "[C", true)
  | _ => ("TwistyBarrels$Signs", "length", "I", false)
def tyX5 : Nat → FieldType := fun k => match k with
  | 0 => .array .char
  | _ => .int
theorem nmX5 : ∀ a, a < 2 → ∀ b, b < 2 → a ≠ b → (TX5 a).2.1 ≠ (TX5 b).2.1 := by decide +kernel
theorem tyX5_ok : ∀ k, k < 2 → parseFieldDescriptor (TX5 k).2.2.1 = some (tyX5 k) := by decide +kernel
abbrev cX5_init : ByteArray := prog_7_method_1_code
def yX5_init : MethodName := ⟨RX5, "<init>", "()V"⟩
abbrev cX5_size : ByteArray := prog_7_method_2_code
def yX5_size : MethodName := ⟨RX5, "size", "()I"⟩
abbrev cX5_clear : ByteArray := prog_7_method_3_code
def yX5_clear : MethodName := ⟨RX5, "clear", "()V"⟩
abbrev cX5_signAt : ByteArray := prog_7_method_4_code
def yX5_signAt : MethodName := ⟨RX5, "signAt", "(I)I"⟩
abbrev cX5_addSign : ByteArray := prog_7_method_5_code
def yX5_addSign : MethodName := ⟨RX5, "addSign", "(C)V"⟩
abbrev cX5_addNumber : ByteArray := prog_7_method_6_code
def yX5_addNumber : MethodName := ⟨RX5, "addNumber", "(I)V"⟩
abbrev cX5_addCycle : ByteArray := prog_7_method_7_code
def yX5_addCycle : MethodName := ⟨RX5, "addCycle", "(LTwistyBarrels$Permutation;I)V"⟩
def RX6 : String := "TwistyBarrels$State"
def TX6 : u_T := fun k => match k with
  | 0 => ("TwistyBarrels$State", "barrel", "LTwistyBarrels$Barrel;", true)
  | 1 => ("TwistyBarrels$State", "log", "LTwistyBarrels$MoveLog;", true)
  | 2 => ("TwistyBarrels$State", "movesDone", "I", false)
  | 3 => ("TwistyBarrels$State", "sequencesRead", "I", false)
  | 4 => ("TwistyBarrels$State", "learnt", "[LTwistyBarrels$Permutation;", true)
  | _ => ("TwistyBarrels$State", "filled", "[Z", true)
def tyX6 : Nat → FieldType := fun k => match k with
  | 0 => .object "TwistyBarrels$Barrel"
  | 1 => .object "TwistyBarrels$MoveLog"
  | 2 => .int
  | 3 => .int
  | 4 => .array (.object "TwistyBarrels$Permutation")
  | _ => .array .boolean
theorem nmX6 : ∀ a, a < 6 → ∀ b, b < 6 → a ≠ b → (TX6 a).2.1 ≠ (TX6 b).2.1 := by decide +kernel
theorem tyX6_ok : ∀ k, k < 6 → parseFieldDescriptor (TX6 k).2.2.1 = some (tyX6 k) := by decide +kernel
abbrev cX6_init : ByteArray := prog_8_method_1_code
def yX6_init : MethodName := ⟨RX6, "<init>", "()V"⟩
abbrev cX6_copyFrom : ByteArray := prog_8_method_2_code
def yX6_copyFrom : MethodName := ⟨RX6, "copyFrom", "(LTwistyBarrels$State;)V"⟩
abbrev cX6_isFilled : ByteArray := prog_8_method_3_code
def yX6_isFilled : MethodName := ⟨RX6, "isFilled", "(I)Z"⟩
abbrev cX6_onShelf : ByteArray := prog_8_method_4_code
def yX6_onShelf : MethodName := ⟨RX6, "onShelf", "(I)LTwistyBarrels$Permutation;"⟩
abbrev cX6_putOn : ByteArray := prog_8_method_5_code
def yX6_putOn : MethodName := ⟨RX6, "putOn", "(ILTwistyBarrels$Permutation;)V"⟩
abbrev cX6_takeFrom : ByteArray := prog_8_method_6_code
def yX6_takeFrom : MethodName := ⟨RX6, "takeFrom", "(I)V"⟩
abbrev cX6_countFilled : ByteArray := prog_8_method_7_code
def yX6_countFilled : MethodName := ⟨RX6, "countFilled", "()I"⟩
def RX7 : String := "TwistyBarrels"
def TX7 : u_T := fun k => match k with
  | 0 => ("TwistyBarrels", "now", "LTwistyBarrels$State;", true)
  | 1 => ("TwistyBarrels", "past", "LTwistyBarrels$Past;", true)
  | 2 => ("TwistyBarrels", "snapshot", "LTwistyBarrels$State;", true)
  | 3 => ("TwistyBarrels", "hasSnapshot", "Z", false)
  | 4 => ("TwistyBarrels", "reader", "LTwistyBarrels$SequenceReader;", true)
  | 5 => ("TwistyBarrels", "written", "LTwistyBarrels$Signs;", true)
  | 6 => ("TwistyBarrels", "made", "LTwistyBarrels$Permutation;", true)
  | 7 => ("TwistyBarrels", "spare", "LTwistyBarrels$Permutation;", true)
  | 8 => ("TwistyBarrels", "errorKept", "I", false)
  | 9 => ("TwistyBarrels", "reasonKept", "I", false)
  | _ => ("TwistyBarrels", "detailKept", "I", false)
def tyX7 : Nat → FieldType := fun k => match k with
  | 0 => .object "TwistyBarrels$State"
  | 1 => .object "TwistyBarrels$Past"
  | 2 => .object "TwistyBarrels$State"
  | 3 => .boolean
  | 4 => .object "TwistyBarrels$SequenceReader"
  | 5 => .object "TwistyBarrels$Signs"
  | 6 => .object "TwistyBarrels$Permutation"
  | 7 => .object "TwistyBarrels$Permutation"
  | 8 => .int
  | 9 => .int
  | _ => .int
theorem nmX7 : ∀ a, a < 11 → ∀ b, b < 11 → a ≠ b → (TX7 a).2.1 ≠ (TX7 b).2.1 := by decide +kernel
theorem tyX7_ok : ∀ k, k < 11 → parseFieldDescriptor (TX7 k).2.2.1 = some (tyX7 k) := by decide +kernel
abbrev cX7_init : ByteArray := prog_1_method_1_code
def yX7_init : MethodName := ⟨RX7, "<init>", "()V"⟩
abbrev cX7_turn : ByteArray := prog_1_method_2_code
def yX7_turn : MethodName := ⟨RX7, "turn", "(II)I"⟩
abbrev cX7_shift : ByteArray := prog_1_method_3_code
def yX7_shift : MethodName := ⟨RX7, "shift", "(II)I"⟩
abbrev cX7_back : ByteArray := prog_1_method_4_code
def yX7_back : MethodName := ⟨RX7, "back", "()I"⟩
abbrev cX7_scramble : ByteArray := prog_1_method_5_code
def yX7_scramble : MethodName := ⟨RX7, "scramble", "(II)I"⟩
abbrev cX7_logOf : ByteArray := prog_1_method_6_code
def yX7_logOf : MethodName := ⟨RX7, "logOf", "(II)I"⟩
abbrev cX7_at : ByteArray := prog_1_method_7_code
def yX7_at : MethodName := ⟨RX7, "at", "(I)I"⟩
abbrev cX7_where : ByteArray := prog_1_method_8_code
def yX7_where : MethodName := ⟨RX7, "where", "(I)I"⟩
abbrev cX7_paint : ByteArray := prog_1_method_9_code
def yX7_paint : MethodName := ⟨RX7, "paint", "(II)I"⟩
abbrev cX7_colour : ByteArray := prog_1_method_10_code
def yX7_colour : MethodName := ⟨RX7, "colour", "(I)I"⟩
abbrev cX7_isDone : ByteArray := prog_1_method_11_code
def yX7_isDone : MethodName := ⟨RX7, "isDone", "(I)Z"⟩
abbrev cX7_seams : ByteArray := prog_1_method_12_code
def yX7_seams : MethodName := ⟨RX7, "seams", "()I"⟩
abbrev cX7_fewest : ByteArray := prog_1_method_13_code
def yX7_fewest : MethodName := ⟨RX7, "fewest", "(II)I"⟩
abbrev cX7_learn : ByteArray := prog_1_method_14_code
def yX7_learn : MethodName := ⟨RX7, "learn", "(I)I"⟩
abbrev cX7_use : ByteArray := prog_1_method_15_code
def yX7_use : MethodName := ⟨RX7, "use", "(II)I"⟩
abbrev cX7_join : ByteArray := prog_1_method_16_code
def yX7_join : MethodName := ⟨RX7, "join", "(III)I"⟩
abbrev cX7_invert : ByteArray := prog_1_method_17_code
def yX7_invert : MethodName := ⟨RX7, "invert", "(II)I"⟩
abbrev cX7_commute : ByteArray := prog_1_method_18_code
def yX7_commute : MethodName := ⟨RX7, "commute", "(III)I"⟩
abbrev cX7_forget : ByteArray := prog_1_method_19_code
def yX7_forget : MethodName := ⟨RX7, "forget", "(I)I"⟩
abbrev cX7_goesTo : ByteArray := prog_1_method_20_code
def yX7_goesTo : MethodName := ⟨RX7, "goesTo", "(II)I"⟩
abbrev cX7_shelfOf : ByteArray := prog_1_method_21_code
def yX7_shelfOf : MethodName := ⟨RX7, "shelfOf", "(II)I"⟩
abbrev cX7_orderAgain : ByteArray := prog_1_method_22_code
def yX7_orderAgain : MethodName := ⟨RX7, "orderAgain", "(I)I"⟩
abbrev cX7_isEven : ByteArray := prog_1_method_23_code
def yX7_isEven : MethodName := ⟨RX7, "isEven", "(IZ)Z"⟩
abbrev cX7_cycle : ByteArray := prog_1_method_24_code
def yX7_cycle : MethodName := ⟨RX7, "cycle", "(II)I"⟩
abbrev cX7_commutes : ByteArray := prog_1_method_25_code
def yX7_commutes : MethodName := ⟨RX7, "commutes", "(II)Z"⟩
abbrev cX7_line : ByteArray := prog_1_method_26_code
def yX7_line : MethodName := ⟨RX7, "line", "(I)I"⟩
abbrev cX7_logLine : ByteArray := prog_1_method_27_code
def yX7_logLine : MethodName := ⟨RX7, "logLine", "()I"⟩
abbrev cX7_cycleLine : ByteArray := prog_1_method_28_code
def yX7_cycleLine : MethodName := ⟨RX7, "cycleLine", "(I)I"⟩
abbrev cX7_character : ByteArray := prog_1_method_29_code
def yX7_character : MethodName := ⟨RX7, "character", "(I)C"⟩
abbrev cX7_append : ByteArray := prog_1_method_30_code
def yX7_append : MethodName := ⟨RX7, "append", "(C)I"⟩
abbrev cX7_read : ByteArray := prog_1_method_31_code
def yX7_read : MethodName := ⟨RX7, "read", "()I"⟩
abbrev cX7_errorPosition : ByteArray := prog_1_method_32_code
def yX7_errorPosition : MethodName := ⟨RX7, "errorPosition", "()I"⟩
abbrev cX7_refusal : ByteArray := prog_1_method_33_code
def yX7_refusal : MethodName := ⟨RX7, "refusal", "(Z)I"⟩
abbrev cX7_account : ByteArray := prog_1_method_34_code
def yX7_account : MethodName := ⟨RX7, "account", "(I)I"⟩
abbrev cX7_isWell : ByteArray := prog_1_method_35_code
def yX7_isWell : MethodName := ⟨RX7, "isWell", "()Z"⟩
abbrev cX7_meanAway : ByteArray := prog_1_method_36_code
def yX7_meanAway : MethodName := ⟨RX7, "meanAway", "()D"⟩
abbrev cX7_seamShare : ByteArray := prog_1_method_37_code
def yX7_seamShare : MethodName := ⟨RX7, "seamShare", "()F"⟩
abbrev cX7_undo : ByteArray := prog_1_method_38_code
def yX7_undo : MethodName := ⟨RX7, "undo", "()I"⟩
abbrev cX7_save : ByteArray := prog_1_method_39_code
def yX7_save : MethodName := ⟨RX7, "save", "()I"⟩
abbrev cX7_restore : ByteArray := prog_1_method_40_code
def yX7_restore : MethodName := ⟨RX7, "restore", "()I"⟩
abbrev cX7_isIndex : ByteArray := prog_1_method_41_code
def yX7_isIndex : MethodName := ⟨RX7, "isIndex", "(II)Z"⟩
abbrev cX7_needIndex : ByteArray := prog_1_method_42_code
def yX7_needIndex : MethodName := ⟨RX7, "needIndex", "(II)V"⟩
abbrev cX7_needRing : ByteArray := prog_1_method_43_code
def yX7_needRing : MethodName := ⟨RX7, "needRing", "(I)V"⟩
abbrev cX7_needSlot : ByteArray := prog_1_method_44_code
def yX7_needSlot : MethodName := ⟨RX7, "needSlot", "(I)V"⟩
abbrev cX7_needShelf : ByteArray := prog_1_method_45_code
def yX7_needShelf : MethodName := ⟨RX7, "needShelf", "(I)V"⟩
abbrev cX7_needFromTo : ByteArray := prog_1_method_46_code
def yX7_needFromTo : MethodName := ⟨RX7, "needFromTo", "(III)V"⟩
abbrev cX7_needFilled : ByteArray := prog_1_method_47_code
def yX7_needFilled : MethodName := ⟨RX7, "needFilled", "(I)V"⟩
abbrev cX7_needLearnt : ByteArray := prog_1_method_48_code
def yX7_needLearnt : MethodName := ⟨RX7, "needLearnt", "(I)V"⟩
abbrev cX7_refuse : ByteArray := prog_1_method_49_code
def yX7_refuse : MethodName := ⟨RX7, "refuse", "(II)V"⟩
abbrev cX7_roundOf : ByteArray := prog_1_method_50_code
def yX7_roundOf : MethodName := ⟨RX7, "roundOf", "(I)I"⟩
abbrev cX7_doMove : ByteArray := prog_1_method_51_code
def yX7_doMove : MethodName := ⟨RX7, "doMove", "(III)V"⟩
abbrev cX7_doLoggedMove : ByteArray := prog_1_method_52_code
def yX7_doLoggedMove : MethodName := ⟨RX7, "doLoggedMove", "(III)V"⟩
abbrev cX7_putMade : ByteArray := prog_1_method_53_code
def yX7_putMade : MethodName := ⟨RX7, "putMade", "(I)I"⟩
abbrev cX7_isUndoneByInverse : ByteArray := prog_1_method_54_code
def yX7_isUndoneByInverse : MethodName := ⟨RX7, "isUndoneByInverse", "(LTwistyBarrels$Permutation;)Z"⟩
abbrev cX7_takeSequence : ByteArray := prog_1_method_55_code
def yX7_takeSequence : MethodName := ⟨RX7, "takeSequence", "()I"⟩
abbrev cX7_movesBetween : ByteArray := prog_1_method_56_code
def yX7_movesBetween : MethodName := ⟨RX7, "movesBetween", "(II)I"⟩
def RX8 : String := "TwistyBarrelsModel"
def TX8 : u_T := fun k => match k with
  | 0 => ("TwistyBarrelsModel", "s", "[I", true)
  | 1 => ("TwistyBarrelsModel", "before", "[I", true)
  | 2 => ("TwistyBarrelsModel", "saved", "[I", true)
  | 3 => ("TwistyBarrelsModel", "isSaved", "Z", false)
  | 4 => ("TwistyBarrelsModel", "past", "[I", true)
  | 5 => ("TwistyBarrelsModel", "pastMany", "I", false)
  | 6 => ("TwistyBarrelsModel", "thrown", "I", false)
  | 7 => ("TwistyBarrelsModel", "reason", "I", false)
  | 8 => ("TwistyBarrelsModel", "detail", "I", false)
  | 9 => ("TwistyBarrelsModel", "pool", "[I", true)
  | 10 => ("TwistyBarrelsModel", "counts", "[I", true)
  | 11 => ("TwistyBarrelsModel", "rows", "I", false)
  | 12 => ("TwistyBarrelsModel", "were", "[I", true)
  | 13 => ("TwistyBarrelsModel", "text", "[C", true)
  | 14 => ("TwistyBarrelsModel", "length", "I", false)
  | 15 => ("TwistyBarrelsModel", "place", "I", false)
  | 16 => ("TwistyBarrelsModel", "isWrong", "Z", false)
  | 17 => ("TwistyBarrelsModel", "error", "I", false)
  | 18 => ("TwistyBarrelsModel", "line", "[C", true)
  | _ => ("TwistyBarrelsModel", "lineMany", "I", false)
def tyX8 : Nat → FieldType := fun k => match k with
  | 0 => .array .int
  | 1 => .array .int
  | 2 => .array .int
  | 3 => .boolean
  | 4 => .array .int
  | 5 => .int
  | 6 => .int
  | 7 => .int
  | 8 => .int
  | 9 => .array .int
  | 10 => .array .int
  | 11 => .int
  | 12 => .array .int
  | 13 => .array .char
  | 14 => .int
  | 15 => .int
  | 16 => .boolean
  | 17 => .int
  | 18 => .array .char
  | _ => .int
theorem nmX8 : ∀ a, a < 20 → ∀ b, b < 20 → a ≠ b → (TX8 a).2.1 ≠ (TX8 b).2.1 := by decide +kernel
theorem tyX8_ok : ∀ k, k < 20 → parseFieldDescriptor (TX8 k).2.2.1 = some (tyX8 k) := by decide +kernel
abbrev cX8_init : ByteArray := prog_10_method_1_code
def yX8_init : MethodName := ⟨RX8, "<init>", "()V"⟩
abbrev cX8_thrown : ByteArray := prog_10_method_2_code
def yX8_thrown : MethodName := ⟨RX8, "thrown", "()I"⟩
abbrev cX8_in : ByteArray := prog_10_method_3_code
def yX8_in : MethodName := ⟨RX8, "in", "(III)Z"⟩
abbrev cX8_keep : ByteArray := prog_10_method_4_code
def yX8_keep : MethodName := ⟨RX8, "keep", "()V"⟩
abbrev cX8_ends : ByteArray := prog_10_method_5_code
def yX8_ends : MethodName := ⟨RX8, "ends", "(I)I"⟩
abbrev cX8_fails : ByteArray := prog_10_method_6_code
def yX8_fails : MethodName := ⟨RX8, "fails", "(I)I"⟩
abbrev cX8_refuse : ByteArray := prog_10_method_7_code
def yX8_refuse : MethodName := ⟨RX8, "refuse", "(III)I"⟩
abbrev cX8_refusal : ByteArray := prog_10_method_8_code
def yX8_refusal : MethodName := ⟨RX8, "refusal", "(Z)I"⟩
abbrev cX8_nothing : ByteArray := prog_10_method_9_code
def yX8_nothing : MethodName := ⟨RX8, "nothing", "()I"⟩
abbrev cX8_move : ByteArray := prog_10_method_10_code
def yX8_move : MethodName := ⟨RX8, "move", "(ZII)I"⟩
abbrev cX8_ofShelf : ByteArray := prog_10_method_11_code
def yX8_ofShelf : MethodName := ⟨RX8, "ofShelf", "(I)I"⟩
abbrev cX8_then : ByteArray := prog_10_method_12_code
def yX8_then : MethodName := ⟨RX8, "then", "(II)V"⟩
abbrev cX8_inverse : ByteArray := prog_10_method_13_code
def yX8_inverse : MethodName := ⟨RX8, "inverse", "(I)I"⟩
abbrev cX8_times : ByteArray := prog_10_method_14_code
def yX8_times : MethodName := ⟨RX8, "times", "(II)I"⟩
abbrev cX8_commutator : ByteArray := prog_10_method_15_code
def yX8_commutator : MethodName := ⟨RX8, "commutator", "(II)I"⟩
abbrev cX8_does : ByteArray := prog_10_method_16_code
def yX8_does : MethodName := ⟨RX8, "does", "(I)V"⟩
abbrev cX8_movedBy : ByteArray := prog_10_method_17_code
def yX8_movedBy : MethodName := ⟨RX8, "movedBy", "(I)I"⟩
abbrev cX8_puts : ByteArray := prog_10_method_18_code
def yX8_puts : MethodName := ⟨RX8, "puts", "(II)I"⟩
abbrev cX8_home : ByteArray := prog_10_method_19_code
def yX8_home : MethodName := ⟨RX8, "home", "()I"⟩
abbrev cX8_moves : ByteArray := prog_10_method_20_code
def yX8_moves : MethodName := ⟨RX8, "moves", "(ZII)V"⟩
abbrev cX8_turn : ByteArray := prog_10_method_21_code
def yX8_turn : MethodName := ⟨RX8, "turn", "(II)I"⟩
abbrev cX8_shift : ByteArray := prog_10_method_22_code
def yX8_shift : MethodName := ⟨RX8, "shift", "(II)I"⟩
abbrev cX8_back : ByteArray := prog_10_method_23_code
def yX8_back : MethodName := ⟨RX8, "back", "()I"⟩
abbrev cX8_scramble : ByteArray := prog_10_method_24_code
def yX8_scramble : MethodName := ⟨RX8, "scramble", "(II)I"⟩
abbrev cX8_logOf : ByteArray := prog_10_method_25_code
def yX8_logOf : MethodName := ⟨RX8, "logOf", "(II)I"⟩
abbrev cX8_isSlot : ByteArray := prog_10_method_26_code
def yX8_isSlot : MethodName := ⟨RX8, "isSlot", "(I)Z"⟩
abbrev cX8_at : ByteArray := prog_10_method_27_code
def yX8_at : MethodName := ⟨RX8, "at", "(I)I"⟩
abbrev cX8_slotOf : ByteArray := prog_10_method_28_code
def yX8_slotOf : MethodName := ⟨RX8, "slotOf", "(I)I"⟩
abbrev cX8_where : ByteArray := prog_10_method_29_code
def yX8_where : MethodName := ⟨RX8, "where", "(I)I"⟩
abbrev cX8_paint : ByteArray := prog_10_method_30_code
def yX8_paint : MethodName := ⟨RX8, "paint", "(II)I"⟩
abbrev cX8_colourIn : ByteArray := prog_10_method_31_code
def yX8_colourIn : MethodName := ⟨RX8, "colourIn", "(I)I"⟩
abbrev cX8_colour : ByteArray := prog_10_method_32_code
def yX8_colour : MethodName := ⟨RX8, "colour", "(I)I"⟩
abbrev cX8_isOne : ByteArray := prog_10_method_33_code
def yX8_isOne : MethodName := ⟨RX8, "isOne", "(I)Z"⟩
abbrev cX8_isDone : ByteArray := prog_10_method_34_code
def yX8_isDone : MethodName := ⟨RX8, "isDone", "(I)Z"⟩
abbrev cX8_seamMany : ByteArray := prog_10_method_35_code
def yX8_seamMany : MethodName := ⟨RX8, "seamMany", "()I"⟩
abbrev cX8_seams : ByteArray := prog_10_method_36_code
def yX8_seams : MethodName := ⟨RX8, "seams", "()I"⟩
abbrev cX8_apart : ByteArray := prog_10_method_37_code
def yX8_apart : MethodName := ⟨RX8, "apart", "(II)I"⟩
abbrev cX8_fewest : ByteArray := prog_10_method_38_code
def yX8_fewest : MethodName := ⟨RX8, "fewest", "(II)I"⟩
abbrev cX8_append : ByteArray := prog_10_method_39_code
def yX8_append : MethodName := ⟨RX8, "append", "(C)I"⟩
abbrev cX8_isHere : ByteArray := prog_10_method_40_code
def yX8_isHere : MethodName := ⟨RX8, "isHere", "(CC)Z"⟩
abbrev cX8_sign : ByteArray := prog_10_method_41_code
def yX8_sign : MethodName := ⟨RX8, "sign", "(CC)I"⟩
abbrev cX8_isItem : ByteArray := prog_10_method_42_code
def yX8_isItem : MethodName := ⟨RX8, "isItem", "()Z"⟩
abbrev cX8_sequence : ByteArray := prog_10_method_43_code
def yX8_sequence : MethodName := ⟨RX8, "sequence", "(I)I"⟩
abbrev cX8_item : ByteArray := prog_10_method_44_code
def yX8_item : MethodName := ⟨RX8, "item", "(I)I"⟩
abbrev cX8_readsText : ByteArray := prog_10_method_45_code
def yX8_readsText : MethodName := ⟨RX8, "readsText", "(I)I"⟩
abbrev cX8_read : ByteArray := prog_10_method_46_code
def yX8_read : MethodName := ⟨RX8, "read", "()I"⟩
abbrev cX8_errorPosition : ByteArray := prog_10_method_47_code
def yX8_errorPosition : MethodName := ⟨RX8, "errorPosition", "()I"⟩
abbrev cX8_isShelf : ByteArray := prog_10_method_48_code
def yX8_isShelf : MethodName := ⟨RX8, "isShelf", "(I)Z"⟩
abbrev cX8_isEmpty : ByteArray := prog_10_method_49_code
def yX8_isEmpty : MethodName := ⟨RX8, "isEmpty", "(I)Z"⟩
abbrev cX8_learn : ByteArray := prog_10_method_50_code
def yX8_learn : MethodName := ⟨RX8, "learn", "(I)I"⟩
abbrev cX8_use : ByteArray := prog_10_method_51_code
def yX8_use : MethodName := ⟨RX8, "use", "(II)I"⟩
abbrev cX8_join : ByteArray := prog_10_method_52_code
def yX8_join : MethodName := ⟨RX8, "join", "(III)I"⟩
abbrev cX8_invert : ByteArray := prog_10_method_53_code
def yX8_invert : MethodName := ⟨RX8, "invert", "(II)I"⟩
abbrev cX8_commute : ByteArray := prog_10_method_54_code
def yX8_commute : MethodName := ⟨RX8, "commute", "(III)I"⟩
abbrev cX8_filledMany : ByteArray := prog_10_method_55_code
def yX8_filledMany : MethodName := ⟨RX8, "filledMany", "()I"⟩
abbrev cX8_forget : ByteArray := prog_10_method_56_code
def yX8_forget : MethodName := ⟨RX8, "forget", "(I)I"⟩
abbrev cX8_goes : ByteArray := prog_10_method_57_code
def yX8_goes : MethodName := ⟨RX8, "goes", "(II)I"⟩
abbrev cX8_goesTo : ByteArray := prog_10_method_58_code
def yX8_goesTo : MethodName := ⟨RX8, "goesTo", "(II)I"⟩
abbrev cX8_cycleOf : ByteArray := prog_10_method_59_code
def yX8_cycleOf : MethodName := ⟨RX8, "cycleOf", "(II)I"⟩
abbrev cX8_isLowest : ByteArray := prog_10_method_60_code
def yX8_isLowest : MethodName := ⟨RX8, "isLowest", "(II)Z"⟩
abbrev cX8_common : ByteArray := prog_10_method_61_code
def yX8_common : MethodName := ⟨RX8, "common", "(II)I"⟩
abbrev cX8_order : ByteArray := prog_10_method_62_code
def yX8_order : MethodName := ⟨RX8, "order", "(I)I"⟩
abbrev cX8_shelfOf : ByteArray := prog_10_method_63_code
def yX8_shelfOf : MethodName := ⟨RX8, "shelfOf", "(II)I"⟩
abbrev cX8_orderAgain : ByteArray := prog_10_method_64_code
def yX8_orderAgain : MethodName := ⟨RX8, "orderAgain", "(I)I"⟩
abbrev cX8_isEven : ByteArray := prog_10_method_65_code
def yX8_isEven : MethodName := ⟨RX8, "isEven", "(IZ)Z"⟩
abbrev cX8_cycle : ByteArray := prog_10_method_66_code
def yX8_cycle : MethodName := ⟨RX8, "cycle", "(II)I"⟩
abbrev cX8_commutes : ByteArray := prog_10_method_67_code
def yX8_commutes : MethodName := ⟨RX8, "commutes", "(II)Z"⟩
abbrev cX8_says : ByteArray := prog_10_method_68_code
def yX8_says : MethodName := ⟨RX8, "says", "(C)V"⟩
abbrev cX8_saysNumber : ByteArray := prog_10_method_69_code
def yX8_saysNumber : MethodName := ⟨RX8, "saysNumber", "(I)V"⟩
abbrev cX8_line : ByteArray := prog_10_method_70_code
def yX8_line : MethodName := ⟨RX8, "line", "(I)I"⟩
abbrev cX8_logLine : ByteArray := prog_10_method_71_code
def yX8_logLine : MethodName := ⟨RX8, "logLine", "()I"⟩
abbrev cX8_cycleLine : ByteArray := prog_10_method_72_code
def yX8_cycleLine : MethodName := ⟨RX8, "cycleLine", "(I)I"⟩
abbrev cX8_character : ByteArray := prog_10_method_73_code
def yX8_character : MethodName := ⟨RX8, "character", "(I)C"⟩
abbrev cX8_doneMany : ByteArray := prog_10_method_74_code
def yX8_doneMany : MethodName := ⟨RX8, "doneMany", "()I"⟩
abbrev cX8_account : ByteArray := prog_10_method_75_code
def yX8_account : MethodName := ⟨RX8, "account", "(I)I"⟩
abbrev cX8_isWell : ByteArray := prog_10_method_76_code
def yX8_isWell : MethodName := ⟨RX8, "isWell", "()Z"⟩
abbrev cX8_meanAway : ByteArray := prog_10_method_77_code
def yX8_meanAway : MethodName := ⟨RX8, "meanAway", "()D"⟩
abbrev cX8_seamShare : ByteArray := prog_10_method_78_code
def yX8_seamShare : MethodName := ⟨RX8, "seamShare", "()F"⟩
abbrev cX8_undo : ByteArray := prog_10_method_79_code
def yX8_undo : MethodName := ⟨RX8, "undo", "()I"⟩
abbrev cX8_save : ByteArray := prog_10_method_80_code
def yX8_save : MethodName := ⟨RX8, "save", "()I"⟩
abbrev cX8_restore : ByteArray := prog_10_method_81_code
def yX8_restore : MethodName := ⟨RX8, "restore", "()I"⟩
def RJx145de : String := "java/io/Serializable"
def TJx145de : u_T := fun k => match k with
  | _ => ("", "", "", false)
def tyJx145de : Nat → FieldType := fun k => match k with
  | _ => .int
theorem nmJx145de : ∀ a, a < 0 → ∀ b, b < 0 → a ≠ b → (TJx145de a).2.1 ≠ (TJx145de b).2.1 := by decide +kernel
theorem tyJx145de_ok : ∀ k, k < 0 → parseFieldDescriptor (TJx145de k).2.2.1 = some (tyJx145de k) := by decide +kernel
def RJ9 : String := "java/lang/Math"
def TJ9 : u_T := fun k => match k with
  | _ => ("", "", "", false)
def tyJ9 : Nat → FieldType := fun k => match k with
  | _ => .int
theorem nmJ9 : ∀ a, a < 0 → ∀ b, b < 0 → a ≠ b → (TJ9 a).2.1 ≠ (TJ9 b).2.1 := by decide +kernel
theorem tyJ9_ok : ∀ k, k < 0 → parseFieldDescriptor (TJ9 k).2.2.1 = some (tyJ9 k) := by decide +kernel
abbrev cJ9_max_7cf53 : ByteArray := prog_16_method_65_code
def yJ9_max_7cf53 : MethodName := ⟨RJ9, "max", "(II)I"⟩
def RJ0 : String := "java/lang/String"
def TJ0 : u_T := fun k => match k with
  | _ => ("", "", "", false)
def tyJ0 : Nat → FieldType := fun k => match k with
  | _ => .int
theorem nmJ0 : ∀ a, a < 0 → ∀ b, b < 0 → a ≠ b → (TJ0 a).2.1 ≠ (TJ0 b).2.1 := by decide +kernel
theorem tyJ0_ok : ∀ k, k < 0 → parseFieldDescriptor (TJ0 k).2.2.1 = some (tyJ0 k) := by decide +kernel
def RJ10 : String := "java/lang/System"
def TJ10 : u_T := fun k => match k with
  | _ => ("", "", "", false)
def tyJ10 : Nat → FieldType := fun k => match k with
  | _ => .int
theorem nmJ10 : ∀ a, a < 0 → ∀ b, b < 0 → a ≠ b → (TJ10 a).2.1 ≠ (TJ10 b).2.1 := by decide +kernel
theorem tyJ10_ok : ∀ k, k < 0 → parseFieldDescriptor (TJ10 k).2.2.1 = some (tyJ10 k) := by decide +kernel
def RL : String := "TwistyBarrelsLaw"
abbrev cL_turn : ByteArray := method_3_code
def yL_turn : MethodName := ⟨RL, "turn", "(LTwistyBarrels;II[J)I"⟩
abbrev cL_shift : ByteArray := method_4_code
def yL_shift : MethodName := ⟨RL, "shift", "(LTwistyBarrels;II[J)I"⟩
abbrev cL_back : ByteArray := method_5_code
def yL_back : MethodName := ⟨RL, "back", "(LTwistyBarrels;[J)I"⟩
abbrev cL_scramble : ByteArray := method_6_code
def yL_scramble : MethodName := ⟨RL, "scramble", "(LTwistyBarrels;II[J)I"⟩
abbrev cL_logOf : ByteArray := method_7_code
def yL_logOf : MethodName := ⟨RL, "logOf", "(LTwistyBarrels;II[J)I"⟩
abbrev cL_at : ByteArray := method_8_code
def yL_at : MethodName := ⟨RL, "at", "(LTwistyBarrels;I[J)I"⟩
abbrev cL_where : ByteArray := method_9_code
def yL_where : MethodName := ⟨RL, "where", "(LTwistyBarrels;I[J)I"⟩
abbrev cL_paint : ByteArray := method_10_code
def yL_paint : MethodName := ⟨RL, "paint", "(LTwistyBarrels;II[J)I"⟩
abbrev cL_colour : ByteArray := method_11_code
def yL_colour : MethodName := ⟨RL, "colour", "(LTwistyBarrels;I[J)I"⟩
abbrev cL_isDone : ByteArray := method_12_code
def yL_isDone : MethodName := ⟨RL, "isDone", "(LTwistyBarrels;I[J)I"⟩
abbrev cL_fewest : ByteArray := method_13_code
def yL_fewest : MethodName := ⟨RL, "fewest", "(LTwistyBarrels;II[J)I"⟩
abbrev cL_learn : ByteArray := method_14_code
def yL_learn : MethodName := ⟨RL, "learn", "(LTwistyBarrels;I[J)I"⟩
abbrev cL_use : ByteArray := method_15_code
def yL_use : MethodName := ⟨RL, "use", "(LTwistyBarrels;II[J)I"⟩
abbrev cL_join : ByteArray := method_16_code
def yL_join : MethodName := ⟨RL, "join", "(LTwistyBarrels;III[J)I"⟩
abbrev cL_invert : ByteArray := method_17_code
def yL_invert : MethodName := ⟨RL, "invert", "(LTwistyBarrels;II[J)I"⟩
abbrev cL_commute : ByteArray := method_18_code
def yL_commute : MethodName := ⟨RL, "commute", "(LTwistyBarrels;III[J)I"⟩
abbrev cL_forget : ByteArray := method_19_code
def yL_forget : MethodName := ⟨RL, "forget", "(LTwistyBarrels;I[J)I"⟩
abbrev cL_goesTo : ByteArray := method_20_code
def yL_goesTo : MethodName := ⟨RL, "goesTo", "(LTwistyBarrels;II[J)I"⟩
abbrev cL_shelfOf : ByteArray := method_21_code
def yL_shelfOf : MethodName := ⟨RL, "shelfOf", "(LTwistyBarrels;II[J)I"⟩
abbrev cL_orderAgain : ByteArray := method_22_code
def yL_orderAgain : MethodName := ⟨RL, "orderAgain", "(LTwistyBarrels;I[J)I"⟩
abbrev cL_isEven : ByteArray := method_23_code
def yL_isEven : MethodName := ⟨RL, "isEven", "(LTwistyBarrels;IZ[J)I"⟩
abbrev cL_cycle : ByteArray := method_24_code
def yL_cycle : MethodName := ⟨RL, "cycle", "(LTwistyBarrels;II[J)I"⟩
abbrev cL_commutes : ByteArray := method_25_code
def yL_commutes : MethodName := ⟨RL, "commutes", "(LTwistyBarrels;II[J)I"⟩
abbrev cL_line : ByteArray := method_26_code
def yL_line : MethodName := ⟨RL, "line", "(LTwistyBarrels;I[J)I"⟩
abbrev cL_cycleLine : ByteArray := method_27_code
def yL_cycleLine : MethodName := ⟨RL, "cycleLine", "(LTwistyBarrels;I[J)I"⟩
abbrev cL_character : ByteArray := method_28_code
def yL_character : MethodName := ⟨RL, "character", "(LTwistyBarrels;I[J)I"⟩
abbrev cL_append : ByteArray := method_29_code
def yL_append : MethodName := ⟨RL, "append", "(LTwistyBarrels;C[J)I"⟩
abbrev cL_read : ByteArray := method_30_code
def yL_read : MethodName := ⟨RL, "read", "(LTwistyBarrels;[J)I"⟩
abbrev cL_errorPosition : ByteArray := method_31_code
def yL_errorPosition : MethodName := ⟨RL, "errorPosition", "(LTwistyBarrels;[J)I"⟩
abbrev cL_refusal : ByteArray := method_32_code
def yL_refusal : MethodName := ⟨RL, "refusal", "(LTwistyBarrels;Z[J)I"⟩
abbrev cL_account : ByteArray := method_33_code
def yL_account : MethodName := ⟨RL, "account", "(LTwistyBarrels;I[J)I"⟩
abbrev cL_undo : ByteArray := method_34_code
def yL_undo : MethodName := ⟨RL, "undo", "(LTwistyBarrels;[J)I"⟩
abbrev cL_restore : ByteArray := method_35_code
def yL_restore : MethodName := ⟨RL, "restore", "(LTwistyBarrels;[J)I"⟩
abbrev cL_law : ByteArray := code
def yL_law : MethodName := ⟨RL, "law", "([I)Z"⟩
abbrev vwCl : List vw_C := [(RX0, TX0, 3), (RX1, TX1, 2), (RX2, TX2, 2), (RX3, TX3, 1), (RX4, TX4, 6), (RX5, TX5, 2), (RX6, TX6, 6), (RX7, TX7, 11), (RX8, TX8, 20)]
end
section
/-! ===== the judgement J: a method's frame over a world of cells; all that the machine needs besides is hidden in it ===== -/
def BIG : List Cond := lw_tbl.filter goodWord
theorem big_of {w : Cond} (h : w ∈ lw_tbl) (g : goodWord w = true) : w ∈ BIG := List.mem_filter.mpr ⟨h, g⟩
theorem big_good {w : Cond} (h : w ∈ BIG) : (w.onTables && w.keeps) = true ∨ ∃ ty, w = .arrayClass ty := good_of_word (List.mem_filter.mp h).2
theorem big_t (i : Nat) {w : Cond} (h : tables_1[i]? = some w) (g : goodWord w = true) : w ∈ BIG := big_of (List.mem_append_right _ (List.mem_of_getElem? h)) g
theorem big_s (i : Nat) {w : Cond} (h : (k2_sels lw_privs)[i]? = some w) (g : goodWord w = true) : w ∈ BIG := big_of (List.mem_append_left _ (List.mem_of_getElem? h)) g
theorem goodIn_big {ws : List Cond} (h : ∀ w ∈ ws, w ∈ BIG) : GoodIn BIG ws := fun w hw => ⟨h w hw, big_good (h w hw)⟩
/-- the tables' words that are kept in ways of their own -/
def nwk : Cond → Bool
  | .castable _ _ => true
  | .declares _ => true
  | .methodLinkNest _ _ _ _ => true
  | _ => false
def NWL : List Cond := lw_tbl.filter nwk
theorem nw_of (i : Nat) {w : Cond} (h : tables_1[i]? = some w) (g : nwk w = true) : w ∈ NWL := List.mem_filter.mpr ⟨List.mem_append_right _ (List.mem_of_getElem? h), g⟩
theorem nw_warm {w : Cond} (hk : nwk w = true) {s U : State} (hW : s.WarmedH U.vm) (h : va_Nw w s) : va_Nw w U := by
  cases w <;> first | exact va_Nw.warmC hW h | exact va_Nw.warmD hW h | exact va_Nw.warmM hW h | (simp [nwk] at hk)
theorem nw_ot {w : Cond} (hk : nwk w = true) : w.onTables = true := by
  cases w <;> first | rfl | (simp [nwk] at hk)
def exs : List String := ["java/lang/IndexOutOfBoundsException", "java/lang/IllegalArgumentException", "java/lang/IllegalStateException", "java/lang/UnsupportedOperationException", "java/util/NoSuchElementException"]
/-- where the law's cells begin; the classes' numbers and slots; the array classes' numbers -/
abbrev GP : Type := Nat × va_G × (Nat → ClassId)
/-- a method: its class, code, locals, what it returns, its table, whether it is a constructor -/
abbrev MI : Type := String × ByteArray × Nat × Option FieldType × List (Nat × Nat × Nat × Nat) × Bool
def gtys (g : GP) : List (ClassId × FieldType) := [(g.2.2 0, .int), (g.2.2 1, .boolean), (g.2.2 2, .char), (g.2.2 3, .long), (g.2.2 4, .object "TwistyBarrels$Permutation"), (g.2.2 5, .object "TwistyBarrels$State")]
def gA (g : GP) : Nat → Prop := fun q => g.1 ≤ q
/-- the texts that the class throws with: entry and text -/
def strs : List (Nat × String) := [(320, "there is no snapshot"), (294, "there is no such account"), (280, "no error position was kept"), (283, "nothing was refused"), (323, "there is no such place"), (312, "no change can be undone"), (325, "the number is out of range"), (331, "it is refused"), (327, "there is nothing on the shelf"), (272, "the input is full"), (160, "there is no such shelf"), (350, "the text is no sequence")]
/-- what lies about the system: the classes, the two statics that a throw reads, the texts; the system's cells come behind -/
def Amb (g : GP) (U : State) : Prop := va_K g.2.1 vwCl (gtys g) U ∧ vx_Zq Bundle.tN "UNASSIGNED_STACK" Bundle.steD (gA g) U U.heap ∧ vx_Zq Bundle.tN "SUPPRESSED_SENTINEL" Bundle.listD (gA g) U U.heap ∧ (∀ q ∈ strs, ∃ a, vk_R RX7 q.1 q.2 a U) ∧ g.1 ≤ U.heap.size ∧ (∀ z ∈ NWL, va_Nw z U) ∧ (∀ a ∈ exs, ∀ b ∈ exs, a ≠ b → va_Nc a b U)
/-- the heap holds the world w, its cells apart, in the system's part -/
def Wd (g : GP) (w : va_W) (H : Heap) : Prop := va_P g.2.1 vwCl w H ∧ va_D (gA g) w
def Cx (g : GP) (M : MI) (p : Program) (ln : Launch) (s : State) (m : MethodId) (args : Array Value) (meth : Method) (c : Code) : Prop :=
  p.tables.exec = Jvm.exec ∧ c.code = M.2.1 ∧ c.maxLocals = M.2.2.1 ∧ meth.sig.returnType = M.2.2.2.1 ∧ s.vm.findClass M.1 = some m.cls ∧ (∀ w ∈ BIG, w.before args s = true) ∧ meth.locks = false ∧ ln.stackTraces = false ∧ (M.2.2.2.2.2 = false → c.exceptionTable.toList = tableOf M.2.2.2.2.1) ∧ (M.2.2.2.2.2 = true → meth.name = "<init>") ∧ Amb g s
def lvx : Nat → List (Option Value) → List (Nat × Value)
  | _, [] => []
  | i, none :: t => lvx (i + 1) t
  | i, some v :: t => (i, v) :: lvx (i + 1) t
theorem lvx_mem : ∀ (l : List (Option Value)) (i0 j : Nat) (v : Value), (j, v) ∈ lvx i0 l ↔ ∃ t, j = i0 + t ∧ l[t]? = some (some v)
  | [], i0, j, v => by simp [lvx]
  | none :: l, i0, j, v => by
    rw [show lvx i0 (none :: l) = lvx (i0 + 1) l from rfl, lvx_mem l (i0 + 1) j v]
    constructor
    · rintro ⟨t, h1, h2⟩; exact ⟨t + 1, by omega, by simpa using h2⟩
    · rintro ⟨t, h1, h2⟩
      cases t with
      | zero => simp at h2
      | succ t => exact ⟨t, by omega, by simpa using h2⟩
  | some x :: l, i0, j, v => by
    rw [show lvx i0 (some x :: l) = (i0, x) :: lvx (i0 + 1) l from rfl, List.mem_cons, lvx_mem l (i0 + 1) j v]
    constructor
    · rintro (h | ⟨t, h1, h2⟩)
      · cases h; exact ⟨0, by omega, by simp⟩
      · exact ⟨t + 1, by omega, by simpa using h2⟩
    · rintro ⟨t, h1, h2⟩
      cases t with
      | zero => simp at h2; subst h2; exact Or.inl (by rw [h1]; rfl)
      | succ t => exact Or.inr ⟨t, by omega, by simpa using h2⟩
theorem lvx_get {ls : Array Slot} {nL : Nat} {l : List (Option Value)} (h : lv_has ls nL (lvx 0 l)) {i : Nat} {v : Value} (hi : l[i]? = some (some v)) : ls[i]? = some (.val v) := h.2.2 (i, v) ((lvx_mem l 0 i v).mpr ⟨i, by omega, hi⟩)
def cat1 (o : Option (Option Value)) : Bool := match o with
  | some (some v) => v.category == 1
  | _ => true
/-- behind a store of one slot -/
theorem lvx_set {ls : Array Slot} {nL : Nat} {l l' : List (Option Value)} {i : Nat} {v : Value} (h : lv_has ls nL ((i, v) :: (lvx 0 l).filter (fun q => !(q.1 == i) && !(q.1 + 1 == i && q.2.category == 2)))) (hc : i = 0 ∨ cat1 l[i - 1]? = true) (hl : l.set i (some v) = l') : lv_has ls nL (lvx 0 l') := by
  refine ⟨h.1, h.2.1, fun q hq => h.2.2 q ?_⟩
  obtain ⟨j, w⟩ := q
  rw [← hl] at hq
  obtain ⟨t, h1, h2⟩ := (lvx_mem _ 0 j w).mp hq
  have h1 : t = j := by omega
  subst h1
  by_cases e : t = i
  · subst e
    have hlt : t < l.length := by
      have := (List.getElem?_eq_some_iff.mp h2).1
      simpa using this
    rw [List.getElem?_set_self hlt] at h2
    cases h2
    exact List.mem_cons_self
  · rw [List.getElem?_set_ne (Ne.symm e)] at h2
    refine List.mem_cons_of_mem _ (List.mem_filter.mpr ⟨(lvx_mem l 0 t w).mpr ⟨t, by omega, h2⟩, ?_⟩)
    have e1 : (t == i) = false := by simpa using e
    simp only [e1, Bool.not_false, Bool.true_and]
    by_cases e2 : t + 1 = i
    · rcases hc with hc | hc
      · omega
      · rw [show i - 1 = t by omega, h2] at hc
        have : w.category = 1 := by simpa [cat1] using hc
        simp [this]
    · simp [e2]
/-- fewer locals known -/
theorem lvx_sub {ls : Array Slot} {nL : Nat} {l l' : List (Option Value)} (h : lv_has ls nL (lvx 0 l)) (hl : ∀ (t : Nat) (v : Value), l'[t]? = some (some v) → l[t]? = some (some v)) : lv_has ls nL (lvx 0 l') := by
  refine ⟨h.1, h.2.1, fun q hq => h.2.2 q ?_⟩
  obtain ⟨j, w⟩ := q
  obtain ⟨t, h1, h2⟩ := (lvx_mem _ 0 j w).mp hq
  exact (lvx_mem _ 0 j w).mpr ⟨t, h1, hl t w h2⟩
abbrev QT : Type := List Frame → Array Value → State → State → Prop
def J (g : GP) (M : MI) (R : Room) (Q : QT) (k n : Nat) (w : va_W) (pc : Nat) (l : List (Option Value)) (st : List Value) : Prop :=
  ∀ (p : Program) (ln : Launch) (e : Env) (s : State) (m : MethodId) (args : Array Value) (below : List Frame) (meth : Method) (c : Code), Cx g M p ln s m args meth c →
    ∀ (H : Heap) (locs : List Loc) (ls : Array Slot), Wd g w H → va_S (gA g) s.heap H locs → lv_has ls M.2.2.1 (lvx 0 l) → W p ln e R s m args below meth c H locs k n (Q below args s) (F0 m pc ls st)
/-- the frame with E thrown over it -/
def JX (g : GP) (M : MI) (R : Room) (Q : QT) (k n : Nat) (w : va_W) (pc : Nat) (l : List (Option Value)) (st : List Value) (E : String) : Prop :=
  ∀ (p : Program) (ln : Launch) (e : Env) (s : State) (m : MethodId) (args : Array Value) (below : List Frame) (meth : Method) (c : Code), Cx g M p ln s m args meth c →
    ∀ (H : Heap) (locs : List Loc) (ls : Array Slot) (q : Addr) (ce : Cell), Wd g w H → va_S (gA g) s.heap H locs → lv_has ls M.2.2.1 (lvx 0 l) → H[q]? = some ce → ce.vm = .none → s.vm.findClass E = some ce.cls → vx_W p ln e R s m args below meth c H locs k n (Q below args s) (F0 m pc ls st) q
abbrev PT : Type := (Option Value ⊕ String) → va_W → Prop
def QR (g : GP) (P : PT) : State → Outcome → State → Prop := fun st o t => ∃ v w', o = .returned v ∧ P (.inl v) w' ∧ Wd g w' t.heap ∧ va_F (gA g) st t
def XR (g : GP) (P : PT) : String → State → State → Prop := fun E st t => ∃ w', P (.inr E) w' ∧ Wd g w' t.heap ∧ va_F (gA g) st t
def MQx (g : GP) (R : Room) (P : PT) : QT := fun below args s => vx_MQ below (fun _ => QR g P) (XR g P) args s R.cells R.slots (gA g)
/-- a method's contract over the world w with the arguments av -/
def CT (g : GP) (y : MethodName) (M : MI) (R : Room) (w : va_W) (av : List Value) (P : PT) : Prop :=
  ∀ ln : Launch, ln.stackTraces = false → vx_Met ln y (Cond.code y M.2.1 M.2.2.1 M.2.2.2.1 :: BIG) R (va_Pc av (fun U => Amb g U ∧ Wd g w U.heap)) (fun _ => QR g P) (XR g P) R.cells R.slots (gA g)
/-- the same for a constructor (it throws nothing) -/
def CI (g : GP) (y : MethodName) (M : MI) (R : Room) (w : va_W) (av : List Value) (P : PT) : Prop :=
  ∀ ln : Launch, ln.stackTraces = false → Met ln y (Cond.code y M.2.1 M.2.2.1 M.2.2.2.1 :: BIG) R (va_Pc av (fun U => Amb g U ∧ Wd g w U.heap)) (fun _ => QR g P) R.cells R.slots (gA g)
def MQi (g : GP) (R : Room) (P : PT) : QT := fun below args s => MQ below (fun _ => QR g P) args s R.cells R.slots (gA g)
/-- a method with a table of its own -/
def CW (g : GP) (y : MethodName) (M : MI) (R : Room) (w : va_W) (av : List Value) (P : PT) : Prop :=
  ∀ ln : Launch, ln.stackTraces = false → vx_Met ln y (Cond.codeWith y M.2.1 M.2.2.1 M.2.2.2.1 M.2.2.2.2.1 :: BIG) R (va_Pc av (fun U => Amb g U ∧ Wd g w U.heap)) (fun _ => QR g P) (XR g P) R.cells R.slots (gA g)
theorem Amb.at {g : GP} {s U : State} {H : Heap} {locs : List Loc} (h : Amb g s) (hS : va_S (gA g) s.heap H locs) (hU : U.heap = H) (hW : s.WarmedH U.vm) : Amb g U := by
  obtain ⟨h1, h2, h3, h4, h5, h6, h7⟩ := h
  have hv : s.vm.Alike U.vm := hW.alike
  refine ⟨h1.moved hv, ?_, ?_, fun q hq => ?_, by rw [hU]; exact Nat.le_trans h5 hS.1, fun z hz => nw_warm (List.mem_filter.mp hz).2 hW (h6 z hz), fun a ha b hb hn => (h7 a ha b hb hn).moved hv⟩
  · rw [hU]; exact (h2.moved hv).kept (fun a ha hn => hS.2.1 a ha hn)
  · rw [hU]; exact (h3.moved hv).kept (fun a ha hn => hS.2.1 a ha hn)
  · obtain ⟨a, ha⟩ := h4 q hq
    exact ⟨a, ha.warm hW⟩
theorem Amb.blind {g : GP} {U : State} {gf : JFrame} {mk : MethodId} {a : Array Value} (h : Amb g U) : Amb g (U.calling gf mk a) := by
  obtain ⟨h1, h2, h3, h4, h5, h6, h7⟩ := h
  have hv : U.vm.Alike (U.calling gf mk a).vm := Vm.Alike.refl U.vm
  refine ⟨h1.moved hv, h2.moved hv, h3.moved hv, fun q hq => ?_, h5, fun z hz => va_Nw.same (nw_ot (List.mem_filter.mp hz).2) (u := U) rfl (h6 z hz), fun a ha b hb hn => (h7 a ha b hb hn).moved hv⟩
  obtain ⟨z, hz⟩ := h4 q hq
  exact ⟨z, vk_R.same (u := U) rfl hz⟩
theorem pc_blind {g : GP} {w : va_W} {av : List Value} : FrameBlind (va_Pc av (fun U => Amb g U ∧ Wd g w U.heap)) := fun _ _ _ _ h => ⟨h.1, h.2.1.blind, h.2.2⟩
theorem pc_pre {g : GP} {w : va_W} {av : List Value} {s : State} {H : Heap} {locs : List Loc} (h : Amb g s) (hS : va_S (gA g) s.heap H locs) (hw : Wd g w H) : ∀ U : State, U.heap = H → s.WarmedH U.vm → va_Pc av (fun U => Amb g U ∧ Wd g w U.heap) av.toArray U := fun U hU hW => ⟨rfl, h.at hS hU hW, by rw [hU]; exact hw⟩
section JJ
variable {g : GP} {M : MI} {R : Room} {Q : QT} {k n pc : Nat} {w : va_W} {l : List (Option Value)} {st : List Value}
theorem J.sub {l' : List (Option Value)} (K : J g M R Q k n w pc l' st) (hl : ∀ (t : Nat) (v : Value), l'[t]? = some (some v) → l[t]? = some (some v)) : J g M R Q k n w pc l st :=
  fun p ln e s m args below meth c C H locs ls hw hS h => K p ln e s m args below meth c C H locs ls hw hS (lvx_sub h hl)
theorem J.widen {k' n' : Nat} (h1 : k ≤ k') (h2 : n ≤ n') (K : J g M R Q k' n' w pc l st) : J g M R Q k n w pc l st :=
  fun p ln e s m args below meth c C H locs ls hw hS h => W.widen h1 h2 (K p ln e s m args below meth c C H locs ls hw hS h)
theorem J.callG {st0 : List Value} {mc ms : Nat} {P : PT} (hrun : ∀ (p : Program) (ln : Launch) (e : Env) (s : State) (m : MethodId) (args : Array Value) (below : List Frame) (meth : Method) (c : Code), Cx g M p ln s m args meth c →
      ∀ (H : Heap) (locs : List Loc) (ls : Array Slot), Wd g w H → va_S (gA g) s.heap H locs → lv_has ls M.2.2.1 (lvx 0 l) → vx_Run p ln e R s m args below meth c H locs k n mc ms (F0 m pc ls st0) st (QR g P) (XR g P) (gA g))
    (kk : ∀ v w', P (.inl v) w' → J g M R Q (k + mc) (n + ms) w' (pc + 3) l (v.toList ++ st)) (kx : ∀ E w', P (.inr E) w' → JX g M R Q (k + mc) (n + ms) w' pc l st E) : J g M R Q k n w pc l st0 := by
  intro p ln e s m args below meth c C H locs ls hw hS hl T hT X
  rcases hrun p ln e s m args below meth c C H locs ls hw hS hl T hT X with ⟨v, st₀, t, T', L, h0, X', hL, e1, e2, ⟨v', w', hv, hp, hw', hF⟩, stp⟩ | ⟨q, st₀, t, T', L, E, ce, h0, X', hL, e1, e2, ⟨w', hp, hw', hF⟩, hce, hcv, hcl, stp⟩
  · cases hv
    obtain ⟨-, -, k3⟩ := vx_keep h0 e1 hS (fun q _ h => h) (fun q h => h) hL hF
    obtain ⟨t2, a1, b1⟩ := kk v w' hp p ln e s m args below meth c C T'.heap (locs ++ L) ls (by rw [e1]; exact hw') k3 hl T' rfl X'
    exact ⟨t2, stp t2 a1, b1⟩
  · obtain ⟨-, -, k3⟩ := vx_keep h0 e1 hS (fun q _ h => h) (fun q h => h) hL hF
    obtain ⟨t2, a1, b1⟩ := kx E w' hp p ln e s m args below meth c C T'.heap (locs ++ L) ls q ce (by rw [e1]; exact hw') k3 hl (by rw [e1]; exact hce) hcv hcl T' rfl X'
    exact ⟨t2, stp.trans a1, b1⟩
/-- not caught here -/
theorem JX.out {P : PT} {E : String} (hp : P (.inr E) w) (hi : M.2.2.2.2.2 = false) (ht : M.2.2.2.2.1 = []) (hk : k ≤ R.cells) (hn : n ≤ R.slots) : JX g M R (MQx g R P) k n w pc l st E := by
  intro p ln e s m args below meth c C H locs ls q ce hw hS hl hce hcv hcl
  have htab := C.2.2.2.2.2.2.2.2.1 hi
  rw [ht] at htab
  exact vx_out (fun x hx => by rw [htab] at hx; cases hx) C.2.2.2.2.2.2.1 hce hcv hcl (fun t ht _ => ⟨w, hp, by rw [ht]; exact hw, hS.F ht⟩) hS.2.2 hk hn
/-- from the walk of the body to the contract -/
theorem CT.of {y : MethodName} {av : List Value} {P : PT} {l0 : List (Option Value)} {own : String} {cc : ByteArray} {nL : Nat} {ret : Option FieldType} (hy : plainName y.cls = true) (hyc : y.cls = own) (hn : (lg_sl av).length ≤ nL) (hl : lv_args 0 av = lvx 0 l0)
    (K : J g (own, cc, nL, ret, [], false) R (MQx g R P) 0 0 w 0 l0 []) : CT g y (own, cc, nL, ret, [], false) R w av P := by
  intro ln hst
  refine vx_ofW (cc := cc) (maxL := nL) (ret := ret) hy rfl ?_
  intro p e s m args below meth c s₁ B hml htab hv
  obtain ⟨rfl, hamb, hw⟩ := hv
  have hts0 := atoms_spec (ws := Cond.code y cc nL ret :: BIG) B.pre
  have hown : s.vm.findClass own = some m.cls := by rw [← hyc]; exact findClass_of_methodNamed B.named
  have hl9 := lv_entry av (n := nL) hn
  rw [lg_entry_eq]
  generalize (lg_sl av ++ List.replicate (nL - (lg_sl av).length) Slot.unset).toArray = ls at hl9 ⊢
  rw [hl] at hl9
  have htab9 : c.exceptionTable.toList = tableOf [] := by
    have : c.exceptionTable.toList = [] := List.eq_nil_iff_forall_not_mem.mpr htab
    rw [this]; rfl
  exact K p ln e s m av.toArray below meth c ⟨B.exec, B.bytes, hml, B.returns, hown, fun w hw => hts0 w (List.mem_cons_of_mem _ hw), B.notSynchronized, hst, fun _ => htab9, fun h => (by cases h), hamb⟩ s.heap [] ls hw va_S.rf hl9
theorem CI.of {y : MethodName} {av : List Value} {P : PT} {l0 : List (Option Value)} {own : String} {cc : ByteArray} {nL : Nat} (hy : plainName y.cls = true) (hyc : y.cls = own) (hyn : y.name = "<init>") (hn : (lg_sl av).length ≤ nL) (hl : lv_args 0 av = lvx 0 l0)
    (K : J g (own, cc, nL, none, [], true) R (MQi g R P) 0 0 w 0 l0 []) : CI g y (own, cc, nL, none, [], true) R w av P := by
  intro ln hst
  refine Met.ofW (cc := cc) (maxL := nL) (ret := none) hy rfl ?_
  intro p e s m args below meth c s₁ B hml hv
  obtain ⟨rfl, hamb, hw⟩ := hv
  have hts0 := atoms_spec (ws := Cond.code y cc nL none :: BIG) B.pre
  have hown : s.vm.findClass own = some m.cls := by rw [← hyc]; exact findClass_of_methodNamed B.named
  have hin : meth.name = "<init>" := (name_of_methodNamed B.named B.method).1.trans hyn
  have hl9 := lv_entry av (n := nL) hn
  rw [lg_entry_eq]
  generalize (lg_sl av ++ List.replicate (nL - (lg_sl av).length) Slot.unset).toArray = ls at hl9 ⊢
  rw [hl] at hl9
  exact K p ln e s m av.toArray below meth c ⟨B.exec, B.bytes, hml, B.returns, hown, fun w hw => hts0 w (List.mem_cons_of_mem _ hw), B.notSynchronized, hst, fun h => (by cases h), fun _ => hin, hamb⟩ s.heap [] ls hw va_S.rf hl9
theorem CW.of {y : MethodName} {av : List Value} {P : PT} {l0 : List (Option Value)} {own : String} {cc : ByteArray} {nL : Nat} {ret : Option FieldType} {hh : List (Nat × Nat × Nat × Nat)} (hy : plainName y.cls = true) (hyc : y.cls = own) (hn : (lg_sl av).length ≤ nL) (hl : lv_args 0 av = lvx 0 l0)
    (K : J g (own, cc, nL, ret, hh, false) R (MQx g R P) 0 0 w 0 l0 []) : CW g y (own, cc, nL, ret, hh, false) R w av P := by
  intro ln hst
  refine vx_ofWH (cc := cc) (maxL := nL) (ret := ret) (hh := hh) hy rfl ?_
  intro p e s m args below meth c s₁ B hml hv
  obtain ⟨rfl, hamb, hw⟩ := hv
  have hts0 := atoms_spec (ws := Cond.codeWith y cc nL ret hh :: BIG) B.pre
  have hown : s.vm.findClass own = some m.cls := by rw [← hyc]; exact findClass_of_methodNamed B.named
  have hl9 := lv_entry av (n := nL) hn
  rw [lg_entry_eq]
  generalize (lg_sl av ++ List.replicate (nL - (lg_sl av).length) Slot.unset).toArray = ls at hl9 ⊢
  rw [hl] at hl9
  have htab9 : c.exceptionTable.toList = tableOf hh := vx_table (x := y) B (hts0 _ List.mem_cons_self)
  exact K p ln e s m av.toArray below meth c ⟨B.exec, B.bytes, hml, B.returns, hown, fun w hw => hts0 w (List.mem_cons_of_mem _ hw), B.notSynchronized, hst, fun _ => htab9, fun h => (by cases h), hamb⟩ s.heap [] ls hw va_S.rf hl9
/-! calls -/
theorem J.callV {C : String} {y : MethodName} {My : MI} {Ry : Room} {b idx na : Nat} {As : List Value} {P : PT} {d : String} (hC : CT g y My Ry w (.ref b :: As) P)
    (f1 : Cond.methodLink M.1 idx y ∈ BIG) (f2 : Cond.instanceMethod y ∈ BIG) (f3 : Cond.selects C y y ∈ BIG) (f4 : Cond.initialized C ∈ BIG) (f5 : Cond.code y My.2.1 My.2.2.1 My.2.2.2.1 ∈ BIG)
    (hd : y.cls = C ∧ y.cls ≠ "java/lang/invoke/MethodHandle" ∧ y.cls ≠ "java/lang/invoke/VarHandle" ∧ (parseMethodDescriptor y.desc).map (fun d => d.parameters.length) = some na) (hna : As.length = na)
    (hR : Ry.frames + 1 ≤ R.frames ∧ 8 + (My.2.2.1 + 11) + Ry.locals ≤ R.locals) (q0 : Nat) {ci : Nat} {q : vw_C} {fs : List Value} (hq : vwCl[ci]? = some q) (hqC : q.1 = C) (he : w[q0]? = some (b, .inr (ci, fs)))
    (hW : (st.map fun v => v.category).sum ≤ 8) (hdg : decode M.2.1 pc = .ok (.invokevirtual idx, 3)) (hk : k + Ry.cells ≤ R.cells ∧ n + Ry.slots ≤ R.slots)
    (kk : ∀ v w', P (.inl v) w' → J g M R Q (k + Ry.cells) (n + Ry.slots) w' (pc + 3) l (v.toList ++ st)) (kx : ∀ E w', P (.inr E) w' → JX g M R Q (k + Ry.cells) (n + Ry.slots) w' pc l st E) : J g M R Q k n w pc l (As.reverse ++ .ref b :: st) := by
  refine J.callG (P := P) (mc := Ry.cells) (ms := Ry.slots) ?_ kk kx
  intro p ln e s m args below meth c C9 H locs ls hw hS hl
  obtain ⟨hx, hb, hml, hr, hown, hts, hlk, hst, htab, hini, hamb⟩ := C9
  subst hqC
  exact vx_runV (As := As) (rest := st) (Ts := BIG) (own := M.1) ⟨hx, hb, hml, hown, hts⟩ (hC ln hst)
    (cwV (ws' := BIG) na hts (goodIn_big (fun z hz => by
      simp only [wsV, List.cons_append, List.nil_append, List.mem_cons] at hz
      rcases hz with rfl | rfl | rfl | rfl | rfl | hz
      · exact f1
      · exact f2
      · exact f3
      · exact f4
      · exact f5
      · exact hz)) rfl rfl rfl hd hR)
    ⟨pc_blind, va_recv hamb.1 hw.1 hq he, pc_pre hamb hS hw⟩ rfl hna hl.1 rfl (lv_room hW) hdg hk
theorem J.callS {y : MethodName} {My : MI} {Ry : Room} {idx na : Nat} {As : List Value} {P : PT} (hC : CT g y My Ry w As P)
    (f1 : Cond.methodLink M.1 idx y ∈ BIG) (f2 : Cond.static y ∈ BIG) (f4 : Cond.initialized M.1 ∈ BIG) (f5 : Cond.code y My.2.1 My.2.2.1 My.2.2.2.1 ∈ BIG)
    (hd : y.cls = M.1 ∧ y.cls ≠ "java/lang/invoke/MethodHandle" ∧ y.cls ≠ "java/lang/invoke/VarHandle" ∧ (parseMethodDescriptor y.desc).map (fun d => d.parameters.length) = some na) (hna : As.length = na)
    (hR : Ry.frames + 1 ≤ R.frames ∧ 8 + (My.2.2.1 + 11) + Ry.locals ≤ R.locals)
    (hW : (st.map fun v => v.category).sum ≤ 8) (hdg : decode M.2.1 pc = .ok (.invokestatic idx, 3)) (hk : k + Ry.cells ≤ R.cells ∧ n + Ry.slots ≤ R.slots)
    (kk : ∀ v w', P (.inl v) w' → J g M R Q (k + Ry.cells) (n + Ry.slots) w' (pc + 3) l (v.toList ++ st)) (kx : ∀ E w', P (.inr E) w' → JX g M R Q (k + Ry.cells) (n + Ry.slots) w' pc l st E) : J g M R Q k n w pc l (As.reverse ++ st) := by
  refine J.callG (P := P) (mc := Ry.cells) (ms := Ry.slots) ?_ kk kx
  intro p ln e s m args below meth c C9 H locs ls hw hS hl
  obtain ⟨hx, hb, hml, hr, hown, hts, hlk, hst, htab, hini, hamb⟩ := C9
  exact vx_runS (As := As) (rest := st) (Ts := BIG) (own := M.1) ⟨hx, hb, hml, hown, hts⟩ (hC ln hst)
    (cwS (ws' := BIG) na hts (goodIn_big (fun z hz => by
      simp only [wsS, List.cons_append, List.nil_append, List.mem_cons] at hz
      rcases hz with rfl | rfl | rfl | rfl | hz
      · exact f1
      · exact f2
      · exact f4
      · exact f5
      · exact hz)) rfl rfl rfl hd hR)
    ⟨pc_blind, pc_pre hamb hS hw⟩ rfl hna hl.1 rfl (lv_room hW) hdg hk
theorem J.callSN {y : MethodName} {My : MI} {Ry : Room} {idx na : Nat} {host : String} {As : List Value} {P : PT} (hC : CT g y My Ry w As P)
    (f1 : Cond.methodLinkNest M.1 idx y host ∈ NWL) (f2 : Cond.static y ∈ BIG) (f4 : Cond.initialized y.cls ∈ BIG) (f5 : Cond.code y My.2.1 My.2.2.1 My.2.2.2.1 ∈ BIG)
    (hd : y.cls ≠ "java/lang/invoke/MethodHandle" ∧ y.cls ≠ "java/lang/invoke/VarHandle" ∧ (parseMethodDescriptor y.desc).map (fun d => d.parameters.length) = some na) (hna : As.length = na)
    (hR : Ry.frames + 1 ≤ R.frames ∧ 8 + (My.2.2.1 + 11) + Ry.locals ≤ R.locals)
    (hW : (st.map fun v => v.category).sum ≤ 8) (hdg : decode M.2.1 pc = .ok (.invokestatic idx, 3)) (hk : k + Ry.cells ≤ R.cells ∧ n + Ry.slots ≤ R.slots)
    (kk : ∀ v w', P (.inl v) w' → J g M R Q (k + Ry.cells) (n + Ry.slots) w' (pc + 3) l (v.toList ++ st)) (kx : ∀ E w', P (.inr E) w' → JX g M R Q (k + Ry.cells) (n + Ry.slots) w' pc l st E) : J g M R Q k n w pc l (As.reverse ++ st) := by
  refine J.callG (P := P) (mc := Ry.cells) (ms := Ry.slots) ?_ kk kx
  intro p ln e s m args below meth c C9 H locs ls hw hS hl
  obtain ⟨hx, hb, hml, hr, hown, hts, hlk, hst, htab, hini, hamb⟩ := C9
  exact vx_runSN (As := As) (rest := st) (Ts := BIG) (own := M.1) ⟨hx, hb, hml, hown, hts⟩ (hC ln hst)
    ⟨va_cnB (ws' := BIG) na hts (goodIn_big (fun z hz => by
      rcases List.mem_cons.mp hz with rfl | hz
      · exact f5
      · exact hz)) rfl rfl rfl (hamb.2.2.2.2.2.1 _ f1) (hts _ f4) hd hR, hts _ f2, trivial⟩
    ⟨pc_blind, pc_pre hamb hS hw⟩ rfl hna hl.1 rfl (lv_room hW) hdg hk
/-- a static method with a table, called from the law -/
theorem J.callSW {y : MethodName} {My : MI} {Ry : Room} {idx na : Nat} {As : List Value} {P : PT} (hC : CW g y My Ry w As P)
    (f1 : Cond.methodLink M.1 idx y ∈ BIG) (f2 : Cond.static y ∈ BIG) (f4 : Cond.initialized y.cls ∈ BIG) (f5 : Cond.codeWith y My.2.1 My.2.2.1 My.2.2.2.1 My.2.2.2.2.1 ∈ BIG)
    (hd : y.cls ≠ "java/lang/invoke/MethodHandle" ∧ y.cls ≠ "java/lang/invoke/VarHandle" ∧ (parseMethodDescriptor y.desc).map (fun d => d.parameters.length) = some na) (hna : As.length = na)
    (hR : Ry.frames + 1 ≤ R.frames ∧ 8 + (My.2.2.1 + 11) + Ry.locals ≤ R.locals)
    (hW : (st.map fun v => v.category).sum ≤ 8) (hdg : decode M.2.1 pc = .ok (.invokestatic idx, 3)) (hk : k + Ry.cells ≤ R.cells ∧ n + Ry.slots ≤ R.slots)
    (kk : ∀ v w', P (.inl v) w' → J g M R Q (k + Ry.cells) (n + Ry.slots) w' (pc + 3) l (v.toList ++ st)) (kx : ∀ E w', P (.inr E) w' → JX g M R Q (k + Ry.cells) (n + Ry.slots) w' pc l st E) : J g M R Q k n w pc l (As.reverse ++ st) := by
  refine J.callG (P := P) (mc := Ry.cells) (ms := Ry.slots) ?_ kk kx
  intro p ln e s m args below meth c C9 H locs ls hw hS hl
  obtain ⟨hx, hb, hml, hr, hown, hts, hlk, hst, htab, hini, hamb⟩ := C9
  exact vx_runSX (As := As) (rest := st) (Ts := BIG) (own := M.1) (hh := My.2.2.2.2.1) (bytes := My.2.1) (maxL := My.2.2.1) (ret := My.2.2.2.1) ⟨hx, hb, hml, hown, hts⟩ (hC ln hst)
    (vx_cwSW (ws' := BIG) na hts (goodIn_big (fun z hz => by
      simp only [va_wsS, List.cons_append, List.nil_append, List.mem_cons] at hz
      rcases hz with rfl | rfl | rfl | rfl | hz
      · exact f1
      · exact f2
      · exact f4
      · exact f5
      · exact hz)) rfl rfl rfl hd hR)
    ⟨pc_blind, pc_pre hamb hS hw⟩ rfl hna hl.1 rfl (lv_room hW) hdg hk
theorem run_x {p : Program} {ln : Launch} {e : Env} {s : State} {m : MethodId} {args : Array Value} {below : List Frame} {meth : Method} {c : Code} {H : Heap} {locs : List Loc} {mc ms : Nat} {gf : JFrame} {Qa : State → Outcome → State → Prop} {XC : String → State → State → Prop} {free : Addr → Prop}
    (h : va_Run p ln e R s m args below meth c H locs k n mc ms gf st Qa free) : vx_Run p ln e R s m args below meth c H locs k n mc ms gf st Qa XC free := fun T hT X => Or.inl (h T hT X)
theorem J.callI {y : MethodName} {My : MI} {Ry : Room} {b idx na : Nat} {As : List Value} {P : PT} (hret : My.2.2.2.1 = none) (hC : CI g y My Ry w (.ref b :: As) P)
    (f1 : Cond.methodLink M.1 idx y ∈ BIG) (f2 : Cond.instanceMethod y ∈ BIG) (f4 : Cond.initialized y.cls ∈ BIG) (f5 : Cond.code y My.2.1 My.2.2.1 My.2.2.2.1 ∈ BIG) (hyn : y.name = "<init>")
    (hd : y.cls ≠ "java/lang/invoke/MethodHandle" ∧ y.cls ≠ "java/lang/invoke/VarHandle" ∧ (parseMethodDescriptor y.desc).map (fun d => d.parameters.length) = some na) (hna : As.length = na)
    (hR : Ry.frames + 1 ≤ R.frames ∧ 8 + (My.2.2.1 + 11) + Ry.locals ≤ R.locals)
    (hW : (st.map fun v => v.category).sum ≤ 8) (hdg : decode M.2.1 pc = .ok (.invokespecial idx, 3)) (hk : k + Ry.cells ≤ R.cells ∧ n + Ry.slots ≤ R.slots)
    (kk : ∀ v w', P (.inl v) w' → J g M R Q (k + Ry.cells) (n + Ry.slots) w' (pc + 3) l (v.toList ++ st)) : J g M R Q k n w pc l (As.reverse ++ .ref b :: st) := by
  refine J.callG (P := fun o w' => match o with | .inl v => P (.inl v) w' | .inr _ => False) (mc := Ry.cells) (ms := Ry.slots) ?_ kk (fun E w' h => h.elim)
  intro p ln e s m args below meth c C9 H locs ls hw hS hl
  obtain ⟨hx, hb, hml, hr, hown, hts, hlk, hst, htab, hini, hamb⟩ := C9
  refine run_x ?_
  have hC9 := hC ln hst
  rw [hret] at hC9 f5
  exact va_runI (As := As) (rest := st) (Ts := BIG) (own := M.1) ⟨hx, hb, hml, hown, hts⟩ hC9
    (cwI (ws' := BIG) na hts (goodIn_big (fun z hz => by
      rcases List.mem_cons.mp hz with rfl | hz
      · exact f5
      · exact hz)) rfl rfl rfl (hts _ f4) (hts _ f1) (hts _ f2) hyn hd hR)
    ⟨pc_blind, pc_pre hamb hS hw⟩ rfl hna hl.1 rfl (lv_room hW) hdg hk
theorem J.callIN {y : MethodName} {My : MI} {Ry : Room} {b idx na : Nat} {host : String} {As : List Value} {P : PT} (hret : My.2.2.2.1 = none) (hC : CI g y My Ry w (.ref b :: As) P)
    (f1 : Cond.methodLinkNest M.1 idx y host ∈ NWL) (f2 : Cond.instanceMethod y ∈ BIG) (f4 : Cond.initialized y.cls ∈ BIG) (f5 : Cond.code y My.2.1 My.2.2.1 My.2.2.2.1 ∈ BIG) (hyn : y.name = "<init>")
    (hd : y.cls ≠ "java/lang/invoke/MethodHandle" ∧ y.cls ≠ "java/lang/invoke/VarHandle" ∧ (parseMethodDescriptor y.desc).map (fun d => d.parameters.length) = some na) (hna : As.length = na)
    (hR : Ry.frames + 1 ≤ R.frames ∧ 8 + (My.2.2.1 + 11) + Ry.locals ≤ R.locals)
    (hW : (st.map fun v => v.category).sum ≤ 8) (hdg : decode M.2.1 pc = .ok (.invokespecial idx, 3)) (hk : k + Ry.cells ≤ R.cells ∧ n + Ry.slots ≤ R.slots)
    (kk : ∀ v w', P (.inl v) w' → J g M R Q (k + Ry.cells) (n + Ry.slots) w' (pc + 3) l (v.toList ++ st)) : J g M R Q k n w pc l (As.reverse ++ .ref b :: st) := by
  refine J.callG (P := fun o w' => match o with | .inl v => P (.inl v) w' | .inr _ => False) (mc := Ry.cells) (ms := Ry.slots) ?_ kk (fun E w' h => h.elim)
  intro p ln e s m args below meth c C9 H locs ls hw hS hl
  obtain ⟨hx, hb, hml, hr, hown, hts, hlk, hst, htab, hini, hamb⟩ := C9
  refine run_x ?_
  have hC9 := hC ln hst
  rw [hret] at hC9 f5
  exact va_runIN (As := As) (rest := st) (Ts := BIG) (own := M.1) (host := host) ⟨hx, hb, hml, hown, hts⟩ hC9
    ⟨va_cnB (ws' := BIG) na hts (goodIn_big (fun z hz => by
      rcases List.mem_cons.mp hz with rfl | hz
      · exact f5
      · exact hz)) rfl rfl rfl (hamb.2.2.2.2.2.1 _ f1) (hts _ f4) hd hR, hyn, hts _ f2⟩
    ⟨pc_blind, pc_pre hamb hS hw⟩ rfl hna hl.1 rfl (lv_room hW) hdg hk
end JJ
theorem Cx.at {g : GP} {M : MI} {p : Program} {ln : Launch} {s : State} {m : MethodId} {args : Array Value} {meth : Method} {c : Code} (C9 : Cx g M p ln s m args meth c) {L : List Cond} (h : L.all (fun w => decide (w ∈ lw_tbl) && (goodWord w || nwk w)) = true) : ∀ w ∈ L, w.before args s = true := by
  intro w hw
  have h1 := List.all_eq_true.mp h w hw
  simp only [Bool.and_eq_true, decide_eq_true_eq, Bool.or_eq_true] at h1
  rcases h1.2 with h2 | h2
  · exact C9.2.2.2.2.2.1 w (big_of h1.1 h2)
  · exact va_Nw.use (nw_ot h2) (C9.2.2.2.2.2.2.2.2.2.2.2.2.2.2.2.1 w (List.mem_filter.mpr ⟨h1.1, h2⟩))
end
section
/-! ===== rules of J, an instruction each; what stands as nI stays as nI ===== -/
section RU
variable {g : GP} {M : MI} {R : Room} {Q : QT} {k n pc : Nat} {w : va_W} {l : List (Option Value)} {st : List Value}
theorem J.iconst {i : Int} {v : Int32} (d : decode M.2.1 pc = .ok (.iconst i, 1)) (hv : Int32.ofInt i = v) (K : J g M R Q k n w (pc + 1) l (.int v :: st)) : J g M R Q k n w pc l st :=
  fun p ln e s m args below meth c C H locs ls hw hS hl => lv_iconst C.1 C.2.1 d hv (K p ln e s m args below meth c C H locs ls hw hS hl)
theorem J.bipush {i : Int} {v : Int32} (d : decode M.2.1 pc = .ok (.bipush i, 2)) (hv : (Int8.ofInt i).toInt32 = v) (K : J g M R Q k n w (pc + 2) l (.int v :: st)) : J g M R Q k n w pc l st :=
  fun p ln e s m args below meth c C H locs ls hw hS hl => lv_bipush C.1 C.2.1 d hv (K p ln e s m args below meth c C H locs ls hw hS hl)
theorem J.sipush {i : Int} {v : Int32} (d : decode M.2.1 pc = .ok (.sipush i, 3)) (hv : (Int16.ofInt i).toInt32 = v) (K : J g M R Q k n w (pc + 3) l (.int v :: st)) : J g M R Q k n w pc l st :=
  fun p ln e s m args below meth c C H locs ls hw hS hl => lv_sipush C.1 C.2.1 d hv (K p ln e s m args below meth c C H locs ls hw hS hl)
theorem J.ldcI {i : Nat} {v v' : Int32} (d : decode M.2.1 pc = .ok (.ldc i, 2)) (f : Cond.constant M.1 i v ∈ BIG) (hv : v = v') (K : J g M R Q k n w (pc + 2) l (.int v' :: st)) : J g M R Q k n w pc l st := by
  subst hv
  exact fun p ln e s m args below meth c C H locs ls hw hS hl => lv_ldc C.1 C.2.1 C.2.2.2.2.1 (C.2.2.2.2.2.1 _ f) d (K p ln e s m args below meth c C H locs ls hw hS hl)
theorem J.lconst {i : Fin 2} {v : Int64} (d : decode M.2.1 pc = .ok (.lconst i, 1)) (hv : Int64.ofNat (i : Nat) = v) (K : J g M R Q k n w (pc + 1) l (.long v :: st)) : J g M R Q k n w pc l st :=
  fun p ln e s m args below meth c C H locs ls hw hS hl => lv_lconst C.1 C.2.1 d hv (K p ln e s m args below meth c C H locs ls hw hS hl)
theorem J.iload_n {i : Fin 4} {x : Int32} (d : decode M.2.1 pc = .ok (.iload_n i, 1)) (h : l[(i : Nat)]? = some (some (.int x))) (K : J g M R Q k n w (pc + 1) l (.int x :: st)) : J g M R Q k n w pc l st :=
  fun p ln e s m args below meth c C H locs ls hw hS hl => lv_iload_n C.1 C.2.1 d rfl (lvx_get hl h) (K p ln e s m args below meth c C H locs ls hw hS hl)
theorem J.iload {i : Nat} {x : Int32} (d : decode M.2.1 pc = .ok (.iload i, 2)) (h : l[i]? = some (some (.int x))) (K : J g M R Q k n w (pc + 2) l (.int x :: st)) : J g M R Q k n w pc l st :=
  fun p ln e s m args below meth c C H locs ls hw hS hl => lv_iload C.1 C.2.1 d (lvx_get hl h) (K p ln e s m args below meth c C H locs ls hw hS hl)
theorem J.aload_n {i : Fin 4} {x : Nat} (d : decode M.2.1 pc = .ok (.aload_n i, 1)) (h : l[(i : Nat)]? = some (some (.ref x))) (K : J g M R Q k n w (pc + 1) l (.ref x :: st)) : J g M R Q k n w pc l st :=
  fun p ln e s m args below meth c C H locs ls hw hS hl => lv_aload_n C.1 C.2.1 d rfl (lvx_get hl h) (K p ln e s m args below meth c C H locs ls hw hS hl)
theorem J.aload {i : Nat} {x : Nat} (d : decode M.2.1 pc = .ok (.aload i, 2)) (h : l[i]? = some (some (.ref x))) (K : J g M R Q k n w (pc + 2) l (.ref x :: st)) : J g M R Q k n w pc l st :=
  fun p ln e s m args below meth c C H locs ls hw hS hl => lv_aload C.1 C.2.1 d (lvx_get hl h) (K p ln e s m args below meth c C H locs ls hw hS hl)
theorem J.dload {i : Nat} {x : UInt64} (d : decode M.2.1 pc = .ok (.dload i, 2)) (h : l[i]? = some (some (.double x))) (K : J g M R Q k n w (pc + 2) l (.double x :: st)) : J g M R Q k n w pc l st :=
  fun p ln e s m args below meth c C H locs ls hw hS hl => lv_dload C.1 C.2.1 d (lvx_get hl h) (K p ln e s m args below meth c C H locs ls hw hS hl)
theorem J.istore_n {i : Fin 4} {x : Int32} {l' : List (Option Value)} (d : decode M.2.1 pc = .ok (.istore_n i, 1)) (hn : (i : Nat) < M.2.2.1) (hc : (i : Nat) = 0 ∨ cat1 l[(i : Nat) - 1]? = true) (hl' : l.set i (some (.int x)) = l') (K : J g M R Q k n w (pc + 1) l' st) : J g M R Q k n w pc l (.int x :: st) :=
  fun p ln e s m args below meth c C H locs ls hw hS hl => lv_istore_n C.1 C.2.1 d rfl hl hn rfl (fun ls' h => K p ln e s m args below meth c C H locs ls' hw hS (lvx_set h hc hl'))
theorem J.istore {i : Nat} {x : Int32} {l' : List (Option Value)} (d : decode M.2.1 pc = .ok (.istore i, 2)) (hn : i < M.2.2.1) (hc : i = 0 ∨ cat1 l[i - 1]? = true) (hl' : l.set i (some (.int x)) = l') (K : J g M R Q k n w (pc + 2) l' st) : J g M R Q k n w pc l (.int x :: st) :=
  fun p ln e s m args below meth c C H locs ls hw hS hl => lv_istore C.1 C.2.1 d hl hn rfl (fun ls' h => K p ln e s m args below meth c C H locs ls' hw hS (lvx_set h hc hl'))
theorem J.astore_n {i : Fin 4} {x : Nat} {l' : List (Option Value)} (d : decode M.2.1 pc = .ok (.astore_n i, 1)) (hn : (i : Nat) < M.2.2.1) (hc : (i : Nat) = 0 ∨ cat1 l[(i : Nat) - 1]? = true) (hl' : l.set i (some (.ref x)) = l') (K : J g M R Q k n w (pc + 1) l' st) : J g M R Q k n w pc l (.ref x :: st) :=
  fun p ln e s m args below meth c C H locs ls hw hS hl => lv_astore_n C.1 C.2.1 d rfl hl hn rfl (fun ls' h => K p ln e s m args below meth c C H locs ls' hw hS (lvx_set h hc hl'))
theorem J.astore {i : Nat} {x : Nat} {l' : List (Option Value)} (d : decode M.2.1 pc = .ok (.astore i, 2)) (hn : i < M.2.2.1) (hc : i = 0 ∨ cat1 l[i - 1]? = true) (hl' : l.set i (some (.ref x)) = l') (K : J g M R Q k n w (pc + 2) l' st) : J g M R Q k n w pc l (.ref x :: st) :=
  fun p ln e s m args below meth c C H locs ls hw hS hl => lv_astore C.1 C.2.1 d hl hn rfl (fun ls' h => K p ln e s m args below meth c C H locs ls' hw hS (lvx_set h hc hl'))
theorem J.iinc {i : Nat} {z : Int} {x v : Int32} {l' : List (Option Value)} (d : decode M.2.1 pc = .ok (.iinc i z, 3)) (h : l[i]? = some (some (.int x))) (hv : x + Int32.ofInt z = v) (hn : i < M.2.2.1) (hc : i = 0 ∨ cat1 l[i - 1]? = true) (hl' : l.set i (some (.int v)) = l') (K : J g M R Q k n w (pc + 3) l' st) : J g M R Q k n w pc l st := by
  intro p ln e s m args below meth c C H locs ls hw hS hl
  obtain ⟨t, ht⟩ := List.getElem?_of_mem ((lvx_mem l 0 i _).mpr ⟨i, by omega, h⟩)
  exact lv_iinc C.1 C.2.1 d hl ht hv hn rfl (fun ls' h => K p ln e s m args below meth c C H locs ls' hw hS (lvx_set h hc hl'))
theorem J.iadd {x y z : Int32} (d : decode M.2.1 pc = .ok (.iadd, 1)) (h : x + y = z) (K : J g M R Q k n w (pc + 1) l (.int z :: st)) : J g M R Q k n w pc l (.int y :: .int x :: st) := by
  subst h
  exact fun p ln e s m args below meth c C H locs ls hw hS hl => lv_iadd C.1 C.2.1 d (K p ln e s m args below meth c C H locs ls hw hS hl)
theorem J.isub {x y z : Int32} (d : decode M.2.1 pc = .ok (.isub, 1)) (h : x - y = z) (K : J g M R Q k n w (pc + 1) l (.int z :: st)) : J g M R Q k n w pc l (.int y :: .int x :: st) := by
  subst h
  exact fun p ln e s m args below meth c C H locs ls hw hS hl => lv_isub C.1 C.2.1 d (K p ln e s m args below meth c C H locs ls hw hS hl)
theorem J.imul {x y z : Int32} (d : decode M.2.1 pc = .ok (.imul, 1)) (h : x * y = z) (K : J g M R Q k n w (pc + 1) l (.int z :: st)) : J g M R Q k n w pc l (.int y :: .int x :: st) := by
  subst h
  exact fun p ln e s m args below meth c C H locs ls hw hS hl => lv_imul C.1 C.2.1 d (K p ln e s m args below meth c C H locs ls hw hS hl)
theorem J.idiv {a b : Nat} (d : decode M.2.1 pc = .ok (.idiv, 1)) (h1 : a < 2147483648) (h2 : 0 < b) (h3 : b < 2147483648) (K : J g M R Q k n w (pc + 1) l (.int (nI (a / b)) :: st)) : J g M R Q k n w pc l (.int (nI b) :: .int (nI a) :: st) := by
  rw [← pk_div h1 h2 h3] at K
  exact fun p ln e s m args below meth c C H locs ls hw hS hl => lv_idiv C.1 C.2.1 d (nI_ne0 h2 h3) (K p ln e s m args below meth c C H locs ls hw hS hl)
theorem J.irem {a b : Nat} (d : decode M.2.1 pc = .ok (.irem, 1)) (h1 : a < 2147483648) (h2 : 0 < b) (h3 : b < 2147483648) (K : J g M R Q k n w (pc + 1) l (.int (nI (a % b)) :: st)) : J g M R Q k n w pc l (.int (nI b) :: .int (nI a) :: st) := by
  rw [← pk_rem h1 h2 h3] at K
  exact fun p ln e s m args below meth c C H locs ls hw hS hl => lv_irem C.1 C.2.1 d (nI_ne0 h2 h3) (K p ln e s m args below meth c C H locs ls hw hS hl)
theorem J.iaddN {a b : Nat} (d : decode M.2.1 pc = .ok (.iadd, 1)) (K : J g M R Q k n w (pc + 1) l (.int (nI (a + b)) :: st)) : J g M R Q k n w pc l (.int (nI b) :: .int (nI a) :: st) := J.iadd d (nI_add a b) K
theorem J.isubN {a b : Nat} (d : decode M.2.1 pc = .ok (.isub, 1)) (h : b ≤ a) (K : J g M R Q k n w (pc + 1) l (.int (nI (a - b)) :: st)) : J g M R Q k n w pc l (.int (nI b) :: .int (nI a) :: st) := J.isub d (pk_sub h) K
theorem J.imulN {a b : Nat} (d : decode M.2.1 pc = .ok (.imul, 1)) (K : J g M R Q k n w (pc + 1) l (.int (nI (a * b)) :: st)) : J g M R Q k n w pc l (.int (nI b) :: .int (nI a) :: st) := J.imul d (pk_mul a b) K
theorem J.iincN {i z : Nat} {zi : Int} {a : Nat} {l' : List (Option Value)} (d : decode M.2.1 pc = .ok (.iinc i zi, 3)) (hz : Int32.ofInt zi = nI z) (h : l[i]? = some (some (.int (nI a)))) (hn : i < M.2.2.1) (hc : i = 0 ∨ cat1 l[i - 1]? = true) (hl' : l.set i (some (.int (nI (a + z)))) = l') (K : J g M R Q k n w (pc + 3) l' st) : J g M R Q k n w pc l st :=
  J.iinc d h (by rw [hz, nI_add]) hn hc hl' K
theorem J.ineg {x z : Int32} (d : decode M.2.1 pc = .ok (.ineg, 1)) (h : -x = z) (K : J g M R Q k n w (pc + 1) l (.int z :: st)) : J g M R Q k n w pc l (.int x :: st) := by
  subst h
  exact fun p ln e s m args below meth c C H locs ls hw hS hl => lv_ineg C.1 C.2.1 d (K p ln e s m args below meth c C H locs ls hw hS hl)
theorem J.i2c {x z : Int32} (d : decode M.2.1 pc = .ok (.i2c, 1)) (h : (x.toUInt32 % 65536).toInt32 = z) (K : J g M R Q k n w (pc + 1) l (.int z :: st)) : J g M R Q k n w pc l (.int x :: st) :=
  fun p ln e s m args below meth c C H locs ls hw hS hl => lv_i2c C.1 C.2.1 d h (K p ln e s m args below meth c C H locs ls hw hS hl)
theorem J.i2l {x : Int32} (d : decode M.2.1 pc = .ok (.i2l, 1)) (K : J g M R Q k n w (pc + 1) l (.long x.toInt64 :: st)) : J g M R Q k n w pc l (.int x :: st) :=
  fun p ln e s m args below meth c C H locs ls hw hS hl => lv_i2l C.1 C.2.1 d rfl (K p ln e s m args below meth c C H locs ls hw hS hl)
theorem J.dup {v : Value} (d : decode M.2.1 pc = .ok (.dup, 1)) (h : v.category = 1) (K : J g M R Q k n w (pc + 1) l (v :: v :: st)) : J g M R Q k n w pc l (v :: st) :=
  fun p ln e s m args below meth c C H locs ls hw hS hl => lv_dup C.1 C.2.1 d h (K p ln e s m args below meth c C H locs ls hw hS hl)
theorem J.pop {v : Value} (d : decode M.2.1 pc = .ok (.pop, 1)) (h : v.category = 1) (K : J g M R Q k n w (pc + 1) l st) : J g M R Q k n w pc l (v :: st) :=
  fun p ln e s m args below meth c C H locs ls hw hS hl => lv_pop C.1 C.2.1 d h (K p ln e s m args below meth c C H locs ls hw hS hl)
theorem J.goto {off : Int} {tgt : Nat} (d : decode M.2.1 pc = .ok (.goto off, 3)) (ht : (pc : Int) + off = (tgt : Int)) (K : J g M R Q k n w tgt l st) : J g M R Q k n w pc l st :=
  fun p ln e s m args below meth c C H locs ls hw hS hl => lv_goto C.1 C.2.1 d ht (K p ln e s m args below meth c C H locs ls hw hS hl)
theorem J.icmp_eq {x y : Int32} {off : Int} {tgt : Nat} (d : decode M.2.1 pc = .ok (.if_icmp .eq off, 3)) (ht : (pc : Int) + off = (tgt : Int)) (kt : x = y → J g M R Q k n w tgt l st) (kf : ¬ x = y → J g M R Q k n w (pc + 3) l st) : J g M R Q k n w pc l (.int y :: .int x :: st) :=
  fun p ln e s m args below meth c C H locs ls hw hS hl => lv_icmp_eq C.1 C.2.1 d ht (fun z => kt z p ln e s m args below meth c C H locs ls hw hS hl) (fun z => kf z p ln e s m args below meth c C H locs ls hw hS hl)
theorem J.icmp_eqN {a b : Nat} {off : Int} {tgt : Nat} (d : decode M.2.1 pc = .ok (.if_icmp .eq off, 3)) (ht : (pc : Int) + off = (tgt : Int)) (ha : a < 2147483648) (hb : b < 2147483648) (kt : a = b → J g M R Q k n w tgt l st) (kf : a ≠ b → J g M R Q k n w (pc + 3) l st) : J g M R Q k n w pc l (.int (nI b) :: .int (nI a) :: st) :=
  J.icmp_eq d ht (fun z => kt ((nI_eq ha hb).mp z)) (fun z => kf (fun q => z ((nI_eq ha hb).mpr q)))
theorem J.icmp_ne {x y : Int32} {off : Int} {tgt : Nat} (d : decode M.2.1 pc = .ok (.if_icmp .ne off, 3)) (ht : (pc : Int) + off = (tgt : Int)) (kt : ¬ x = y → J g M R Q k n w tgt l st) (kf : x = y → J g M R Q k n w (pc + 3) l st) : J g M R Q k n w pc l (.int y :: .int x :: st) :=
  fun p ln e s m args below meth c C H locs ls hw hS hl => lv_icmp_ne C.1 C.2.1 d ht (fun z => kt z p ln e s m args below meth c C H locs ls hw hS hl) (fun z => kf z p ln e s m args below meth c C H locs ls hw hS hl)
theorem J.icmp_neN {a b : Nat} {off : Int} {tgt : Nat} (d : decode M.2.1 pc = .ok (.if_icmp .ne off, 3)) (ht : (pc : Int) + off = (tgt : Int)) (ha : a < 2147483648) (hb : b < 2147483648) (kt : a ≠ b → J g M R Q k n w tgt l st) (kf : a = b → J g M R Q k n w (pc + 3) l st) : J g M R Q k n w pc l (.int (nI b) :: .int (nI a) :: st) :=
  J.icmp_ne d ht (fun z => kt (fun q => z ((nI_eq ha hb).mpr q))) (fun z => kf ((nI_eq ha hb).mp z))
theorem J.icmp_lt {x y : Int32} {off : Int} {tgt : Nat} (d : decode M.2.1 pc = .ok (.if_icmp .lt off, 3)) (ht : (pc : Int) + off = (tgt : Int)) (kt : x < y → J g M R Q k n w tgt l st) (kf : ¬ x < y → J g M R Q k n w (pc + 3) l st) : J g M R Q k n w pc l (.int y :: .int x :: st) :=
  fun p ln e s m args below meth c C H locs ls hw hS hl => lv_icmp_lt C.1 C.2.1 d ht (fun z => kt z p ln e s m args below meth c C H locs ls hw hS hl) (fun z => kf z p ln e s m args below meth c C H locs ls hw hS hl)
theorem J.icmp_ltN {a b : Nat} {off : Int} {tgt : Nat} (d : decode M.2.1 pc = .ok (.if_icmp .lt off, 3)) (ht : (pc : Int) + off = (tgt : Int)) (ha : a < 2147483648) (hb : b < 2147483648) (kt : a < b → J g M R Q k n w tgt l st) (kf : b ≤ a → J g M R Q k n w (pc + 3) l st) : J g M R Q k n w pc l (.int (nI b) :: .int (nI a) :: st) :=
  J.icmp_lt d ht (fun z => kt ((nI_ltI ha hb).mp z)) (fun z => kf (Nat.not_lt.mp (fun q => z ((nI_ltI ha hb).mpr q))))
theorem J.icmp_ge {x y : Int32} {off : Int} {tgt : Nat} (d : decode M.2.1 pc = .ok (.if_icmp .ge off, 3)) (ht : (pc : Int) + off = (tgt : Int)) (kt : y ≤ x → J g M R Q k n w tgt l st) (kf : ¬ y ≤ x → J g M R Q k n w (pc + 3) l st) : J g M R Q k n w pc l (.int y :: .int x :: st) :=
  fun p ln e s m args below meth c C H locs ls hw hS hl => lv_icmp_ge C.1 C.2.1 d ht (fun z => kt z p ln e s m args below meth c C H locs ls hw hS hl) (fun z => kf z p ln e s m args below meth c C H locs ls hw hS hl)
theorem J.icmp_geN {a b : Nat} {off : Int} {tgt : Nat} (d : decode M.2.1 pc = .ok (.if_icmp .ge off, 3)) (ht : (pc : Int) + off = (tgt : Int)) (ha : a < 2147483648) (hb : b < 2147483648) (kt : b ≤ a → J g M R Q k n w tgt l st) (kf : a < b → J g M R Q k n w (pc + 3) l st) : J g M R Q k n w pc l (.int (nI b) :: .int (nI a) :: st) :=
  J.icmp_ge d ht (fun z => kt ((nI_leI hb ha).mp z)) (fun z => kf (Nat.not_le.mp (fun q => z ((nI_leI hb ha).mpr q))))
theorem J.icmp_gt {x y : Int32} {off : Int} {tgt : Nat} (d : decode M.2.1 pc = .ok (.if_icmp .gt off, 3)) (ht : (pc : Int) + off = (tgt : Int)) (kt : y < x → J g M R Q k n w tgt l st) (kf : ¬ y < x → J g M R Q k n w (pc + 3) l st) : J g M R Q k n w pc l (.int y :: .int x :: st) :=
  fun p ln e s m args below meth c C H locs ls hw hS hl => lv_icmp_gt C.1 C.2.1 d ht (fun z => kt z p ln e s m args below meth c C H locs ls hw hS hl) (fun z => kf z p ln e s m args below meth c C H locs ls hw hS hl)
theorem J.icmp_gtN {a b : Nat} {off : Int} {tgt : Nat} (d : decode M.2.1 pc = .ok (.if_icmp .gt off, 3)) (ht : (pc : Int) + off = (tgt : Int)) (ha : a < 2147483648) (hb : b < 2147483648) (kt : b < a → J g M R Q k n w tgt l st) (kf : a ≤ b → J g M R Q k n w (pc + 3) l st) : J g M R Q k n w pc l (.int (nI b) :: .int (nI a) :: st) :=
  J.icmp_gt d ht (fun z => kt ((nI_ltI hb ha).mp z)) (fun z => kf (Nat.not_lt.mp (fun q => z ((nI_ltI hb ha).mpr q))))
theorem J.icmp_le {x y : Int32} {off : Int} {tgt : Nat} (d : decode M.2.1 pc = .ok (.if_icmp .le off, 3)) (ht : (pc : Int) + off = (tgt : Int)) (kt : x ≤ y → J g M R Q k n w tgt l st) (kf : ¬ x ≤ y → J g M R Q k n w (pc + 3) l st) : J g M R Q k n w pc l (.int y :: .int x :: st) :=
  fun p ln e s m args below meth c C H locs ls hw hS hl => lv_icmp_le C.1 C.2.1 d ht (fun z => kt z p ln e s m args below meth c C H locs ls hw hS hl) (fun z => kf z p ln e s m args below meth c C H locs ls hw hS hl)
theorem J.icmp_leN {a b : Nat} {off : Int} {tgt : Nat} (d : decode M.2.1 pc = .ok (.if_icmp .le off, 3)) (ht : (pc : Int) + off = (tgt : Int)) (ha : a < 2147483648) (hb : b < 2147483648) (kt : a ≤ b → J g M R Q k n w tgt l st) (kf : b < a → J g M R Q k n w (pc + 3) l st) : J g M R Q k n w pc l (.int (nI b) :: .int (nI a) :: st) :=
  J.icmp_le d ht (fun z => kt ((nI_leI ha hb).mp z)) (fun z => kf (Nat.not_le.mp (fun q => z ((nI_leI ha hb).mpr q))))
theorem J.if_eq {x : Int32} {off : Int} {tgt : Nat} (d : decode M.2.1 pc = .ok (.ifCond .eq off, 3)) (ht : (pc : Int) + off = (tgt : Int)) (kt : x = 0 → J g M R Q k n w tgt l st) (kf : ¬ x = 0 → J g M R Q k n w (pc + 3) l st) : J g M R Q k n w pc l (.int x :: st) :=
  fun p ln e s m args below meth c C H locs ls hw hS hl => lv_if_eq C.1 C.2.1 d ht (fun z => kt z p ln e s m args below meth c C H locs ls hw hS hl) (fun z => kf z p ln e s m args below meth c C H locs ls hw hS hl)
theorem J.if_eqN {a : Nat} {off : Int} {tgt : Nat} (d : decode M.2.1 pc = .ok (.ifCond .eq off, 3)) (ht : (pc : Int) + off = (tgt : Int)) (ha : a < 2147483648) (kt : a = 0 → J g M R Q k n w tgt l st) (kf : 0 < a → J g M R Q k n w (pc + 3) l st) : J g M R Q k n w pc l (.int (nI a) :: st) :=
  J.if_eq d ht (fun z => kt ((nI_eq ha (b := 0) (by decide)).mp (z.trans nI_0.symm))) (fun z => kf (Nat.pos_of_ne_zero (fun q => z (by rw [q]; exact nI_0))))
theorem J.if_ne {x : Int32} {off : Int} {tgt : Nat} (d : decode M.2.1 pc = .ok (.ifCond .ne off, 3)) (ht : (pc : Int) + off = (tgt : Int)) (kt : ¬ x = 0 → J g M R Q k n w tgt l st) (kf : x = 0 → J g M R Q k n w (pc + 3) l st) : J g M R Q k n w pc l (.int x :: st) :=
  fun p ln e s m args below meth c C H locs ls hw hS hl => lv_if_ne C.1 C.2.1 d ht (fun z => kt z p ln e s m args below meth c C H locs ls hw hS hl) (fun z => kf z p ln e s m args below meth c C H locs ls hw hS hl)
theorem J.if_neN {a : Nat} {off : Int} {tgt : Nat} (d : decode M.2.1 pc = .ok (.ifCond .ne off, 3)) (ht : (pc : Int) + off = (tgt : Int)) (ha : a < 2147483648) (kt : 0 < a → J g M R Q k n w tgt l st) (kf : a = 0 → J g M R Q k n w (pc + 3) l st) : J g M R Q k n w pc l (.int (nI a) :: st) :=
  J.if_ne d ht (fun z => kt (Nat.pos_of_ne_zero (fun q => z (by rw [q]; exact nI_0)))) (fun z => kf ((nI_eq ha (b := 0) (by decide)).mp (z.trans nI_0.symm)))
theorem J.if_lt {x : Int32} {off : Int} {tgt : Nat} (d : decode M.2.1 pc = .ok (.ifCond .lt off, 3)) (ht : (pc : Int) + off = (tgt : Int)) (kt : x < 0 → J g M R Q k n w tgt l st) (kf : ¬ x < 0 → J g M R Q k n w (pc + 3) l st) : J g M R Q k n w pc l (.int x :: st) :=
  fun p ln e s m args below meth c C H locs ls hw hS hl => lv_if_lt C.1 C.2.1 d ht (fun z => kt z p ln e s m args below meth c C H locs ls hw hS hl) (fun z => kf z p ln e s m args below meth c C H locs ls hw hS hl)
theorem J.if_ltN {a : Nat} {off : Int} {tgt : Nat} (d : decode M.2.1 pc = .ok (.ifCond .lt off, 3)) (ht : (pc : Int) + off = (tgt : Int)) (ha : a < 2147483648) (kt : False → J g M R Q k n w tgt l st) (kf : True → J g M R Q k n w (pc + 3) l st) : J g M R Q k n w pc l (.int (nI a) :: st) :=
  J.if_lt d ht (fun z => (nI_pos ha z).elim) (fun _ => kf trivial)
theorem J.if_ge {x : Int32} {off : Int} {tgt : Nat} (d : decode M.2.1 pc = .ok (.ifCond .ge off, 3)) (ht : (pc : Int) + off = (tgt : Int)) (kt : 0 ≤ x → J g M R Q k n w tgt l st) (kf : ¬ 0 ≤ x → J g M R Q k n w (pc + 3) l st) : J g M R Q k n w pc l (.int x :: st) :=
  fun p ln e s m args below meth c C H locs ls hw hS hl => lv_if_ge C.1 C.2.1 d ht (fun z => kt z p ln e s m args below meth c C H locs ls hw hS hl) (fun z => kf z p ln e s m args below meth c C H locs ls hw hS hl)
theorem J.if_geN {a : Nat} {off : Int} {tgt : Nat} (d : decode M.2.1 pc = .ok (.ifCond .ge off, 3)) (ht : (pc : Int) + off = (tgt : Int)) (ha : a < 2147483648) (kt : True → J g M R Q k n w tgt l st) (kf : False → J g M R Q k n w (pc + 3) l st) : J g M R Q k n w pc l (.int (nI a) :: st) :=
  J.if_ge d ht (fun _ => kt trivial) (fun z => (z (nI_pos' ha)).elim)
theorem J.if_gt {x : Int32} {off : Int} {tgt : Nat} (d : decode M.2.1 pc = .ok (.ifCond .gt off, 3)) (ht : (pc : Int) + off = (tgt : Int)) (kt : 0 < x → J g M R Q k n w tgt l st) (kf : ¬ 0 < x → J g M R Q k n w (pc + 3) l st) : J g M R Q k n w pc l (.int x :: st) :=
  fun p ln e s m args below meth c C H locs ls hw hS hl => lv_if_gt C.1 C.2.1 d ht (fun z => kt z p ln e s m args below meth c C H locs ls hw hS hl) (fun z => kf z p ln e s m args below meth c C H locs ls hw hS hl)
theorem J.if_gtN {a : Nat} {off : Int} {tgt : Nat} (d : decode M.2.1 pc = .ok (.ifCond .gt off, 3)) (ht : (pc : Int) + off = (tgt : Int)) (ha : a < 2147483648) (kt : 0 < a → J g M R Q k n w tgt l st) (kf : a = 0 → J g M R Q k n w (pc + 3) l st) : J g M R Q k n w pc l (.int (nI a) :: st) :=
  J.if_gt d ht (fun z => kt ((nI_ltI (a := 0) (by decide) ha).mp (nI_0 ▸ z))) (fun z => kf (Nat.eq_zero_of_not_pos (fun q => z (by have := nI_lt q ha; rw [nI_0] at this; exact this))))
theorem J.if_le {x : Int32} {off : Int} {tgt : Nat} (d : decode M.2.1 pc = .ok (.ifCond .le off, 3)) (ht : (pc : Int) + off = (tgt : Int)) (kt : x ≤ 0 → J g M R Q k n w tgt l st) (kf : ¬ x ≤ 0 → J g M R Q k n w (pc + 3) l st) : J g M R Q k n w pc l (.int x :: st) :=
  fun p ln e s m args below meth c C H locs ls hw hS hl => lv_if_le C.1 C.2.1 d ht (fun z => kt z p ln e s m args below meth c C H locs ls hw hS hl) (fun z => kf z p ln e s m args below meth c C H locs ls hw hS hl)
theorem J.if_leN {a : Nat} {off : Int} {tgt : Nat} (d : decode M.2.1 pc = .ok (.ifCond .le off, 3)) (ht : (pc : Int) + off = (tgt : Int)) (ha : a < 2147483648) (kt : a = 0 → J g M R Q k n w tgt l st) (kf : 0 < a → J g M R Q k n w (pc + 3) l st) : J g M R Q k n w pc l (.int (nI a) :: st) :=
  J.if_le d ht (fun z => kt (Nat.eq_zero_of_not_pos (fun q => nI_nle q ha z))) (fun z => kf (Nat.pos_of_ne_zero (fun q => z (by rw [q, nI_0]; exact Int32.le_refl _))))
theorem J.tableIn {dflt lo hi off : Int} {offs : Array Int} {len tgt : Nat} {x : Int32} (d : decode M.2.1 pc = .ok (.tableswitch dflt lo hi offs, len)) (h1 : ¬ x.toInt < lo) (h2 : ¬ hi < x.toInt) (ho : offs[(x.toInt - lo).toNat]? = some off) (ht : (pc : Int) + off = (tgt : Int)) (K : J g M R Q k n w tgt l st) : J g M R Q k n w pc l (.int x :: st) :=
  fun p ln e s m args below meth c C H locs ls hw hS hl => lv_tableIn C.1 C.2.1 d h1 h2 ho ht (K p ln e s m args below meth c C H locs ls hw hS hl)
theorem J.tableOut {dflt lo hi : Int} {offs : Array Int} {len tgt : Nat} {x : Int32} (d : decode M.2.1 pc = .ok (.tableswitch dflt lo hi offs, len)) (h : x.toInt < lo ∨ hi < x.toInt) (ht : (pc : Int) + dflt = (tgt : Int)) (K : J g M R Q k n w tgt l st) : J g M R Q k n w pc l (.int x :: st) :=
  fun p ln e s m args below meth c C H locs ls hw hS hl => lv_tableOut C.1 C.2.1 d h ht (K p ln e s m args below meth c C H locs ls hw hS hl)
theorem J.lookup {dflt off : Int} {ps : Array (Int × Int)} {len tgt : Nat} {x : Int32} (d : decode M.2.1 pc = .ok (.lookupswitch dflt ps, len)) (hp : (ps.toList.zip (ps.toList.drop 1)).all (fun (a, next) => a.1 < next.1) = true) (ho : Op.lookupswitch.offset ps.toList dflt x.toInt = off) (ht : (pc : Int) + off = (tgt : Int)) (K : J g M R Q k n w tgt l st) : J g M R Q k n w pc l (.int x :: st) :=
  fun p ln e s m args below meth c C H locs ls hw hS hl => lv_lookup C.1 C.2.1 d hp ho ht (K p ln e s m args below meth c C H locs ls hw hS hl)
theorem J.dup2 {a b : Value} (d : decode M.2.1 pc = .ok (.dup2, 1)) (h1 : a.category = 1) (h2 : b.category = 1) (K : J g M R Q k n w (pc + 1) l (a :: b :: a :: b :: st)) : J g M R Q k n w pc l (a :: b :: st) :=
  fun p ln e s m args below meth c C H locs ls hw hS hl => lv_dup2_11 C.1 C.2.1 d h1 h2 (K p ln e s m args below meth c C H locs ls hw hS hl)
end RU
section RE
variable {g : GP} {M : MI} {R : Room} {P : PT} {k n pc : Nat} {w : va_W} {l : List (Option Value)}
theorem J.iret {v : Int32} (hr : M.2.2.2.1 = some .int) (hk : k ≤ R.cells) (hn : n ≤ R.slots) (d : decode M.2.1 pc = .ok (.ireturn, 1)) (hp : P (.inl (some (.int v))) w) : J g M R (MQx g R P) k n w pc l [.int v] :=
  fun p ln e s m args below meth c C H locs ls hw hS hl => W.widen hk hn (vx_ret (W.iret C.1 C.2.1 (C.2.2.2.1.trans hr) (fun t ht hW => ⟨_, w, rfl, hp, by rw [ht]; exact hw, hS.F ht⟩) hS.2.2 d C.2.2.2.2.2.2.1))
theorem J.zret {v : Int32} {ty : FieldType} (hr : M.2.2.2.1 = some ty) (hv : narrow ty (.int v) = .int v) (hk : k ≤ R.cells) (hn : n ≤ R.slots) (d : decode M.2.1 pc = .ok (.ireturn, 1)) (hp : P (.inl (some (.int v))) w) : J g M R (MQx g R P) k n w pc l [.int v] :=
  fun p ln e s m args below meth c C H locs ls hw hS hl => W.widen hk hn (vx_ret (W.zret C.1 C.2.1 (C.2.2.2.1.trans hr) hv (fun t ht hW => ⟨_, w, rfl, hp, by rw [ht]; exact hw, hS.F ht⟩) hS.2.2 d C.2.2.2.2.2.2.1))
theorem J.vret (hr : M.2.2.2.1 = none) (hk : k ≤ R.cells) (hn : n ≤ R.slots) (d : decode M.2.1 pc = .ok (.return_, 1)) (hp : P (.inl none) w) : J g M R (MQx g R P) k n w pc l [] :=
  fun p ln e s m args below meth c C H locs ls hw hS hl => W.widen hk hn (vx_ret (W.vret C.1 C.2.1 (C.2.2.2.1.trans hr) (fun t ht hW => ⟨_, w, rfl, hp, by rw [ht]; exact hw, hS.F ht⟩) hS.2.2 d C.2.2.2.2.2.2.1))
theorem J.vretI (hr : M.2.2.2.1 = none) (hk : k ≤ R.cells) (hn : n ≤ R.slots) (d : decode M.2.1 pc = .ok (.return_, 1)) (hp : P (.inl none) w) : J g M R (MQi g R P) k n w pc l [] :=
  fun p ln e s m args below meth c C H locs ls hw hS hl => W.widen hk hn (W.vret C.1 C.2.1 (C.2.2.2.1.trans hr) (fun t ht hW => ⟨_, w, rfl, hp, by rw [ht]; exact hw, hS.F ht⟩) hS.2.2 d C.2.2.2.2.2.2.1)
theorem J.throwS {E tx : String} {ik is ic : Nat} {names : List String} {st : List Value} (hcls : Bundle.fit E = true) (hnames : ∀ z ∈ names, Bundle.fit z = true)
    (f1 : Cond.classLink M.1 ik E ∈ BIG) (f2 : Cond.initialized E ∈ BIG) (hown : M.1 = RX7) (hs : (is, tx) ∈ strs) (hat : ∀ (p : Program) (ln : Launch) (s : State) (m : MethodId) (args : Array Value) (meth : Method) (c : Code), Cx g M p ln s m args meth c → ∀ w ∈ vx_atS M.1 ic E names, w.before args s = true)
    (hgood : ∀ w ∈ Cond.classLink M.1 ik E :: Cond.initialized E :: vx_atS M.1 ic E names, vx_ot w = true)
    (d0 : decode M.2.1 pc = .ok (.new ik, 3)) (d3 : decode M.2.1 (pc + 3) = .ok (.dup, 1)) (d4 : decode M.2.1 (pc + 4) = .ok (.ldc is, 2)) (d6 : decode M.2.1 (pc + 6) = .ok (.invokespecial ic, 3)) (d9 : decode M.2.1 (pc + 9) = .ok (.athrow, 1))
    (hi9 : M.2.2.2.2.2 = false) (htab : M.2.2.2.2.1 = []) (hRf : names.length + 3 < R.frames) (hRl : (st.map fun v => v.category).sum + (13 * (names.length + 1) + 43) ≤ R.locals) (hk : k + 1 ≤ R.cells) (hn : n + 6 ≤ R.slots) (hp : P (.inr E) w) : J g M R (MQx g R P) k n w pc l st := by
  intro p ln e s m args below meth c C9 H locs ls hw hS hl
  have hat9 := hat p ln s m args meth c C9
  obtain ⟨hx, hb, hml, hr, hown9, hts, hlk, hst, htb, hini, hamb⟩ := C9
  obtain ⟨a, ha⟩ := hamb.2.2.2.1 _ hs
  have htb := htb hi9
  rw [htab] at htb
  rw [← hown] at ha
  exact vx_throwS hx hb hst (names := names) hown9 hcls hnames (hts _ f1) (hts _ f2) ha hat9 hgood hamb.2.1 hamb.2.2.1 hS (hl.1.trans hml.symm) d0 d3 d4 d6 d9 (fun x hx => by rw [htb] at hx; cases hx) hRf hRl hk hn hlk
    (fun t hv hz hk => ⟨w, hp, ⟨hw.1.kept (fun i q hq => hk q.1 (hw.1 i q hq).lt), hw.2⟩, ⟨Nat.le_trans hS.1 hz, fun q h1 h2 => (hk q (Nat.lt_of_lt_of_le h1 hS.1)).trans (hS.2.1 q h1 h2)⟩⟩) hS.2.2 hk hn
theorem J.throwSW {E tx : String} {ik is ic : Nat} {names : List String} {st : List Value} (hcls : Bundle.fit E = true) (hnames : ∀ z ∈ names, Bundle.fit z = true)
    (f1 : Cond.classLink M.1 ik E ∈ BIG) (f2 : Cond.initialized E ∈ BIG) (hown : M.1 = RX7) (hs : (is, tx) ∈ strs) (hat : ∀ (p : Program) (ln : Launch) (s : State) (m : MethodId) (args : Array Value) (meth : Method) (c : Code), Cx g M p ln s m args meth c → ∀ w ∈ vx_atS M.1 ic E names, w.before args s = true)
    (hgood : ∀ w ∈ Cond.classLink M.1 ik E :: Cond.initialized E :: vx_atS M.1 ic E names, vx_ot w = true)
    (d0 : decode M.2.1 pc = .ok (.new ik, 3)) (d3 : decode M.2.1 (pc + 3) = .ok (.dup, 1)) (d4 : decode M.2.1 (pc + 4) = .ok (.ldc_w is, 3)) (d6 : decode M.2.1 (pc + 7) = .ok (.invokespecial ic, 3)) (d9 : decode M.2.1 (pc + 10) = .ok (.athrow, 1))
    (hi9 : M.2.2.2.2.2 = false) (htab : M.2.2.2.2.1 = []) (hRf : names.length + 3 < R.frames) (hRl : (st.map fun v => v.category).sum + (13 * (names.length + 1) + 43) ≤ R.locals) (hk : k + 1 ≤ R.cells) (hn : n + 6 ≤ R.slots) (hp : P (.inr E) w) : J g M R (MQx g R P) k n w pc l st := by
  intro p ln e s m args below meth c C9 H locs ls hw hS hl
  have hat9 := hat p ln s m args meth c C9
  obtain ⟨hx, hb, hml, hr, hown9, hts, hlk, hst, htb, hini, hamb⟩ := C9
  obtain ⟨a, ha⟩ := hamb.2.2.2.1 _ hs
  have htb := htb hi9
  rw [htab] at htb
  rw [← hown] at ha
  exact vx_throwSW hx hb hst (names := names) hown9 hcls hnames (hts _ f1) (hts _ f2) ha hat9 hgood hamb.2.1 hamb.2.2.1 hS (hl.1.trans hml.symm) d0 d3 d4 d6 d9 (fun x hx => by rw [htb] at hx; cases hx) hRf hRl hk hn hlk
    (fun t hv hz hk => ⟨w, hp, ⟨hw.1.kept (fun i q hq => hk q.1 (hw.1 i q hq).lt), hw.2⟩, ⟨Nat.le_trans hS.1 hz, fun q h1 h2 => (hk q (Nat.lt_of_lt_of_le h1 hS.1)).trans (hS.2.1 q h1 h2)⟩⟩) hS.2.2 hk hn
end RE
end
section
/-! ===== the system's cells by number: 0 the class's object, 1 its state, 20 its past, 174 its snapshot, 193 its reader, 231 its line, 233 made, 235 spare, 237 the reference, 247 the law's row; a memory gives the ints in them ===== -/
abbrev Mem : Type := Nat → Nat → Int32
def NC : Nat := 248
def ktl : List Nat := [13, 5, 2, 1032, 1032, 1032, 3, 1120, 4, 30005, 1, 1032, 1, 1032, 1, 1032, 1, 1032, 1, 1032, 6, 7, 5, 2, 1032, 1032, 1032, 3, 1120, 4, 30005, 1, 1032, 1, 1032, 1, 1032, 1, 1032, 1, 1032, 5, 2, 1032, 1032, 1032, 3, 1120, 4, 30005, 1, 1032, 1, 1032, 1, 1032, 1, 1032, 1, 1032, 5, 2, 1032, 1032, 1032, 3, 1120, 4, 30005, 1, 1032, 1, 1032, 1, 1032, 1, 1032, 1, 1032, 5, 2, 1032, 1032, 1032, 3, 1120, 4, 30005, 1, 1032, 1, 1032, 1, 1032, 1, 1032, 1, 1032, 5, 2, 1032, 1032, 1032, 3, 1120, 4, 30005, 1, 1032, 1, 1032, 1, 1032, 1, 1032, 1, 1032, 5, 2, 1032, 1032, 1032, 3, 1120, 4, 30005, 1, 1032, 1, 1032, 1, 1032, 1, 1032, 1, 1032, 5, 2, 1032, 1032, 1032, 3, 1120, 4, 30005, 1, 1032, 1, 1032, 1, 1032, 1, 1032, 1, 1032, 5, 2, 1032, 1032, 1032, 3, 1120, 4, 30005, 1, 1032, 1, 1032, 1, 1032, 1, 1032, 1, 1032, 5, 2, 1032, 1032, 1032, 3, 1120, 4, 30005, 1, 1032, 1, 1032, 1, 1032, 1, 1032, 1, 1032, 8, 9, 20120, 10, 11, 12, 1, 1032, 1, 1032, 1, 1032, 1, 1032, 1, 1032, 1, 1032, 1, 1032, 1, 1032, 1, 1032, 1, 1032, 1, 1032, 1, 1032, 1, 1032, 1, 1032, 1, 1032, 1, 1032, 9, 20120, 1, 1032, 1, 1032, 14, 1352, 1352, 1352, 3816, 7400, 1200, 1032, 20060, 20200, 40001]
def kt (o : Nat) : Nat := ktl.getD o 0
theorem rg_lt {o N : Nat} (L : List Nat) (hN : L.length = N) (h : L.getD o 0 ≠ 0) : o < N := by
  refine Nat.not_le.mp fun q => h ?_
  rw [List.getD_eq_getElem?_getD, List.getElem?_eq_none (by rw [hN]; exact q)]
  rfl
theorem kt_lt {o : Nat} (h : kt o ≠ 0) : o < NC := rg_lt ktl rfl h
theorem rg_get {α : Type} {N o : Nat} (f : Nat → α) (h : o < N) : ((List.range N).map f)[o]? = some (f o) := by
  rw [List.getElem?_map, List.getElem?_range h, Option.map_some]
theorem rg_set {α : Type} {N o : Nat} {f f' : Nat → α} {e : α} (he : f' o = e) (hf : ∀ i, i ≠ o → f' i = f i) : ((List.range N).map f).set o e = (List.range N).map f' := by
  apply List.ext_getElem?
  intro i
  rw [List.getElem?_set, List.length_map, List.length_range]
  by_cases hi : o = i
  · subst hi
    rw [if_pos rfl]
    by_cases hl : o < N
    · rw [if_pos hl, rg_get f' hl, he]
    · rw [if_neg hl, List.getElem?_eq_none (by rw [List.length_map, List.length_range]; omega)]
  · rw [if_neg hi]
    by_cases hl : i < N
    · rw [rg_get f hl, rg_get f' hl, hf i (Ne.symm hi)]
    · rw [List.getElem?_eq_none (by rw [List.length_map, List.length_range]; omega), List.getElem?_eq_none (by rw [List.length_map, List.length_range]; omega)]
/-- what the cell o of kind c is, with the ints m in it -/
def kdo (g : GP) (adr : Nat → Nat) (o : Nat) (m : Nat → Int32) (c : Nat) : va_E :=
  match c with
  | 1 => .inr (3, [.ref (adr (o + 1))])
  | 2 => .inr (0, [.ref (adr (o + 1)), .ref (adr (o + 2)), .ref (adr (o + 3))])
  | 3 => .inr (1, [.ref (adr (o + 1)), .int (m 1)])
  | 4 => .inl (g.2.2 4, 5, .inr (.inr (.inr (.inr (fun j => some (adr (o + 2 + 2 * j)))))))
  | 5 => .inr (6, [.ref (adr (o + 1)), .ref (adr (o + 5)), .int (m 2), .int (m 3), .ref (adr (o + 7)), .ref (adr (o + 8))])
  | 6 => .inr (2, [.ref (adr (o + 1)), .int (m 1)])
  | 7 => .inl (g.2.2 5, 8, .inr (.inr (.inr (.inr (fun j => some (adr (22 + 19 * (m j).toNatClampNeg)))))))
  | 8 => .inr (4, [.ref (adr (o + 1)), .int (m 1), .ref (adr (o + 3)), .ref (adr (o + 4)), .ref (adr (o + 5)), .ref (adr (o + 6))])
  | 9 => .inr (5, [.ref (adr (o + 1)), .int (m 1)])
  | 10 => .inl (g.2.2 4, 5, .inr (.inr (.inr (.inr (fun j => some (adr (o + 5 + 6 * j)))))))
  | 11 => .inl (g.2.2 4, 5, .inr (.inr (.inr (.inr (fun j => some (adr (o + 6 + 6 * j)))))))
  | 12 => .inl (g.2.2 4, 5, .inr (.inr (.inr (.inr (fun j => some (adr (o + 7 + 6 * j)))))))
  | 13 => .inr (7, [.ref (adr (o + 1)), .ref (adr (o + 20)), .ref (adr (o + 174)), .int (m 3), .ref (adr (o + 193)), .ref (adr (o + 231)), .ref (adr (o + 233)), .ref (adr (o + 235)), .int (m 8), .int (m 9), .int (m 10)])
  | 14 => .inr (8, [.ref (adr (o + 1)), .ref (adr (o + 2)), .ref (adr (o + 3)), .int (m 3), .ref (adr (o + 4)), .int (m 5), .int (m 6), .int (m 7), .int (m 8), .ref (adr (o + 5)), .ref (adr (o + 6)), .int (m 11), .ref (adr (o + 7)), .ref (adr (o + 8)), .int (m 14), .int (m 15), .int (m 16), .int (m 17), .ref (adr (o + 9)), .int (m 19)])
  | _ => .inr (0, [])
def kdc (g : GP) (adr : Nat → Nat) (o : Nat) (m : Nat → Int32) (c : Nat) : va_E :=
  if c < 1000 then kdo g adr o m c else if c < 20000 then .inl (g.2.2 0, c - 1000, .inl m) else if c < 30000 then .inl (g.2.2 2, c - 20000, .inl m) else if c < 40000 then .inl (g.2.2 1, c - 30000, .inl m) else .inl (g.2.2 3, c - 40000, .inr (.inl (fun j => (m j).toInt64)))
theorem kdc_i (g : GP) (adr : Nat → Nat) (o : Nat) (m : Nat → Int32) {N : Nat} (h : N < 19000) : kdc g adr o m (1000 + N) = .inl (g.2.2 0, N, .inl m) := by
  unfold kdc
  rw [if_neg (by omega), if_pos (by omega), show 1000 + N - 1000 = N by omega]
theorem kdc_c (g : GP) (adr : Nat → Nat) (o : Nat) (m : Nat → Int32) {N : Nat} (h : N < 10000) : kdc g adr o m (20000 + N) = .inl (g.2.2 2, N, .inl m) := by
  unfold kdc
  rw [if_neg (by omega), if_neg (by omega), if_pos (by omega), show 20000 + N - 20000 = N by omega]
theorem kdc_z (g : GP) (adr : Nat → Nat) (o : Nat) (m : Nat → Int32) {N : Nat} (h : N < 10000) : kdc g adr o m (30000 + N) = .inl (g.2.2 1, N, .inl m) := by
  unfold kdc
  rw [if_neg (by omega), if_neg (by omega), if_neg (by omega), if_pos (by omega), show 30000 + N - 30000 = N by omega]
theorem kdc_l (g : GP) (adr : Nat → Nat) (o : Nat) (m : Nat → Int32) : kdc g adr o m 40001 = .inl (g.2.2 3, 1, .inr (.inl (fun j => (m j).toInt64))) := by
  unfold kdc
  rw [if_neg (by omega), if_neg (by omega), if_neg (by omega), if_neg (by omega)]
def WM (g : GP) (adr : Nat → Nat) (μ : Mem) : va_W := (List.range NC).map (fun i => (adr i, kdc g adr i (μ i) (kt i)))
def wr (μ : Mem) (o k : Nat) (v : Int32) : Mem := fun o' k' => if o' = o ∧ k' = k then v else μ o' k'
/-- n ints of the row a from sp on, copied to the row b from dp on -/
def cpy (μ : Mem) (a sp b dp n : Nat) : Mem := fun o k => if o = b then va_cpy (μ a) (μ b) sp dp n k else μ o k
theorem wr_s {μ : Mem} {o k : Nat} {v : Int32} : wr μ o k v o k = v := if_pos ⟨rfl, rfl⟩
theorem wr_n {μ : Mem} {o k o' k' : Nat} {v : Int32} (h : o' ≠ o ∨ k' ≠ k) : wr μ o k v o' k' = μ o' k' := if_neg (fun q => h.elim (fun z => z q.1) (fun z => z q.2))
theorem wr_o {μ : Mem} {o k o' : Nat} {v : Int32} (h : o' ≠ o) : wr μ o k v o' = μ o' := funext fun _ => wr_n (Or.inl h)
theorem WM_get {g : GP} {adr : Nat → Nat} {μ : Mem} {o c : Nat} (h : kt o = c) (hc : c ≠ 0) : (WM g adr μ)[o]? = some (adr o, kdc g adr o (μ o) c) := by
  have ho : o < NC := kt_lt (by rw [h]; exact hc)
  subst h
  exact rg_get (fun i => (adr i, kdc g adr i (μ i) (kt i))) ho
theorem WM_set {g : GP} {adr : Nat → Nat} {μ : Mem} {o c : Nat} {m' : Nat → Int32} {e : va_E} (h : kt o = c) (he : kdc g adr o m' c = e) : (WM g adr μ).set o (adr o, e) = WM g adr (fun o' => if o' = o then m' else μ o') := by
  subst h; subst he
  refine rg_set (f := fun i => (adr i, kdc g adr i (μ i) (kt i))) (f' := fun i => (adr i, kdc g adr i ((fun o' => if o' = o then m' else μ o') i) (kt i))) ?_ (fun i hi => ?_)
  · show (adr o, kdc g adr o (if o = o then m' else μ o) (kt o)) = _
    rw [if_pos rfl]
  · show (adr i, kdc g adr i (if i = o then m' else μ i) (kt i)) = _
    rw [if_neg hi]
theorem wr_eq {μ : Mem} {o k : Nat} {v : Int32} : (fun o' => if o' = o then (upd (μ o) k v) else μ o') = wr μ o k v := by
  funext o' k'
  unfold wr upd
  by_cases h : o' = o
  · subst h
    rw [if_pos rfl]
    by_cases h2 : k' = k
    · rw [if_pos h2, if_pos ⟨rfl, h2⟩]
    · rw [if_neg h2, if_neg (fun q => h2 q.2)]
  · rw [if_neg h, if_neg (fun q => h q.1)]
section MM
variable {g : GP} {M : MI} {R : Room} {Q : QT} {k n pc : Nat} {w : va_W} {l : List (Option Value)} {st : List Value} {adr : Nat → Nat} {μ : Mem}
theorem J.getF {C : String} {T : u_T} {N ci idx kf q0 a : Nat} {fs : List Value} {v : Value} (hin : ∀ z ∈ u_ws C T N, z ∈ BIG) (hc : vwCl[ci]? = some (C, T, N)) (hk : kf < N) (f : Cond.fieldLink M.1 idx (T kf).1 (T kf).2.1 (T kf).2.2.1 ∈ BIG)
    (he : w[q0]? = some (a, .inr (ci, fs))) (hv : fs[kf]? = some v) (d : decode M.2.1 pc = .ok (.getfield idx, 3)) (K : J g M R Q k n w (pc + 3) l (v :: st)) : J g M R Q k n w pc l (.ref a :: st) :=
  fun p ln e s m args below meth c C9 H locs ls hw hS hl => va_get (D := g.2.1) C9.1 C9.2.1 (own := M.1) C9.2.2.2.2.2.1 hin C9.2.2.2.2.1 C9.2.2.2.2.2.2.2.2.2.2.1 hw.1 q0 he hc kf hk (C9.2.2.2.2.2.1 _ f) (fun _ h => h) hv d (K p ln e s m args below meth c C9 H locs ls hw hS hl)
theorem J.putF {C : String} {T : u_T} {N ci idx kf q0 a : Nat} {fs : List Value} {v : Value} {ty : FieldType} (hin : ∀ z ∈ u_ws C T N, z ∈ BIG) (ty0 : Nat → FieldType) (hty : ∀ k, k < N → parseFieldDescriptor (T k).2.2.1 = some (ty0 k)) (hnm : ∀ a, a < N → ∀ b, b < N → a ≠ b → (T a).2.1 ≠ (T b).2.1) (hc : vwCl[ci]? = some (C, T, N)) (hk : kf < N) (f : Cond.fieldLink M.1 idx (T kf).1 (T kf).2.1 (T kf).2.2.1 ∈ BIG)
    (he : w[q0]? = some (a, .inr (ci, fs))) (hfin : (T kf).2.2.2 = false) (hd : parseFieldDescriptor (T kf).2.2.1 = some ty) (hn : narrow ty v = v) (hfit : fits ty v = true) (hl9 : kf < fs.length) (d : decode M.2.1 pc = .ok (.putfield idx, 3)) (K : J g M R Q k n (w.set q0 (a, .inr (ci, fs.set kf v))) (pc + 3) l st) : J g M R Q k n w pc l (v :: .ref a :: st) :=
  fun p ln e s m args below meth c C9 H locs ls hw hS hl => va_put (D := g.2.1) C9.1 C9.2.1 (own := M.1) C9.2.2.2.2.2.1 hin ty0 hty hnm C9.2.2.2.2.1 C9.2.2.2.2.2.2.2.2.2.2.1 hw.1 hw.2 hS q0 he hc kf hk (C9.2.2.2.2.2.1 _ f) (fun _ h => h) hfin hd hn hfit hl9 d (fun H1 locs1 hP hD hS1 => K p ln e s m args below meth c C9 H1 locs1 ls ⟨hP, hD⟩ hS1 hl)
/-! arrays of the memory -/
theorem J.iald {o N i : Nat} {x : Int32} (ho : kt o = 1000 + N) (hN : N < 19000) (hN0 : 0 < N) (hi : i < N) (hx : μ o i = x) (d : decode M.2.1 pc = .ok (.iaload, 1)) (K : J g M R Q k n (WM g adr μ) (pc + 1) l (.int x :: st)) : J g M R Q k n (WM g adr μ) pc l (.int (nI i) :: .ref (adr o) :: st) := by
  intro p ln e s m args below meth c C9 H locs ls hw hS hl
  have he : (WM g adr μ)[o]? = some (adr o, .inl (g.2.2 0, N, .inl (μ o))) := by
    rw [WM_get ho (by omega), kdc_i g adr o _ hN]
  refine va_iald (D := g.2.1) C9.1 C9.2.1 C9.2.2.2.2.2.2.2.2.2.2.1 hw.1 o 0 he rfl (vp_in_nI hi (by omega)) d ?_
  rw [nI_clamp (by omega), hx]
  exact K p ln e s m args below meth c C9 H locs ls hw hS hl
theorem J.cald {o N i : Nat} {x : Int32} (ho : kt o = 20000 + N) (hN : N < 10000) (hi : i < N) (hx : μ o i = x) (d : decode M.2.1 pc = .ok (.caload, 1)) (K : J g M R Q k n (WM g adr μ) (pc + 1) l (.int x :: st)) : J g M R Q k n (WM g adr μ) pc l (.int (nI i) :: .ref (adr o) :: st) := by
  intro p ln e s m args below meth c C9 H locs ls hw hS hl
  have he : (WM g adr μ)[o]? = some (adr o, .inl (g.2.2 2, N, .inl (μ o))) := by
    rw [WM_get ho (by omega), kdc_c g adr o _ hN]
  refine va_cald (D := g.2.1) C9.1 C9.2.1 C9.2.2.2.2.2.2.2.2.2.2.1 hw.1 o 2 he rfl (vp_in_nI hi (by omega)) d ?_
  rw [nI_clamp (by omega), hx]
  exact K p ln e s m args below meth c C9 H locs ls hw hS hl
theorem J.zald {o N i : Nat} {x : Int32} (ho : kt o = 30000 + N) (hN : N < 10000) (hi : i < N) (hx : μ o i = x) (d : decode M.2.1 pc = .ok (.baload, 1)) (K : J g M R Q k n (WM g adr μ) (pc + 1) l (.int x :: st)) : J g M R Q k n (WM g adr μ) pc l (.int (nI i) :: .ref (adr o) :: st) := by
  intro p ln e s m args below meth c C9 H locs ls hw hS hl
  have he : (WM g adr μ)[o]? = some (adr o, .inl (g.2.2 1, N, .inl (μ o))) := by
    rw [WM_get ho (by omega), kdc_z g adr o _ hN]
  refine va_zald (D := g.2.1) C9.1 C9.2.1 C9.2.2.2.2.2.2.2.2.2.2.1 hw.1 o 1 he rfl (vp_in_nI hi (by omega)) d ?_
  rw [nI_clamp (by omega), hx]
  exact K p ln e s m args below meth c C9 H locs ls hw hS hl
theorem J.lald {o i : Nat} {x : Int32} (ho : kt o = 40001) (hi : i < 1) (hx : μ o i = x) (d : decode M.2.1 pc = .ok (.laload, 1)) (K : J g M R Q k n (WM g adr μ) (pc + 1) l (.long x.toInt64 :: st)) : J g M R Q k n (WM g adr μ) pc l (.int (nI i) :: .ref (adr o) :: st) := by
  intro p ln e s m args below meth c C9 H locs ls hw hS hl
  have he : (WM g adr μ)[o]? = some (adr o, .inl (g.2.2 3, 1, .inr (.inl (fun j => (μ o j).toInt64)))) := by
    rw [WM_get ho (by omega), kdc_l g adr o]
  refine va_lald (D := g.2.1) C9.1 C9.2.1 C9.2.2.2.2.2.2.2.2.2.2.1 hw.1 o 3 he rfl (vp_in_nI hi (by omega)) d ?_
  rw [nI_clamp (by omega), hx]
  exact K p ln e s m args below meth c C9 H locs ls hw hS hl
theorem J.iast {o N i : Nat} {x : Int32} (ho : kt o = 1000 + N) (hN : N < 19000) (hN0 : 0 < N) (hi : i < N) (d : decode M.2.1 pc = .ok (.iastore, 1)) (K : J g M R Q k n (WM g adr (wr μ o i x)) (pc + 1) l st) : J g M R Q k n (WM g adr μ) pc l (.int x :: .int (nI i) :: .ref (adr o) :: st) := by
  intro p ln e s m args below meth c C9 H locs ls hw hS hl
  have hd : ∀ m, kdc g adr o m (1000 + N) = .inl (g.2.2 0, N, .inl m) := fun m => kdc_i g adr o m hN
  have he : (WM g adr μ)[o]? = some (adr o, .inl (g.2.2 0, N, .inl (μ o))) := by rw [WM_get ho (by omega), hd]
  refine va_iast (D := g.2.1) C9.1 C9.2.1 C9.2.2.2.2.2.2.2.2.2.2.1 hw.1 hw.2 hS o 0 he rfl (vp_in_nI hi (by omega)) d (fun H1 locs1 hP hD hS1 => ?_)
  rw [nI_clamp (by omega), WM_set ho (hd _), wr_eq] at hP hD
  exact K p ln e s m args below meth c C9 H1 locs1 ls ⟨hP, hD⟩ hS1 hl
theorem J.cast {o N i : Nat} {x : Int32} (ho : kt o = 20000 + N) (hN : N < 10000) (hi : i < N) (hx : vp_nar .char x = x) (d : decode M.2.1 pc = .ok (.castore, 1)) (K : J g M R Q k n (WM g adr (wr μ o i x)) (pc + 1) l st) : J g M R Q k n (WM g adr μ) pc l (.int x :: .int (nI i) :: .ref (adr o) :: st) := by
  intro p ln e s m args below meth c C9 H locs ls hw hS hl
  have hd : ∀ m, kdc g adr o m (20000 + N) = .inl (g.2.2 2, N, .inl m) := fun m => kdc_c g adr o m hN
  have he : (WM g adr μ)[o]? = some (adr o, .inl (g.2.2 2, N, .inl (μ o))) := by rw [WM_get ho (by omega), hd]
  refine va_cast (D := g.2.1) C9.1 C9.2.1 C9.2.2.2.2.2.2.2.2.2.2.1 hw.1 hw.2 hS o 2 he rfl (vp_in_nI hi (by omega)) d (fun H1 locs1 hP hD hS1 => ?_)
  rw [nI_clamp (by omega), hx, WM_set ho (hd _), wr_eq] at hP hD
  exact K p ln e s m args below meth c C9 H1 locs1 ls ⟨hP, hD⟩ hS1 hl
theorem J.zast {o N i : Nat} {x : Int32} (ho : kt o = 30000 + N) (hN : N < 10000) (hi : i < N) (hx : vp_nar .boolean x = x) (d : decode M.2.1 pc = .ok (.bastore, 1)) (K : J g M R Q k n (WM g adr (wr μ o i x)) (pc + 1) l st) : J g M R Q k n (WM g adr μ) pc l (.int x :: .int (nI i) :: .ref (adr o) :: st) := by
  intro p ln e s m args below meth c C9 H locs ls hw hS hl
  have hd : ∀ m, kdc g adr o m (30000 + N) = .inl (g.2.2 1, N, .inl m) := fun m => kdc_z g adr o m hN
  have he : (WM g adr μ)[o]? = some (adr o, .inl (g.2.2 1, N, .inl (μ o))) := by rw [WM_get ho (by omega), hd]
  refine va_zast (D := g.2.1) C9.1 C9.2.1 C9.2.2.2.2.2.2.2.2.2.2.1 hw.1 hw.2 hS o 1 he rfl (vp_in_nI hi (by omega)) d (fun H1 locs1 hP hD hS1 => ?_)
  rw [nI_clamp (by omega), hx, WM_set ho (hd _), wr_eq] at hP hD
  exact K p ln e s m args below meth c C9 H1 locs1 ls ⟨hP, hD⟩ hS1 hl
theorem J.last {o i : Nat} {x : Int32} {y : Int64} (ho : kt o = 40001) (hi : i < 1) (hx : x.toInt64 = y) (d : decode M.2.1 pc = .ok (.lastore, 1)) (K : J g M R Q k n (WM g adr (wr μ o i x)) (pc + 1) l st) : J g M R Q k n (WM g adr μ) pc l (.long y :: .int (nI i) :: .ref (adr o) :: st) := by
  intro p ln e s m args below meth c C9 H locs ls hw hS hl
  have he : (WM g adr μ)[o]? = some (adr o, .inl (g.2.2 3, 1, .inr (.inl (fun j => (μ o j).toInt64)))) := by
    rw [WM_get ho (by omega), kdc_l g adr o]
  subst hx
  refine va_last (D := g.2.1) C9.1 C9.2.1 C9.2.2.2.2.2.2.2.2.2.2.1 hw.1 hw.2 hS o 3 he rfl (vp_in_nI hi (by omega)) d (fun H1 locs1 hP hD hS1 => ?_)
  have e9 : vp_updL (fun j => (μ o j).toInt64) i x.toInt64 = fun j => (upd (μ o) i x j).toInt64 := by
    funext j
    unfold vp_updL upd
    by_cases h : j = i
    · rw [if_pos h, if_pos h]
    · rw [if_neg h, if_neg h]
  rw [nI_clamp (by omega), e9, WM_set (m' := upd (μ o) i x) ho (kdc_l g adr o _), wr_eq] at hP hD
  exact K p ln e s m args below meth c C9 H1 locs1 ls ⟨hP, hD⟩ hS1 hl
/-- the fixed rows of permutations -/
theorem J.aaldP {o i a : Nat} (d : decode M.2.1 pc = .ok (.aaload, 1)) (hi : i < 5) (ho : (kt o = 4 ∧ a = o + 2 + 2 * i) ∨ (kt o = 10 ∧ a = o + 5 + 6 * i) ∨ (kt o = 11 ∧ a = o + 6 + 6 * i) ∨ (kt o = 12 ∧ a = o + 7 + 6 * i)) (K : J g M R Q k n (WM g adr μ) (pc + 1) l (.ref (adr a) :: st)) : J g M R Q k n (WM g adr μ) pc l (.int (nI i) :: .ref (adr o) :: st) := by
  intro p ln e s m args below meth c C9 H locs ls hw hS hl
  rcases ho with ⟨h, rfl⟩ | ⟨h, rfl⟩ | ⟨h, rfl⟩ | ⟨h, rfl⟩ <;>
  · have he := WM_get (g := g) (adr := adr) (μ := μ) h (by omega)
    refine va_aldq (D := g.2.1) C9.1 C9.2.1 C9.2.2.2.2.2.2.2.2.2.2.1 hw.1 o 4 he rfl (vp_in_nI hi (by omega)) d ?_
    rw [nI_clamp (by omega)]
    exact K p ln e s m args below meth c C9 H locs ls hw hS hl
/-- the past's states -/
theorem J.aaldS {o i q : Nat} (d : decode M.2.1 pc = .ok (.aaload, 1)) (hi : i < 8) (ho : kt o = 7) (hq : μ o i = nI q) (hq2 : q < 8) (K : J g M R Q k n (WM g adr μ) (pc + 1) l (.ref (adr (22 + 19 * q)) :: st)) : J g M R Q k n (WM g adr μ) pc l (.int (nI i) :: .ref (adr o) :: st) := by
  intro p ln e s m args below meth c C9 H locs ls hw hS hl
  have he := WM_get (g := g) (adr := adr) (μ := μ) ho (by omega)
  refine va_aldq (D := g.2.1) C9.1 C9.2.1 C9.2.2.2.2.2.2.2.2.2.2.1 hw.1 o 5 he rfl (vp_in_nI hi (by omega)) d ?_
  rw [nI_clamp (by omega), hq, nI_clamp (by omega)]
  exact K p ln e s m args below meth c C9 H locs ls hw hS hl
theorem kt_S {q : Nat} (h : q < 8) : kt (22 + 19 * q) = 5 := by
  match q, h with
  | 0, _ => rfl
  | 1, _ => rfl
  | 2, _ => rfl
  | 3, _ => rfl
  | 4, _ => rfl
  | 5, _ => rfl
  | 6, _ => rfl
  | 7, _ => rfl
theorem J.aastS {o i q : Nat} (d : decode M.2.1 pc = .ok (.aastore, 1)) (hi : i < 8) (ho : kt o = 7) (hq2 : q < 8) (K : J g M R Q k n (WM g adr (wr μ o i (nI q))) (pc + 1) l st) : J g M R Q k n (WM g adr μ) pc l (.ref (adr (22 + 19 * q)) :: .int (nI i) :: .ref (adr o) :: st) := by
  intro p ln e s m args below meth c C9 H locs ls hw hS hl
  have he := WM_get (g := g) (adr := adr) (μ := μ) ho (by omega)
  have hv := WM_get (g := g) (adr := adr) (μ := μ) (kt_S hq2) (by omega)
  refine va_astq (D := g.2.1) C9.1 C9.2.1 C9.2.2.2.2.2.2.2.2.2.2.1 hw.1 hw.2 hS o 5 (22 + 19 * q) 6 (r := (RX6, TX6, 6)) he rfl hv rfl (vp_in_nI hi (by omega)) d (fun H1 locs1 hP hD hS1 => ?_)
  have e9 : kdc g adr o (upd (μ o) i (nI q)) 7 = .inl (g.2.2 5, 8, .inr (.inr (.inr (.inr (va_up (fun j => some (adr (22 + 19 * (μ o j).toNatClampNeg))) i (some (adr (22 + 19 * q)))))))) := by
    show Sum.inl (g.2.2 5, 8, Sum.inr (Sum.inr (Sum.inr (Sum.inr (fun j => some (adr (22 + 19 * (upd (μ o) i (nI q) j).toNatClampNeg)))))) ) = _
    congr 7
    funext j
    unfold va_up upd
    by_cases h : j = i
    · rw [if_pos h, if_pos h, nI_clamp (by omega)]
    · rw [if_neg h, if_neg h]
  rw [nI_clamp (by omega), WM_set ho e9, wr_eq] at hP hD
  exact K p ln e s m args below meth c C9 H1 locs1 ls ⟨hP, hD⟩ hS1 hl
theorem J.copy {idx o1 o2 N1 N2 sp dp z : Nat} (f : Cond.methodLink M.1 idx arraycopyName ∈ BIG) (f2 : Cond.native arraycopyName ∈ BIG) (f3 : Cond.static arraycopyName ∈ BIG) (f4 : Cond.initialized "java/lang/System" ∈ BIG)
    (h1 : kt o1 = 1000 + N1) (h2 : kt o2 = 1000 + N2) (h3 : sp + z ≤ N1) (h4 : dp + z ≤ N2) (h5 : N1 < 19000) (h6 : N2 < 19000) (h7 : 0 < N1) (h8 : 0 < N2) (hf : 1 ≤ R.frames) (hR : (st.map fun v => v.category).sum + (nativeFrameWords "java/lang/System" "arraycopy" 5 + 11) ≤ R.locals)
    (d : decode M.2.1 pc = .ok (.invokestatic idx, 3)) (K : J g M R Q k n (WM g adr (cpy μ o1 sp o2 dp z)) (pc + 3) l st) : J g M R Q k n (WM g adr μ) pc l (.int (nI z) :: .int (nI dp) :: .ref (adr o2) :: .int (nI sp) :: .ref (adr o1) :: st) := by
  intro p ln e s m args below meth c C9 H locs ls hw hS hl
  have hd : ∀ (o N : Nat) m, N < 19000 → 0 < N → kdc g adr o m (1000 + N) = .inl (g.2.2 0, N, .inl m) := by
    intro o N m q1 _
    exact kdc_i g adr o m q1
  have he1 : (WM g adr μ)[o1]? = some (adr o1, .inl (g.2.2 0, N1, .inl (μ o1))) := by rw [WM_get h1 (by omega), hd o1 N1 _ h5 h7]
  have he2 : (WM g adr μ)[o2]? = some (adr o2, .inl (g.2.2 0, N2, .inl (μ o2))) := by rw [WM_get h2 (by omega), hd o2 N2 _ h6 h8]
  have c1 : (nI sp).toNatClampNeg = sp := nI_clamp (by omega)
  have c2 : (nI dp).toNatClampNeg = dp := nI_clamp (by omega)
  have c3 : (nI z).toNatClampNeg = z := nI_clamp (by omega)
  refine va_copyi (D := g.2.1) C9.1 C9.2.1 (C9.2.2.1.trans hl.1.symm) (own := M.1) (index := idx) C9.2.2.2.2.1 (C9.2.2.2.2.2.1 _ f) (C9.2.2.2.2.2.1 _ f2) (C9.2.2.2.2.2.1 _ f3) (C9.2.2.2.2.2.1 _ f4) C9.2.2.2.2.2.2.2.2.2.2.1 hw.1 hw.2 hS o1 o2 0 0 (ty := .int) he1 he2 rfl rfl rfl
    (nI_pos (by omega)) (nI_pos (by omega)) (nI_pos (by omega)) (by rw [c1, c3]; exact h3) (by rw [c2, c3]; exact h4) (fun i _ => rfl) hf hR d (fun H1 locs1 hP hD hS1 => ?_)
  have e9 : (fun o' => if o' = o2 then va_cpy (μ o1) (μ o2) sp dp z else μ o') = cpy μ o1 sp o2 dp z := by
    funext o' k'
    unfold cpy
    by_cases h : o' = o2
    · rw [if_pos h, if_pos h]
    · rw [if_neg h, if_neg h]
  rw [c1, c2, c3, WM_set h2 (hd o2 N2 _ h6 h8), e9] at hP hD
  exact K p ln e s m args below meth c C9 H1 locs1 ls ⟨hP, hD⟩ hS1 hl
end MM
end
