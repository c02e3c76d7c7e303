section
-- ===== PART A: goes FIRST, ahead of the names: the tables' words, and 'selects' of the private methods out of them =====
/-- a private method of a class that the tables say can be made, by its rows of tables_1 -/
def lw_okq (q : MethodName × Nat) : Prop := (q.1.cls ≠ "java/lang/invoke/MethodHandle" ∧ q.1.cls ≠ "java/lang/invoke/VarHandle") ∧ Cond.instantiable q.1.cls q.2 ∈ tables_1 ∧ Cond.privateMethod q.1 ∈ tables_1 ∧ Cond.instanceMethod q.1 ∈ tables_1
theorem lw_p0 : lw_okq (⟨"TwistyBarrels", "isUndoneByInverse", "(LTwistyBarrels$Permutation;)Z"⟩, 11) := ⟨⟨by decide +kernel, by decide +kernel⟩, List.mem_of_getElem? (i := 21) (by decide +kernel), List.mem_of_getElem? (i := 266) (by decide +kernel), List.mem_of_getElem? (i := 267) (by decide +kernel)⟩
theorem lw_p1 : lw_okq (⟨"java/lang/Throwable", "fillInStackTrace", "(I)Ljava/lang/Throwable;"⟩, 6) := ⟨⟨by decide +kernel, by decide +kernel⟩, List.mem_of_getElem? (i := 384) (by decide +kernel), List.mem_of_getElem? (i := 382) (by decide +kernel), List.mem_of_getElem? (i := 383) (by decide +kernel)⟩
theorem lw_p2 : lw_okq (⟨"TwistyBarrels", "doLoggedMove", "(III)V"⟩, 11) := ⟨⟨by decide +kernel, by decide +kernel⟩, List.mem_of_getElem? (i := 21) (by decide +kernel), List.mem_of_getElem? (i := 438) (by decide +kernel), List.mem_of_getElem? (i := 439) (by decide +kernel)⟩
theorem lw_p3 : lw_okq (⟨"TwistyBarrels", "doMove", "(III)V"⟩, 11) := ⟨⟨by decide +kernel, by decide +kernel⟩, List.mem_of_getElem? (i := 21) (by decide +kernel), List.mem_of_getElem? (i := 442) (by decide +kernel), List.mem_of_getElem? (i := 443) (by decide +kernel)⟩
theorem lw_p4 : lw_okq (⟨"TwistyBarrels$Permutation", "toTurn", "(II)V"⟩, 1) := ⟨⟨by decide +kernel, by decide +kernel⟩, List.mem_of_getElem? (i := 66) (by decide +kernel), List.mem_of_getElem? (i := 450) (by decide +kernel), List.mem_of_getElem? (i := 451) (by decide +kernel)⟩
theorem lw_p5 : lw_okq (⟨"TwistyBarrels$Permutation", "toShift", "(II)V"⟩, 1) := ⟨⟨by decide +kernel, by decide +kernel⟩, List.mem_of_getElem? (i := 66) (by decide +kernel), List.mem_of_getElem? (i := 454) (by decide +kernel), List.mem_of_getElem? (i := 455) (by decide +kernel)⟩
theorem lw_p6 : lw_okq (⟨"TwistyBarrels", "refuse", "(II)V"⟩, 11) := ⟨⟨by decide +kernel, by decide +kernel⟩, List.mem_of_getElem? (i := 21) (by decide +kernel), List.mem_of_getElem? (i := 486) (by decide +kernel), List.mem_of_getElem? (i := 487) (by decide +kernel)⟩
theorem lw_p7 : lw_okq (⟨"TwistyBarrels", "takeSequence", "()I"⟩, 11) := ⟨⟨by decide +kernel, by decide +kernel⟩, List.mem_of_getElem? (i := 21) (by decide +kernel), List.mem_of_getElem? (i := 597) (by decide +kernel), List.mem_of_getElem? (i := 598) (by decide +kernel)⟩
theorem lw_p8 : lw_okq (⟨"TwistyBarrels$SequenceReader", "sequence", "(ILTwistyBarrels$State;)I"⟩, 6) := ⟨⟨by decide +kernel, by decide +kernel⟩, List.mem_of_getElem? (i := 116) (by decide +kernel), List.mem_of_getElem? (i := 605) (by decide +kernel), List.mem_of_getElem? (i := 606) (by decide +kernel)⟩
theorem lw_p9 : lw_okq (⟨"TwistyBarrels$SequenceReader", "isItemNext", "()Z"⟩, 6) := ⟨⟨by decide +kernel, by decide +kernel⟩, List.mem_of_getElem? (i := 116) (by decide +kernel), List.mem_of_getElem? (i := 614) (by decide +kernel), List.mem_of_getElem? (i := 615) (by decide +kernel)⟩
theorem lw_p10 : lw_okq (⟨"TwistyBarrels$SequenceReader", "item", "(ILTwistyBarrels$State;)I"⟩, 6) := ⟨⟨by decide +kernel, by decide +kernel⟩, List.mem_of_getElem? (i := 116) (by decide +kernel), List.mem_of_getElem? (i := 622) (by decide +kernel), List.mem_of_getElem? (i := 623) (by decide +kernel)⟩
theorem lw_p11 : lw_okq (⟨"TwistyBarrels$SequenceReader", "moveItem", "(ILTwistyBarrels$Permutation;)I"⟩, 6) := ⟨⟨by decide +kernel, by decide +kernel⟩, List.mem_of_getElem? (i := 116) (by decide +kernel), List.mem_of_getElem? (i := 626) (by decide +kernel), List.mem_of_getElem? (i := 627) (by decide +kernel)⟩
theorem lw_p12 : lw_okq (⟨"TwistyBarrels$SequenceReader", "digit", "(II)I"⟩, 6) := ⟨⟨by decide +kernel, by decide +kernel⟩, List.mem_of_getElem? (i := 116) (by decide +kernel), List.mem_of_getElem? (i := 630) (by decide +kernel), List.mem_of_getElem? (i := 631) (by decide +kernel)⟩
theorem lw_p13 : lw_okq (⟨"TwistyBarrels$SequenceReader", "shelfItem", "(LTwistyBarrels$State;LTwistyBarrels$Permutation;)I"⟩, 6) := ⟨⟨by decide +kernel, by decide +kernel⟩, List.mem_of_getElem? (i := 116) (by decide +kernel), List.mem_of_getElem? (i := 636) (by decide +kernel), List.mem_of_getElem? (i := 637) (by decide +kernel)⟩
theorem lw_p14 : lw_okq (⟨"TwistyBarrels$SequenceReader", "repeatedItem", "(ILTwistyBarrels$State;LTwistyBarrels$Permutation;)I"⟩, 6) := ⟨⟨by decide +kernel, by decide +kernel⟩, List.mem_of_getElem? (i := 116) (by decide +kernel), List.mem_of_getElem? (i := 643) (by decide +kernel), List.mem_of_getElem? (i := 644) (by decide +kernel)⟩
theorem lw_p15 : lw_okq (⟨"TwistyBarrels$SequenceReader", "commutedItem", "(ILTwistyBarrels$State;LTwistyBarrels$Permutation;)I"⟩, 6) := ⟨⟨by decide +kernel, by decide +kernel⟩, List.mem_of_getElem? (i := 116) (by decide +kernel), List.mem_of_getElem? (i := 653) (by decide +kernel), List.mem_of_getElem? (i := 654) (by decide +kernel)⟩
def lw_privs_1 : List (MethodName × Nat) := [(⟨"TwistyBarrels", "isUndoneByInverse", "(LTwistyBarrels$Permutation;)Z"⟩, 11), (⟨"java/lang/Throwable", "fillInStackTrace", "(I)Ljava/lang/Throwable;"⟩, 6), (⟨"TwistyBarrels", "doLoggedMove", "(III)V"⟩, 11), (⟨"TwistyBarrels", "doMove", "(III)V"⟩, 11), (⟨"TwistyBarrels$Permutation", "toTurn", "(II)V"⟩, 1), (⟨"TwistyBarrels$Permutation", "toShift", "(II)V"⟩, 1), (⟨"TwistyBarrels", "refuse", "(II)V"⟩, 11), (⟨"TwistyBarrels", "takeSequence", "()I"⟩, 11), (⟨"TwistyBarrels$SequenceReader", "sequence", "(ILTwistyBarrels$State;)I"⟩, 6), (⟨"TwistyBarrels$SequenceReader", "isItemNext", "()Z"⟩, 6), (⟨"TwistyBarrels$SequenceReader", "item", "(ILTwistyBarrels$State;)I"⟩, 6), (⟨"TwistyBarrels$SequenceReader", "moveItem", "(ILTwistyBarrels$Permutation;)I"⟩, 6), (⟨"TwistyBarrels$SequenceReader", "digit", "(II)I"⟩, 6), (⟨"TwistyBarrels$SequenceReader", "shelfItem", "(LTwistyBarrels$State;LTwistyBarrels$Permutation;)I"⟩, 6), (⟨"TwistyBarrels$SequenceReader", "repeatedItem", "(ILTwistyBarrels$State;LTwistyBarrels$Permutation;)I"⟩, 6), (⟨"TwistyBarrels$SequenceReader", "commutedItem", "(ILTwistyBarrels$State;LTwistyBarrels$Permutation;)I"⟩, 6)]
theorem lw_r1 : ∀ q ∈ lw_privs_1, lw_okq q := List.forall_mem_cons.mpr ⟨lw_p0, List.forall_mem_cons.mpr ⟨lw_p1, List.forall_mem_cons.mpr ⟨lw_p2, List.forall_mem_cons.mpr ⟨lw_p3, List.forall_mem_cons.mpr ⟨lw_p4, List.forall_mem_cons.mpr ⟨lw_p5, List.forall_mem_cons.mpr ⟨lw_p6, List.forall_mem_cons.mpr ⟨lw_p7, List.forall_mem_cons.mpr ⟨lw_p8, List.forall_mem_cons.mpr ⟨lw_p9, List.forall_mem_cons.mpr ⟨lw_p10, List.forall_mem_cons.mpr ⟨lw_p11, List.forall_mem_cons.mpr ⟨lw_p12, List.forall_mem_cons.mpr ⟨lw_p13, List.forall_mem_cons.mpr ⟨lw_p14, List.forall_mem_cons.mpr ⟨lw_p15, fun _ h => absurd h List.not_mem_nil⟩⟩⟩⟩⟩⟩⟩⟩⟩⟩⟩⟩⟩⟩⟩⟩
theorem lw_p16 : lw_okq (⟨"TwistyBarrels", "needFilled", "(I)V"⟩, 11) := ⟨⟨by decide +kernel, by decide +kernel⟩, List.mem_of_getElem? (i := 21) (by decide +kernel), List.mem_of_getElem? (i := 689) (by decide +kernel), List.mem_of_getElem? (i := 690) (by decide +kernel)⟩
theorem lw_p17 : lw_okq (⟨"TwistyBarrels", "putMade", "(I)I"⟩, 11) := ⟨⟨by decide +kernel, by decide +kernel⟩, List.mem_of_getElem? (i := 21) (by decide +kernel), List.mem_of_getElem? (i := 705) (by decide +kernel), List.mem_of_getElem? (i := 706) (by decide +kernel)⟩
theorem lw_p18 : lw_okq (⟨"TwistyBarrels", "needLearnt", "(I)V"⟩, 11) := ⟨⟨by decide +kernel, by decide +kernel⟩, List.mem_of_getElem? (i := 21) (by decide +kernel), List.mem_of_getElem? (i := 751) (by decide +kernel), List.mem_of_getElem? (i := 752) (by decide +kernel)⟩
theorem lw_p19 : lw_okq (⟨"TwistyBarrelsModel", "keep", "()V"⟩, 20) := ⟨⟨by decide +kernel, by decide +kernel⟩, List.mem_of_getElem? (i := 971) (by decide +kernel), List.mem_of_getElem? (i := 1050) (by decide +kernel), List.mem_of_getElem? (i := 1051) (by decide +kernel)⟩
theorem lw_p20 : lw_okq (⟨"TwistyBarrelsModel", "fails", "(I)I"⟩, 20) := ⟨⟨by decide +kernel, by decide +kernel⟩, List.mem_of_getElem? (i := 971) (by decide +kernel), List.mem_of_getElem? (i := 1058) (by decide +kernel), List.mem_of_getElem? (i := 1059) (by decide +kernel)⟩
theorem lw_p21 : lw_okq (⟨"TwistyBarrelsModel", "ends", "(I)I"⟩, 20) := ⟨⟨by decide +kernel, by decide +kernel⟩, List.mem_of_getElem? (i := 971) (by decide +kernel), List.mem_of_getElem? (i := 1062) (by decide +kernel), List.mem_of_getElem? (i := 1063) (by decide +kernel)⟩
theorem lw_p22 : lw_okq (⟨"TwistyBarrelsModel", "moves", "(ZII)V"⟩, 20) := ⟨⟨by decide +kernel, by decide +kernel⟩, List.mem_of_getElem? (i := 971) (by decide +kernel), List.mem_of_getElem? (i := 1066) (by decide +kernel), List.mem_of_getElem? (i := 1067) (by decide +kernel)⟩
theorem lw_p23 : lw_okq (⟨"TwistyBarrelsModel", "move", "(ZII)I"⟩, 20) := ⟨⟨by decide +kernel, by decide +kernel⟩, List.mem_of_getElem? (i := 971) (by decide +kernel), List.mem_of_getElem? (i := 1070) (by decide +kernel), List.mem_of_getElem? (i := 1071) (by decide +kernel)⟩
theorem lw_p24 : lw_okq (⟨"TwistyBarrelsModel", "nothing", "()I"⟩, 20) := ⟨⟨by decide +kernel, by decide +kernel⟩, List.mem_of_getElem? (i := 971) (by decide +kernel), List.mem_of_getElem? (i := 1074) (by decide +kernel), List.mem_of_getElem? (i := 1075) (by decide +kernel)⟩
theorem lw_p25 : lw_okq (⟨"TwistyBarrelsModel", "does", "(I)V"⟩, 20) := ⟨⟨by decide +kernel, by decide +kernel⟩, List.mem_of_getElem? (i := 971) (by decide +kernel), List.mem_of_getElem? (i := 1078) (by decide +kernel), List.mem_of_getElem? (i := 1079) (by decide +kernel)⟩
theorem lw_p26 : lw_okq (⟨"TwistyBarrelsModel", "home", "()I"⟩, 20) := ⟨⟨by decide +kernel, by decide +kernel⟩, List.mem_of_getElem? (i := 971) (by decide +kernel), List.mem_of_getElem? (i := 1082) (by decide +kernel), List.mem_of_getElem? (i := 1083) (by decide +kernel)⟩
theorem lw_p27 : lw_okq (⟨"TwistyBarrelsModel", "refuse", "(III)I"⟩, 20) := ⟨⟨by decide +kernel, by decide +kernel⟩, List.mem_of_getElem? (i := 971) (by decide +kernel), List.mem_of_getElem? (i := 1094) (by decide +kernel), List.mem_of_getElem? (i := 1095) (by decide +kernel)⟩
theorem lw_p28 : lw_okq (⟨"TwistyBarrelsModel", "slotOf", "(I)I"⟩, 20) := ⟨⟨by decide +kernel, by decide +kernel⟩, List.mem_of_getElem? (i := 971) (by decide +kernel), List.mem_of_getElem? (i := 1118) (by decide +kernel), List.mem_of_getElem? (i := 1119) (by decide +kernel)⟩
theorem lw_p29 : lw_okq (⟨"TwistyBarrelsModel", "colourIn", "(I)I"⟩, 20) := ⟨⟨by decide +kernel, by decide +kernel⟩, List.mem_of_getElem? (i := 971) (by decide +kernel), List.mem_of_getElem? (i := 1130) (by decide +kernel), List.mem_of_getElem? (i := 1131) (by decide +kernel)⟩
theorem lw_p30 : lw_okq (⟨"TwistyBarrelsModel", "isOne", "(I)Z"⟩, 20) := ⟨⟨by decide +kernel, by decide +kernel⟩, List.mem_of_getElem? (i := 971) (by decide +kernel), List.mem_of_getElem? (i := 1138) (by decide +kernel), List.mem_of_getElem? (i := 1139) (by decide +kernel)⟩
theorem lw_p31 : lw_okq (⟨"TwistyBarrelsModel", "seamMany", "()I"⟩, 20) := ⟨⟨by decide +kernel, by decide +kernel⟩, List.mem_of_getElem? (i := 971) (by decide +kernel), List.mem_of_getElem? (i := 1146) (by decide +kernel), List.mem_of_getElem? (i := 1147) (by decide +kernel)⟩
def lw_privs_2 : List (MethodName × Nat) := [(⟨"TwistyBarrels", "needFilled", "(I)V"⟩, 11), (⟨"TwistyBarrels", "putMade", "(I)I"⟩, 11), (⟨"TwistyBarrels", "needLearnt", "(I)V"⟩, 11), (⟨"TwistyBarrelsModel", "keep", "()V"⟩, 20), (⟨"TwistyBarrelsModel", "fails", "(I)I"⟩, 20), (⟨"TwistyBarrelsModel", "ends", "(I)I"⟩, 20), (⟨"TwistyBarrelsModel", "moves", "(ZII)V"⟩, 20), (⟨"TwistyBarrelsModel", "move", "(ZII)I"⟩, 20), (⟨"TwistyBarrelsModel", "nothing", "()I"⟩, 20), (⟨"TwistyBarrelsModel", "does", "(I)V"⟩, 20), (⟨"TwistyBarrelsModel", "home", "()I"⟩, 20), (⟨"TwistyBarrelsModel", "refuse", "(III)I"⟩, 20), (⟨"TwistyBarrelsModel", "slotOf", "(I)I"⟩, 20), (⟨"TwistyBarrelsModel", "colourIn", "(I)I"⟩, 20), (⟨"TwistyBarrelsModel", "isOne", "(I)Z"⟩, 20), (⟨"TwistyBarrelsModel", "seamMany", "()I"⟩, 20)]
theorem lw_r2 : ∀ q ∈ lw_privs_2, lw_okq q := List.forall_mem_cons.mpr ⟨lw_p16, List.forall_mem_cons.mpr ⟨lw_p17, List.forall_mem_cons.mpr ⟨lw_p18, List.forall_mem_cons.mpr ⟨lw_p19, List.forall_mem_cons.mpr ⟨lw_p20, List.forall_mem_cons.mpr ⟨lw_p21, List.forall_mem_cons.mpr ⟨lw_p22, List.forall_mem_cons.mpr ⟨lw_p23, List.forall_mem_cons.mpr ⟨lw_p24, List.forall_mem_cons.mpr ⟨lw_p25, List.forall_mem_cons.mpr ⟨lw_p26, List.forall_mem_cons.mpr ⟨lw_p27, List.forall_mem_cons.mpr ⟨lw_p28, List.forall_mem_cons.mpr ⟨lw_p29, List.forall_mem_cons.mpr ⟨lw_p30, List.forall_mem_cons.mpr ⟨lw_p31, fun _ h => absurd h List.not_mem_nil⟩⟩⟩⟩⟩⟩⟩⟩⟩⟩⟩⟩⟩⟩⟩⟩
theorem lw_p32 : lw_okq (⟨"TwistyBarrelsModel", "readsText", "(I)I"⟩, 20) := ⟨⟨by decide +kernel, by decide +kernel⟩, List.mem_of_getElem? (i := 971) (by decide +kernel), List.mem_of_getElem? (i := 1165) (by decide +kernel), List.mem_of_getElem? (i := 1166) (by decide +kernel)⟩
theorem lw_p33 : lw_okq (⟨"TwistyBarrelsModel", "sequence", "(I)I"⟩, 20) := ⟨⟨by decide +kernel, by decide +kernel⟩, List.mem_of_getElem? (i := 971) (by decide +kernel), List.mem_of_getElem? (i := 1169) (by decide +kernel), List.mem_of_getElem? (i := 1170) (by decide +kernel)⟩
theorem lw_p34 : lw_okq (⟨"TwistyBarrelsModel", "isItem", "()Z"⟩, 20) := ⟨⟨by decide +kernel, by decide +kernel⟩, List.mem_of_getElem? (i := 971) (by decide +kernel), List.mem_of_getElem? (i := 1173) (by decide +kernel), List.mem_of_getElem? (i := 1174) (by decide +kernel)⟩
theorem lw_p35 : lw_okq (⟨"TwistyBarrelsModel", "isHere", "(CC)Z"⟩, 20) := ⟨⟨by decide +kernel, by decide +kernel⟩, List.mem_of_getElem? (i := 971) (by decide +kernel), List.mem_of_getElem? (i := 1177) (by decide +kernel), List.mem_of_getElem? (i := 1178) (by decide +kernel)⟩
theorem lw_p36 : lw_okq (⟨"TwistyBarrelsModel", "item", "(I)I"⟩, 20) := ⟨⟨by decide +kernel, by decide +kernel⟩, List.mem_of_getElem? (i := 971) (by decide +kernel), List.mem_of_getElem? (i := 1181) (by decide +kernel), List.mem_of_getElem? (i := 1182) (by decide +kernel)⟩
theorem lw_p37 : lw_okq (⟨"TwistyBarrelsModel", "sign", "(CC)I"⟩, 20) := ⟨⟨by decide +kernel, by decide +kernel⟩, List.mem_of_getElem? (i := 971) (by decide +kernel), List.mem_of_getElem? (i := 1185) (by decide +kernel), List.mem_of_getElem? (i := 1186) (by decide +kernel)⟩
theorem lw_p38 : lw_okq (⟨"TwistyBarrelsModel", "ofShelf", "(I)I"⟩, 20) := ⟨⟨by decide +kernel, by decide +kernel⟩, List.mem_of_getElem? (i := 971) (by decide +kernel), List.mem_of_getElem? (i := 1189) (by decide +kernel), List.mem_of_getElem? (i := 1190) (by decide +kernel)⟩
theorem lw_p39 : lw_okq (⟨"TwistyBarrelsModel", "times", "(II)I"⟩, 20) := ⟨⟨by decide +kernel, by decide +kernel⟩, List.mem_of_getElem? (i := 971) (by decide +kernel), List.mem_of_getElem? (i := 1193) (by decide +kernel), List.mem_of_getElem? (i := 1194) (by decide +kernel)⟩
theorem lw_p40 : lw_okq (⟨"TwistyBarrelsModel", "then", "(II)V"⟩, 20) := ⟨⟨by decide +kernel, by decide +kernel⟩, List.mem_of_getElem? (i := 971) (by decide +kernel), List.mem_of_getElem? (i := 1197) (by decide +kernel), List.mem_of_getElem? (i := 1198) (by decide +kernel)⟩
theorem lw_p41 : lw_okq (⟨"TwistyBarrelsModel", "commutator", "(II)I"⟩, 20) := ⟨⟨by decide +kernel, by decide +kernel⟩, List.mem_of_getElem? (i := 971) (by decide +kernel), List.mem_of_getElem? (i := 1201) (by decide +kernel), List.mem_of_getElem? (i := 1202) (by decide +kernel)⟩
theorem lw_p42 : lw_okq (⟨"TwistyBarrelsModel", "inverse", "(I)I"⟩, 20) := ⟨⟨by decide +kernel, by decide +kernel⟩, List.mem_of_getElem? (i := 971) (by decide +kernel), List.mem_of_getElem? (i := 1205) (by decide +kernel), List.mem_of_getElem? (i := 1206) (by decide +kernel)⟩
theorem lw_p43 : lw_okq (⟨"TwistyBarrelsModel", "puts", "(II)I"⟩, 20) := ⟨⟨by decide +kernel, by decide +kernel⟩, List.mem_of_getElem? (i := 971) (by decide +kernel), List.mem_of_getElem? (i := 1220) (by decide +kernel), List.mem_of_getElem? (i := 1221) (by decide +kernel)⟩
theorem lw_p44 : lw_okq (⟨"TwistyBarrelsModel", "movedBy", "(I)I"⟩, 20) := ⟨⟨by decide +kernel, by decide +kernel⟩, List.mem_of_getElem? (i := 971) (by decide +kernel), List.mem_of_getElem? (i := 1224) (by decide +kernel), List.mem_of_getElem? (i := 1225) (by decide +kernel)⟩
theorem lw_p45 : lw_okq (⟨"TwistyBarrelsModel", "isEmpty", "(I)Z"⟩, 20) := ⟨⟨by decide +kernel, by decide +kernel⟩, List.mem_of_getElem? (i := 971) (by decide +kernel), List.mem_of_getElem? (i := 1232) (by decide +kernel), List.mem_of_getElem? (i := 1233) (by decide +kernel)⟩
theorem lw_p46 : lw_okq (⟨"TwistyBarrelsModel", "filledMany", "()I"⟩, 20) := ⟨⟨by decide +kernel, by decide +kernel⟩, List.mem_of_getElem? (i := 971) (by decide +kernel), List.mem_of_getElem? (i := 1252) (by decide +kernel), List.mem_of_getElem? (i := 1253) (by decide +kernel)⟩
theorem lw_p47 : lw_okq (⟨"TwistyBarrelsModel", "goes", "(II)I"⟩, 20) := ⟨⟨by decide +kernel, by decide +kernel⟩, List.mem_of_getElem? (i := 971) (by decide +kernel), List.mem_of_getElem? (i := 1260) (by decide +kernel), List.mem_of_getElem? (i := 1261) (by decide +kernel)⟩
def lw_privs_3 : List (MethodName × Nat) := [(⟨"TwistyBarrelsModel", "readsText", "(I)I"⟩, 20), (⟨"TwistyBarrelsModel", "sequence", "(I)I"⟩, 20), (⟨"TwistyBarrelsModel", "isItem", "()Z"⟩, 20), (⟨"TwistyBarrelsModel", "isHere", "(CC)Z"⟩, 20), (⟨"TwistyBarrelsModel", "item", "(I)I"⟩, 20), (⟨"TwistyBarrelsModel", "sign", "(CC)I"⟩, 20), (⟨"TwistyBarrelsModel", "ofShelf", "(I)I"⟩, 20), (⟨"TwistyBarrelsModel", "times", "(II)I"⟩, 20), (⟨"TwistyBarrelsModel", "then", "(II)V"⟩, 20), (⟨"TwistyBarrelsModel", "commutator", "(II)I"⟩, 20), (⟨"TwistyBarrelsModel", "inverse", "(I)I"⟩, 20), (⟨"TwistyBarrelsModel", "puts", "(II)I"⟩, 20), (⟨"TwistyBarrelsModel", "movedBy", "(I)I"⟩, 20), (⟨"TwistyBarrelsModel", "isEmpty", "(I)Z"⟩, 20), (⟨"TwistyBarrelsModel", "filledMany", "()I"⟩, 20), (⟨"TwistyBarrelsModel", "goes", "(II)I"⟩, 20)]
theorem lw_r3 : ∀ q ∈ lw_privs_3, lw_okq q := List.forall_mem_cons.mpr ⟨lw_p32, List.forall_mem_cons.mpr ⟨lw_p33, List.forall_mem_cons.mpr ⟨lw_p34, List.forall_mem_cons.mpr ⟨lw_p35, List.forall_mem_cons.mpr ⟨lw_p36, List.forall_mem_cons.mpr ⟨lw_p37, List.forall_mem_cons.mpr ⟨lw_p38, List.forall_mem_cons.mpr ⟨lw_p39, List.forall_mem_cons.mpr ⟨lw_p40, List.forall_mem_cons.mpr ⟨lw_p41, List.forall_mem_cons.mpr ⟨lw_p42, List.forall_mem_cons.mpr ⟨lw_p43, List.forall_mem_cons.mpr ⟨lw_p44, List.forall_mem_cons.mpr ⟨lw_p45, List.forall_mem_cons.mpr ⟨lw_p46, List.forall_mem_cons.mpr ⟨lw_p47, fun _ h => absurd h List.not_mem_nil⟩⟩⟩⟩⟩⟩⟩⟩⟩⟩⟩⟩⟩⟩⟩⟩
theorem lw_p48 : lw_okq (⟨"TwistyBarrelsModel", "cycleOf", "(II)I"⟩, 20) := ⟨⟨by decide +kernel, by decide +kernel⟩, List.mem_of_getElem? (i := 971) (by decide +kernel), List.mem_of_getElem? (i := 1268) (by decide +kernel), List.mem_of_getElem? (i := 1269) (by decide +kernel)⟩
theorem lw_p49 : lw_okq (⟨"TwistyBarrelsModel", "isLowest", "(II)Z"⟩, 20) := ⟨⟨by decide +kernel, by decide +kernel⟩, List.mem_of_getElem? (i := 971) (by decide +kernel), List.mem_of_getElem? (i := 1272) (by decide +kernel), List.mem_of_getElem? (i := 1273) (by decide +kernel)⟩
theorem lw_p50 : lw_okq (⟨"TwistyBarrelsModel", "order", "(I)I"⟩, 20) := ⟨⟨by decide +kernel, by decide +kernel⟩, List.mem_of_getElem? (i := 971) (by decide +kernel), List.mem_of_getElem? (i := 1277) (by decide +kernel), List.mem_of_getElem? (i := 1278) (by decide +kernel)⟩
theorem lw_p51 : lw_okq (⟨"TwistyBarrelsModel", "saysNumber", "(I)V"⟩, 20) := ⟨⟨by decide +kernel, by decide +kernel⟩, List.mem_of_getElem? (i := 971) (by decide +kernel), List.mem_of_getElem? (i := 1304) (by decide +kernel), List.mem_of_getElem? (i := 1305) (by decide +kernel)⟩
theorem lw_p52 : lw_okq (⟨"TwistyBarrelsModel", "says", "(C)V"⟩, 20) := ⟨⟨by decide +kernel, by decide +kernel⟩, List.mem_of_getElem? (i := 971) (by decide +kernel), List.mem_of_getElem? (i := 1308) (by decide +kernel), List.mem_of_getElem? (i := 1309) (by decide +kernel)⟩
theorem lw_p53 : lw_okq (⟨"TwistyBarrelsModel", "doneMany", "()I"⟩, 20) := ⟨⟨by decide +kernel, by decide +kernel⟩, List.mem_of_getElem? (i := 971) (by decide +kernel), List.mem_of_getElem? (i := 1328) (by decide +kernel), List.mem_of_getElem? (i := 1329) (by decide +kernel)⟩
def lw_privs_4 : List (MethodName × Nat) := [(⟨"TwistyBarrelsModel", "cycleOf", "(II)I"⟩, 20), (⟨"TwistyBarrelsModel", "isLowest", "(II)Z"⟩, 20), (⟨"TwistyBarrelsModel", "order", "(I)I"⟩, 20), (⟨"TwistyBarrelsModel", "saysNumber", "(I)V"⟩, 20), (⟨"TwistyBarrelsModel", "says", "(C)V"⟩, 20), (⟨"TwistyBarrelsModel", "doneMany", "()I"⟩, 20)]
theorem lw_r4 : ∀ q ∈ lw_privs_4, lw_okq q := List.forall_mem_cons.mpr ⟨lw_p48, List.forall_mem_cons.mpr ⟨lw_p49, List.forall_mem_cons.mpr ⟨lw_p50, List.forall_mem_cons.mpr ⟨lw_p51, List.forall_mem_cons.mpr ⟨lw_p52, List.forall_mem_cons.mpr ⟨lw_p53, fun _ h => absurd h List.not_mem_nil⟩⟩⟩⟩⟩⟩
def lw_privs : List (MethodName × Nat) := lw_privs_1 ++ (lw_privs_2 ++ (lw_privs_3 ++ (lw_privs_4)))
def lw_tbl : List Cond := k2_sels lw_privs ++ tables_1
theorem lw_privs_ok : ∀ q ∈ lw_privs, lw_okq q := by
  show ∀ q ∈ lw_privs_1 ++ (lw_privs_2 ++ (lw_privs_3 ++ (lw_privs_4))), lw_okq q
  exact List.forall_mem_append.mpr ⟨lw_r1, List.forall_mem_append.mpr ⟨lw_r2, List.forall_mem_append.mpr ⟨lw_r3, lw_r4⟩⟩⟩
/-- the streams that the claim lets the run draw from -/
abbrev lw_cs : List Choice := [Jvm.Choice.named "NaN.bits"]
theorem lw_bits : nanBits ∈ lw_cs := by first | decide | exact List.mem_cons_self | simp [lw_cs, nanBits]
end
section
/-! ===== BEGIN words of one list among another's, by their places ===== -/
theorem goodIn_r {big : List Cond} (ws : List Cond) (ps : List Nat) (hp : ws = ps.filterMap (fun i => big[i]?)) (h : ws.all goodWord = true) : GoodIn big ws := by
  intro w hw
  have h1 := List.all_eq_true.mp h w hw
  rw [hp] at hw
  obtain ⟨i, -, hi⟩ := List.mem_filterMap.mp hw
  have hm : w ∈ big := by first | exact List.mem_of_getElem? hi | exact List.getElem?_mem hi
  exact ⟨hm, good_of_word h1⟩
theorem goodIn_app {big a b : List Cond} (ha : GoodIn big a) (hb : GoodIn big b) : GoodIn big (a ++ b) := fun w h => (List.mem_append.mp h).elim (ha w) (hb w)
theorem goodIn_ca {big a b : List Cond} {c : Cond} (ha : GoodIn big (c :: a)) (hb : GoodIn big b) : GoodIn big (c :: (a ++ b)) := fun w h => (List.mem_cons.mp h).elim (fun e => ha w (List.mem_cons.mpr (Or.inl e))) (fun h => (List.mem_append.mp h).elim (fun h => ha w (List.mem_cons.mpr (Or.inr h))) (hb w))
theorem goodIn_sub {big ws : List Cond} (hm : ∀ w ∈ ws, w ∈ big) (h : ws.all goodWord = true) : GoodIn big ws := fun w hw => ⟨hm w hw, good_of_word (List.all_eq_true.mp h w hw)⟩
/-! ===== END ===== -/

/-! ===== BEGIN exceptions that leave a method, and their catching by the caller (launches without stack traces) ===== -/
section VXA
/-! The laws vx_back, vx_callV, vx_callS, vx_callSW, vx_throw0, vx_throwS follow proofs of the library, with one case more: JvmDerived/Free/Laws.lean (Back.of_free), Shelf42/LK1.lean (callV, callS), Shelf/KitTraced.lean (throwNew0V, throwNewS). -/
/-- where a method has thrown q: the class by its name, the cell, what was written, the world -/
def vx_T (XC : String → State → State → Prop) (st : State) (q : Addr) (t : State) (mc ms : Nat) (free : Addr → Prop) : Prop :=
  ∃ (E : String) (ce : Cell) (L : List Loc), XC E st t ∧ t.heap[q]? = some ce ∧ ce.vm = .none ∧ st.vm.findClass E = some ce.cls ∧ st.WarmedH t.vm ∧ st.sameButNew ({ t with vm := st.vm } : State) L mc ms ∧ ∀ z ∈ L, free z.base
def vx_Q (Qc : Array Value → State → Outcome → State → Prop) (XC : String → State → State → Prop) (mc ms : Nat) (free : Addr → Prop) : Array Value → State → Outcome → State → Prop := fun a st o t =>
  (Qc a st o t ∧ ∃ L, FrameEnd st o t L mc ms ∧ ∀ q ∈ L, free q.base) ∨ ∃ q, o = .threw q ∧ vx_T XC st q t mc ms free
/-- a callee that returns or throws -/
def vx_Met (l : Launch) (y : MethodName) (ws : List Cond) (rm : Room) (Pc : Array Value → State → Prop) (Qc : Array Value → State → Outcome → State → Prop) (XC : String → State → State → Prop) (mc ms : Nat) (free : Addr → Prop) : Prop :=
  MetFree l y (headSpec ws rm) Pc (fun _ _ _ _ _ => True) (vx_Q Qc XC mc ms free)
def vx_Post (XC : String → State → State → Prop) (mc ms : Nat) (free : Addr → Prop) : Pt → Array Value → Addr → Pt → Prop := fun A a q B =>
  ∃ (g : JFrame) (mk : MethodId) (t : State) (L : List Loc) (E : String) (ce : Cell), B.U.heap = t.heap ∧ B.U.vm = t.vm ∧ XC E (A.U.calling g mk a) t ∧ t.heap[q]? = some ce ∧ ce.vm = .none ∧ A.U.vm.findClass E = some ce.cls ∧ B.locs = A.locs ++ L ∧ (∀ z ∈ L, free z.base) ∧ B.cells = A.cells + mc ∧ B.slots = A.slots + ms
def vx_Back (l : Launch) (R : Room) (p : Program) (e : Env) (below : List Frame) (s : State) (sargs : Array Value) (y : MethodName) (len W9 : Nat)
    (Pre : Pt → Array Value → Prop) (Post : Pt → Array Value → Option Value → Pt → Prop) (PostX : Pt → Array Value → Addr → Pt → Prop) : Prop :=
  ∀ (m : MethodId) (meth : Method) (c : Code) (A : Pt) (g : JFrame) (ig : Instr) (mk : MethodId) (a : Array Value),
    Stand p l e R s m sargs below meth c A.U A.locs A.cells A.slots → g.method = m → g.locals.size = c.maxLocals → decode c.code g.pc = .ok (ig, len) →
    2 * g.monitorRoom + (g.stack.map fun v => v.category).sum ≤ W9 → A.U.methodNamed? y = some mk → Pre A a →
    (∃ (v : Option Value) (B : Pt), Stand p l e R s m sargs below meth c B.U B.locs B.cells B.slots ∧ Post A a v B ∧
      Steps p.tables e below (doInvoke e (A.U.setTop g) [] mk a).1 (B.U.setTop { g with pc := g.pc + len, stack := v.toList ++ g.stack })) ∨
    (∃ (q : Addr) (B : Pt), Stand p l e R s m sargs below meth c B.U B.locs B.cells B.slots ∧ PostX A a q B ∧
      Steps p.tables e below (doInvoke e (A.U.setTop g) [] mk a).1 ((B.U.setTop g).pushFrame (.throwing q)))
section Payer
variable {l : Launch} {R : Room} {p : Program} {e : Env} {below : List Frame} {s : State} {sargs : Array Value} {y : MethodName} {len W9 : Nat}
theorem vx_back {ws : List Cond} {rm : Room} {Pc : Array Value → State → Prop} {Qc : Array Value → State → Outcome → State → Prop} {XC : String → State → State → Prop} {mc ms : Nat} {free : Addr → Prop} {bytes : ByteArray} {maxL : Nat} {ret : Option FieldType}
    (hM : vx_Met l y ws rm Pc Qc XC mc ms free) (hblind : FrameBlind Pc) (hrc : rm.cells = mc) (hrs : rm.slots = ms)
    (hframes : rm.frames + 1 ≤ R.frames) (hlocals : W9 + (maxL + 11) + rm.locals ≤ R.locals)
    (hws : ∀ w ∈ ws, ∀ a' U, s.WarmedH U.vm → w.before a' U = true) (hcode : Cond.code y bytes maxL ret ∈ ws) (hinit : ∀ a' U, s.WarmedH U.vm → (Cond.initialized y.cls).before a' U = true) :
    vx_Back l R p e below s sargs y len W9 (PreOf R mc ms Pc) (PostOf Qc mc ms free) (vx_Post XC mc ms free) := by
  intro m meth c A g ig mk a X hg hsize hdg hW hn hp
  have h1 : (headSpec ws rm).pre.before a A.U = true := atoms_intro fun w hw => hws w hw _ _ X.warmed
  have h2 : (Cond.code y bytes maxL ret).before a A.U = true := hws _ hcode _ _ X.warmed
  have h3 : (Cond.initialized y.cls).before a A.U = true := hinit _ _ X.warmed
  have h4 : A.cells + (headSpec ws rm).room.cells ≤ R.cells := by rw [show (headSpec ws rm).room.cells = mc from hrc]; exact hp.1
  have h5 : A.slots + (headSpec ws rm).room.slots ≤ R.slots := by rw [show (headSpec ws rm).room.slots = ms from hrs]; exact hp.2.1
  have hPc : Pc a (A.U.calling g mk a) := hblind _ _ _ _ hp.2.2
  obtain ⟨U, Ls, c0, s0⟩ := A
  dsimp only [Pt.U, Pt.locs, Pt.cells, Pt.slots] at h1 h2 h3 h4 h5 X hn hPc ⊢
  obtain ⟨methY, cY, hmY, hcY, -, hlY, -, -, -, -⟩ := Cond.code_spec hn h2
  obtain ⟨kY, hkY, -⟩ := className_of_methodNamed hn
  have hinitY : kY.init = .initialized := Cond.initialized_spec (findClass_of_methodNamed hn) hkY h3
  have h : At U g.method c below := by rw [hg]; exact X.here
  have hlocals9 : W9 + (maxL + 11) + (headSpec ws rm).room.locals ≤ R.locals := hlocals
  have happ : (headSpec ws rm).appliesLoose y e.platform (U.calling g mk a) = true :=
    Spec.appliesLoose_calling (g := g) h hdg hn hkY hinitY
      (X.room_calling (g := g) (R' := (headSpec ws rm).room) hsize hmY hcY hframes (by rw [hlY]; omega) h4 h5) h1
  obtain ⟨mid, hmid⟩ := h.above
  have hfr : (U.setTop g).frames = (.java g :: mid) ++ below := by rw [State.frames_setTop' g h.top, hmid]; rfl
  obtain ⟨o, s₂, hsteps, -, hend, hq⟩ := Steps.callFree hM p X.admits X.cas X.clock (acts := []) hfr happ hPc trivial
  have hq' : vx_Q Qc XC mc ms free a (U.calling g mk a) o s₂ := hq
  rw [State.frames_setTop' g h.top] at hend
  obtain ⟨g₀, hg0⟩ := Option.isSome_iff_exists.mp h.top
  obtain ⟨r, hr⟩ := State.topJava?_eq_some.mp hg0
  have hr' : (({ U with heap := s₂.heap, slotsUsed := s₂.slotsUsed } : State).setVm s₂.vm).frames = .java g₀ :: r := hr
  rcases hq' with ⟨hqc, L, hfe, hL⟩ | ⟨q, rfl, E, ce, L, hx, hce, hcv, hcl, hW₂, hsm, hL⟩
  · obtain ⟨⟨v, rfl⟩, hW₂, e2, q2, q3, q4, q5, q6⟩ := id hfe
    have e3 : s₂ = ({ (U.calling g mk a).setFrames s₂.frames with heap := s₂.heap, slotsUsed := s₂.slotsUsed } : State).setVm s₂.vm := by
      have : s₂ = ({ s₂ with vm := (U.calling g mk a).vm } : State).setVm s₂.vm := rfl
      rw [e2] at this
      exact this
    obtain ⟨c₂, i₂, len₂, hc₂, hd₂, hf₂⟩ := hend
    have hW' : U.WarmedH s₂.vm := hW₂
    have hcc : c₂ = c := by
      have h1 : s₂.code? g.method = U.code? g.method := by
        rw [State.code?_eq, State.code?_eq, hW'.alike.method?]
      exact Option.some.inj (hc₂.symm.trans (h1.trans h.code))
    subst hcc
    have hlen : len₂ = len := by rw [hdg] at hd₂; cases hd₂; rfl
    subst hlen
    have hs₂ : s₂ = (({ U with heap := s₂.heap, slotsUsed := s₂.slotsUsed } : State).setVm s₂.vm).setTop { g with pc := g.pc + len₂, stack := v.toList ++ g.stack } := by
      refine e3.trans ?_
      rw [hf₂, State.calling_eq h.top, State.setFrames_setFrames, State.setTop_of_frames _ hr', hr]
      rfl
    have hsame : U.sameButNew ({ U with heap := s₂.heap, slotsUsed := s₂.slotsUsed } : State) L mc ms := by
      refine ⟨?_, q2, q3, q4, q5, q6⟩
      obtain ⟨t, ht, -⟩ := State.frames_cons hr
      show ({ U with heap := s₂.heap, slotsUsed := s₂.slotsUsed } : State) = { U.setFrames U.frames with heap := s₂.heap, slotsUsed := s₂.slotsUsed }
      rw [State.setFrames_self ht]
    subst hg
    refine Or.inl ⟨v, ⟨(({ U with heap := s₂.heap, slotsUsed := s₂.slotsUsed } : State).setVm s₂.vm), Ls ++ L, c0 + mc, s0 + ms⟩,
      ⟨X.admits, X.cas, X.clock, X.frames, X.room, X.hears, X.method, X.code, (X.here.setHeapUsed s₂.heap s₂.slotsUsed).setVm hW'.alike, X.tail, State.WarmedH.trans X.warmed hW', X.limits, X.bytes, X.same.trans (hsame.setVm s.vm)⟩,
      ⟨g, mk, s₂, L, rfl, rfl, hqc, rfl, hL, rfl, rfl⟩, ?_⟩
    show Steps p.tables e below _ ((({ U with heap := s₂.heap, slotsUsed := s₂.slotsUsed } : State).setVm s₂.vm).setTop { g with pc := g.pc + len₂, stack := v.toList ++ g.stack })
    rw [← hs₂]
    exact hsteps
  · obtain ⟨e2, q2, q3, q4, q5, q6⟩ := id hsm
    have e3 : s₂ = ({ (U.calling g mk a).setFrames s₂.frames with heap := s₂.heap, slotsUsed := s₂.slotsUsed } : State).setVm s₂.vm := by
      have : s₂ = ({ s₂ with vm := (U.calling g mk a).vm } : State).setVm s₂.vm := rfl
      rw [e2] at this
      exact this
    have hf₂ : s₂.frames = .throwing q :: .java g :: U.frames.tail := hend
    have hW' : U.WarmedH s₂.vm := hW₂
    have hs₂ : s₂ = ((({ U with heap := s₂.heap, slotsUsed := s₂.slotsUsed } : State).setVm s₂.vm).setTop g).pushFrame (.throwing q) := by
      refine e3.trans ?_
      rw [hf₂, State.calling_eq h.top, State.setFrames_setFrames, State.pushFrame, State.frames_setTop _ hr', State.setTop_of_frames _ hr', State.setFrames_setFrames, hr]
      rfl
    have hsame : U.sameButNew ({ U with heap := s₂.heap, slotsUsed := s₂.slotsUsed } : State) L mc ms := by
      refine ⟨?_, q2, q3, q4, q5, q6⟩
      obtain ⟨t, ht, -⟩ := State.frames_cons hr
      show ({ U with heap := s₂.heap, slotsUsed := s₂.slotsUsed } : State) = { U.setFrames U.frames with heap := s₂.heap, slotsUsed := s₂.slotsUsed }
      rw [State.setFrames_self ht]
    subst hg
    refine Or.inr ⟨q, ⟨(({ U with heap := s₂.heap, slotsUsed := s₂.slotsUsed } : State).setVm s₂.vm), Ls ++ L, c0 + mc, s0 + ms⟩,
      ⟨X.admits, X.cas, X.clock, X.frames, X.room, X.hears, X.method, X.code, (X.here.setHeapUsed s₂.heap s₂.slotsUsed).setVm hW'.alike, X.tail, State.WarmedH.trans X.warmed hW', X.limits, X.bytes, X.same.trans (hsame.setVm s.vm)⟩,
      ⟨g, mk, s₂, L, E, ce, rfl, rfl, hx, hce, hcv, hcl, rfl, hL, rfl, rfl⟩, ?_⟩
    show Steps p.tables e below _ (((({ U with heap := s₂.heap, slotsUsed := s₂.slotsUsed } : State).setVm s₂.vm).setTop g).pushFrame (.throwing q))
    rw [← hs₂]
    exact hsteps
end Payer
section Calls
variable {p : Program} {l : Launch} {e : Env} {R : Room} {s : State} {m : MethodId} {args : Array Value} {below : List Frame} {meth : Method} {c : Code} {T : State} {locs : List Loc} {cells slots : Nat}
theorem vx_callV (X : Stand p l e R s m args below meth c T locs cells slots) (hexec : p.tables.exec = Jvm.exec) {own C : String} {index : Nat} {y : MethodName} {bytes : ByteArray} {maxL : Nat} {ret : Option FieldType}
    (hown : s.vm.findClass own = some m.cls) (hlink : (Cond.methodLink own index y).before args s = true) (hinst : (Cond.instanceMethod y).before args s = true) (hsel : (Cond.selects C y y).before args s = true)
    (hcode : (Cond.code y bytes maxL ret).before args s = true) (hy : y.cls ≠ "java/lang/invoke/MethodHandle" ∧ y.cls ≠ "java/lang/invoke/VarHandle")
    {W9 : Nat} {Pre : Pt → Array Value → Prop} {Post : Pt → Array Value → Option Value → Pt → Prop} {PostX : Pt → Array Value → Addr → Pt → Prop} (hK : vx_Back l R p e below s args y 3 W9 Pre Post PostX)
    {b : Addr} {cellB : Cell} (hcell : T.heap[b]? = some cellB) (hobj : cellB.vm.isStatics = false) (hcls : s.vm.findClass C = some cellB.cls)
    {g : JFrame} (hg : g.method = m) (hsize : g.locals.size = c.maxLocals) {argsL rest : List Value} (hlen : ∀ sig, parseMethodDescriptor y.desc = some sig → argsL.length = sig.parameters.length)
    (hstack : g.stack = argsL.reverse ++ .ref b :: rest) (hW : 2 * g.monitorRoom + (rest.map fun v => v.category).sum ≤ W9) (hdg : decode c.code g.pc = .ok (.invokevirtual index, 3))
    (hpre : ∀ vm₁, s.WarmedH vm₁ → Pre ⟨T.setVm vm₁, locs, cells, slots⟩ (Value.ref b :: argsL).toArray) :
    (∃ (v : Option Value) (vm₁ : Vm) (B : Pt), s.WarmedH vm₁ ∧ Stand p l e R s m args below meth c B.U B.locs B.cells B.slots ∧ Post ⟨T.setVm vm₁, locs, cells, slots⟩ (Value.ref b :: argsL).toArray v B ∧
      ∀ target, Steps p.tables e below (B.U.setTop { g with pc := g.pc + 3, stack := v.toList ++ rest }) target → Steps p.tables e below (T.setTop g) target) ∨
    (∃ (q : Addr) (vm₁ : Vm) (B : Pt), s.WarmedH vm₁ ∧ Stand p l e R s m args below meth c B.U B.locs B.cells B.slots ∧ PostX ⟨T.setVm vm₁, locs, cells, slots⟩ (Value.ref b :: argsL).toArray q B ∧
      Steps p.tables e below (T.setTop g) ((B.U.setTop { g with stack := rest }).pushFrame (.throwing q))) := by
  obtain ⟨mk, methM, hnamed, hmethM, hstM, habM⟩ := Cond.instanceMethod_spec hinst
  obtain ⟨methM', cM, hmethM', -, -, -, -, -, -, hsigM⟩ := Cond.code_spec hnamed hcode
  cases hmethM.symm.trans hmethM'
  obtain ⟨c2, r2, m2, q1, q2, q3, q4, kP, hkP, hkPi⟩ := Cond.selects_spec hsel
  cases hcls.symm.trans q1
  cases (State.methodFound?_of_named hnamed hy).symm.trans q2
  cases hnamed.symm.trans q3
  have hselP : selectMethod e.platform s.vm cellB.cls mk = .method mk := by rw [Launch.admits_selectMethod X.admits]; exact q4
  obtain ⟨vm₁, X₁, hstep₁⟩ := X.invokevirtual hexec hown hlink hnamed hmethM hstM hkP hkPi hy (a := b) (cell := cellB) hcell
    (fun z h => by rw [h] at hobj; cases hobj) hselP hmethM habM hkP hkPi (g := g) hg (argsL := argsL) (rest := rest) (hlen _ hsigM) hstack hdg
  rcases hK m meth c ⟨T.setVm vm₁, locs, cells, slots⟩ { g with stack := rest } (.invokevirtual index) mk (Value.ref b :: argsL).toArray X₁ hg hsize hdg hW (X₁.named hnamed) (hpre vm₁ X₁.warmed) with ⟨v, B, X', hpost, hsteps⟩ | ⟨q, B, X', hpost, hsteps⟩
  · exact Or.inl ⟨v, vm₁, B, X₁.warmed, X', hpost, fun target h => hstep₁ _ fun acts => by rw [doInvoke_state]; exact hsteps.trans h⟩
  · exact Or.inr ⟨q, vm₁, B, X₁.warmed, X', hpost, hstep₁ _ fun acts => by rw [doInvoke_state]; exact hsteps⟩
theorem vx_callS (X : Stand p l e R s m args below meth c T locs cells slots) (hexec : p.tables.exec = Jvm.exec) {own : String} {index : Nat} {y : MethodName} {bytes : ByteArray} {maxL : Nat} {ret : Option FieldType}
    (hown : s.vm.findClass own = some m.cls) (hlink : (Cond.methodLink own index y).before args s = true) (hstat : (Cond.static y).before args s = true) (hinit : (Cond.initialized y.cls).before args s = true)
    (hcode : (Cond.code y bytes maxL ret).before args s = true) (hy : y.cls ≠ "java/lang/invoke/MethodHandle" ∧ y.cls ≠ "java/lang/invoke/VarHandle")
    {W9 : Nat} {Pre : Pt → Array Value → Prop} {Post : Pt → Array Value → Option Value → Pt → Prop} {PostX : Pt → Array Value → Addr → Pt → Prop} (hK : vx_Back l R p e below s args y 3 W9 Pre Post PostX)
    {g : JFrame} (hg : g.method = m) (hsize : g.locals.size = c.maxLocals) {argsL rest : List Value} (hlen : ∀ sig, parseMethodDescriptor y.desc = some sig → argsL.length = sig.parameters.length)
    (hstack : g.stack = argsL.reverse ++ rest) (hW : 2 * g.monitorRoom + (rest.map fun v => v.category).sum ≤ W9) (hdg : decode c.code g.pc = .ok (.invokestatic index, 3))
    (hpre : ∀ vm₁, s.WarmedH vm₁ → Pre ⟨T.setVm vm₁, locs, cells, slots⟩ argsL.toArray) :
    (∃ (v : Option Value) (vm₁ : Vm) (B : Pt), s.WarmedH vm₁ ∧ Stand p l e R s m args below meth c B.U B.locs B.cells B.slots ∧ Post ⟨T.setVm vm₁, locs, cells, slots⟩ argsL.toArray v B ∧
      ∀ target, Steps p.tables e below (B.U.setTop { g with pc := g.pc + 3, stack := v.toList ++ rest }) target → Steps p.tables e below (T.setTop g) target) ∨
    (∃ (q : Addr) (vm₁ : Vm) (B : Pt), s.WarmedH vm₁ ∧ Stand p l e R s m args below meth c B.U B.locs B.cells B.slots ∧ PostX ⟨T.setVm vm₁, locs, cells, slots⟩ argsL.toArray q B ∧
      Steps p.tables e below (T.setTop g) ((B.U.setTop { g with stack := rest }).pushFrame (.throwing q))) := by
  obtain ⟨mk, hnamed⟩ := Cond.code_named hcode
  obtain ⟨methM, cM, hmethM, -, -, -, -, -, -, hsigM⟩ := Cond.code_spec hnamed hcode
  have hstatic : methM.isStatic = true := Cond.static_spec hnamed hmethM hstat
  obtain ⟨kP, hkP, -⟩ := className_of_methodNamed hnamed
  have hinitP : kP.init = .initialized := Cond.initialized_spec (findClass_of_methodNamed hnamed) hkP hinit
  obtain ⟨vm₁, X₁, hstep₁⟩ := X.invokestatic hexec hown hlink hnamed hmethM hstatic hkP hinitP hy (g := g) hg (argsL := argsL) (rest := rest) (hlen _ hsigM) hstack hdg
  rcases hK m meth c ⟨T.setVm vm₁, locs, cells, slots⟩ { g with stack := rest } (.invokestatic index) mk argsL.toArray X₁ hg hsize hdg hW (X₁.named hnamed) (hpre vm₁ X₁.warmed) with ⟨v, B, X', hpost, hsteps⟩ | ⟨q, B, X', hpost, hsteps⟩
  · exact Or.inl ⟨v, vm₁, B, X₁.warmed, X', hpost, fun target h => hstep₁ _ fun acts => by rw [doInvoke_state]; exact hsteps.trans h⟩
  · exact Or.inr ⟨q, vm₁, B, X₁.warmed, X', hpost, hstep₁ _ fun acts => by rw [doInvoke_state]; exact hsteps⟩
end Calls
theorem vx_cls {s : State} {T : State} {vm₁ : Vm} {E : String} {k : ClassId} (hW : s.WarmedH vm₁) (h : (T.setVm vm₁).vm.findClass E = some k) : s.vm.findClass E = some k := by
  have h1 : vm₁.findClass E = some k := h
  rw [hW.alike.findClass] at h1
  exact h1
/-- the method's frame g, with q thrown over it -/
def vx_W (p : Program) (l : Launch) (e : Env) (R : Room) (s : State) (m : MethodId) (args : Array Value) (below : List Frame) (meth : Method) (c : Code) (H : Heap) (locs : List Loc) (cells slots : Nat) (Q : State → Prop) (g : JFrame) (q : Addr) : Prop :=
  ∀ T : State, T.heap = H → Stand p l e R s m args below meth c T locs cells slots → ∃ t, Steps p.tables e below ((T.setTop g).pushFrame (.throwing q)) t ∧ Q t
def vx_Run (p : Program) (l : Launch) (e : Env) (R : Room) (s : State) (m : MethodId) (args : Array Value) (below : List Frame) (meth : Method) (c : Code) (H : Heap) (locs : List Loc) (cells slots mc ms : Nat) (g : JFrame) (rest : List Value) (Qa : State → Outcome → State → Prop) (XC : String → State → State → Prop) (free : Addr → Prop) : Prop :=
  ∀ T : State, T.heap = H → Stand p l e R s m args below meth c T locs cells slots →
    (∃ (v : Option Value) (st₀ t T' : State) (L : List Loc), st₀.heap = H ∧ Stand p l e R s m args below meth c T' (locs ++ L) (cells + mc) (slots + ms) ∧ (∀ q ∈ L, free q.base) ∧ T'.heap = t.heap ∧ T'.vm = t.vm ∧ Qa st₀ (.returned v) t ∧
      Goes p e below T g T' { g with pc := g.pc + 3, stack := v.toList ++ rest }) ∨
    (∃ (q : Addr) (st₀ t T' : State) (L : List Loc) (E : String) (ce : Cell), st₀.heap = H ∧ Stand p l e R s m args below meth c T' (locs ++ L) (cells + mc) (slots + ms) ∧ (∀ z ∈ L, free z.base) ∧ T'.heap = t.heap ∧ T'.vm = t.vm ∧ XC E st₀ t ∧ t.heap[q]? = some ce ∧ ce.vm = .none ∧ s.vm.findClass E = some ce.cls ∧
      Steps p.tables e below (T.setTop g) ((T'.setTop { g with stack := rest }).pushFrame (.throwing q)))
def vx_X {S : Type} (px : S → Prop) (B : String → S → State → Prop) (A : Nat → Prop) : String → State → State → Prop := fun E st t => ∃ u : S, px u ∧ B E u t ∧ va_F A st t
section Runs
variable {p : Program} {l : Launch} {e : Env} {R : Room} {s : State} {m : MethodId} {args : Array Value} {below : List Frame} {meth : Method} {c : Code} {H : Heap} {locs : List Loc} {cells slots : Nat}
variable {y : MethodName} {bytes cc : ByteArray} {maxL nL mc ms n index : Nat} {ret : Option FieldType} {ws : List Cond} {rm : Room} {Pc : Array Value → State → Prop} {Qc : Array Value → State → Outcome → State → Prop} {XC : String → State → State → Prop} {free : Addr → Prop} {Ts : List Cond} {own C : String} {b : Addr} {As rest : List Value} {g : JFrame}
theorem vx_callBack (cb : CallB R s args own index y bytes maxL ret ws rm mc ms n) (hM : vx_Met l y ws rm Pc Qc XC mc ms free) (hbl : FrameBlind Pc) : vx_Back l R p e below s args y 3 8 (PreOf R mc ms Pc) (PostOf Qc mc ms free) (vx_Post XC mc ms free) := by
  obtain ⟨hrc, hrs, hfr, hlo, hws, hcw, -, hini, -⟩ := cb
  exact vx_back (bytes := bytes) (maxL := maxL) (ret := ret) hM hbl hrc hrs hfr hlo hws hcw (fun a' U hW => word_at hW (Or.inl (by first | rfl | simp [Cond.onTables, Cond.keeps, Cond.steady])) hini)
theorem vx_runV (S : CallFix p m c cc nL s args Ts own) (hM : vx_Met l y ws rm Pc Qc XC mc ms free) (cw : CallW R s args own C index y bytes maxL ret ws rm mc ms n) (hp : PreV s H C b Pc As)
    (hg : g.method = m) (hn : As.length = n) (hsize : g.locals.size = nL) (hstack : g.stack = As.reverse ++ .ref b :: rest) (hW : 2 * g.monitorRoom + (rest.map fun v => v.category).sum ≤ 8) (hdg : decode cc g.pc = .ok (.invokevirtual index, 3)) (hf : cells + mc ≤ R.cells ∧ slots + ms ≤ R.slots) :
    vx_Run p l e R s m args below meth c H locs cells slots mc ms g rest (Qc (Value.ref b :: As).toArray) XC free := by
  have hK : vx_Back l R p e below s args y 3 8 (PreOf R mc ms Pc) (PostOf Qc mc ms free) (vx_Post XC mc ms free) := vx_callBack cw.1 hM hp.1
  obtain ⟨⟨-, -, -, -, -, -, hcode, -, hy, hlen, hl⟩, hin, hse⟩ := cw
  obtain ⟨hx, hb, hml, ho, -⟩ := S
  obtain ⟨-, ⟨cellB, hcB, hoB, hclB⟩, hPc⟩ := hp
  intro T hT X
  rcases vx_callV X hx (C := C) (bytes := bytes) (maxL := maxL) (ret := ret) ho hl hin hse hcode hy hK (by rw [hT]; exact hcB) hoB hclB hg (hsize.trans hml.symm) (argsL := As) (rest := rest) (fun sig h => hn.trans (hlen sig h)) hstack hW (by rw [hb]; exact hdg)
    (fun vm₁ hW₁ => ⟨hf.1, hf.2, hPc (T.setVm vm₁) hT hW₁⟩) with ⟨v, vm₁, ⟨U', l2, c2, s2⟩, hW₁, X', ⟨g', mk, t, L, e1, e2, hq, h1, hL, h2, h3⟩, st⟩ | ⟨q, vm₁, ⟨U', l2, c2, s2⟩, hW₁, X', ⟨g', mk, t, L, E, ce, e1, e2, hq, hce, hcv, hcl, h1, hL, h2, h3⟩, st⟩
  · dsimp only [Pt.U, Pt.locs, Pt.cells, Pt.slots] at X' e1 e2 h1 h2 h3 st
    subst h1; subst h2; subst h3
    exact Or.inl ⟨v, (T.setVm vm₁).calling g' mk (Value.ref b :: As).toArray, t, U', L, hT, X', hL, e1, e2, hq, st⟩
  · dsimp only [Pt.U, Pt.locs, Pt.cells, Pt.slots] at X' e1 e2 h1 h2 h3 st hcl
    subst h1; subst h2; subst h3
    exact Or.inr ⟨q, (T.setVm vm₁).calling g' mk (Value.ref b :: As).toArray, t, U', L, E, ce, hT, X', hL, e1, e2, hq, hce, hcv, vx_cls hW₁ hcl, st⟩
theorem vx_runS (S : CallFix p m c cc nL s args Ts own) (hM : vx_Met l y ws rm Pc Qc XC mc ms free) (cw : CallB R s args own index y bytes maxL ret ws rm mc ms n ∧ (Cond.static y).before args s = true) (hp : PreS s H Pc As)
    (hg : g.method = m) (hn : As.length = n) (hsize : g.locals.size = nL) (hstack : g.stack = As.reverse ++ rest) (hW : 2 * g.monitorRoom + (rest.map fun v => v.category).sum ≤ 8) (hdg : decode cc g.pc = .ok (.invokestatic index, 3)) (hf : cells + mc ≤ R.cells ∧ slots + ms ≤ R.slots) :
    vx_Run p l e R s m args below meth c H locs cells slots mc ms g rest (Qc As.toArray) XC free := by
  have hK : vx_Back l R p e below s args y 3 8 (PreOf R mc ms Pc) (PostOf Qc mc ms free) (vx_Post XC mc ms free) := vx_callBack cw.1 hM hp.1
  obtain ⟨⟨-, -, -, -, -, -, hcode, hini, hy, hlen, hl⟩, hstt⟩ := cw
  obtain ⟨hx, hb, hml, ho, -⟩ := S
  intro T hT X
  rcases vx_callS X hx (bytes := bytes) (maxL := maxL) (ret := ret) ho hl hstt hini hcode hy hK hg (hsize.trans hml.symm) (argsL := As) (rest := rest) (fun sig h => hn.trans (hlen sig h)) hstack hW (by rw [hb]; exact hdg)
    (fun vm₁ hW₁ => ⟨hf.1, hf.2, hp.2 (T.setVm vm₁) hT hW₁⟩) with ⟨v, vm₁, ⟨U', l2, c2, s2⟩, hW₁, X', ⟨g', mk, t, L, e1, e2, hq, h1, hL, h2, h3⟩, st⟩ | ⟨q, vm₁, ⟨U', l2, c2, s2⟩, hW₁, X', ⟨g', mk, t, L, E, ce, e1, e2, hq, hce, hcv, hcl, h1, hL, h2, h3⟩, st⟩
  · dsimp only [Pt.U, Pt.locs, Pt.cells, Pt.slots] at X' e1 e2 h1 h2 h3 st
    subst h1; subst h2; subst h3
    exact Or.inl ⟨v, (T.setVm vm₁).calling g' mk As.toArray, t, U', L, hT, X', hL, e1, e2, hq, st⟩
  · dsimp only [Pt.U, Pt.locs, Pt.cells, Pt.slots] at X' e1 e2 h1 h2 h3 st hcl
    subst h1; subst h2; subst h3
    exact Or.inr ⟨q, (T.setVm vm₁).calling g' mk As.toArray, t, U', L, E, ce, hT, X', hL, e1, e2, hq, hce, hcv, vx_cls hW₁ hcl, st⟩
end Runs
section Rows
variable {p : Program} {l : Launch} {e : Env} {R : Room} {s : State} {m : MethodId} {args : Array Value} {below : List Frame} {meth : Method} {c : Code} {H : Heap} {locs : List Loc} {cells slots : Nat} {Q : State → Prop}
variable {mc ms : Nat} {free : Addr → Prop} {A0 A1 : Nat → Prop} {H0 : Heap} {a : Array Value} {pc : Nat} {ls : Array Slot} {st0 rest : List Value}
theorem vx_keep {st₀ t T' : State} {L : List Loc} (h0 : st₀.heap = H) (e1 : T'.heap = t.heap) (hS : va_S A0 H0 H locs) (hA : ∀ q, q < H.size → A1 q → A0 q) (hf : ∀ q, free q → A0 q) (hL : ∀ q ∈ L, free q.base) (hF : va_F A1 st₀ t) :
    H.size ≤ T'.heap.size ∧ (∀ q : Nat, q < H.size → ¬ A1 q → T'.heap[q]? = H[q]?) ∧ va_S A0 H0 T'.heap (locs ++ L) := by
  obtain ⟨hz, hk⟩ := hF
  rw [h0] at hz hk
  exact ⟨by rw [e1]; exact hz, fun q h1 h2 => by rw [e1]; exact hk q h1 h2,
    ⟨Nat.le_trans hS.1 (by rw [e1]; exact hz), fun q h1 h2 => by rw [e1, hk q (Nat.lt_of_lt_of_le h1 hS.1) (fun z => h2 (hA q (Nat.lt_of_lt_of_le h1 hS.1) z))]; exact hS.2.1 q h1 h2, fun q hq => by
      rcases List.mem_append.mp hq with h | h
      · exact hS.2.2 q h
      · exact hf _ (hL q h)⟩⟩
theorem vx_calli {S SX : Type} {post : Int32 → S → Prop} {px : SX → Prop} {B : S → State → Prop} {BX : String → SX → State → Prop} {AX : Nat → Prop} (hr : vx_Run p l e R s m args below meth c H locs cells slots mc ms (F0 m pc ls st0) rest (va_Qi post B A1 a) (vx_X px BX AX) free) (hS : va_S A0 H0 H locs) (hA : ∀ q, q < H.size → A1 q → A0 q) (hf : ∀ q, free q → A0 q) (hAX : ∀ q, q < H.size → AX q → A0 q)
    (kx : ∀ (E : String) (ce : Cell) (q9 : Addr) (u : SX) (t : State) (H1 : Heap) (locs1 : List Loc), t.heap = H1 → s.vm.Alike t.vm → px u → BX E u t → H.size ≤ H1.size → (∀ q : Nat, q < H.size → ¬ AX q → H1[q]? = H[q]?) → va_S A0 H0 H1 locs1 → H1[q9]? = some ce → ce.vm = .none → s.vm.findClass E = some ce.cls → vx_W p l e R s m args below meth c H1 locs1 (cells + mc) (slots + ms) Q (F0 m pc ls rest) q9)
    (kk : ∀ (r : Int32) (u : S) (t : State) (H1 : Heap) (locs1 : List Loc), t.heap = H1 → s.vm.Alike t.vm → post r u → B u t → H.size ≤ H1.size → (∀ q : Nat, q < H.size → ¬ A1 q → H1[q]? = H[q]?) → va_S A0 H0 H1 locs1 → W p l e R s m args below meth c H1 locs1 (cells + mc) (slots + ms) Q (F0 m (pc + 3) ls (.int r :: rest))) : W p l e R s m args below meth c H locs cells slots Q (F0 m pc ls st0) := by
  intro T hT X
  rcases hr T hT X with ⟨v, st₀, t, T', L, h0, X', hL, e1, e2, ⟨⟨r, u, hv, hp, hb⟩, hF⟩, st⟩ | ⟨q, st₀, t, T', L, E, ce, h0, X', hL, e1, e2, ⟨u, hp, hb, hF⟩, hce, hcv, hcl, st⟩
  · cases hv
    obtain ⟨k1, k2, k3⟩ := vx_keep h0 e1 hS hA hf hL hF
    obtain ⟨t2, a1, b1⟩ := kk r u t T'.heap (locs ++ L) e1.symm (by rw [← e2]; exact X'.warmed.alike) hp hb k1 k2 k3 T' rfl X'
    exact ⟨t2, st t2 a1, b1⟩
  · obtain ⟨k1, k2, k3⟩ := vx_keep h0 e1 hS hAX hf hL hF
    obtain ⟨t2, a1, b1⟩ := kx E ce q u t T'.heap (locs ++ L) e1.symm (by rw [← e2]; exact X'.warmed.alike) hp hb k1 k2 k3 (by rw [e1]; exact hce) hcv hcl T' rfl X'
    exact ⟨t2, st.trans a1, b1⟩
theorem vx_calll {S SX : Type} {post : Int64 → S → Prop} {px : SX → Prop} {B : S → State → Prop} {BX : String → SX → State → Prop} {AX : Nat → Prop} (hr : vx_Run p l e R s m args below meth c H locs cells slots mc ms (F0 m pc ls st0) rest (va_Ql post B A1 a) (vx_X px BX AX) free) (hS : va_S A0 H0 H locs) (hA : ∀ q, q < H.size → A1 q → A0 q) (hf : ∀ q, free q → A0 q) (hAX : ∀ q, q < H.size → AX q → A0 q)
    (kx : ∀ (E : String) (ce : Cell) (q9 : Addr) (u : SX) (t : State) (H1 : Heap) (locs1 : List Loc), t.heap = H1 → s.vm.Alike t.vm → px u → BX E u t → H.size ≤ H1.size → (∀ q : Nat, q < H.size → ¬ AX q → H1[q]? = H[q]?) → va_S A0 H0 H1 locs1 → H1[q9]? = some ce → ce.vm = .none → s.vm.findClass E = some ce.cls → vx_W p l e R s m args below meth c H1 locs1 (cells + mc) (slots + ms) Q (F0 m pc ls rest) q9)
    (kk : ∀ (r : Int64) (u : S) (t : State) (H1 : Heap) (locs1 : List Loc), t.heap = H1 → s.vm.Alike t.vm → post r u → B u t → H.size ≤ H1.size → (∀ q : Nat, q < H.size → ¬ A1 q → H1[q]? = H[q]?) → va_S A0 H0 H1 locs1 → W p l e R s m args below meth c H1 locs1 (cells + mc) (slots + ms) Q (F0 m (pc + 3) ls (.long r :: rest))) : W p l e R s m args below meth c H locs cells slots Q (F0 m pc ls st0) := by
  intro T hT X
  rcases hr T hT X with ⟨v, st₀, t, T', L, h0, X', hL, e1, e2, ⟨⟨r, u, hv, hp, hb⟩, hF⟩, st⟩ | ⟨q, st₀, t, T', L, E, ce, h0, X', hL, e1, e2, ⟨u, hp, hb, hF⟩, hce, hcv, hcl, st⟩
  · cases hv
    obtain ⟨k1, k2, k3⟩ := vx_keep h0 e1 hS hA hf hL hF
    obtain ⟨t2, a1, b1⟩ := kk r u t T'.heap (locs ++ L) e1.symm (by rw [← e2]; exact X'.warmed.alike) hp hb k1 k2 k3 T' rfl X'
    exact ⟨t2, st t2 a1, b1⟩
  · obtain ⟨k1, k2, k3⟩ := vx_keep h0 e1 hS hAX hf hL hF
    obtain ⟨t2, a1, b1⟩ := kx E ce q u t T'.heap (locs ++ L) e1.symm (by rw [← e2]; exact X'.warmed.alike) hp hb k1 k2 k3 (by rw [e1]; exact hce) hcv hcl T' rfl X'
    exact ⟨t2, st.trans a1, b1⟩
theorem vx_callf {S SX : Type} {post : UInt32 → S → Prop} {px : SX → Prop} {B : S → State → Prop} {BX : String → SX → State → Prop} {AX : Nat → Prop} (hr : vx_Run p l e R s m args below meth c H locs cells slots mc ms (F0 m pc ls st0) rest (va_Qf post B A1 a) (vx_X px BX AX) free) (hS : va_S A0 H0 H locs) (hA : ∀ q, q < H.size → A1 q → A0 q) (hf : ∀ q, free q → A0 q) (hAX : ∀ q, q < H.size → AX q → A0 q)
    (kx : ∀ (E : String) (ce : Cell) (q9 : Addr) (u : SX) (t : State) (H1 : Heap) (locs1 : List Loc), t.heap = H1 → s.vm.Alike t.vm → px u → BX E u t → H.size ≤ H1.size → (∀ q : Nat, q < H.size → ¬ AX q → H1[q]? = H[q]?) → va_S A0 H0 H1 locs1 → H1[q9]? = some ce → ce.vm = .none → s.vm.findClass E = some ce.cls → vx_W p l e R s m args below meth c H1 locs1 (cells + mc) (slots + ms) Q (F0 m pc ls rest) q9)
    (kk : ∀ (r : UInt32) (u : S) (t : State) (H1 : Heap) (locs1 : List Loc), t.heap = H1 → s.vm.Alike t.vm → post r u → B u t → H.size ≤ H1.size → (∀ q : Nat, q < H.size → ¬ A1 q → H1[q]? = H[q]?) → va_S A0 H0 H1 locs1 → W p l e R s m args below meth c H1 locs1 (cells + mc) (slots + ms) Q (F0 m (pc + 3) ls (.float r :: rest))) : W p l e R s m args below meth c H locs cells slots Q (F0 m pc ls st0) := by
  intro T hT X
  rcases hr T hT X with ⟨v, st₀, t, T', L, h0, X', hL, e1, e2, ⟨⟨r, u, hv, hp, hb⟩, hF⟩, st⟩ | ⟨q, st₀, t, T', L, E, ce, h0, X', hL, e1, e2, ⟨u, hp, hb, hF⟩, hce, hcv, hcl, st⟩
  · cases hv
    obtain ⟨k1, k2, k3⟩ := vx_keep h0 e1 hS hA hf hL hF
    obtain ⟨t2, a1, b1⟩ := kk r u t T'.heap (locs ++ L) e1.symm (by rw [← e2]; exact X'.warmed.alike) hp hb k1 k2 k3 T' rfl X'
    exact ⟨t2, st t2 a1, b1⟩
  · obtain ⟨k1, k2, k3⟩ := vx_keep h0 e1 hS hAX hf hL hF
    obtain ⟨t2, a1, b1⟩ := kx E ce q u t T'.heap (locs ++ L) e1.symm (by rw [← e2]; exact X'.warmed.alike) hp hb k1 k2 k3 (by rw [e1]; exact hce) hcv hcl T' rfl X'
    exact ⟨t2, st.trans a1, b1⟩
theorem vx_calld {S SX : Type} {post : UInt64 → S → Prop} {px : SX → Prop} {B : S → State → Prop} {BX : String → SX → State → Prop} {AX : Nat → Prop} (hr : vx_Run p l e R s m args below meth c H locs cells slots mc ms (F0 m pc ls st0) rest (va_Qd post B A1 a) (vx_X px BX AX) free) (hS : va_S A0 H0 H locs) (hA : ∀ q, q < H.size → A1 q → A0 q) (hf : ∀ q, free q → A0 q) (hAX : ∀ q, q < H.size → AX q → A0 q)
    (kx : ∀ (E : String) (ce : Cell) (q9 : Addr) (u : SX) (t : State) (H1 : Heap) (locs1 : List Loc), t.heap = H1 → s.vm.Alike t.vm → px u → BX E u t → H.size ≤ H1.size → (∀ q : Nat, q < H.size → ¬ AX q → H1[q]? = H[q]?) → va_S A0 H0 H1 locs1 → H1[q9]? = some ce → ce.vm = .none → s.vm.findClass E = some ce.cls → vx_W p l e R s m args below meth c H1 locs1 (cells + mc) (slots + ms) Q (F0 m pc ls rest) q9)
    (kk : ∀ (r : UInt64) (u : S) (t : State) (H1 : Heap) (locs1 : List Loc), t.heap = H1 → s.vm.Alike t.vm → post r u → B u t → H.size ≤ H1.size → (∀ q : Nat, q < H.size → ¬ A1 q → H1[q]? = H[q]?) → va_S A0 H0 H1 locs1 → W p l e R s m args below meth c H1 locs1 (cells + mc) (slots + ms) Q (F0 m (pc + 3) ls (.double r :: rest))) : W p l e R s m args below meth c H locs cells slots Q (F0 m pc ls st0) := by
  intro T hT X
  rcases hr T hT X with ⟨v, st₀, t, T', L, h0, X', hL, e1, e2, ⟨⟨r, u, hv, hp, hb⟩, hF⟩, st⟩ | ⟨q, st₀, t, T', L, E, ce, h0, X', hL, e1, e2, ⟨u, hp, hb, hF⟩, hce, hcv, hcl, st⟩
  · cases hv
    obtain ⟨k1, k2, k3⟩ := vx_keep h0 e1 hS hA hf hL hF
    obtain ⟨t2, a1, b1⟩ := kk r u t T'.heap (locs ++ L) e1.symm (by rw [← e2]; exact X'.warmed.alike) hp hb k1 k2 k3 T' rfl X'
    exact ⟨t2, st t2 a1, b1⟩
  · obtain ⟨k1, k2, k3⟩ := vx_keep h0 e1 hS hAX hf hL hF
    obtain ⟨t2, a1, b1⟩ := kx E ce q u t T'.heap (locs ++ L) e1.symm (by rw [← e2]; exact X'.warmed.alike) hp hb k1 k2 k3 (by rw [e1]; exact hce) hcv hcl T' rfl X'
    exact ⟨t2, st.trans a1, b1⟩
theorem vx_callv {S SX : Type} {post : S → Prop} {px : SX → Prop} {B : S → State → Prop} {BX : String → SX → State → Prop} {AX : Nat → Prop} (hr : vx_Run p l e R s m args below meth c H locs cells slots mc ms (F0 m pc ls st0) rest (va_Qv post B A1 a) (vx_X px BX AX) free) (hS : va_S A0 H0 H locs) (hA : ∀ q, q < H.size → A1 q → A0 q) (hf : ∀ q, free q → A0 q) (hAX : ∀ q, q < H.size → AX q → A0 q)
    (kx : ∀ (E : String) (ce : Cell) (q9 : Addr) (u : SX) (t : State) (H1 : Heap) (locs1 : List Loc), t.heap = H1 → s.vm.Alike t.vm → px u → BX E u t → H.size ≤ H1.size → (∀ q : Nat, q < H.size → ¬ AX q → H1[q]? = H[q]?) → va_S A0 H0 H1 locs1 → H1[q9]? = some ce → ce.vm = .none → s.vm.findClass E = some ce.cls → vx_W p l e R s m args below meth c H1 locs1 (cells + mc) (slots + ms) Q (F0 m pc ls rest) q9)
    (kk : ∀ (u : S) (t : State) (H1 : Heap) (locs1 : List Loc), t.heap = H1 → s.vm.Alike t.vm → post u → B u t → H.size ≤ H1.size → (∀ q : Nat, q < H.size → ¬ A1 q → H1[q]? = H[q]?) → va_S A0 H0 H1 locs1 → W p l e R s m args below meth c H1 locs1 (cells + mc) (slots + ms) Q (F0 m (pc + 3) ls (rest))) : W p l e R s m args below meth c H locs cells slots Q (F0 m pc ls st0) := by
  intro T hT X
  rcases hr T hT X with ⟨v, st₀, t, T', L, h0, X', hL, e1, e2, ⟨⟨u, hv, hp, hb⟩, hF⟩, st⟩ | ⟨q, st₀, t, T', L, E, ce, h0, X', hL, e1, e2, ⟨u, hp, hb, hF⟩, hce, hcv, hcl, st⟩
  · cases hv
    obtain ⟨k1, k2, k3⟩ := vx_keep h0 e1 hS hA hf hL hF
    obtain ⟨t2, a1, b1⟩ := kk u t T'.heap (locs ++ L) e1.symm (by rw [← e2]; exact X'.warmed.alike) hp hb k1 k2 k3 T' rfl X'
    exact ⟨t2, st t2 a1, b1⟩
  · obtain ⟨k1, k2, k3⟩ := vx_keep h0 e1 hS hAX hf hL hF
    obtain ⟨t2, a1, b1⟩ := kx E ce q u t T'.heap (locs ++ L) e1.symm (by rw [← e2]; exact X'.warmed.alike) hp hb k1 k2 k3 (by rw [e1]; exact hce) hcv hcl T' rfl X'
    exact ⟨t2, st.trans a1, b1⟩
/-- caught by the row x of this method's table; the rows ahead don't take it -/
theorem vx_catch {own name : String} {E : String} {ce : Cell} {q : Addr} (hown : s.vm.findClass own = some m.cls) (pre : List ExceptionTableEntry) (x : ExceptionTableEntry) (suf : List ExceptionTableEntry) (hsplit : c.exceptionTable.toList = pre ++ x :: suf)
    (hpass : ∀ z ∈ pre, covers z pc = false ∨ (z.catchType ≠ 0 ∧ ∃ nm : String, (Cond.classLink own z.catchType nm).before args s = true ∧ va_Nc E nm s)) (hx : covers x pc = true) (h0 : x.catchType ≠ 0)
    (hlink : (Cond.classLink own x.catchType name).before args s = true) (hcast : (Cond.castable E name).before args s = true) (hcell : H[q]? = some ce) (hv : ce.vm = .none) (hcl : s.vm.findClass E = some ce.cls)
    (kk : W p l e R s m args below meth c H locs cells slots Q (F0 m x.handlerPc ls [.ref q])) : vx_W p l e R s m args below meth c H locs cells slots Q (F0 m pc ls rest) q := by
  intro T hT X
  have hpl : e.platform.magicAccessors = ({} : Platform).magicAccessors := by rw [X.admits.platform]
  obtain ⟨c3, c4, hc3, hc4, hasg⟩ := Cond.castable_spec hcast
  cases Option.some.inj (hc3.symm.trans hcl)
  obtain ⟨c5, hc5, hcl5⟩ := Cond.classLink_spec hown hlink e.platform hpl
  cases Option.some.inj (hc4.symm.trans hc5)
  obtain ⟨vm', X', st⟩ := X.thenCaughtThrough q (g := F0 m pc ls rest) rfl (Steps.refl _) (by rw [hT]; exact hcell) (by rw [hv]; rfl) (by obtain ⟨k9, h9, -⟩ := Vm.findClass_spec hcl; exact ⟨k9, h9⟩) pre x suf hsplit
    (fun z hz => by
      rcases hpass z hz with h | ⟨hz0, nm, hl1, hn1⟩
      · exact Or.inl h
      · obtain ⟨c6, hc6, hcl6⟩ := Cond.classLink_spec hown hl1 e.platform hpl
        obtain ⟨a8, b8, h1, h2, h3⟩ := hn1
        cases Option.some.inj (h1.symm.trans hcl)
        cases Option.some.inj (h2.symm.trans hc6)
        exact Or.inr ⟨hz0, _, hcl6, h3⟩) hx (Or.inr ⟨h0, c4, hcl5, hasg⟩)
  obtain ⟨t, a1, b1⟩ := kk (T.setVm vm') hT X'
  exact ⟨t, st.trans a1, b1⟩
end Rows
section Ends
variable {p : Program} {l : Launch} {e : Env} {R : Room} {s : State} {m : MethodId} {args : Array Value} {below : List Frame} {meth : Method} {c : Code} {H : Heap} {locs : List Loc} {cells slots : Nat} {Q : State → Prop}
variable {mc ms : Nat} {free : Addr → Prop} {A0 A1 : Nat → Prop} {H0 : Heap} {a : Array Value} {ls : Array Slot} {st0 rest : List Value}
variable {Qc : Array Value → State → Outcome → State → Prop} {XC : String → State → State → Prop}
/-- what a body that may throw owes at its end -/
def vx_MQ (below : List Frame) (Qc : Array Value → State → Outcome → State → Prop) (XC : String → State → State → Prop) (a : Array Value) (s : State) (mc ms : Nat) (free : Addr → Prop) : State → Prop := fun t =>
  ∃ o, t.status = .running ∧ Ended t below o ∧ vx_Q Qc XC mc ms free a s o t
theorem vx_ret {g : JFrame} {mc ms : Nat} (k : W p l e R s m args below meth c H locs cells slots (MQ below Qc args s mc ms free) g) : W p l e R s m args below meth c H locs cells slots (vx_MQ below Qc XC args s mc ms free) g := by
  intro T hT X
  obtain ⟨t, a1, o, b1, b2, b3, b4⟩ := k T hT X
  exact ⟨t, a1, o, b1, b2, Or.inl ⟨b3, b4⟩⟩
/-- not caught here: it goes on to the caller -/
theorem vx_widen {g : JFrame} {q : Addr} {k n : Nat} (h1 : cells ≤ k) (h2 : slots ≤ n) (kk : vx_W p l e R s m args below meth c H locs k n Q g q) : vx_W p l e R s m args below meth c H locs cells slots Q g q := fun T hT X => kk T hT (stand_widen X h1 h2)
theorem vx_out {pc : Nat} {E : String} {ce : Cell} {q : Addr} {mc ms : Nat} (hout : ∀ x ∈ c.exceptionTable.toList, covers x pc = false) (hlocks : meth.locks = false) (hcell : H[q]? = some ce) (hv : ce.vm = .none) (hcl : s.vm.findClass E = some ce.cls)
    (hx : ∀ t : State, t.heap = H → s.vm.Alike t.vm → XC E s t) (hf : ∀ z ∈ locs, free z.base) (hc : cells ≤ mc) (hs : slots ≤ ms) :
    vx_W p l e R s m args below meth c H locs cells slots (vx_MQ below Qc XC args s mc ms free) (F0 m pc ls rest) q := by
  intro T hT X
  obtain ⟨st1, hrun, hend, hW, hsm⟩ := X.leaveThrown q (g := F0 m pc ls rest) rfl rfl rfl hout hlocks
  have hcell9 : (T.setFrames (.throwing q :: below)).heap[q]? = some ce := by
    show T.heap[q]? = some ce
    rw [hT]; exact hcell
  exact ⟨_, st1, .threw q, hrun, hend, Or.inr ⟨q, rfl, E, ce, locs, hx _ hT hW.alike, hcell9, hv, hcl, hW, hsm.mono hc hs, hf⟩⟩
theorem vx_frame {U : State} {k n : Nat} (h : s.sameButNew ({ U with vm := s.vm } : State) locs k n) : s.heap.size ≤ U.heap.size ∧ ∀ q : Nat, q < s.heap.size → (∀ z ∈ locs, z.base ≠ q) → U.heap[q]? = s.heap[q]? := by
  obtain ⟨-, h2, -, -, -, h6⟩ := h
  refine ⟨h2, fun q hq hz => ?_⟩
  obtain ⟨c9, e1, e2, e3, e4⟩ := h6 q _ (Array.getElem?_eq_getElem hq)
  have hs : c9.slots = (s.heap[q]).slots := Array.ext_getElem? fun i => e4 i fun hm => hz _ hm rfl
  have h9 : c9 = s.heap[q] := by
    rw [hs] at e2
    exact e2
  have e5 : U.heap[q]? = some c9 := e1
  rw [e5, h9, Array.getElem?_eq_getElem hq]
/-- the words of a throw but the four that speak of the heap -/
def vx_no (w : Cond) : Bool := decide (w ≠ .isRef (.static Bundle.tN "UNASSIGNED_STACK" Bundle.steD)) && decide (w ≠ .isRef (.static Bundle.tN "SUPPRESSED_SENTINEL" Bundle.listD)) && decide (w ≠ .laysStatic Bundle.tN "UNASSIGNED_STACK" Bundle.steD) && decide (w ≠ .laysStatic Bundle.tN "SUPPRESSED_SENTINEL" Bundle.listD)
def vx_at0 (own : String) (ic : Nat) (X : String) (names : List String) : List Cond := (Bundle.ownAtoms0 own ic X names).filter vx_no
def vx_atS (own : String) (ic : Nat) (X : String) (names : List String) : List Cond := (Bundle.ownAtoms own ic X names).filter vx_no
/-- a word that the tables alone decide, or a good one -/
def vx_ot (w : Cond) : Bool := w.onTables || goodWord w
theorem vx_ot_at {args a' : Array Value} {s U : State} {w : Cond} (hW : s.WarmedH U.vm) (hvm : s.vm = U.vm) (hg : vx_ot w = true) (h : w.before args s = true) : w.before a' U = true := by
  simp only [vx_ot, Bool.or_eq_true] at hg
  rcases hg with hg | hg
  · exact va_tabs hg hvm h
  · exact word_at hW (good_of_word hg) h
/-- a list's words: the good ones out of the method's own list, the others by premises of their own -/
theorem vx_hat {args : Array Value} {s : State} {L B : List Cond} (h1 : ∀ w ∈ L.filter goodWord, w.before args s = true) (h2 : ∀ w ∈ L.filter (fun w => !goodWord w), w ∈ B) (h3 : ∀ w ∈ B, w.before args s = true) : ∀ w ∈ L, w.before args s = true := by
  intro w hw
  by_cases g : goodWord w = true
  · exact h1 w (List.mem_filter.mpr ⟨hw, g⟩)
  · refine h3 w (h2 w (List.mem_filter.mpr ⟨hw, ?_⟩))
    show (!goodWord w) = true
    cases hgw : goodWord w
    · rfl
    · exact absurd hgw g
theorem vx_c {args : Array Value} {s : State} {w : Cond} {B : List Cond} (h : w.before args s = true) (t : ∀ w ∈ B, w.before args s = true) : ∀ w' ∈ w :: B, w'.before args s = true := fun w' h' => (List.mem_cons.mp h').elim (fun e => by rw [e]; exact h) (t w')
theorem vx_n {args : Array Value} {s : State} : ∀ w ∈ ([] : List Cond), w.before args s = true := fun _ h => nomatch h
theorem vx_own {args : Array Value} {s : State} {L : List Cond} (h1 : ∀ w ∈ L.filter vx_no, w.before args s = true)
    (hU : (Cond.isRef (.static Bundle.tN "UNASSIGNED_STACK" Bundle.steD)).before args s = true) (hN : (Cond.isRef (.static Bundle.tN "SUPPRESSED_SENTINEL" Bundle.listD)).before args s = true)
    (lU : (Cond.laysStatic Bundle.tN "UNASSIGNED_STACK" Bundle.steD).before args s = true) (lN : (Cond.laysStatic Bundle.tN "SUPPRESSED_SENTINEL" Bundle.listD).before args s = true) : ∀ w ∈ L, w.before args s = true := by
  intro w hw
  by_cases e1 : w = .isRef (.static Bundle.tN "UNASSIGNED_STACK" Bundle.steD)
  · rw [e1]; exact hU
  · by_cases e2 : w = .isRef (.static Bundle.tN "SUPPRESSED_SENTINEL" Bundle.listD)
    · rw [e2]; exact hN
    · by_cases e3 : w = .laysStatic Bundle.tN "UNASSIGNED_STACK" Bundle.steD
      · rw [e3]; exact lU
      · by_cases e4 : w = .laysStatic Bundle.tN "SUPPRESSED_SENTINEL" Bundle.listD
        · rw [e4]; exact lN
        · exact h1 w (List.mem_filter.mpr ⟨hw, by unfold vx_no; rw [decide_eq_true e1, decide_eq_true e2, decide_eq_true e3, decide_eq_true e4]; rfl⟩)
/-- where a static field lies, its class's statics cell in H -/
def vx_L (C n d : String) (A : Nat → Prop) (U : State) (H : Heap) : Prop := ∃ (c : ClassId) (k : Class) (i : Nat) (f : Field) (a : Nat) (cell : Cell), U.vm.findClass C = some c ∧ U.fieldFound? C n d = some (c, k, i, f) ∧ f.isStatic = true ∧ k.statics = some a ∧ H[a]? = some cell ∧ cell.vm.isStatics = true ∧ cell.cls = c ∧ f.slot < cell.slots.size ∧ k.staticTypes[f.slot]? = some f.type ∧ ¬ A a
theorem vx_L.moved {C n d : String} {A : Nat → Prop} {u U : State} {H : Heap} (hvm : u.vm.Alike U.vm) (h : vx_L C n d A u H) : vx_L C n d A U H := by
  obtain ⟨c, k, i, f, a, cell, h1, h2, h3, h4, h5, h6, h7, h8, h9, h10⟩ := h
  obtain ⟨k', hi', he⟩ := State.fieldFound?_setVm hvm h2
  exact ⟨c, k', i, f, a, cell, by rw [hvm.findClass]; exact h1, hi', h3, by rw [he]; exact h4, h5, h6, h7, h8, by rw [he]; exact h9, h10⟩
theorem vx_L.kept {C n d : String} {A : Nat → Prop} {U : State} {H H1 : Heap} (h : vx_L C n d A U H) (hq : ∀ a : Nat, a < H.size → ¬ A a → H1[a]? = H[a]?) : vx_L C n d A U H1 := by
  obtain ⟨c, k, i, f, a, cell, h1, h2, h3, h4, h5, h6, h7, h8, h9, h10⟩ := h
  exact ⟨c, k, i, f, a, cell, h1, h2, h3, h4, by rw [hq a (Array.getElem?_eq_some_iff.mp h5).1 h10]; exact h5, h6, h7, h8, h9, h10⟩
theorem vx_L.narrow {C n d : String} {A B : Nat → Prop} {U : State} {H : Heap} (h : vx_L C n d A U H) (hAB : ∀ q, B q → A q) : vx_L C n d B U H := by
  obtain ⟨c, k, i, f, a, cell, h1, h2, h3, h4, h5, h6, h7, h8, h9, h10⟩ := h
  exact ⟨c, k, i, f, a, cell, h1, h2, h3, h4, h5, h6, h7, h8, h9, fun z => h10 (hAB _ z)⟩
theorem vx_L.word {C n d : String} {A : Nat → Prop} {s : State} {args : Array Value} (h : vx_L C n d A s s.heap) : (Cond.laysStatic C n d).before args s = true := by
  obtain ⟨c, k, i, f, a, cell, h1, h2, h3, h4, h5, h6, h7, h8, h9, -⟩ := h
  show (Cond.laysStatic C n d).holds args s none s [] = true
  exact Cond.laysStatic_of h1 h2 h3 h4 h5 h6 h7 h8 h9
/-- .. and what it holds: null or some reference -/
def vx_Zq (C n d : String) (A : Nat → Prop) (U : State) (H : Heap) : Prop := va_Zq C n d A U H ∧ vx_L C n d A U H
theorem vx_Zq.moved {C n d : String} {A : Nat → Prop} {u U : State} {H : Heap} (hvm : u.vm.Alike U.vm) (h : vx_Zq C n d A u H) : vx_Zq C n d A U H := ⟨va_Zq.moved hvm h.1, vx_L.moved hvm h.2⟩
theorem vx_Zq.kept {C n d : String} {A : Nat → Prop} {U : State} {H H1 : Heap} (h : vx_Zq C n d A U H) (hq : ∀ a : Nat, a < H.size → ¬ A a → H1[a]? = H[a]?) : vx_Zq C n d A U H1 := ⟨va_Zq.kept h.1 hq, vx_L.kept h.2 hq⟩
theorem vx_Zq.narrow {C n d : String} {A B : Nat → Prop} {U : State} {H : Heap} (h : vx_Zq C n d A U H) (hAB : ∀ q, B q → A q) : vx_Zq C n d B U H := ⟨va_Zq.narrow h.1 hAB, vx_L.narrow h.2 hAB⟩
theorem vx_Zqof {args : Array Value} {s : State} {C n d : String} {A : Nat → Prop} (hl : (Cond.laysStatic C n d).before args s = true) (hini : (Cond.initialized C).before args s = true) (h : (Cond.isRef (.static C n d)).before args s = true) (hA : ∀ a : Nat, a < s.heap.size → ¬ A a) : vx_Zq C n d A s s.heap := by
  refine ⟨va_Zqof hl hini h hA, ?_⟩
  obtain ⟨c, k, i, f, a, cell, h1, h2, h3, h4, h5, h6, h7, h8, h9⟩ := Cond.laysStatic_spec hl
  exact ⟨c, k, i, f, a, cell, h1, h2, h3, h4, h5, h6, h7, h8, h9, hA a (Array.getElem?_eq_some_iff.mp h5).1⟩
theorem vx_isRef {C n d : String} {v : Value} {A : Nat → Prop} {s : State} {args : Array Value} (h : va_Z C n d v A s s.heap) (hv : v.isRef = true) : (Cond.isRef (.static C n d)).before args s = true := by
  obtain ⟨cf, kf, fi, f, a, cell, h1, h2, h3, h4, h5, h6, h7, -⟩ := h
  have he : (Term.static C n d).eval args s none [] s = some v := by
    simp [Term.eval, State.fieldNamed?, h1, h2, h4, h5, h6, h7]
  simp only [Cond.before, Cond.holds, Cond.value, he]
  cases v <;> simp_all [Value.isRef]
theorem vx_isRefq {C n d : String} {A : Nat → Prop} {s : State} {args : Array Value} (h : va_Zq C n d A s s.heap) : (Cond.isRef (.static C n d)).before args s = true := by
  rcases h with h | ⟨t, h⟩
  · exact vx_isRef h rfl
  · exact vx_isRef h rfl
/-- the same frame, seen from here: as if the method were called anew in this heap -/
theorem vx_rebase {T : State} (X : Stand p l e R s m args below meth c T locs cells slots) {R' : Room} (hf : R'.frames ≤ R.frames) (hl : R'.locals ≤ R.locals) (hc : cells + R'.cells ≤ R.cells) (hs : slots + R'.slots ≤ R.slots) :
    Stand p l e R' ((T.setVm s.vm).setFrames (.invoking m args :: below)) m args below meth c T [] 0 0 := by
  have htop : (T.setVm s.vm).topJava?.isSome := X.here.top
  have hF : ((T.setVm s.vm).setFrames (.invoking m args :: below)).frames = .invoking m args :: below := State.frames_setFrames _ (State.cur_lt_of_top htop)
  obtain ⟨g₀, hg0⟩ := Option.isSome_iff_exists.mp htop
  obtain ⟨r, hr⟩ := State.topJava?_eq_some.mp hg0
  have hl9 : e.platform.stackLimits (T.setVm s.vm).me = e.platform.stackLimits s.me := X.limits
  have hb9 : (T.setVm s.vm).me.stackBytes = s.me.stackBytes := X.bytes
  refine ⟨X.admits, X.cas, X.clock, hF, ?_, X.hears, X.method, X.code, X.here, X.tail, X.warmed, ?_, ?_, ?_⟩
  · have h := X.room
    have hU : ((T.setVm s.vm).setFrames (.invoking m args :: below)).localsInUse = s.localsInUse := by
      rw [State.localsInUse_invoking hF (meth := meth) (c := c) X.method X.code, State.localsInUse_invoking X.frames X.method X.code]
    simp only [State.hasRoom, Bool.and_eq_true, decide_eq_true_eq] at h ⊢
    obtain ⟨⟨⟨⟨h1, h2, h3, h4, h5, h6⟩, h7⟩, h8⟩, h9⟩ := h
    rw [X.frames, List.length_cons] at h2 h3
    have q1 := X.heapSize
    have q2 := X.used
    simp only [hF, hU, List.length_cons, State.stackLimits_setFrames, State.stackBytes_setFrames, hl9, hb9]
    refine ⟨⟨⟨⟨by omega, by omega, by omega, by omega, by omega, h6⟩, ?_⟩, ?_⟩, X.book⟩
    · show T.heap.size + R'.cells ≤ e.platform.maxCells
      omega
    · show T.slotsUsed + R'.slots ≤ e.platform.maxSlots
      omega
  · rw [State.stackLimits_setFrames]; rfl
  · rw [State.stackBytes_setFrames]; rfl
  · refine ⟨?_, Nat.le_refl _, Nat.le_refl _, ?_, ?_, fun a c9 h9 => ⟨c9, h9, rfl, rfl, fun _ _ => rfl⟩⟩
    · obtain ⟨t, ht, -⟩ := State.frames_cons hr
      show T.setVm s.vm = { ((T.setVm s.vm).setFrames (.invoking m args :: below)).setFrames (T.setVm s.vm).frames with heap := T.heap, slotsUsed := T.slotsUsed }
      rw [State.setFrames_setFrames, State.setFrames_self ht]
      rfl
    · show T.slotsUsed = T.slotsUsed + ((T.heap.toList.drop T.heap.size).map (·.slots.size)).sum
      rw [List.drop_eq_nil_of_le (Nat.le_of_eq Array.length_toList)]
      rfl
    · show ((T.heap.toList.drop T.heap.size).map (·.slots.size)).sum ≤ 0
      rw [List.drop_eq_nil_of_le (Nat.le_of_eq Array.length_toList)]
      exact Nat.le_refl _
/-- 'throw new E()': new; dup; invokespecial; athrow -/
theorem vx_throw0 {cc : ByteArray} {pc : Nat} (hexec : p.tables.exec = Jvm.exec) (hb : c.code = cc) (hl : l.stackTraces = false) {own cls : String} {names : List String} {ik ic mc ms : Nat} {A : Nat → Prop}
    (hown : s.vm.findClass own = some m.cls) (hcls : Bundle.fit cls = true) (hnames : ∀ n ∈ names, Bundle.fit n = true)
    (hk : (Cond.classLink own ik cls).before args s = true) (hini : (Cond.initialized cls).before args s = true) (hat : ∀ w ∈ vx_at0 own ic cls names, w.before args s = true)
    (hgood : ∀ w ∈ Cond.classLink own ik cls :: Cond.initialized cls :: vx_at0 own ic cls names, vx_ot w = true)
    (hU : vx_Zq Bundle.tN "UNASSIGNED_STACK" Bundle.steD A s s.heap) (hN : vx_Zq Bundle.tN "SUPPRESSED_SENTINEL" Bundle.listD A s s.heap) (hS : va_S A s.heap H locs) (hsize : ls.size = c.maxLocals)
    (d0 : decode cc pc = .ok (.new ik, 3)) (d3 : decode cc (pc + 3) = .ok (.dup, 1)) (d4 : decode cc (pc + 4) = .ok (.invokespecial ic, 3)) (d7 : decode cc (pc + 7) = .ok (.athrow, 1))
    (hout : ∀ x ∈ c.exceptionTable.toList, covers x (pc + 7) = false)
    (hRframes : names.length + 3 < R.frames) (hRlocals : (rest.map fun v => v.category).sum + (13 * (names.length + 1) + 42) ≤ R.locals) (hRcells : cells + 1 ≤ R.cells) (hRslots : slots + 6 ≤ R.slots) (hlocks : meth.locks = false)
    (hx : ∀ t : State, s.vm.Alike t.vm → H.size ≤ t.heap.size → (∀ q : Nat, q < H.size → t.heap[q]? = H[q]?) → XC cls s t)
    (hf : ∀ z ∈ locs, free z.base) (hc : cells + 1 ≤ mc) (hs : slots + 6 ≤ ms) :
    W p l e R s m args below meth c H locs cells slots (vx_MQ below Qc XC args s mc ms free) (F0 m pc ls rest) := by
  intro T hT X
  have htr : e.platform.stackTraces = false := (show e.platform.stackTraces = l.stackTraces by rw [X.admits.platform]).trans hl
  have Y := vx_rebase X (R' := { frames := R.frames, locals := R.locals, cells := 1, slots := 6 }) (Nat.le_refl _) (Nat.le_refl _) hRcells hRslots
  obtain ⟨s', hA⟩ : ∃ z, z = (T.setVm s.vm).setFrames (.invoking m args :: below) := ⟨_, rfl⟩
  rw [← hA] at Y
  have hvm : s'.vm = s.vm := by rw [hA]; rfl
  have hhp : s'.heap = H := by rw [hA]; exact hT
  have hW0 : s.WarmedH s'.vm := by rw [hvm]; exact State.WarmedH.refl s
  have hat' : ∀ w ∈ vx_at0 own ic cls names, w.before args s' = true := fun w hw => vx_ot_at hW0 hvm.symm (hgood w (List.mem_cons_of_mem _ (List.mem_cons_of_mem _ hw))) (hat w hw)
  have hk' : (Cond.classLink own ik cls).before args s' = true := vx_ot_at hW0 hvm.symm (hgood _ List.mem_cons_self) hk
  have hini' : (Cond.initialized cls).before args s' = true := vx_ot_at hW0 hvm.symm (hgood _ (List.mem_cons_of_mem _ List.mem_cons_self)) hini
  have hU' : vx_Zq Bundle.tN "UNASSIGNED_STACK" Bundle.steD A s' s'.heap := by rw [hhp]; exact vx_Zq.moved hW0.alike (hU.kept hS.2.1)
  have hN' : vx_Zq Bundle.tN "SUPPRESSED_SENTINEL" Bundle.listD A s' s'.heap := by rw [hhp]; exact vx_Zq.moved hW0.alike (hN.kept hS.2.1)
  have h : ∀ w ∈ Bundle.ownAtoms0 own ic cls names, w.before args s' = true := vx_own hat' (vx_isRefq hU'.1) (vx_isRefq hN'.1) hU'.2.word hN'.2.word
  have hown' : s'.vm.findClass own = some m.cls := by rw [hvm]; exact hown
  have hins : (Cond.instantiable cls 6).before args s' = true := h _ (by simp [Bundle.ownAtoms0])
  obtain ⟨vm₁, cX, kX, hfX, hkX, -, -, X₁, st1⟩ := Y.newCold hexec (own := own) (C := cls) (index := ik) (n := 6) hown' hk' hins hini'
    (g := F0 m pc ls rest) rfl (by rw [hb]; exact d0) (Nat.le_refl _) (Nat.le_refl _)
  generalize hT1 : (T.setVm vm₁).pushCell { cls := cX, slots := kX.instanceTypes.map defaultValue, vm := .none } = T1 at X₁ st1
  have hcat : (Value.ref T.heap.size).category = 1 := rfl
  have hcellA : T1.heap[T.heap.size]? = some (freshCell cX kX) := by rw [← hT1]; exact State.heap_pushCell_size _ _
  have d3' : decode c.code (pc + 3) = .ok (.dup, 1) := by rw [hb]; exact d3
  obtain ⟨U, hsteps, hrun, hend, hW, hsame, ce, hce, hO⟩ := X₁.ctorThrow0 hexec htr (own := own) (cls := cls) (names := names) (ic := ic) hown' hcls hnames h (fun x hx => nomatch hx) hfX hkX hcellA (by rw [hhp, hT]; exact Nat.le_refl _)
    (g := { method := m, pc := pc + 4, locals := ls, stack := .ref T.heap.size :: .ref T.heap.size :: rest, locked := none }) rfl hsize rfl rfl (rest := rest) rfl
    (by rw [hb]; exact d4) (by rw [hb]; exact d7) hout hRframes (by simp only [List.map_cons, List.sum_cons, hcat]; omega) hlocks
  obtain ⟨f1, f2⟩ := vx_frame hsame
  rw [hhp] at f1 f2
  have hWs : s.WarmedH U.vm := State.WarmedH.trans hW0 hW
  have hcl : s.vm.findClass cls = some ce.cls := by
    have h9 := hO.cls
    rw [hvm] at h9
    exact h9
  have hall : s.sameButNew ({ U with vm := s.vm } : State) locs mc ms := by
    subst hA
    obtain ⟨e1, e2⟩ := hsame
    rw [State.setFrames_setFrames] at e1
    have h2 : (T.setVm s.vm).sameButNew ({ U with vm := s.vm } : State) [] (0 + 1) (0 + 6) := ⟨e1, e2⟩
    have h3 := X.same.trans h2
    rw [List.append_nil] at h3
    exact h3.mono hc hs
  refine ⟨U, ?_, .threw T.heap.size, hrun, hend, Or.inr ⟨T.heap.size, rfl, cls, ce, locs, hx U hWs.alike f1 (fun q hq => f2 q hq (fun z hz => nomatch hz)), hce, hO.vm, hcl, hWs, hall, hf⟩⟩
  refine st1 _ ?_
  show Steps p.tables e below (T1.setTop { method := m, pc := pc + 3, locals := ls, stack := .ref T.heap.size :: rest, locked := none }) _
  jvm_step X₁.here [X₁.here.top, hexec, d3', Value.category]
  exact hsteps
/-- 'throw new E("text")': new; dup; ldc; invokespecial; athrow -/
theorem vx_throwS {cc : ByteArray} {pc : Nat} (hexec : p.tables.exec = Jvm.exec) (hb : c.code = cc) (hl : l.stackTraces = false) {own cls text : String} {names : List String} {ik is ic mc ms sa : Nat} {A : Nat → Prop}
    (hown : s.vm.findClass own = some m.cls) (hcls : Bundle.fit cls = true) (hnames : ∀ n ∈ names, Bundle.fit n = true)
    (hk : (Cond.classLink own ik cls).before args s = true) (hini : (Cond.initialized cls).before args s = true) (hstr : vk_R own is text sa s) (hat : ∀ w ∈ vx_atS own ic cls names, w.before args s = true)
    (hgood : ∀ w ∈ Cond.classLink own ik cls :: Cond.initialized cls :: vx_atS own ic cls names, vx_ot w = true)
    (hU : vx_Zq Bundle.tN "UNASSIGNED_STACK" Bundle.steD A s s.heap) (hN : vx_Zq Bundle.tN "SUPPRESSED_SENTINEL" Bundle.listD A s s.heap) (hS : va_S A s.heap H locs) (hsize : ls.size = c.maxLocals)
    (d0 : decode cc pc = .ok (.new ik, 3)) (d3 : decode cc (pc + 3) = .ok (.dup, 1)) (d4 : decode cc (pc + 4) = .ok (.ldc is, 2)) (d6 : decode cc (pc + 6) = .ok (.invokespecial ic, 3)) (d9 : decode cc (pc + 9) = .ok (.athrow, 1))
    (hout : ∀ x ∈ c.exceptionTable.toList, covers x (pc + 9) = false)
    (hRframes : names.length + 3 < R.frames) (hRlocals : (rest.map fun v => v.category).sum + (13 * (names.length + 1) + 43) ≤ R.locals) (hRcells : cells + 1 ≤ R.cells) (hRslots : slots + 6 ≤ R.slots) (hlocks : meth.locks = false)
    (hx : ∀ t : State, s.vm.Alike t.vm → H.size ≤ t.heap.size → (∀ q : Nat, q < H.size → t.heap[q]? = H[q]?) → XC cls s t)
    (hf : ∀ z ∈ locs, free z.base) (hc : cells + 1 ≤ mc) (hs : slots + 6 ≤ ms) :
    W p l e R s m args below meth c H locs cells slots (vx_MQ below Qc XC args s mc ms free) (F0 m pc ls rest) := by
  intro T hT X
  have htr : e.platform.stackTraces = false := (show e.platform.stackTraces = l.stackTraces by rw [X.admits.platform]).trans hl
  have Y := vx_rebase X (R' := { frames := R.frames, locals := R.locals, cells := 1, slots := 6 }) (Nat.le_refl _) (Nat.le_refl _) hRcells hRslots
  obtain ⟨s', hA⟩ : ∃ z, z = (T.setVm s.vm).setFrames (.invoking m args :: below) := ⟨_, rfl⟩
  rw [← hA] at Y
  have hvm : s'.vm = s.vm := by rw [hA]; rfl
  have hhp : s'.heap = H := by rw [hA]; exact hT
  have hW0 : s.WarmedH s'.vm := by rw [hvm]; exact State.WarmedH.refl s
  have hat' : ∀ w ∈ vx_atS own ic cls names, w.before args s' = true := fun w hw => vx_ot_at hW0 hvm.symm (hgood w (List.mem_cons_of_mem _ (List.mem_cons_of_mem _ hw))) (hat w hw)
  have hk' : (Cond.classLink own ik cls).before args s' = true := vx_ot_at hW0 hvm.symm (hgood _ List.mem_cons_self) hk
  have hini' : (Cond.initialized cls).before args s' = true := vx_ot_at hW0 hvm.symm (hgood _ (List.mem_cons_of_mem _ List.mem_cons_self)) hini
  have hU' : vx_Zq Bundle.tN "UNASSIGNED_STACK" Bundle.steD A s' s'.heap := by rw [hhp]; exact vx_Zq.moved hW0.alike (hU.kept hS.2.1)
  have hN' : vx_Zq Bundle.tN "SUPPRESSED_SENTINEL" Bundle.listD A s' s'.heap := by rw [hhp]; exact vx_Zq.moved hW0.alike (hN.kept hS.2.1)
  have h : ∀ w ∈ Bundle.ownAtoms own ic cls names, w.before args s' = true := vx_own hat' (vx_isRefq hU'.1) (vx_isRefq hN'.1) hU'.2.word hN'.2.word
  have hown' : s'.vm.findClass own = some m.cls := by rw [hvm]; exact hown
  have hins : (Cond.instantiable cls 6).before args s' = true := h _ (by simp [Bundle.ownAtoms])
  obtain ⟨vm₁, cX, kX, hfX, hkX, -, -, X₁, st1⟩ := Y.newCold hexec (own := own) (C := cls) (index := ik) (n := 6) hown' hk' hins hini'
    (g := F0 m pc ls rest) rfl (by rw [hb]; exact d0) (Nat.le_refl _) (Nat.le_refl _)
  generalize hT1 : (T.setVm vm₁).pushCell { cls := cX, slots := kX.instanceTypes.map defaultValue, vm := .none } = T1 at X₁ st1
  have hcat : (Value.ref T.heap.size).category = 1 := rfl
  have hcellA : T1.heap[T.heap.size]? = some (freshCell cX kX) := by rw [← hT1]; exact State.heap_pushCell_size _ _
  have d3' : decode c.code (pc + 3) = .ok (.dup, 1) := by rw [hb]; exact d3
  have d4' : decode c.code (pc + 4) = .ok (.ldc is, 2) := by rw [hb]; exact d4
  have hstr' : vk_R own is text sa s' := vk_R.warm hW0 hstr
  obtain ⟨U, hsteps, hrun, hend, hW, hsame, ce, hce, hO⟩ := X₁.ctorThrowS hexec htr (own := own) (cls := cls) (names := names) (ic := ic) hown' hcls hnames h (fun x hx => nomatch hx) hfX hkX hcellA (by rw [hhp, hT]; exact Nat.le_refl _) (msg := .ref sa) rfl
    (g := { method := m, pc := pc + 6, locals := ls, stack := .ref sa :: .ref T.heap.size :: .ref T.heap.size :: rest, locked := none }) rfl hsize rfl rfl (rest := rest) rfl
    (by rw [hb]; exact d6) (by rw [hb]; exact d9) hout hRframes (by simp only [List.map_cons, List.sum_cons, hcat]; omega) hlocks
  obtain ⟨f1, f2⟩ := vx_frame hsame
  rw [hhp] at f1 f2
  have hWs : s.WarmedH U.vm := State.WarmedH.trans hW0 hW
  have hcl : s.vm.findClass cls = some ce.cls := by
    have h9 := hO.cls
    rw [hvm] at h9
    exact h9
  have hall : s.sameButNew ({ U with vm := s.vm } : State) locs mc ms := by
    subst hA
    obtain ⟨e1, e2⟩ := hsame
    rw [State.setFrames_setFrames] at e1
    have h2 : (T.setVm s.vm).sameButNew ({ U with vm := s.vm } : State) [] (0 + 1) (0 + 6) := ⟨e1, e2⟩
    have h3 := X.same.trans h2
    rw [List.append_nil] at h3
    exact h3.mono hc hs
  refine ⟨U, ?_, .threw T.heap.size, hrun, hend, Or.inr ⟨T.heap.size, rfl, cls, ce, locs, hx U hWs.alike f1 (fun q hq => f2 q hq (fun z hz => nomatch hz)), hce, hO.vm, hcl, hWs, hall, hf⟩⟩
  refine st1 _ ?_
  show Steps p.tables e below (T1.setTop { method := m, pc := pc + 3, locals := ls, stack := .ref T.heap.size :: rest, locked := none }) _
  jvm_step X₁.here [X₁.here.top, hexec, d3', Value.category]
  exact X₁.ldcString hexec (own := own) (text := text) (index := is) (a := sa) hown' hstr'.1 hstr'.2
    (g := { method := m, pc := pc + 4, locals := ls, stack := .ref T.heap.size :: .ref T.heap.size :: rest, locked := none }) rfl d4' _ hsteps
/-- 'throw new E("text")', the text by a wide index -/
theorem vx_throwSW {cc : ByteArray} {pc : Nat} (hexec : p.tables.exec = Jvm.exec) (hb : c.code = cc) (hl : l.stackTraces = false) {own cls text : String} {names : List String} {ik is ic mc ms sa : Nat} {A : Nat → Prop}
    (hown : s.vm.findClass own = some m.cls) (hcls : Bundle.fit cls = true) (hnames : ∀ n ∈ names, Bundle.fit n = true)
    (hk : (Cond.classLink own ik cls).before args s = true) (hini : (Cond.initialized cls).before args s = true) (hstr : vk_R own is text sa s) (hat : ∀ w ∈ vx_atS own ic cls names, w.before args s = true)
    (hgood : ∀ w ∈ Cond.classLink own ik cls :: Cond.initialized cls :: vx_atS own ic cls names, vx_ot w = true)
    (hU : vx_Zq Bundle.tN "UNASSIGNED_STACK" Bundle.steD A s s.heap) (hN : vx_Zq Bundle.tN "SUPPRESSED_SENTINEL" Bundle.listD A s s.heap) (hS : va_S A s.heap H locs) (hsize : ls.size = c.maxLocals)
    (d0 : decode cc pc = .ok (.new ik, 3)) (d3 : decode cc (pc + 3) = .ok (.dup, 1)) (d4 : decode cc (pc + 4) = .ok (.ldc_w is, 3)) (d7 : decode cc (pc + 7) = .ok (.invokespecial ic, 3)) (d10 : decode cc (pc + 10) = .ok (.athrow, 1))
    (hout : ∀ x ∈ c.exceptionTable.toList, covers x (pc + 10) = false)
    (hRframes : names.length + 3 < R.frames) (hRlocals : (rest.map fun v => v.category).sum + (13 * (names.length + 1) + 43) ≤ R.locals) (hRcells : cells + 1 ≤ R.cells) (hRslots : slots + 6 ≤ R.slots) (hlocks : meth.locks = false)
    (hx : ∀ t : State, s.vm.Alike t.vm → H.size ≤ t.heap.size → (∀ q : Nat, q < H.size → t.heap[q]? = H[q]?) → XC cls s t)
    (hf : ∀ z ∈ locs, free z.base) (hc : cells + 1 ≤ mc) (hs : slots + 6 ≤ ms) :
    W p l e R s m args below meth c H locs cells slots (vx_MQ below Qc XC args s mc ms free) (F0 m pc ls rest) := by
  intro T hT X
  have htr : e.platform.stackTraces = false := (show e.platform.stackTraces = l.stackTraces by rw [X.admits.platform]).trans hl
  have Y := vx_rebase X (R' := { frames := R.frames, locals := R.locals, cells := 1, slots := 6 }) (Nat.le_refl _) (Nat.le_refl _) hRcells hRslots
  obtain ⟨s', hA⟩ : ∃ z, z = (T.setVm s.vm).setFrames (.invoking m args :: below) := ⟨_, rfl⟩
  rw [← hA] at Y
  have hvm : s'.vm = s.vm := by rw [hA]; rfl
  have hhp : s'.heap = H := by rw [hA]; exact hT
  have hW0 : s.WarmedH s'.vm := by rw [hvm]; exact State.WarmedH.refl s
  have hat' : ∀ w ∈ vx_atS own ic cls names, w.before args s' = true := fun w hw => vx_ot_at hW0 hvm.symm (hgood w (List.mem_cons_of_mem _ (List.mem_cons_of_mem _ hw))) (hat w hw)
  have hk' : (Cond.classLink own ik cls).before args s' = true := vx_ot_at hW0 hvm.symm (hgood _ List.mem_cons_self) hk
  have hini' : (Cond.initialized cls).before args s' = true := vx_ot_at hW0 hvm.symm (hgood _ (List.mem_cons_of_mem _ List.mem_cons_self)) hini
  have hU' : vx_Zq Bundle.tN "UNASSIGNED_STACK" Bundle.steD A s' s'.heap := by rw [hhp]; exact vx_Zq.moved hW0.alike (hU.kept hS.2.1)
  have hN' : vx_Zq Bundle.tN "SUPPRESSED_SENTINEL" Bundle.listD A s' s'.heap := by rw [hhp]; exact vx_Zq.moved hW0.alike (hN.kept hS.2.1)
  have h : ∀ w ∈ Bundle.ownAtoms own ic cls names, w.before args s' = true := vx_own hat' (vx_isRefq hU'.1) (vx_isRefq hN'.1) hU'.2.word hN'.2.word
  have hown' : s'.vm.findClass own = some m.cls := by rw [hvm]; exact hown
  have hins : (Cond.instantiable cls 6).before args s' = true := h _ (by simp [Bundle.ownAtoms])
  obtain ⟨vm₁, cX, kX, hfX, hkX, -, -, X₁, st1⟩ := Y.newCold hexec (own := own) (C := cls) (index := ik) (n := 6) hown' hk' hins hini'
    (g := F0 m pc ls rest) rfl (by rw [hb]; exact d0) (Nat.le_refl _) (Nat.le_refl _)
  generalize hT1 : (T.setVm vm₁).pushCell { cls := cX, slots := kX.instanceTypes.map defaultValue, vm := .none } = T1 at X₁ st1
  have hcat : (Value.ref T.heap.size).category = 1 := rfl
  have hcellA : T1.heap[T.heap.size]? = some (freshCell cX kX) := by rw [← hT1]; exact State.heap_pushCell_size _ _
  have d3' : decode c.code (pc + 3) = .ok (.dup, 1) := by rw [hb]; exact d3
  have d4' : decode c.code (pc + 4) = .ok (.ldc_w is, 3) := by rw [hb]; exact d4
  have hstr' : vk_R own is text sa s' := vk_R.warm hW0 hstr
  obtain ⟨U, hsteps, hrun, hend, hW, hsame, ce, hce, hO⟩ := X₁.ctorThrowS hexec htr (own := own) (cls := cls) (names := names) (ic := ic) hown' hcls hnames h (fun x hx => nomatch hx) hfX hkX hcellA (by rw [hhp, hT]; exact Nat.le_refl _) (msg := .ref sa) rfl
    (g := { method := m, pc := pc + 7, locals := ls, stack := .ref sa :: .ref T.heap.size :: .ref T.heap.size :: rest, locked := none }) rfl hsize rfl rfl (rest := rest) rfl
    (by rw [hb]; exact d7) (by rw [hb]; exact d10) hout hRframes (by simp only [List.map_cons, List.sum_cons, hcat]; omega) hlocks
  obtain ⟨f1, f2⟩ := vx_frame hsame
  rw [hhp] at f1 f2
  have hWs : s.WarmedH U.vm := State.WarmedH.trans hW0 hW
  have hcl : s.vm.findClass cls = some ce.cls := by
    have h9 := hO.cls
    rw [hvm] at h9
    exact h9
  have hall : s.sameButNew ({ U with vm := s.vm } : State) locs mc ms := by
    subst hA
    obtain ⟨e1, e2⟩ := hsame
    rw [State.setFrames_setFrames] at e1
    have h2 : (T.setVm s.vm).sameButNew ({ U with vm := s.vm } : State) [] (0 + 1) (0 + 6) := ⟨e1, e2⟩
    have h3 := X.same.trans h2
    rw [List.append_nil] at h3
    exact h3.mono hc hs
  refine ⟨U, ?_, .threw T.heap.size, hrun, hend, Or.inr ⟨T.heap.size, rfl, cls, ce, locs, hx U hWs.alike f1 (fun q hq => f2 q hq (fun z hz => nomatch hz)), hce, hO.vm, hcl, hWs, hall, hf⟩⟩
  refine st1 _ ?_
  show Steps p.tables e below (T1.setTop { method := m, pc := pc + 3, locals := ls, stack := .ref T.heap.size :: rest, locked := none }) _
  jvm_step X₁.here [X₁.here.top, hexec, d3', Value.category]
  exact X₁.ldcStringW hexec (own := own) (text := text) (index := is) (a := sa) hown' hstr'.1 hstr'.2
    (g := { method := m, pc := pc + 4, locals := ls, stack := .ref T.heap.size :: .ref T.heap.size :: rest, locked := none }) rfl d4' _ hsteps
end Ends
section Bodies
variable {l : Launch}
theorem vx_ofW {y : MethodName} {ws ws' : List Cond} {rm : Room} {Pc : Array Value → State → Prop} {Qc : Array Value → State → Outcome → State → Prop} {XC : String → State → State → Prop} {mc ms : Nat} {free : Addr → Prop} {cc : ByteArray} {maxL : Nat} {ret : Option FieldType}
    (hy : plainName y.cls = true) (hw : ws = Cond.code y cc maxL ret :: ws')
    (body : ∀ p e s m args below meth c s₁, BodyLoose p l y (headSpec ws rm) cc maxL ret e s m args below meth c s₁ → c.maxLocals = maxL → (∀ x ∈ c.exceptionTable.toList, False) → Pc args s →
      W p l e (headSpec ws rm).room s m args below meth c s.heap [] 0 0 (vx_MQ below Qc XC args s mc ms free) (entryFrame m args maxL)) : vx_Met l y ws rm Pc Qc XC mc ms free := by
  refine MetFree.of_bodyS (code := cc) (maxLocals := maxL) (ret := ret) hy ?_ ?_
  · intro args s m h hn
    obtain ⟨meth, c, h1, h2, h3, h4, h5, h6, -, -⟩ := Cond.code_spec hn (atoms_spec (ws := ws) h _ (by rw [hw]; exact List.mem_cons_self))
    exact ⟨meth, c, h1, h2, h3, h4, h5, h6⟩
  · intro p e s m args below meth c s₁ B hml hP _
    have hh0 : s₁.heap = s.heap := by rw [B.state]; rfl
    have ht : ∀ x ∈ c.exceptionTable.toList, False := by
      obtain ⟨meth9, c9, h1, h2, -, -, -, -, h7, -⟩ := Cond.code_spec B.named (atoms_spec (ws := ws) B.pre _ (by rw [hw]; exact List.mem_cons_self))
      cases Option.some.inj (h1.symm.trans B.method)
      cases Option.some.inj (h2.symm.trans (Stand.of_body B).code)
      intro x hx
      rw [Array.isEmpty_iff.mp h7] at hx
      cases hx
    obtain ⟨t, a1, o, b1, b2, b3⟩ := body p e s m args below meth c s₁ B hml ht hP s₁ hh0 (Stand.of_body B)
    exact ⟨t, o, a1, b1, b2, b3⟩
/-- the table of a body with handlers -/
theorem vx_table {p : Program} {x y : MethodName} {S : Spec} {cc bytes : ByteArray} {maxL maxL' : Nat} {ret ret' : Option FieldType} {e : Env} {s s₁ : State} {m : MethodId} {args : Array Value} {below : List Frame} {meth : Method} {c : Code} {hh : List (Nat × Nat × Nat × Nat)}
    (B : BodyLoose p l y S cc maxL ret e s m args below meth c s₁) (h : (Cond.codeWith y bytes maxL' ret' hh).before args s = true) : c.exceptionTable.toList = tableOf hh := by
  obtain ⟨m9, meth9, c9, hn9, h1, h2, -, -, h6, -⟩ := Cond.codeWith_spec h
  cases Option.some.inj (hn9.symm.trans B.named)
  cases Option.some.inj (h1.symm.trans B.method)
  cases Option.some.inj (h2.symm.trans (Stand.of_body B).code)
  rw [← h6, table_eq]
end Bodies
end VXA
/-! ===== END ===== -/
/-! ===== BEGIN a static call of a method with an exception table ===== -/
section VXS
variable {p : Program} {l : Launch} {e : Env} {R : Room} {s : State} {m : MethodId} {args : Array Value} {below : List Frame} {meth : Method} {c : Code} {T : State} {H : Heap} {locs : List Loc} {cells slots : Nat}
abbrev vx_CSW (R : Room) (s : State) (args : Array Value) (own : String) (index : Nat) (y : MethodName) (bytes : ByteArray) (maxL : Nat) (ret : Option FieldType) (hh : List (Nat × Nat × Nat × Nat)) (ws : List Cond) (rm : Room) (mc ms n : Nat) : Prop :=
  (rm.cells = mc ∧ rm.slots = ms ∧ rm.frames + 1 ≤ R.frames ∧ 8 + (maxL + 11) + rm.locals ≤ R.locals ∧ (∀ w ∈ ws, ∀ (a' : Array Value) (U : State), s.WarmedH U.vm → w.before a' U = true) ∧ Cond.codeWith y bytes maxL ret hh ∈ ws) ∧
  (Cond.codeWith y bytes maxL ret hh).before args s = true ∧ (Cond.initialized y.cls).before args s = true ∧ (y.cls ≠ "java/lang/invoke/MethodHandle" ∧ y.cls ≠ "java/lang/invoke/VarHandle") ∧
  (∀ sig, parseMethodDescriptor y.desc = some sig → n = sig.parameters.length) ∧ (Cond.methodLink own index y).before args s = true ∧ (Cond.static y).before args s = true
theorem vx_cwSW {own : String} {index maxL mc ms : Nat} {y : MethodName} {bytes : ByteArray} {ret : Option FieldType} {hh : List (Nat × Nat × Nat × Nat)} {Ts ws ws' : List Cond} {rm : Room} (n : Nat) (ht : ∀ w ∈ Ts, w.before args s = true) (hT : GoodIn Ts (va_wsS own index y ws)) (hw : ws = Cond.codeWith y bytes maxL ret hh :: ws') (hrc : rm.cells = mc) (hrs : rm.slots = ms)
    (hd : y.cls ≠ "java/lang/invoke/MethodHandle" ∧ y.cls ≠ "java/lang/invoke/VarHandle" ∧ (parseMethodDescriptor y.desc).map (fun d => d.parameters.length) = some n) (hR : rm.frames + 1 ≤ R.frames ∧ 8 + (maxL + 11) + rm.locals ≤ R.locals) :
    vx_CSW R s args own index y bytes maxL ret hh ws rm mc ms n := by
  have ok : ∀ w ∈ va_wsS own index y ws, w.before args s = true := fun w h => ht w (hT w h).1
  have hG : GoodIn Ts ws := fun w h => hT w (by unfold va_wsS; exact List.mem_append_right _ h)
  have hc : Cond.codeWith y bytes maxL ret hh ∈ ws := by rw [hw]; exact List.mem_cons_self
  refine ⟨⟨hrc, hrs, hR.1, hR.2, pay_in ht hG, hc⟩, ht _ (hG _ hc).1, ok _ (by simp [va_wsS]), ⟨hd.1, hd.2.1⟩, fun sig h => ?_, ok _ (by simp [va_wsS]), ok _ (by simp [va_wsS])⟩
  have h2 := hd.2.2
  rw [h] at h2
  exact (Option.some.inj h2).symm
theorem vx_callSW (X : Stand p l e R s m args below meth c T locs cells slots) (hexec : p.tables.exec = Jvm.exec) {own : String} {index : Nat} {y : MethodName} {bytes : ByteArray} {maxL : Nat} {ret : Option FieldType} {hh : List (Nat × Nat × Nat × Nat)}
    (hown : s.vm.findClass own = some m.cls) (hlink : (Cond.methodLink own index y).before args s = true) (hstat : (Cond.static y).before args s = true) (hinit : (Cond.initialized y.cls).before args s = true)
    (hcode : (Cond.codeWith y bytes maxL ret hh).before args s = true) (hy : y.cls ≠ "java/lang/invoke/MethodHandle" ∧ y.cls ≠ "java/lang/invoke/VarHandle")
    {W9 : Nat} {Pre : Pt → Array Value → Prop} {Post : Pt → Array Value → Option Value → Pt → Prop} (hK : Back l R p e below s args y 3 W9 Pre Post)
    {g : JFrame} (hg : g.method = m) (hsize : g.locals.size = c.maxLocals) {argsL rest : List Value} (hlen : ∀ sig, parseMethodDescriptor y.desc = some sig → argsL.length = sig.parameters.length)
    (hstack : g.stack = argsL.reverse ++ rest) (hW : 2 * g.monitorRoom + (rest.map fun v => v.category).sum ≤ W9) (hdg : decode c.code g.pc = .ok (.invokestatic index, 3))
    (hpre : ∀ vm₁, s.WarmedH vm₁ → Pre ⟨T.setVm vm₁, locs, cells, slots⟩ argsL.toArray) :
    ∃ (v : Option Value) (vm₁ : Vm) (B : Pt), s.WarmedH vm₁ ∧ Stand p l e R s m args below meth c B.U B.locs B.cells B.slots ∧ Post ⟨T.setVm vm₁, locs, cells, slots⟩ argsL.toArray v B ∧
      ∀ target, Steps p.tables e below (B.U.setTop { g with pc := g.pc + 3, stack := v.toList ++ rest }) target → Steps p.tables e below (T.setTop g) target := by
  obtain ⟨mk, methM, cM, hnamed, hmethM, -, -, -, -, -, -, hsigM⟩ := Cond.codeWith_spec hcode
  have hstatic : methM.isStatic = true := Cond.static_spec hnamed hmethM hstat
  obtain ⟨kP, hkP, -⟩ := className_of_methodNamed hnamed
  have hinitP : kP.init = .initialized := Cond.initialized_spec (findClass_of_methodNamed hnamed) hkP hinit
  obtain ⟨vm₁, X₁, hstep₁⟩ := X.invokestatic hexec hown hlink hnamed hmethM hstatic hkP hinitP hy (g := g) hg (argsL := argsL) (rest := rest) (hlen _ hsigM) hstack hdg
  obtain ⟨v, B, X', hpost, hsteps⟩ := hK m meth c ⟨T.setVm vm₁, locs, cells, slots⟩ { g with stack := rest } (.invokestatic index) mk argsL.toArray X₁ hg hsize hdg hW (X₁.named hnamed) (hpre vm₁ X₁.warmed)
  exact ⟨v, vm₁, B, X₁.warmed, X', hpost, fun target h => hstep₁ _ fun acts => by rw [doInvoke_state]; exact hsteps.trans h⟩
theorem vx_runSW {y : MethodName} {bytes cc : ByteArray} {maxL nL mc ms n index : Nat} {ret : Option FieldType} {hh : List (Nat × Nat × Nat × Nat)} {ws : List Cond} {rm : Room} {Pc : Array Value → State → Prop} {Qc : Array Value → State → Outcome → State → Prop} {free : Addr → Prop} {Ts : List Cond} {own : String} {As rest : List Value} {g : JFrame}
    (S : CallFix p m c cc nL s args Ts own) (hM : Met l y ws rm Pc Qc mc ms free) (cw : vx_CSW R s args own index y bytes maxL ret hh ws rm mc ms n) (hp : PreS s H Pc As)
    (hg : g.method = m) (hn : As.length = n) (hsize : g.locals.size = nL) (hstack : g.stack = As.reverse ++ rest) (hW : 2 * g.monitorRoom + (rest.map fun v => v.category).sum ≤ 8) (hdg : decode cc g.pc = .ok (.invokestatic index, 3)) (hf : cells + mc ≤ R.cells ∧ slots + ms ≤ R.slots) :
    va_Run p l e R s m args below meth c H locs cells slots mc ms g rest (Qc As.toArray) (free) := by
  obtain ⟨⟨hrc, hrs, hfr, hlo, hws, hcw⟩, hcode, hini, hy, hlen, hl, hstt⟩ := cw
  have hK : Back l R p e below s args y 3 8 (PreOf R mc ms Pc) (PostOf Qc mc ms free) := va_backW (hh := hh) (bytes := bytes) (maxL := maxL) (ret := ret) hM hp.1 hrc hrs hfr hlo hws hcw (fun a' U hW => word_at hW (Or.inl (by first | rfl | simp [Cond.onTables, Cond.keeps, Cond.steady])) hini)
  obtain ⟨hx, hb, hml, ho, -⟩ := S
  intro T hT X
  obtain ⟨v, vm₁, ⟨U', l2, c2, s2⟩, hW₁, X', ⟨g', mk, t, L, e1, e2, hq, h1, hL, h2, h3⟩, st⟩ := vx_callSW X hx (hh := hh) (bytes := bytes) (maxL := maxL) (ret := ret) ho hl hstt hini hcode hy hK hg (hsize.trans hml.symm) (argsL := As) (rest := rest) (fun sig h => hn.trans (hlen sig h)) hstack hW (by rw [hb]; exact hdg)
    (fun vm₁ hW₁ => ⟨hf.1, hf.2, hp.2 (T.setVm vm₁) hT hW₁⟩)
  dsimp only [Pt.U, Pt.locs, Pt.cells, Pt.slots] at X' e1 e2 h1 h2 h3 st
  subst h1; subst h2; subst h3
  exact ⟨v, (T.setVm vm₁).calling g' mk As.toArray, t, U', L, hT, X', hL, e1, e2, hq, st⟩
/-- not caught here, past rows that name other classes: it goes on to the caller -/
theorem vx_outP {p : Program} {l : Launch} {e : Env} {R : Room} {s : State} {m : MethodId} {args : Array Value} {below : List Frame} {meth : Method} {c : Code} {H : Heap} {locs : List Loc} {cells slots : Nat} {free : Addr → Prop} {ls : Array Slot} {rest : List Value} {Qc : Array Value → State → Outcome → State → Prop} {XC : String → State → State → Prop}
    {pc : Nat} {own E : String} {ce : Cell} {q : Addr} {mc ms : Nat} (hown : s.vm.findClass own = some m.cls) (hlocks : meth.locks = false)
    (hpass : ∀ z ∈ c.exceptionTable.toList, covers z pc = false ∨ (z.catchType ≠ 0 ∧ ∃ nm : String, (Cond.classLink own z.catchType nm).before args s = true ∧ va_Nc E nm s)) (hcell : H[q]? = some ce) (hv : ce.vm = .none) (hcl : s.vm.findClass E = some ce.cls)
    (hx : ∀ t : State, t.heap = H → s.vm.Alike t.vm → XC E s t) (hf : ∀ z ∈ locs, free z.base) (hc : cells ≤ mc) (hs : slots ≤ ms) :
    vx_W p l e R s m args below meth c H locs cells slots (vx_MQ below Qc XC args s mc ms free) (F0 m pc ls rest) q := by
  intro T hT X
  have hpl : e.platform.magicAccessors = ({} : Platform).magicAccessors := by rw [X.admits.platform]
  obtain ⟨vm', hW', X', st⟩ := X.outThrough hlocks q (g := F0 m pc ls rest) rfl rfl rfl (cell := ce) (by rw [hT]; exact hcell) (by rw [hv]; rfl)
    (by obtain ⟨k9, h9, -⟩ := Vm.findClass_spec hcl; exact ⟨k9, h9⟩) (fun z hz => by
      rcases hpass z hz with h | ⟨hz0, nm, hl1, hn1⟩
      · exact Or.inl h
      · obtain ⟨c6, hc6, hcl6⟩ := Cond.classLink_spec hown hl1 e.platform hpl
        obtain ⟨a8, b8, h1, h2, h3⟩ := hn1
        cases Option.some.inj (h1.symm.trans hcl)
        cases Option.some.inj (h2.symm.trans hc6)
        exact Or.inr ⟨hz0, _, hcl6, h3⟩)
  obtain ⟨g₀, hfr⟩ := X'.frames_eq
  have hcell9 : ((T.setVm vm').setFrames (.throwing q :: below)).heap[q]? = some ce := by
    show T.heap[q]? = some ce
    rw [hT]; exact hcell
  have hend : Ended ((T.setVm vm').setFrames (.throwing q :: below)) below (.threw q) := State.frames_setFrames _ (State.cur_lt_of_frames hfr)
  refine ⟨(T.setVm vm').setFrames (.throwing q :: below), ?_, .threw q, X'.here.running, hend, Or.inr ⟨q, rfl, E, ce, locs, hx _ hT (X'.ends _).1.alike, hcell9, hv, hcl, (X'.ends _).1, (X'.ends _).2.mono hc hs, hf⟩⟩
  rw [X.pushThrowing_eq]
  exact st
/-- a thing of a world lies in the heap -/
theorem vx_lt {D : va_G} {cl : List vw_C} {ws : va_W} {H1 : Heap} (h : va_P D cl ws H1) {k : Nat} {q : Nat × va_E} (hk : ws[k]? = some q) : q.1 < H1.size := (h k q hk).lt
end VXS
/-! ===== END ===== -/
/-! ===== BEGIN methods with a table of their own: called by a name, returning or throwing ===== -/
section VXH
/-! vx_backW, vx_callVX, vx_callSX, vx_callVW, vx_runVW, vx_runVX, vx_runSX, vx_ofWH follow the same proofs as their sisters above (Free/Laws.lean, Shelf42/LK1.lean); vx_outP calls Shelf42/NT130.lean (outThrough). -/
section
variable {l : Launch} {R : Room} {p : Program} {e : Env} {below : List Frame} {s : State} {sargs : Array Value} {y : MethodName} {len W9 : Nat}
theorem vx_backW {ws : List Cond} {rm : Room} {Pc : Array Value → State → Prop} {Qc : Array Value → State → Outcome → State → Prop} {XC : String → State → State → Prop} {mc ms : Nat} {free : Addr → Prop} {bytes : ByteArray} {maxL : Nat} {ret : Option FieldType} {hh : List (Nat × Nat × Nat × Nat)}
    (hM : vx_Met l y ws rm Pc Qc XC mc ms free) (hblind : FrameBlind Pc) (hrc : rm.cells = mc) (hrs : rm.slots = ms)
    (hframes : rm.frames + 1 ≤ R.frames) (hlocals : W9 + (maxL + 11) + rm.locals ≤ R.locals)
    (hws : ∀ w ∈ ws, ∀ a' U, s.WarmedH U.vm → w.before a' U = true) (hcode : Cond.codeWith y bytes maxL ret hh ∈ ws) (hinit : ∀ a' U, s.WarmedH U.vm → (Cond.initialized y.cls).before a' U = true) :
    vx_Back l R p e below s sargs y len W9 (PreOf R mc ms Pc) (PostOf Qc mc ms free) (vx_Post XC mc ms free) := by
  intro m meth c A g ig mk a X hg hsize hdg hW hn hp
  have h1 : (headSpec ws rm).pre.before a A.U = true := atoms_intro fun w hw => hws w hw _ _ X.warmed
  have h2 : (Cond.codeWith y bytes maxL ret hh).before a A.U = true := hws _ hcode _ _ X.warmed
  have h3 : (Cond.initialized y.cls).before a A.U = true := hinit _ _ X.warmed
  have h4 : A.cells + (headSpec ws rm).room.cells ≤ R.cells := by rw [show (headSpec ws rm).room.cells = mc from hrc]; exact hp.1
  have h5 : A.slots + (headSpec ws rm).room.slots ≤ R.slots := by rw [show (headSpec ws rm).room.slots = ms from hrs]; exact hp.2.1
  have hPc : Pc a (A.U.calling g mk a) := hblind _ _ _ _ hp.2.2
  obtain ⟨U, Ls, c0, s0⟩ := A
  dsimp only [Pt.U, Pt.locs, Pt.cells, Pt.slots] at h1 h2 h3 h4 h5 X hn hPc ⊢
  obtain ⟨m9, methY, cY, hn9, hmY, hcY, -, hlY, -⟩ := Cond.codeWith_spec h2
  cases Option.some.inj (hn9.symm.trans hn)
  obtain ⟨kY, hkY, -⟩ := className_of_methodNamed hn
  have hinitY : kY.init = .initialized := Cond.initialized_spec (findClass_of_methodNamed hn) hkY h3
  have h : At U g.method c below := by rw [hg]; exact X.here
  have hlocals9 : W9 + (maxL + 11) + (headSpec ws rm).room.locals ≤ R.locals := hlocals
  have happ : (headSpec ws rm).appliesLoose y e.platform (U.calling g mk a) = true :=
    Spec.appliesLoose_calling (g := g) h hdg hn hkY hinitY
      (X.room_calling (g := g) (R' := (headSpec ws rm).room) hsize hmY hcY hframes (by rw [hlY]; omega) h4 h5) h1
  obtain ⟨mid, hmid⟩ := h.above
  have hfr : (U.setTop g).frames = (.java g :: mid) ++ below := by rw [State.frames_setTop' g h.top, hmid]; rfl
  obtain ⟨o, s₂, hsteps, -, hend, hq⟩ := Steps.callFree hM p X.admits X.cas X.clock (acts := []) hfr happ hPc trivial
  have hq' : vx_Q Qc XC mc ms free a (U.calling g mk a) o s₂ := hq
  rw [State.frames_setTop' g h.top] at hend
  obtain ⟨g₀, hg0⟩ := Option.isSome_iff_exists.mp h.top
  obtain ⟨r, hr⟩ := State.topJava?_eq_some.mp hg0
  have hr' : (({ U with heap := s₂.heap, slotsUsed := s₂.slotsUsed } : State).setVm s₂.vm).frames = .java g₀ :: r := hr
  rcases hq' with ⟨hqc, L, hfe, hL⟩ | ⟨q, rfl, E, ce, L, hx, hce, hcv, hcl, hW₂, hsm, hL⟩
  · obtain ⟨⟨v, rfl⟩, hW₂, e2, q2, q3, q4, q5, q6⟩ := id hfe
    have e3 : s₂ = ({ (U.calling g mk a).setFrames s₂.frames with heap := s₂.heap, slotsUsed := s₂.slotsUsed } : State).setVm s₂.vm := by
      have : s₂ = ({ s₂ with vm := (U.calling g mk a).vm } : State).setVm s₂.vm := rfl
      rw [e2] at this
      exact this
    obtain ⟨c₂, i₂, len₂, hc₂, hd₂, hf₂⟩ := hend
    have hW' : U.WarmedH s₂.vm := hW₂
    have hcc : c₂ = c := by
      have h1 : s₂.code? g.method = U.code? g.method := by
        rw [State.code?_eq, State.code?_eq, hW'.alike.method?]
      exact Option.some.inj (hc₂.symm.trans (h1.trans h.code))
    subst hcc
    have hlen : len₂ = len := by rw [hdg] at hd₂; cases hd₂; rfl
    subst hlen
    have hs₂ : s₂ = (({ U with heap := s₂.heap, slotsUsed := s₂.slotsUsed } : State).setVm s₂.vm).setTop { g with pc := g.pc + len₂, stack := v.toList ++ g.stack } := by
      refine e3.trans ?_
      rw [hf₂, State.calling_eq h.top, State.setFrames_setFrames, State.setTop_of_frames _ hr', hr]
      rfl
    have hsame : U.sameButNew ({ U with heap := s₂.heap, slotsUsed := s₂.slotsUsed } : State) L mc ms := by
      refine ⟨?_, q2, q3, q4, q5, q6⟩
      obtain ⟨t, ht, -⟩ := State.frames_cons hr
      show ({ U with heap := s₂.heap, slotsUsed := s₂.slotsUsed } : State) = { U.setFrames U.frames with heap := s₂.heap, slotsUsed := s₂.slotsUsed }
      rw [State.setFrames_self ht]
    subst hg
    refine Or.inl ⟨v, ⟨(({ U with heap := s₂.heap, slotsUsed := s₂.slotsUsed } : State).setVm s₂.vm), Ls ++ L, c0 + mc, s0 + ms⟩,
      ⟨X.admits, X.cas, X.clock, X.frames, X.room, X.hears, X.method, X.code, (X.here.setHeapUsed s₂.heap s₂.slotsUsed).setVm hW'.alike, X.tail, State.WarmedH.trans X.warmed hW', X.limits, X.bytes, X.same.trans (hsame.setVm s.vm)⟩,
      ⟨g, mk, s₂, L, rfl, rfl, hqc, rfl, hL, rfl, rfl⟩, ?_⟩
    show Steps p.tables e below _ ((({ U with heap := s₂.heap, slotsUsed := s₂.slotsUsed } : State).setVm s₂.vm).setTop { g with pc := g.pc + len₂, stack := v.toList ++ g.stack })
    rw [← hs₂]
    exact hsteps
  · obtain ⟨e2, q2, q3, q4, q5, q6⟩ := id hsm
    have e3 : s₂ = ({ (U.calling g mk a).setFrames s₂.frames with heap := s₂.heap, slotsUsed := s₂.slotsUsed } : State).setVm s₂.vm := by
      have : s₂ = ({ s₂ with vm := (U.calling g mk a).vm } : State).setVm s₂.vm := rfl
      rw [e2] at this
      exact this
    have hf₂ : s₂.frames = .throwing q :: .java g :: U.frames.tail := hend
    have hW' : U.WarmedH s₂.vm := hW₂
    have hs₂ : s₂ = ((({ U with heap := s₂.heap, slotsUsed := s₂.slotsUsed } : State).setVm s₂.vm).setTop g).pushFrame (.throwing q) := by
      refine e3.trans ?_
      rw [hf₂, State.calling_eq h.top, State.setFrames_setFrames, State.pushFrame, State.frames_setTop _ hr', State.setTop_of_frames _ hr', State.setFrames_setFrames, hr]
      rfl
    have hsame : U.sameButNew ({ U with heap := s₂.heap, slotsUsed := s₂.slotsUsed } : State) L mc ms := by
      refine ⟨?_, q2, q3, q4, q5, q6⟩
      obtain ⟨t, ht, -⟩ := State.frames_cons hr
      show ({ U with heap := s₂.heap, slotsUsed := s₂.slotsUsed } : State) = { U.setFrames U.frames with heap := s₂.heap, slotsUsed := s₂.slotsUsed }
      rw [State.setFrames_self ht]
    subst hg
    refine Or.inr ⟨q, ⟨(({ U with heap := s₂.heap, slotsUsed := s₂.slotsUsed } : State).setVm s₂.vm), Ls ++ L, c0 + mc, s0 + ms⟩,
      ⟨X.admits, X.cas, X.clock, X.frames, X.room, X.hears, X.method, X.code, (X.here.setHeapUsed s₂.heap s₂.slotsUsed).setVm hW'.alike, X.tail, State.WarmedH.trans X.warmed hW', X.limits, X.bytes, X.same.trans (hsame.setVm s.vm)⟩,
      ⟨g, mk, s₂, L, E, ce, rfl, rfl, hx, hce, hcv, hcl, rfl, hL, rfl, rfl⟩, ?_⟩
    show Steps p.tables e below _ (((({ U with heap := s₂.heap, slotsUsed := s₂.slotsUsed } : State).setVm s₂.vm).setTop g).pushFrame (.throwing q))
    rw [← hs₂]
    exact hsteps
end
variable {p : Program} {l : Launch} {e : Env} {R : Room} {s : State} {m : MethodId} {args : Array Value} {below : List Frame} {meth : Method} {c : Code} {T : State} {H : Heap} {locs : List Loc} {cells slots : Nat}
theorem vx_callVX (X : Stand p l e R s m args below meth c T locs cells slots) (hexec : p.tables.exec = Jvm.exec) {own C : String} {index : Nat} {y : MethodName} {bytes : ByteArray} {maxL : Nat} {ret : Option FieldType} {hh : List (Nat × Nat × Nat × Nat)}
    (hown : s.vm.findClass own = some m.cls) (hlink : (Cond.methodLink own index y).before args s = true) (hinst : (Cond.instanceMethod y).before args s = true) (hsel : (Cond.selects C y y).before args s = true)
    (hcode : (Cond.codeWith y bytes maxL ret hh).before args s = true) (hy : y.cls ≠ "java/lang/invoke/MethodHandle" ∧ y.cls ≠ "java/lang/invoke/VarHandle")
    {W9 : Nat} {Pre : Pt → Array Value → Prop} {Post : Pt → Array Value → Option Value → Pt → Prop} {PostX : Pt → Array Value → Addr → Pt → Prop} (hK : vx_Back l R p e below s args y 3 W9 Pre Post PostX)
    {b : Addr} {cellB : Cell} (hcell : T.heap[b]? = some cellB) (hobj : cellB.vm.isStatics = false) (hcls : s.vm.findClass C = some cellB.cls)
    {g : JFrame} (hg : g.method = m) (hsize : g.locals.size = c.maxLocals) {argsL rest : List Value} (hlen : ∀ sig, parseMethodDescriptor y.desc = some sig → argsL.length = sig.parameters.length)
    (hstack : g.stack = argsL.reverse ++ .ref b :: rest) (hW : 2 * g.monitorRoom + (rest.map fun v => v.category).sum ≤ W9) (hdg : decode c.code g.pc = .ok (.invokevirtual index, 3))
    (hpre : ∀ vm₁, s.WarmedH vm₁ → Pre ⟨T.setVm vm₁, locs, cells, slots⟩ (Value.ref b :: argsL).toArray) :
    (∃ (v : Option Value) (vm₁ : Vm) (B : Pt), s.WarmedH vm₁ ∧ Stand p l e R s m args below meth c B.U B.locs B.cells B.slots ∧ Post ⟨T.setVm vm₁, locs, cells, slots⟩ (Value.ref b :: argsL).toArray v B ∧
      ∀ target, Steps p.tables e below (B.U.setTop { g with pc := g.pc + 3, stack := v.toList ++ rest }) target → Steps p.tables e below (T.setTop g) target) ∨
    (∃ (q : Addr) (vm₁ : Vm) (B : Pt), s.WarmedH vm₁ ∧ Stand p l e R s m args below meth c B.U B.locs B.cells B.slots ∧ PostX ⟨T.setVm vm₁, locs, cells, slots⟩ (Value.ref b :: argsL).toArray q B ∧
      Steps p.tables e below (T.setTop g) ((B.U.setTop { g with stack := rest }).pushFrame (.throwing q))) := by
  obtain ⟨mk, methM, hnamed, hmethM, hstM, habM⟩ := Cond.instanceMethod_spec hinst
  obtain ⟨m8, methM', cM, hn8, hmethM', -, -, -, -, -, -, hsigM⟩ := Cond.codeWith_spec hcode
  cases Option.some.inj (hn8.symm.trans hnamed)
  cases hmethM.symm.trans hmethM'
  obtain ⟨c2, r2, m2, q1, q2, q3, q4, kP, hkP, hkPi⟩ := Cond.selects_spec hsel
  cases hcls.symm.trans q1
  cases (State.methodFound?_of_named hnamed hy).symm.trans q2
  cases hnamed.symm.trans q3
  have hselP : selectMethod e.platform s.vm cellB.cls mk = .method mk := by rw [Launch.admits_selectMethod X.admits]; exact q4
  obtain ⟨vm₁, X₁, hstep₁⟩ := X.invokevirtual hexec hown hlink hnamed hmethM hstM hkP hkPi hy (a := b) (cell := cellB) hcell
    (fun z h => by rw [h] at hobj; cases hobj) hselP hmethM habM hkP hkPi (g := g) hg (argsL := argsL) (rest := rest) (hlen _ hsigM) hstack hdg
  rcases hK m meth c ⟨T.setVm vm₁, locs, cells, slots⟩ { g with stack := rest } (.invokevirtual index) mk (Value.ref b :: argsL).toArray X₁ hg hsize hdg hW (X₁.named hnamed) (hpre vm₁ X₁.warmed) with ⟨v, B, X', hpost, hsteps⟩ | ⟨q, B, X', hpost, hsteps⟩
  · exact Or.inl ⟨v, vm₁, B, X₁.warmed, X', hpost, fun target h => hstep₁ _ fun acts => by rw [doInvoke_state]; exact hsteps.trans h⟩
  · exact Or.inr ⟨q, vm₁, B, X₁.warmed, X', hpost, hstep₁ _ fun acts => by rw [doInvoke_state]; exact hsteps⟩
theorem vx_callSX (X : Stand p l e R s m args below meth c T locs cells slots) (hexec : p.tables.exec = Jvm.exec) {own : String} {index : Nat} {y : MethodName} {bytes : ByteArray} {maxL : Nat} {ret : Option FieldType} {hh : List (Nat × Nat × Nat × Nat)}
    (hown : s.vm.findClass own = some m.cls) (hlink : (Cond.methodLink own index y).before args s = true) (hstat : (Cond.static y).before args s = true) (hinit : (Cond.initialized y.cls).before args s = true)
    (hcode : (Cond.codeWith y bytes maxL ret hh).before args s = true) (hy : y.cls ≠ "java/lang/invoke/MethodHandle" ∧ y.cls ≠ "java/lang/invoke/VarHandle")
    {W9 : Nat} {Pre : Pt → Array Value → Prop} {Post : Pt → Array Value → Option Value → Pt → Prop} {PostX : Pt → Array Value → Addr → Pt → Prop} (hK : vx_Back l R p e below s args y 3 W9 Pre Post PostX)
    {g : JFrame} (hg : g.method = m) (hsize : g.locals.size = c.maxLocals) {argsL rest : List Value} (hlen : ∀ sig, parseMethodDescriptor y.desc = some sig → argsL.length = sig.parameters.length)
    (hstack : g.stack = argsL.reverse ++ rest) (hW : 2 * g.monitorRoom + (rest.map fun v => v.category).sum ≤ W9) (hdg : decode c.code g.pc = .ok (.invokestatic index, 3))
    (hpre : ∀ vm₁, s.WarmedH vm₁ → Pre ⟨T.setVm vm₁, locs, cells, slots⟩ argsL.toArray) :
    (∃ (v : Option Value) (vm₁ : Vm) (B : Pt), s.WarmedH vm₁ ∧ Stand p l e R s m args below meth c B.U B.locs B.cells B.slots ∧ Post ⟨T.setVm vm₁, locs, cells, slots⟩ argsL.toArray v B ∧
      ∀ target, Steps p.tables e below (B.U.setTop { g with pc := g.pc + 3, stack := v.toList ++ rest }) target → Steps p.tables e below (T.setTop g) target) ∨
    (∃ (q : Addr) (vm₁ : Vm) (B : Pt), s.WarmedH vm₁ ∧ Stand p l e R s m args below meth c B.U B.locs B.cells B.slots ∧ PostX ⟨T.setVm vm₁, locs, cells, slots⟩ argsL.toArray q B ∧
      Steps p.tables e below (T.setTop g) ((B.U.setTop { g with stack := rest }).pushFrame (.throwing q))) := by
  obtain ⟨mk, methM, cM, hnamed, hmethM, -, -, -, -, -, -, hsigM⟩ := Cond.codeWith_spec hcode
  have hstatic : methM.isStatic = true := Cond.static_spec hnamed hmethM hstat
  obtain ⟨kP, hkP, -⟩ := className_of_methodNamed hnamed
  have hinitP : kP.init = .initialized := Cond.initialized_spec (findClass_of_methodNamed hnamed) hkP hinit
  obtain ⟨vm₁, X₁, hstep₁⟩ := X.invokestatic hexec hown hlink hnamed hmethM hstatic hkP hinitP hy (g := g) hg (argsL := argsL) (rest := rest) (hlen _ hsigM) hstack hdg
  rcases hK m meth c ⟨T.setVm vm₁, locs, cells, slots⟩ { g with stack := rest } (.invokestatic index) mk argsL.toArray X₁ hg hsize hdg hW (X₁.named hnamed) (hpre vm₁ X₁.warmed) with ⟨v, B, X', hpost, hsteps⟩ | ⟨q, B, X', hpost, hsteps⟩
  · exact Or.inl ⟨v, vm₁, B, X₁.warmed, X', hpost, fun target h => hstep₁ _ fun acts => by rw [doInvoke_state]; exact hsteps.trans h⟩
  · exact Or.inr ⟨q, vm₁, B, X₁.warmed, X', hpost, hstep₁ _ fun acts => by rw [doInvoke_state]; exact hsteps⟩
theorem vx_callVW (X : Stand p l e R s m args below meth c T locs cells slots) (hexec : p.tables.exec = Jvm.exec) {own C : String} {index : Nat} {y : MethodName} {bytes : ByteArray} {maxL : Nat} {ret : Option FieldType} {hh : List (Nat × Nat × Nat × Nat)}
    (hown : s.vm.findClass own = some m.cls) (hlink : (Cond.methodLink own index y).before args s = true) (hinst : (Cond.instanceMethod y).before args s = true) (hsel : (Cond.selects C y y).before args s = true)
    (hcode : (Cond.codeWith y bytes maxL ret hh).before args s = true) (hy : y.cls ≠ "java/lang/invoke/MethodHandle" ∧ y.cls ≠ "java/lang/invoke/VarHandle")
    {W9 : Nat} {Pre : Pt → Array Value → Prop} {Post : Pt → Array Value → Option Value → Pt → Prop} (hK : Back l R p e below s args y 3 W9 Pre Post)
    {b : Addr} {cellB : Cell} (hcell : T.heap[b]? = some cellB) (hobj : cellB.vm.isStatics = false) (hcls : s.vm.findClass C = some cellB.cls)
    {g : JFrame} (hg : g.method = m) (hsize : g.locals.size = c.maxLocals) {argsL rest : List Value} (hlen : ∀ sig, parseMethodDescriptor y.desc = some sig → argsL.length = sig.parameters.length)
    (hstack : g.stack = argsL.reverse ++ .ref b :: rest) (hW : 2 * g.monitorRoom + (rest.map fun v => v.category).sum ≤ W9) (hdg : decode c.code g.pc = .ok (.invokevirtual index, 3))
    (hpre : ∀ vm₁, s.WarmedH vm₁ → Pre ⟨T.setVm vm₁, locs, cells, slots⟩ (Value.ref b :: argsL).toArray) :
    ∃ (v : Option Value) (vm₁ : Vm) (B : Pt), s.WarmedH vm₁ ∧ Stand p l e R s m args below meth c B.U B.locs B.cells B.slots ∧ Post ⟨T.setVm vm₁, locs, cells, slots⟩ (Value.ref b :: argsL).toArray v B ∧
      ∀ target, Steps p.tables e below (B.U.setTop { g with pc := g.pc + 3, stack := v.toList ++ rest }) target → Steps p.tables e below (T.setTop g) target := by
  obtain ⟨mk, methM, hnamed, hmethM, hstM, habM⟩ := Cond.instanceMethod_spec hinst
  obtain ⟨m8, methM', cM, hn8, hmethM', -, -, -, -, -, -, hsigM⟩ := Cond.codeWith_spec hcode
  cases Option.some.inj (hn8.symm.trans hnamed)
  cases hmethM.symm.trans hmethM'
  obtain ⟨c2, r2, m2, q1, q2, q3, q4, kP, hkP, hkPi⟩ := Cond.selects_spec hsel
  cases hcls.symm.trans q1
  cases (State.methodFound?_of_named hnamed hy).symm.trans q2
  cases hnamed.symm.trans q3
  have hselP : selectMethod e.platform s.vm cellB.cls mk = .method mk := by rw [Launch.admits_selectMethod X.admits]; exact q4
  obtain ⟨vm₁, X₁, hstep₁⟩ := X.invokevirtual hexec hown hlink hnamed hmethM hstM hkP hkPi hy (a := b) (cell := cellB) hcell
    (fun z h => by rw [h] at hobj; cases hobj) hselP hmethM habM hkP hkPi (g := g) hg (argsL := argsL) (rest := rest) (hlen _ hsigM) hstack hdg
  obtain ⟨v, B, X', hpost, hsteps⟩ := hK m meth c ⟨T.setVm vm₁, locs, cells, slots⟩ { g with stack := rest } (.invokevirtual index) mk (Value.ref b :: argsL).toArray X₁ hg hsize hdg hW (X₁.named hnamed) (hpre vm₁ X₁.warmed)
  exact ⟨v, vm₁, B, X₁.warmed, X', hpost, fun target h => hstep₁ _ fun acts => by rw [doInvoke_state]; exact hsteps.trans h⟩
abbrev vx_CVW (R : Room) (s : State) (args : Array Value) (own C : String) (index : Nat) (y : MethodName) (bytes : ByteArray) (maxL : Nat) (ret : Option FieldType) (hh : List (Nat × Nat × Nat × Nat)) (ws : List Cond) (rm : Room) (mc ms n : Nat) : Prop :=
  (rm.cells = mc ∧ rm.slots = ms ∧ rm.frames + 1 ≤ R.frames ∧ 8 + (maxL + 11) + rm.locals ≤ R.locals ∧ (∀ w ∈ ws, ∀ (a' : Array Value) (U : State), s.WarmedH U.vm → w.before a' U = true) ∧ Cond.codeWith y bytes maxL ret hh ∈ ws) ∧
  (Cond.codeWith y bytes maxL ret hh).before args s = true ∧ (Cond.initialized y.cls).before args s = true ∧ (y.cls ≠ "java/lang/invoke/MethodHandle" ∧ y.cls ≠ "java/lang/invoke/VarHandle") ∧
  (∀ sig, parseMethodDescriptor y.desc = some sig → n = sig.parameters.length) ∧ (Cond.methodLink own index y).before args s = true ∧ (Cond.instanceMethod y).before args s = true ∧ (Cond.selects C y y).before args s = true
theorem vx_cwVW {own C : String} {index maxL mc ms : Nat} {y : MethodName} {bytes : ByteArray} {ret : Option FieldType} {hh : List (Nat × Nat × Nat × Nat)} {Ts ws ws' : List Cond} {rm : Room} (n : Nat) (ht : ∀ w ∈ Ts, w.before args s = true) (hT : GoodIn Ts (wsV own index C y ws)) (hw : ws = Cond.codeWith y bytes maxL ret hh :: ws') (hrc : rm.cells = mc) (hrs : rm.slots = ms)
    (hd : y.cls = C ∧ y.cls ≠ "java/lang/invoke/MethodHandle" ∧ y.cls ≠ "java/lang/invoke/VarHandle" ∧ (parseMethodDescriptor y.desc).map (fun d => d.parameters.length) = some n) (hR : rm.frames + 1 ≤ R.frames ∧ 8 + (maxL + 11) + rm.locals ≤ R.locals) :
    vx_CVW R s args own C index y bytes maxL ret hh ws rm mc ms n := by
  obtain ⟨hC, hd⟩ := hd
  subst hC
  have ok : ∀ w ∈ wsV own index y.cls y ws, w.before args s = true := fun w h => ht w (hT w h).1
  have hG : GoodIn Ts ws := fun w h => hT w (by unfold wsV; exact List.mem_append_right _ h)
  have hc : Cond.codeWith y bytes maxL ret hh ∈ ws := by rw [hw]; exact List.mem_cons_self
  refine ⟨⟨hrc, hrs, hR.1, hR.2, pay_in ht hG, hc⟩, ht _ (hG _ hc).1, ok _ (by simp [wsV]), ⟨hd.1, hd.2.1⟩, fun sig h => ?_, ok _ (by simp [wsV]), ok _ (by simp [wsV]), ok _ (by simp [wsV])⟩
  have h2 := hd.2.2
  rw [h] at h2
  exact (Option.some.inj h2).symm
theorem vx_runVW {y : MethodName} {bytes cc : ByteArray} {maxL nL mc ms n index : Nat} {ret : Option FieldType} {hh : List (Nat × Nat × Nat × Nat)} {ws : List Cond} {rm : Room} {Pc : Array Value → State → Prop} {Qc : Array Value → State → Outcome → State → Prop} {free : Addr → Prop} {Ts : List Cond} {own C : String} {b : Addr} {As rest : List Value} {g : JFrame}
    (S : CallFix p m c cc nL s args Ts own) (hM : Met l y ws rm Pc Qc mc ms free) (cw : vx_CVW R s args own C index y bytes maxL ret hh ws rm mc ms n) (hp : PreV s H C b Pc As)
    (hg : g.method = m) (hn : As.length = n) (hsize : g.locals.size = nL) (hstack : g.stack = As.reverse ++ .ref b :: rest) (hW : 2 * g.monitorRoom + (rest.map fun v => v.category).sum ≤ 8) (hdg : decode cc g.pc = .ok (.invokevirtual index, 3)) (hf : cells + mc ≤ R.cells ∧ slots + ms ≤ R.slots) :
    va_Run p l e R s m args below meth c H locs cells slots mc ms g rest (Qc (Value.ref b :: As).toArray) free := by
  obtain ⟨⟨hrc, hrs, hfr, hlo, hws, hcw⟩, hcode, hini, hy, hlen, hl, hin, hse⟩ := cw
  have hK : Back l R p e below s args y 3 8 (PreOf R mc ms Pc) (PostOf Qc mc ms free) := va_backW (hh := hh) (bytes := bytes) (maxL := maxL) (ret := ret) hM hp.1 hrc hrs hfr hlo hws hcw (fun a' U hW => word_at hW (Or.inl (by first | rfl | simp [Cond.onTables, Cond.keeps, Cond.steady])) hini)
  obtain ⟨hx, hb, hml, ho, -⟩ := S
  obtain ⟨-, ⟨cellB, hcB, hoB, hclB⟩, hPc⟩ := hp
  intro T hT X
  obtain ⟨v, vm₁, ⟨U', l2, c2, s2⟩, hW₁, X', ⟨g', mk, t, L, e1, e2, hq, h1, hL, h2, h3⟩, st⟩ := vx_callVW X hx (C := C) (hh := hh) (bytes := bytes) (maxL := maxL) (ret := ret) ho hl hin hse hcode hy hK (by rw [hT]; exact hcB) hoB hclB hg (hsize.trans hml.symm) (argsL := As) (rest := rest) (fun sig h => hn.trans (hlen sig h)) hstack hW (by rw [hb]; exact hdg)
    (fun vm₁ hW₁ => ⟨hf.1, hf.2, hPc (T.setVm vm₁) hT hW₁⟩)
  dsimp only [Pt.U, Pt.locs, Pt.cells, Pt.slots] at X' e1 e2 h1 h2 h3 st
  subst h1; subst h2; subst h3
  exact ⟨v, (T.setVm vm₁).calling g' mk (Value.ref b :: As).toArray, t, U', L, hT, X', hL, e1, e2, hq, st⟩
section
variable {y : MethodName} {bytes cc : ByteArray} {maxL nL mc ms n index : Nat} {ret : Option FieldType} {ws : List Cond} {rm : Room} {Pc : Array Value → State → Prop} {Qc : Array Value → State → Outcome → State → Prop} {XC : String → State → State → Prop} {free : Addr → Prop} {Ts : List Cond} {own C : String} {b : Addr} {As rest : List Value} {g : JFrame}
theorem vx_runVX {hh : List (Nat × Nat × Nat × Nat)} (S : CallFix p m c cc nL s args Ts own) (hM : vx_Met l y ws rm Pc Qc XC mc ms free) (cw : vx_CVW R s args own C index y bytes maxL ret hh ws rm mc ms n) (hp : PreV s H C b Pc As)
    (hg : g.method = m) (hn : As.length = n) (hsize : g.locals.size = nL) (hstack : g.stack = As.reverse ++ .ref b :: rest) (hW : 2 * g.monitorRoom + (rest.map fun v => v.category).sum ≤ 8) (hdg : decode cc g.pc = .ok (.invokevirtual index, 3)) (hf : cells + mc ≤ R.cells ∧ slots + ms ≤ R.slots) :
    vx_Run p l e R s m args below meth c H locs cells slots mc ms g rest (Qc (Value.ref b :: As).toArray) XC free := by
  obtain ⟨⟨hrc, hrs, hfr, hlo, hws, hcw⟩, hcode, hini, hy, hlen, hl, hin, hse⟩ := cw
  have hK : vx_Back l R p e below s args y 3 8 (PreOf R mc ms Pc) (PostOf Qc mc ms free) (vx_Post XC mc ms free) := vx_backW (hh := hh) (bytes := bytes) (maxL := maxL) (ret := ret) hM hp.1 hrc hrs hfr hlo hws hcw (fun a' U hW => word_at hW (Or.inl (by first | rfl | simp [Cond.onTables, Cond.keeps, Cond.steady])) hini)
  obtain ⟨hx, hb, hml, ho, -⟩ := S
  obtain ⟨-, ⟨cellB, hcB, hoB, hclB⟩, hPc⟩ := hp
  intro T hT X
  rcases vx_callVX X hx (C := C) (hh := hh) (bytes := bytes) (maxL := maxL) (ret := ret) ho hl hin hse hcode hy hK (by rw [hT]; exact hcB) hoB hclB hg (hsize.trans hml.symm) (argsL := As) (rest := rest) (fun sig h => hn.trans (hlen sig h)) hstack hW (by rw [hb]; exact hdg)
    (fun vm₁ hW₁ => ⟨hf.1, hf.2, hPc (T.setVm vm₁) hT hW₁⟩) with ⟨v, vm₁, ⟨U', l2, c2, s2⟩, hW₁, X', ⟨g', mk, t, L, e1, e2, hq, h1, hL, h2, h3⟩, st⟩ | ⟨q, vm₁, ⟨U', l2, c2, s2⟩, hW₁, X', ⟨g', mk, t, L, E, ce, e1, e2, hq, hce, hcv, hcl, h1, hL, h2, h3⟩, st⟩
  · dsimp only [Pt.U, Pt.locs, Pt.cells, Pt.slots] at X' e1 e2 h1 h2 h3 st
    subst h1; subst h2; subst h3
    exact Or.inl ⟨v, (T.setVm vm₁).calling g' mk (Value.ref b :: As).toArray, t, U', L, hT, X', hL, e1, e2, hq, st⟩
  · dsimp only [Pt.U, Pt.locs, Pt.cells, Pt.slots] at X' e1 e2 h1 h2 h3 st hcl
    subst h1; subst h2; subst h3
    exact Or.inr ⟨q, (T.setVm vm₁).calling g' mk (Value.ref b :: As).toArray, t, U', L, E, ce, hT, X', hL, e1, e2, hq, hce, hcv, vx_cls hW₁ hcl, st⟩
theorem vx_runSX {hh : List (Nat × Nat × Nat × Nat)} (S : CallFix p m c cc nL s args Ts own) (hM : vx_Met l y ws rm Pc Qc XC mc ms free) (cw : vx_CSW R s args own index y bytes maxL ret hh ws rm mc ms n) (hp : PreS s H Pc As)
    (hg : g.method = m) (hn : As.length = n) (hsize : g.locals.size = nL) (hstack : g.stack = As.reverse ++ rest) (hW : 2 * g.monitorRoom + (rest.map fun v => v.category).sum ≤ 8) (hdg : decode cc g.pc = .ok (.invokestatic index, 3)) (hf : cells + mc ≤ R.cells ∧ slots + ms ≤ R.slots) :
    vx_Run p l e R s m args below meth c H locs cells slots mc ms g rest (Qc As.toArray) XC free := by
  obtain ⟨⟨hrc, hrs, hfr, hlo, hws, hcw⟩, hcode, hini, hy, hlen, hl, hstt⟩ := cw
  have hK : vx_Back l R p e below s args y 3 8 (PreOf R mc ms Pc) (PostOf Qc mc ms free) (vx_Post XC mc ms free) := vx_backW (hh := hh) (bytes := bytes) (maxL := maxL) (ret := ret) hM hp.1 hrc hrs hfr hlo hws hcw (fun a' U hW => word_at hW (Or.inl (by first | rfl | simp [Cond.onTables, Cond.keeps, Cond.steady])) hini)
  obtain ⟨hx, hb, hml, ho, -⟩ := S
  intro T hT X
  rcases vx_callSX X hx (hh := hh) (bytes := bytes) (maxL := maxL) (ret := ret) ho hl hstt hini hcode hy hK hg (hsize.trans hml.symm) (argsL := As) (rest := rest) (fun sig h => hn.trans (hlen sig h)) hstack hW (by rw [hb]; exact hdg)
    (fun vm₁ hW₁ => ⟨hf.1, hf.2, hp.2 (T.setVm vm₁) hT hW₁⟩) with ⟨v, vm₁, ⟨U', l2, c2, s2⟩, hW₁, X', ⟨g', mk, t, L, e1, e2, hq, h1, hL, h2, h3⟩, st⟩ | ⟨q, vm₁, ⟨U', l2, c2, s2⟩, hW₁, X', ⟨g', mk, t, L, E, ce, e1, e2, hq, hce, hcv, hcl, h1, hL, h2, h3⟩, st⟩
  · dsimp only [Pt.U, Pt.locs, Pt.cells, Pt.slots] at X' e1 e2 h1 h2 h3 st
    subst h1; subst h2; subst h3
    exact Or.inl ⟨v, (T.setVm vm₁).calling g' mk As.toArray, t, U', L, hT, X', hL, e1, e2, hq, st⟩
  · dsimp only [Pt.U, Pt.locs, Pt.cells, Pt.slots] at X' e1 e2 h1 h2 h3 st hcl
    subst h1; subst h2; subst h3
    exact Or.inr ⟨q, (T.setVm vm₁).calling g' mk As.toArray, t, U', L, E, ce, hT, X', hL, e1, e2, hq, hce, hcv, vx_cls hW₁ hcl, st⟩
end
end VXH
theorem vx_ofWH {l : Launch} {y : MethodName} {ws ws' : List Cond} {rm : Room} {Pc : Array Value → State → Prop} {Qc : Array Value → State → Outcome → State → Prop} {XC : String → State → State → Prop} {mc ms : Nat} {free : Addr → Prop} {cc : ByteArray} {maxL : Nat} {ret : Option FieldType} {hh : List (Nat × Nat × Nat × Nat)}
    (hy : plainName y.cls = true) (hw : ws = Cond.codeWith y cc maxL ret hh :: ws')
    (body : ∀ p e s m args below meth c s₁, BodyLoose p l y (headSpec ws rm) cc maxL ret e s m args below meth c s₁ → c.maxLocals = maxL → Pc args s →
      W p l e (headSpec ws rm).room s m args below meth c s.heap [] 0 0 (vx_MQ below Qc XC args s mc ms free) (entryFrame m args maxL)) : vx_Met l y ws rm Pc Qc XC mc ms free := by
  refine MetFree.of_bodyS (code := cc) (maxLocals := maxL) (ret := ret) hy ?_ ?_
  · intro args s m h hn
    obtain ⟨m9, meth, c, hn9, h1, h2, h3, h4, -, h5, h6, -⟩ := Cond.codeWith_spec (atoms_spec (ws := ws) h _ (by rw [hw]; exact List.mem_cons_self))
    cases hn.symm.trans hn9
    exact ⟨meth, c, h1, h2, h3, h4, h5, h6⟩
  · intro p e s m args below meth c s₁ B hml hP _
    have hh0 : s₁.heap = s.heap := by rw [B.state]; rfl
    obtain ⟨t, a1, o, b1, b2, b3⟩ := body p e s m args below meth c s₁ B hml hP s₁ hh0 (Stand.of_body B)
    exact ⟨t, o, a1, b1, b2, b3⟩
/-! ===== END ===== -/

/-! ===== BEGIN a private method of a nest mate that may throw (follows va_callVN, va_callSN, va_runVN, va_runSN) ===== -/
section
variable {p : Program} {l : Launch} {e : Env} {R : Room} {s : State} {m : MethodId} {args : Array Value} {below : List Frame} {meth : Method} {c : Code} {H : Heap} {locs : List Loc} {cells slots : Nat}
variable {T : State}
theorem vx_callVN (X : Stand p l e R s m args below meth c T locs cells slots) (hexec : p.tables.exec = Jvm.exec) {own C : String} {index : Nat} {host : String} {y : MethodName} {bytes : ByteArray} {maxL : Nat} {ret : Option FieldType}
    (hown : s.vm.findClass own = some m.cls) (hlink : (Cond.methodLinkNest own index y host).before args s = true) (hinst : (Cond.instanceMethod y).before args s = true) (hsel : (Cond.selects C y y).before args s = true)
    (hcode : (Cond.code y bytes maxL ret).before args s = true) (hy : y.cls ≠ "java/lang/invoke/MethodHandle" ∧ y.cls ≠ "java/lang/invoke/VarHandle")
    {W : Nat} {Pre : Pt → Array Value → Prop} {Post : Pt → Array Value → Option Value → Pt → Prop} {PostX : Pt → Array Value → Addr → Pt → Prop} (hK : vx_Back l R p e below s args y 3 W Pre Post PostX)
    {b : Addr} {cellB : Cell} (hcell : T.heap[b]? = some cellB) (hobj : cellB.vm.isStatics = false) (hcls : s.vm.findClass C = some cellB.cls)
    {g : JFrame} (hg : g.method = m) (hsize : g.locals.size = c.maxLocals) {argsL rest : List Value} (hlen : ∀ sig, parseMethodDescriptor y.desc = some sig → argsL.length = sig.parameters.length)
    (hstack : g.stack = argsL.reverse ++ .ref b :: rest) (hW : 2 * g.monitorRoom + (rest.map fun v => v.category).sum ≤ W) (hdg : decode c.code g.pc = .ok (.invokevirtual index, 3))
    (hpre : ∀ vm₁, s.WarmedH vm₁ → Pre ⟨T.setVm vm₁, locs, cells, slots⟩ (Value.ref b :: argsL).toArray) :
    (∃ (v : Option Value) (vm₁ : Vm) (B : Pt), s.WarmedH vm₁ ∧ Stand p l e R s m args below meth c B.U B.locs B.cells B.slots ∧ Post ⟨T.setVm vm₁, locs, cells, slots⟩ (Value.ref b :: argsL).toArray v B ∧
      ∀ target, Steps p.tables e below (B.U.setTop { g with pc := g.pc + 3, stack := v.toList ++ rest }) target → Steps p.tables e below (T.setTop g) target) ∨
    (∃ (q : Addr) (vm₁ : Vm) (B : Pt), s.WarmedH vm₁ ∧ Stand p l e R s m args below meth c B.U B.locs B.cells B.slots ∧ PostX ⟨T.setVm vm₁, locs, cells, slots⟩ (Value.ref b :: argsL).toArray q B ∧
      Steps p.tables e below (T.setTop g) ((B.U.setTop { g with stack := rest }).pushFrame (.throwing q))) := by
  obtain ⟨mk, methM, hnamed, hmethM, hstM, habM⟩ := Cond.instanceMethod_spec hinst
  obtain ⟨methM', cM, hmethM', -, -, -, -, -, -, hsigM⟩ := Cond.code_spec hnamed hcode
  cases hmethM.symm.trans hmethM'
  obtain ⟨c2, r2, m2, q1, q2, q3, q4, kP, hkP, hkPi⟩ := Cond.selects_spec hsel
  cases hcls.symm.trans q1
  cases (State.methodFound?_of_named hnamed hy).symm.trans q2
  cases hnamed.symm.trans q3
  have hselP : selectMethod e.platform s.vm cellB.cls mk = .method mk := by rw [Launch.admits_selectMethod X.admits]; exact q4
  obtain ⟨vm₁, X₁, hstep₁⟩ := X.invokevirtualNest hexec hown hlink hnamed hmethM hstM hkP hkPi hy (a := b) (cell := cellB) hcell
    (fun z h => by rw [h] at hobj; cases hobj) hselP hmethM habM hkP hkPi (g := g) hg (argsL := argsL) (rest := rest) (hlen _ hsigM) hstack hdg
  rcases hK m meth c ⟨T.setVm vm₁, locs, cells, slots⟩ { g with stack := rest } (.invokevirtual index) mk (Value.ref b :: argsL).toArray X₁ hg hsize hdg hW (X₁.named hnamed) (hpre vm₁ X₁.warmed) with ⟨v, B, X', hpost, hsteps⟩ | ⟨q, B, X', hpost, hsteps⟩
  · exact Or.inl ⟨v, vm₁, B, X₁.warmed, X', hpost, fun target h => hstep₁ _ fun acts => by rw [doInvoke_state]; exact hsteps.trans h⟩
  · exact Or.inr ⟨q, vm₁, B, X₁.warmed, X', hpost, hstep₁ _ fun acts => by rw [doInvoke_state]; exact hsteps⟩
theorem vx_callSN (X : Stand p l e R s m args below meth c T locs cells slots) (hexec : p.tables.exec = Jvm.exec) {own : String} {index : Nat} {host : String} {y : MethodName} {bytes : ByteArray} {maxL : Nat} {ret : Option FieldType}
    (hown : s.vm.findClass own = some m.cls) (hlink : (Cond.methodLinkNest own index y host).before args s = true) (hstat : (Cond.static y).before args s = true) (hinit : (Cond.initialized y.cls).before args s = true)
    (hcode : (Cond.code y bytes maxL ret).before args s = true) (hy : y.cls ≠ "java/lang/invoke/MethodHandle" ∧ y.cls ≠ "java/lang/invoke/VarHandle")
    {W : Nat} {Pre : Pt → Array Value → Prop} {Post : Pt → Array Value → Option Value → Pt → Prop} {PostX : Pt → Array Value → Addr → Pt → Prop} (hK : vx_Back l R p e below s args y 3 W Pre Post PostX)
    {g : JFrame} (hg : g.method = m) (hsize : g.locals.size = c.maxLocals) {argsL rest : List Value} (hlen : ∀ sig, parseMethodDescriptor y.desc = some sig → argsL.length = sig.parameters.length)
    (hstack : g.stack = argsL.reverse ++ rest) (hW : 2 * g.monitorRoom + (rest.map fun v => v.category).sum ≤ W) (hdg : decode c.code g.pc = .ok (.invokestatic index, 3))
    (hpre : ∀ vm₁, s.WarmedH vm₁ → Pre ⟨T.setVm vm₁, locs, cells, slots⟩ argsL.toArray) :
    (∃ (v : Option Value) (vm₁ : Vm) (B : Pt), s.WarmedH vm₁ ∧ Stand p l e R s m args below meth c B.U B.locs B.cells B.slots ∧ Post ⟨T.setVm vm₁, locs, cells, slots⟩ argsL.toArray v B ∧
      ∀ target, Steps p.tables e below (B.U.setTop { g with pc := g.pc + 3, stack := v.toList ++ rest }) target → Steps p.tables e below (T.setTop g) target) ∨
    (∃ (q : Addr) (vm₁ : Vm) (B : Pt), s.WarmedH vm₁ ∧ Stand p l e R s m args below meth c B.U B.locs B.cells B.slots ∧ PostX ⟨T.setVm vm₁, locs, cells, slots⟩ argsL.toArray q B ∧
      Steps p.tables e below (T.setTop g) ((B.U.setTop { g with stack := rest }).pushFrame (.throwing q))) := by
  obtain ⟨mk, hnamed⟩ := Cond.code_named hcode
  obtain ⟨methM, cM, hmethM, -, -, -, -, -, -, hsigM⟩ := Cond.code_spec hnamed hcode
  have hstatic : methM.isStatic = true := Cond.static_spec hnamed hmethM hstat
  obtain ⟨kP, hkP, -⟩ := className_of_methodNamed hnamed
  have hinitP : kP.init = .initialized := Cond.initialized_spec (findClass_of_methodNamed hnamed) hkP hinit
  obtain ⟨vm₁, X₁, hstep₁⟩ := X.invokestaticNest hexec hown hlink hnamed hmethM hstatic hkP hinitP hy (g := g) hg (argsL := argsL) (rest := rest) (hlen _ hsigM) hstack hdg
  rcases hK m meth c ⟨T.setVm vm₁, locs, cells, slots⟩ { g with stack := rest } (.invokestatic index) mk argsL.toArray X₁ hg hsize hdg hW (X₁.named hnamed) (hpre vm₁ X₁.warmed) with ⟨v, B, X', hpost, hsteps⟩ | ⟨q, B, X', hpost, hsteps⟩
  · exact Or.inl ⟨v, vm₁, B, X₁.warmed, X', hpost, fun target h => hstep₁ _ fun acts => by rw [doInvoke_state]; exact hsteps.trans h⟩
  · exact Or.inr ⟨q, vm₁, B, X₁.warmed, X', hpost, hstep₁ _ fun acts => by rw [doInvoke_state]; exact hsteps⟩
theorem vx_runVN {y : MethodName} {bytes cc : ByteArray} {maxL nL mc ms n index : Nat} {ret : Option FieldType} {ws : List Cond} {rm : Room} {Pc : Array Value → State → Prop} {Qc : Array Value → State → Outcome → State → Prop} {XC : String → State → State → Prop} {free : Addr → Prop} {Ts : List Cond} {own C host : String} {b : Addr} {As rest : List Value} {g : JFrame}
    (S : CallFix p m c cc nL s args Ts own) (hM : vx_Met l y ws rm Pc Qc XC mc ms free) (cw : va_CN R s args own index y host bytes maxL ret ws rm mc ms n ∧ (Cond.instanceMethod y).before args s = true ∧ (Cond.selects C y y).before args s = true) (hp : PreV s H C b Pc As)
    (hg : g.method = m) (hn : As.length = n) (hsize : g.locals.size = nL) (hstack : g.stack = As.reverse ++ .ref b :: rest) (hW : 2 * g.monitorRoom + (rest.map fun v => v.category).sum ≤ 8) (hdg : decode cc g.pc = .ok (.invokevirtual index, 3)) (hf : cells + mc ≤ R.cells ∧ slots + ms ≤ R.slots) :
    vx_Run p l e R s m args below meth c H locs cells slots mc ms g rest (Qc (Value.ref b :: As).toArray) XC free := by
  obtain ⟨⟨⟨hrc, hrs, hfr, hlo, hws, hcw⟩, hcode, hini, hy, hlen, hl⟩, hx1, hx2⟩ := cw
  have hK : vx_Back l R p e below s args y 3 8 (PreOf R mc ms Pc) (PostOf Qc mc ms free) (vx_Post XC mc ms free) := vx_back (bytes := bytes) (maxL := maxL) (ret := ret) hM hp.1 hrc hrs hfr hlo hws hcw (fun a' U hW => word_at hW (Or.inl (by first | rfl | simp [Cond.onTables, Cond.keeps, Cond.steady])) hini)
  obtain ⟨hx, hb, hml, ho, -⟩ := S
  obtain ⟨-, ⟨cellB, hcB, hoB, hclB⟩, hPc⟩ := hp
  intro T hT X
  rcases vx_callVN X hx (C := C) (bytes := bytes) (maxL := maxL) (ret := ret) ho hl hx1 hx2 hcode hy hK (by rw [hT]; exact hcB) hoB hclB hg (hsize.trans hml.symm) (argsL := As) (rest := rest) (fun sig h => hn.trans (hlen sig h)) hstack hW (by rw [hb]; exact hdg)
    (fun vm₁ hW₁ => ⟨hf.1, hf.2, hPc (T.setVm vm₁) hT hW₁⟩) with ⟨v, vm₁, ⟨U', l2, c2, s2⟩, hW₁, X', ⟨g', mk, t, L, e1, e2, hq, h1, hL, h2, h3⟩, st⟩ | ⟨q, vm₁, ⟨U', l2, c2, s2⟩, hW₁, X', ⟨g', mk, t, L, E, ce, e1, e2, hq, hce, hcv, hcl, h1, hL, h2, h3⟩, st⟩
  · dsimp only [Pt.U, Pt.locs, Pt.cells, Pt.slots] at X' e1 e2 h1 h2 h3 st
    subst h1; subst h2; subst h3
    exact Or.inl ⟨v, (T.setVm vm₁).calling g' mk (Value.ref b :: As).toArray, t, U', L, hT, X', hL, e1, e2, hq, st⟩
  · dsimp only [Pt.U, Pt.locs, Pt.cells, Pt.slots] at X' e1 e2 h1 h2 h3 st hcl
    subst h1; subst h2; subst h3
    exact Or.inr ⟨q, (T.setVm vm₁).calling g' mk (Value.ref b :: As).toArray, t, U', L, E, ce, hT, X', hL, e1, e2, hq, hce, hcv, vx_cls hW₁ hcl, st⟩
theorem vx_runSN {y : MethodName} {bytes cc : ByteArray} {maxL nL mc ms n index : Nat} {ret : Option FieldType} {ws : List Cond} {rm : Room} {Pc : Array Value → State → Prop} {Qc : Array Value → State → Outcome → State → Prop} {XC : String → State → State → Prop} {free : Addr → Prop} {Ts : List Cond} {own host : String} {As rest : List Value} {g : JFrame}
    (S : CallFix p m c cc nL s args Ts own) (hM : vx_Met l y ws rm Pc Qc XC mc ms free) (cw : va_CN R s args own index y host bytes maxL ret ws rm mc ms n ∧ (Cond.static y).before args s = true ∧ True) (hp : PreS s H Pc As)
    (hg : g.method = m) (hn : As.length = n) (hsize : g.locals.size = nL) (hstack : g.stack = As.reverse ++ rest) (hW : 2 * g.monitorRoom + (rest.map fun v => v.category).sum ≤ 8) (hdg : decode cc g.pc = .ok (.invokestatic index, 3)) (hf : cells + mc ≤ R.cells ∧ slots + ms ≤ R.slots) :
    vx_Run p l e R s m args below meth c H locs cells slots mc ms g rest (Qc As.toArray) XC free := by
  obtain ⟨⟨⟨hrc, hrs, hfr, hlo, hws, hcw⟩, hcode, hini, hy, hlen, hl⟩, hx1, hx2⟩ := cw
  have hK : vx_Back l R p e below s args y 3 8 (PreOf R mc ms Pc) (PostOf Qc mc ms free) (vx_Post XC mc ms free) := vx_back (bytes := bytes) (maxL := maxL) (ret := ret) hM hp.1 hrc hrs hfr hlo hws hcw (fun a' U hW => word_at hW (Or.inl (by first | rfl | simp [Cond.onTables, Cond.keeps, Cond.steady])) hini)
  obtain ⟨hx, hb, hml, ho, -⟩ := S
  have hPc := hp.2
  intro T hT X
  rcases vx_callSN X hx (bytes := bytes) (maxL := maxL) (ret := ret) ho hl hx1 hini hcode hy hK hg (hsize.trans hml.symm) (argsL := As) (rest := rest) (fun sig h => hn.trans (hlen sig h)) hstack hW (by rw [hb]; exact hdg)
    (fun vm₁ hW₁ => ⟨hf.1, hf.2, hPc (T.setVm vm₁) hT hW₁⟩) with ⟨v, vm₁, ⟨U', l2, c2, s2⟩, hW₁, X', ⟨g', mk, t, L, e1, e2, hq, h1, hL, h2, h3⟩, st⟩ | ⟨q, vm₁, ⟨U', l2, c2, s2⟩, hW₁, X', ⟨g', mk, t, L, E, ce, e1, e2, hq, hce, hcv, hcl, h1, hL, h2, h3⟩, st⟩
  · dsimp only [Pt.U, Pt.locs, Pt.cells, Pt.slots] at X' e1 e2 h1 h2 h3 st
    subst h1; subst h2; subst h3
    exact Or.inl ⟨v, (T.setVm vm₁).calling g' mk As.toArray, t, U', L, hT, X', hL, e1, e2, hq, st⟩
  · dsimp only [Pt.U, Pt.locs, Pt.cells, Pt.slots] at X' e1 e2 h1 h2 h3 st hcl
    subst h1; subst h2; subst h3
    exact Or.inr ⟨q, (T.setVm vm₁).calling g' mk As.toArray, t, U', L, E, ce, hT, X', hL, e1, e2, hq, hce, hcv, vx_cls hW₁ hcl, st⟩
end
/-! ===== END ===== -/
end
section
def RX0 : String := "TwistyBarrels$Barrel"
def TX0 : u_T := fun k => match k with
  | 0 => ("TwistyBarrels$Barrel", "stickers", "[I", true)
  | 1 => ("TwistyBarrels$Barrel", "slots", "[I", true)
  | _ => ("TwistyBarrels$Barrel", "colours", "[I", true)
def tyX0 : Nat → FieldType := fun k => match k with
  | 0 => .array .int
  | 1 => .array .int
  | _ => .array .int
theorem nmX0 : ∀ a, a < 3 → ∀ b, b < 3 → a ≠ b → (TX0 a).2.1 ≠ (TX0 b).2.1 := by decide +kernel
theorem tyX0_ok : ∀ k, k < 3 → parseFieldDescriptor (TX0 k).2.2.1 = some (tyX0 k) := by decide +kernel
abbrev cX0_init : ByteArray := prog_2_method_1_code
def yX0_init : MethodName := ⟨RX0, "<init>", "()V"⟩
abbrev cX0_copyFrom : ByteArray := prog_2_method_2_code
def yX0_copyFrom : MethodName := ⟨RX0, "copyFrom", "(LTwistyBarrels$Barrel;)V"⟩
abbrev cX0_stickerIn : ByteArray := prog_2_method_3_code
def yX0_stickerIn : MethodName := ⟨RX0, "stickerIn", "(I)I"⟩
abbrev cX0_slotOf : ByteArray := prog_2_method_4_code
def yX0_slotOf : MethodName := ⟨RX0, "slotOf", "(I)I"⟩
abbrev cX0_colourOf : ByteArray := prog_2_method_5_code
def yX0_colourOf : MethodName := ⟨RX0, "colourOf", "(I)I"⟩
abbrev cX0_colourIn : ByteArray := prog_2_method_6_code
def yX0_colourIn : MethodName := ⟨RX0, "colourIn", "(I)I"⟩
abbrev cX0_giveColour : ByteArray := prog_2_method_7_code
def yX0_giveColour : MethodName := ⟨RX0, "giveColour", "(II)V"⟩
abbrev cX0_follow : ByteArray := prog_2_method_8_code
def yX0_follow : MethodName := ⟨RX0, "follow", "(LTwistyBarrels$Permutation;)V"⟩
abbrev cX0_countHome : ByteArray := prog_2_method_9_code
def yX0_countHome : MethodName := ⟨RX0, "countHome", "()I"⟩
abbrev cX0_hasOneColour : ByteArray := prog_2_method_10_code
def yX0_hasOneColour : MethodName := ⟨RX0, "hasOneColour", "(I)Z"⟩
abbrev cX0_countDone : ByteArray := prog_2_method_11_code
def yX0_countDone : MethodName := ⟨RX0, "countDone", "()I"⟩
abbrev cX0_countSeams : ByteArray := prog_2_method_12_code
def yX0_countSeams : MethodName := ⟨RX0, "countSeams", "()I"⟩
abbrev cX0_movesToHomes : ByteArray := prog_2_method_13_code
def yX0_movesToHomes : MethodName := ⟨RX0, "movesToHomes", "()I"⟩
abbrev cX0_isEachWhereTold : ByteArray := prog_2_method_14_code
def yX0_isEachWhereTold : MethodName := ⟨RX0, "isEachWhereTold", "()Z"⟩
def RX1 : String := "TwistyBarrels$MoveLog"
def TX1 : u_T := fun k => match k with
  | 0 => ("TwistyBarrels$MoveLog", "parts", "[I", true)
  | _ => ("TwistyBarrels$MoveLog", "moves", "I", false)
def tyX1 : Nat → FieldType := fun k => match k with
  | 0 => .array .int
  | _ => .int
theorem nmX1 : ∀ a, a < 2 → ∀ b, b < 2 → a ≠ b → (TX1 a).2.1 ≠ (TX1 b).2.1 := by decide +kernel
theorem tyX1_ok : ∀ k, k < 2 → parseFieldDescriptor (TX1 k).2.2.1 = some (tyX1 k) := by decide +kernel
abbrev cX1_init : ByteArray := prog_3_method_1_code
def yX1_init : MethodName := ⟨RX1, "<init>", "()V"⟩
abbrev cX1_copyFrom : ByteArray := prog_3_method_2_code
def yX1_copyFrom : MethodName := ⟨RX1, "copyFrom", "(LTwistyBarrels$MoveLog;)V"⟩
abbrev cX1_size : ByteArray := prog_3_method_3_code
def yX1_size : MethodName := ⟨RX1, "size", "()I"⟩
abbrev cX1_part : ByteArray := prog_3_method_4_code
def yX1_part : MethodName := ⟨RX1, "part", "(II)I"⟩
abbrev cX1_add : ByteArray := prog_3_method_5_code
def yX1_add : MethodName := ⟨RX1, "add", "(III)V"⟩
abbrev cX1_dropLast : ByteArray := prog_3_method_6_code
def yX1_dropLast : MethodName := ⟨RX1, "dropLast", "()V"⟩
abbrev cX1_clear : ByteArray := prog_3_method_7_code
def yX1_clear : MethodName := ⟨RX1, "clear", "()V"⟩
def RX2 : String := "TwistyBarrels$Past"
def TX2 : u_T := fun k => match k with
  | 0 => ("TwistyBarrels$Past", "states", "[LTwistyBarrels$State;", true)
  | _ => ("TwistyBarrels$Past", "held", "I", false)
def tyX2 : Nat → FieldType := fun k => match k with
  | 0 => .array (.object "TwistyBarrels$State")
  | _ => .int
theorem nmX2 : ∀ a, a < 2 → ∀ b, b < 2 → a ≠ b → (TX2 a).2.1 ≠ (TX2 b).2.1 := by decide +kernel
theorem tyX2_ok : ∀ k, k < 2 → parseFieldDescriptor (TX2 k).2.2.1 = some (tyX2 k) := by decide +kernel
abbrev cX2_init : ByteArray := prog_4_method_1_code
def yX2_init : MethodName := ⟨RX2, "<init>", "()V"⟩
abbrev cX2_size : ByteArray := prog_4_method_2_code
def yX2_size : MethodName := ⟨RX2, "size", "()I"⟩
abbrev cX2_clear : ByteArray := prog_4_method_3_code
def yX2_clear : MethodName := ⟨RX2, "clear", "()V"⟩
abbrev cX2_hold : ByteArray := prog_4_method_4_code
def yX2_hold : MethodName := ⟨RX2, "hold", "(LTwistyBarrels$State;)V"⟩
abbrev cX2_giveBack : ByteArray := prog_4_method_5_code
def yX2_giveBack : MethodName := ⟨RX2, "giveBack", "(LTwistyBarrels$State;)V"⟩
def RX3 : String := "TwistyBarrels$Permutation"
def TX3 : u_T := fun k => match k with
  | _ => ("TwistyBarrels$Permutation", "goes", "[I", true)
def tyX3 : Nat → FieldType := fun k => match k with
  | _ => .array .int
theorem nmX3 : ∀ a, a < 1 → ∀ b, b < 1 → a ≠ b → (TX3 a).2.1 ≠ (TX3 b).2.1 := by decide +kernel
theorem tyX3_ok : ∀ k, k < 1 → parseFieldDescriptor (TX3 k).2.2.1 = some (tyX3 k) := by decide +kernel
abbrev cX3_init : ByteArray := prog_5_method_1_code
def yX3_init : MethodName := ⟨RX3, "<init>", "()V"⟩
abbrev cX3_of : ByteArray := prog_5_method_2_code
def yX3_of : MethodName := ⟨RX3, "of", "(I)I"⟩
abbrev cX3_toNothing : ByteArray := prog_5_method_3_code
def yX3_toNothing : MethodName := ⟨RX3, "toNothing", "()V"⟩
abbrev cX3_toCopy : ByteArray := prog_5_method_4_code
def yX3_toCopy : MethodName := ⟨RX3, "toCopy", "(LTwistyBarrels$Permutation;)V"⟩
abbrev cX3_toMove : ByteArray := prog_5_method_5_code
def yX3_toMove : MethodName := ⟨RX3, "toMove", "(III)V"⟩
abbrev cX3_toTurn : ByteArray := prog_5_method_6_code
def yX3_toTurn : MethodName := ⟨RX3, "toTurn", "(II)V"⟩
abbrev cX3_toShift : ByteArray := prog_5_method_7_code
def yX3_toShift : MethodName := ⟨RX3, "toShift", "(II)V"⟩
abbrev cX3_toInverse : ByteArray := prog_5_method_8_code
def yX3_toInverse : MethodName := ⟨RX3, "toInverse", "(LTwistyBarrels$Permutation;)V"⟩
abbrev cX3_then : ByteArray := prog_5_method_9_code
def yX3_then : MethodName := ⟨RX3, "then", "(LTwistyBarrels$Permutation;)V"⟩
abbrev cX3_toPower : ByteArray := prog_5_method_10_code
def yX3_toPower : MethodName := ⟨RX3, "toPower", "(LTwistyBarrels$Permutation;I)V"⟩
abbrev cX3_toCommuted : ByteArray := prog_5_method_11_code
def yX3_toCommuted : MethodName := ⟨RX3, "toCommuted", "(LTwistyBarrels$Permutation;LTwistyBarrels$Permutation;LTwistyBarrels$Permutation;)V"⟩
abbrev cX3_movesNothing : ByteArray := prog_5_method_12_code
def yX3_movesNothing : MethodName := ⟨RX3, "movesNothing", "()Z"⟩
abbrev cX3_countMoved : ByteArray := prog_5_method_13_code
def yX3_countMoved : MethodName := ⟨RX3, "countMoved", "()I"⟩
abbrev cX3_cycleLength : ByteArray := prog_5_method_14_code
def yX3_cycleLength : MethodName := ⟨RX3, "cycleLength", "(I)I"⟩
abbrev cX3_isLowestOfCycle : ByteArray := prog_5_method_15_code
def yX3_isLowestOfCycle : MethodName := ⟨RX3, "isLowestOfCycle", "(I)Z"⟩
abbrev cX3_countCycles : ByteArray := prog_5_method_16_code
def yX3_countCycles : MethodName := ⟨RX3, "countCycles", "(I)I"⟩
abbrev cX3_longestCycle : ByteArray := prog_5_method_17_code
def yX3_longestCycle : MethodName := ⟨RX3, "longestCycle", "()I"⟩
abbrev cX3_orderByCycles : ByteArray := prog_5_method_18_code
def yX3_orderByCycles : MethodName := ⟨RX3, "orderByCycles", "()I"⟩
abbrev cX3_orderByDoing : ByteArray := prog_5_method_19_code
def yX3_orderByDoing : MethodName := ⟨RX3, "orderByDoing", "(LTwistyBarrels$Permutation;)I"⟩
abbrev cX3_isEvenByCycles : ByteArray := prog_5_method_20_code
def yX3_isEvenByCycles : MethodName := ⟨RX3, "isEvenByCycles", "()Z"⟩
abbrev cX3_isEvenByPairs : ByteArray := prog_5_method_21_code
def yX3_isEvenByPairs : MethodName := ⟨RX3, "isEvenByPairs", "()Z"⟩
abbrev cX3_isInEitherOrder : ByteArray := prog_5_method_22_code
def yX3_isInEitherOrder : MethodName := ⟨RX3, "isInEitherOrder", "(LTwistyBarrels$Permutation;)Z"⟩
abbrev cX3_leastCommonMultiple : ByteArray := prog_5_method_23_code
def yX3_leastCommonMultiple : MethodName := ⟨RX3, "leastCommonMultiple", "(II)I"⟩
def RX4 : String := "TwistyBarrels$SequenceReader"
def TX4 : u_T := fun k => match k with
  | 0 => ("TwistyBarrels$SequenceReader", "text", "LTwistyBarrels$Signs;", true)
  | 1 => ("TwistyBarrels$SequenceReader", "place", "I", false)
  | 2 => ("TwistyBarrels$SequenceReader", "sequences", "[LTwistyBarrels$Permutation;", true)
  | 3 => ("TwistyBarrels$SequenceReader", "items", "[LTwistyBarrels$Permutation;", true)
  | 4 => ("TwistyBarrels$SequenceReader", "firsts", "[LTwistyBarrels$Permutation;", true)
  | _ => ("TwistyBarrels$SequenceReader", "inverse", "LTwistyBarrels$Permutation;", true)
def tyX4 : Nat → FieldType := fun k => match k with
  | 0 => .object "TwistyBarrels$Signs"
  | 1 => .int
  | 2 => .array (.object "TwistyBarrels$Permutation")
  | 3 => .array (.object "TwistyBarrels$Permutation")
  | 4 => .array (.object "TwistyBarrels$Permutation")
  | _ => .object "TwistyBarrels$Permutation"
theorem nmX4 : ∀ a, a < 6 → ∀ b, b < 6 → a ≠ b → (TX4 a).2.1 ≠ (TX4 b).2.1 := by decide +kernel
theorem tyX4_ok : ∀ k, k < 6 → parseFieldDescriptor (TX4 k).2.2.1 = some (tyX4 k) := by decide +kernel
abbrev cX4_init : ByteArray := prog_6_method_1_code
def yX4_init : MethodName := ⟨RX4, "<init>", "()V"⟩
abbrev cX4_place : ByteArray := prog_6_method_2_code
def yX4_place : MethodName := ⟨RX4, "place", "()I"⟩
abbrev cX4_result : ByteArray := prog_6_method_3_code
def yX4_result : MethodName := ⟨RX4, "result", "()LTwistyBarrels$Permutation;"⟩
abbrev cX4_understand : ByteArray := prog_6_method_4_code
def yX4_understand : MethodName := ⟨RX4, "understand", "(LTwistyBarrels$State;)I"⟩
abbrev cX4_isItemNext : ByteArray := prog_6_method_5_code
def yX4_isItemNext : MethodName := ⟨RX4, "isItemNext", "()Z"⟩
abbrev cX4_sequence : ByteArray := prog_6_method_6_code
def yX4_sequence : MethodName := ⟨RX4, "sequence", "(ILTwistyBarrels$State;)I"⟩
abbrev cX4_item : ByteArray := prog_6_method_7_code
def yX4_item : MethodName := ⟨RX4, "item", "(ILTwistyBarrels$State;)I"⟩
abbrev cX4_digit : ByteArray := prog_6_method_8_code
def yX4_digit : MethodName := ⟨RX4, "digit", "(II)I"⟩
abbrev cX4_moveItem : ByteArray := prog_6_method_9_code
def yX4_moveItem : MethodName := ⟨RX4, "moveItem", "(ILTwistyBarrels$Permutation;)I"⟩
abbrev cX4_shelfItem : ByteArray := prog_6_method_10_code
def yX4_shelfItem : MethodName := ⟨RX4, "shelfItem", "(LTwistyBarrels$State;LTwistyBarrels$Permutation;)I"⟩
abbrev cX4_repeatedItem : ByteArray := prog_6_method_11_code
def yX4_repeatedItem : MethodName := ⟨RX4, "repeatedItem", "(ILTwistyBarrels$State;LTwistyBarrels$Permutation;)I"⟩
abbrev cX4_commutedItem : ByteArray := prog_6_method_12_code
def yX4_commutedItem : MethodName := ⟨RX4, "commutedItem", "(ILTwistyBarrels$State;LTwistyBarrels$Permutation;)I"⟩
def RX5 : String := "TwistyBarrels$Signs"
def TX5 : u_T := fun k => match k with
  | 0 => ("TwistyBarrels$Signs", "signs", "[C", true)
  | _ => ("TwistyBarrels$Signs", "length", "I", false)
def tyX5 : Nat → FieldType := fun k => match k with
  | 0 => .array .char
  | _ => .int
theorem nmX5 : ∀ a, a < 2 → ∀ b, b < 2 → a ≠ b → (TX5 a).2.1 ≠ (TX5 b).2.1 := by decide +kernel
theorem tyX5_ok : ∀ k, k < 2 → parseFieldDescriptor (TX5 k).2.2.1 = some (tyX5 k) := by decide +kernel
abbrev cX5_init : ByteArray := prog_7_method_1_code
def yX5_init : MethodName := ⟨RX5, "<init>", "()V"⟩
abbrev cX5_size : ByteArray := prog_7_method_2_code
def yX5_size : MethodName := ⟨RX5, "size", "()I"⟩
abbrev cX5_clear : ByteArray := prog_7_method_3_code
def yX5_clear : MethodName := ⟨RX5, "clear", "()V"⟩
abbrev cX5_signAt : ByteArray := prog_7_method_4_code
def yX5_signAt : MethodName := ⟨RX5, "signAt", "(I)I"⟩
abbrev cX5_addSign : ByteArray := prog_7_method_5_code
def yX5_addSign : MethodName := ⟨RX5, "addSign", "(C)V"⟩
abbrev cX5_addNumber : ByteArray := prog_7_method_6_code
def yX5_addNumber : MethodName := ⟨RX5, "addNumber", "(I)V"⟩
abbrev cX5_addCycle : ByteArray := prog_7_method_7_code
def yX5_addCycle : MethodName := ⟨RX5, "addCycle", "(LTwistyBarrels$Permutation;I)V"⟩
def RX6 : String := "TwistyBarrels$State"
def TX6 : u_T := fun k => match k with
  | 0 => ("TwistyBarrels$State", "barrel", "LTwistyBarrels$Barrel;", true)
  | 1 => ("TwistyBarrels$State", "log", "LTwistyBarrels$MoveLog;", true)
  | 2 => ("TwistyBarrels$State", "movesDone", "I", false)
  | 3 => ("TwistyBarrels$State", "sequencesRead", "I", false)
  | 4 => ("TwistyBarrels$State", "learnt", "[LTwistyBarrels$Permutation;", true)
  | _ => ("TwistyBarrels$State", "filled", "[Z", true)
def tyX6 : Nat → FieldType := fun k => match k with
  | 0 => .object "TwistyBarrels$Barrel"
  | 1 => .object "TwistyBarrels$MoveLog"
  | 2 => .int
  | 3 => .int
  | 4 => .array (.object "TwistyBarrels$Permutation")
  | _ => .array .boolean
theorem nmX6 : ∀ a, a < 6 → ∀ b, b < 6 → a ≠ b → (TX6 a).2.1 ≠ (TX6 b).2.1 := by decide +kernel
theorem tyX6_ok : ∀ k, k < 6 → parseFieldDescriptor (TX6 k).2.2.1 = some (tyX6 k) := by decide +kernel
abbrev cX6_init : ByteArray := prog_8_method_1_code
def yX6_init : MethodName := ⟨RX6, "<init>", "()V"⟩
abbrev cX6_copyFrom : ByteArray := prog_8_method_2_code
def yX6_copyFrom : MethodName := ⟨RX6, "copyFrom", "(LTwistyBarrels$State;)V"⟩
abbrev cX6_isFilled : ByteArray := prog_8_method_3_code
def yX6_isFilled : MethodName := ⟨RX6, "isFilled", "(I)Z"⟩
abbrev cX6_onShelf : ByteArray := prog_8_method_4_code
def yX6_onShelf : MethodName := ⟨RX6, "onShelf", "(I)LTwistyBarrels$Permutation;"⟩
abbrev cX6_putOn : ByteArray := prog_8_method_5_code
def yX6_putOn : MethodName := ⟨RX6, "putOn", "(ILTwistyBarrels$Permutation;)V"⟩
abbrev cX6_takeFrom : ByteArray := prog_8_method_6_code
def yX6_takeFrom : MethodName := ⟨RX6, "takeFrom", "(I)V"⟩
abbrev cX6_countFilled : ByteArray := prog_8_method_7_code
def yX6_countFilled : MethodName := ⟨RX6, "countFilled", "()I"⟩
def RX7 : String := "TwistyBarrels"
def TX7 : u_T := fun k => match k with
  | 0 => ("TwistyBarrels", "now", "LTwistyBarrels$State;", true)
  | 1 => ("TwistyBarrels", "past", "LTwistyBarrels$Past;", true)
  | 2 => ("TwistyBarrels", "snapshot", "LTwistyBarrels$State;", true)
  | 3 => ("TwistyBarrels", "hasSnapshot", "Z", false)
  | 4 => ("TwistyBarrels", "reader", "LTwistyBarrels$SequenceReader;", true)
  | 5 => ("TwistyBarrels", "written", "LTwistyBarrels$Signs;", true)
  | 6 => ("TwistyBarrels", "made", "LTwistyBarrels$Permutation;", true)
  | 7 => ("TwistyBarrels", "spare", "LTwistyBarrels$Permutation;", true)
  | 8 => ("TwistyBarrels", "errorKept", "I", false)
  | 9 => ("TwistyBarrels", "reasonKept", "I", false)
  | _ => ("TwistyBarrels", "detailKept", "I", false)
def tyX7 : Nat → FieldType := fun k => match k with
  | 0 => .object "TwistyBarrels$State"
  | 1 => .object "TwistyBarrels$Past"
  | 2 => .object "TwistyBarrels$State"
  | 3 => .boolean
  | 4 => .object "TwistyBarrels$SequenceReader"
  | 5 => .object "TwistyBarrels$Signs"
  | 6 => .object "TwistyBarrels$Permutation"
  | 7 => .object "TwistyBarrels$Permutation"
  | 8 => .int
  | 9 => .int
  | _ => .int
theorem nmX7 : ∀ a, a < 11 → ∀ b, b < 11 → a ≠ b → (TX7 a).2.1 ≠ (TX7 b).2.1 := by decide +kernel
theorem tyX7_ok : ∀ k, k < 11 → parseFieldDescriptor (TX7 k).2.2.1 = some (tyX7 k) := by decide +kernel
abbrev cX7_init : ByteArray := prog_1_method_1_code
def yX7_init : MethodName := ⟨RX7, "<init>", "()V"⟩
abbrev cX7_turn : ByteArray := prog_1_method_2_code
def yX7_turn : MethodName := ⟨RX7, "turn", "(II)I"⟩
abbrev cX7_shift : ByteArray := prog_1_method_3_code
def yX7_shift : MethodName := ⟨RX7, "shift", "(II)I"⟩
abbrev cX7_back : ByteArray := prog_1_method_4_code
def yX7_back : MethodName := ⟨RX7, "back", "()I"⟩
abbrev cX7_scramble : ByteArray := prog_1_method_5_code
def yX7_scramble : MethodName := ⟨RX7, "scramble", "(II)I"⟩
abbrev cX7_logOf : ByteArray := prog_1_method_6_code
def yX7_logOf : MethodName := ⟨RX7, "logOf", "(II)I"⟩
abbrev cX7_at : ByteArray := prog_1_method_7_code
def yX7_at : MethodName := ⟨RX7, "at", "(I)I"⟩
abbrev cX7_where : ByteArray := prog_1_method_8_code
def yX7_where : MethodName := ⟨RX7, "where", "(I)I"⟩
abbrev cX7_paint : ByteArray := prog_1_method_9_code
def yX7_paint : MethodName := ⟨RX7, "paint", "(II)I"⟩
abbrev cX7_colour : ByteArray := prog_1_method_10_code
def yX7_colour : MethodName := ⟨RX7, "colour", "(I)I"⟩
abbrev cX7_isDone : ByteArray := prog_1_method_11_code
def yX7_isDone : MethodName := ⟨RX7, "isDone", "(I)Z"⟩
abbrev cX7_seams : ByteArray := prog_1_method_12_code
def yX7_seams : MethodName := ⟨RX7, "seams", "()I"⟩
abbrev cX7_fewest : ByteArray := prog_1_method_13_code
def yX7_fewest : MethodName := ⟨RX7, "fewest", "(II)I"⟩
abbrev cX7_learn : ByteArray := prog_1_method_14_code
def yX7_learn : MethodName := ⟨RX7, "learn", "(I)I"⟩
abbrev cX7_use : ByteArray := prog_1_method_15_code
def yX7_use : MethodName := ⟨RX7, "use", "(II)I"⟩
abbrev cX7_join : ByteArray := prog_1_method_16_code
def yX7_join : MethodName := ⟨RX7, "join", "(III)I"⟩
abbrev cX7_invert : ByteArray := prog_1_method_17_code
def yX7_invert : MethodName := ⟨RX7, "invert", "(II)I"⟩
abbrev cX7_commute : ByteArray := prog_1_method_18_code
def yX7_commute : MethodName := ⟨RX7, "commute", "(III)I"⟩
abbrev cX7_forget : ByteArray := prog_1_method_19_code
def yX7_forget : MethodName := ⟨RX7, "forget", "(I)I"⟩
abbrev cX7_goesTo : ByteArray := prog_1_method_20_code
def yX7_goesTo : MethodName := ⟨RX7, "goesTo", "(II)I"⟩
abbrev cX7_shelfOf : ByteArray := prog_1_method_21_code
def yX7_shelfOf : MethodName := ⟨RX7, "shelfOf", "(II)I"⟩
abbrev cX7_orderAgain : ByteArray := prog_1_method_22_code
def yX7_orderAgain : MethodName := ⟨RX7, "orderAgain", "(I)I"⟩
abbrev cX7_isEven : ByteArray := prog_1_method_23_code
def yX7_isEven : MethodName := ⟨RX7, "isEven", "(IZ)Z"⟩
abbrev cX7_cycle : ByteArray := prog_1_method_24_code
def yX7_cycle : MethodName := ⟨RX7, "cycle", "(II)I"⟩
abbrev cX7_commutes : ByteArray := prog_1_method_25_code
def yX7_commutes : MethodName := ⟨RX7, "commutes", "(II)Z"⟩
abbrev cX7_line : ByteArray := prog_1_method_26_code
def yX7_line : MethodName := ⟨RX7, "line", "(I)I"⟩
abbrev cX7_logLine : ByteArray := prog_1_method_27_code
def yX7_logLine : MethodName := ⟨RX7, "logLine", "()I"⟩
abbrev cX7_cycleLine : ByteArray := prog_1_method_28_code
def yX7_cycleLine : MethodName := ⟨RX7, "cycleLine", "(I)I"⟩
abbrev cX7_character : ByteArray := prog_1_method_29_code
def yX7_character : MethodName := ⟨RX7, "character", "(I)C"⟩
abbrev cX7_append : ByteArray := prog_1_method_30_code
def yX7_append : MethodName := ⟨RX7, "append", "(C)I"⟩
abbrev cX7_read : ByteArray := prog_1_method_31_code
def yX7_read : MethodName := ⟨RX7, "read", "()I"⟩
abbrev cX7_errorPosition : ByteArray := prog_1_method_32_code
def yX7_errorPosition : MethodName := ⟨RX7, "errorPosition", "()I"⟩
abbrev cX7_refusal : ByteArray := prog_1_method_33_code
def yX7_refusal : MethodName := ⟨RX7, "refusal", "(Z)I"⟩
abbrev cX7_account : ByteArray := prog_1_method_34_code
def yX7_account : MethodName := ⟨RX7, "account", "(I)I"⟩
abbrev cX7_isWell : ByteArray := prog_1_method_35_code
def yX7_isWell : MethodName := ⟨RX7, "isWell", "()Z"⟩
abbrev cX7_meanAway : ByteArray := prog_1_method_36_code
def yX7_meanAway : MethodName := ⟨RX7, "meanAway", "()D"⟩
abbrev cX7_seamShare : ByteArray := prog_1_method_37_code
def yX7_seamShare : MethodName := ⟨RX7, "seamShare", "()F"⟩
abbrev cX7_undo : ByteArray := prog_1_method_38_code
def yX7_undo : MethodName := ⟨RX7, "undo", "()I"⟩
abbrev cX7_save : ByteArray := prog_1_method_39_code
def yX7_save : MethodName := ⟨RX7, "save", "()I"⟩
abbrev cX7_restore : ByteArray := prog_1_method_40_code
def yX7_restore : MethodName := ⟨RX7, "restore", "()I"⟩
abbrev cX7_isIndex : ByteArray := prog_1_method_41_code
def yX7_isIndex : MethodName := ⟨RX7, "isIndex", "(II)Z"⟩
abbrev cX7_needIndex : ByteArray := prog_1_method_42_code
def yX7_needIndex : MethodName := ⟨RX7, "needIndex", "(II)V"⟩
abbrev cX7_needRing : ByteArray := prog_1_method_43_code
def yX7_needRing : MethodName := ⟨RX7, "needRing", "(I)V"⟩
abbrev cX7_needSlot : ByteArray := prog_1_method_44_code
def yX7_needSlot : MethodName := ⟨RX7, "needSlot", "(I)V"⟩
abbrev cX7_needShelf : ByteArray := prog_1_method_45_code
def yX7_needShelf : MethodName := ⟨RX7, "needShelf", "(I)V"⟩
abbrev cX7_needFromTo : ByteArray := prog_1_method_46_code
def yX7_needFromTo : MethodName := ⟨RX7, "needFromTo", "(III)V"⟩
abbrev cX7_needFilled : ByteArray := prog_1_method_47_code
def yX7_needFilled : MethodName := ⟨RX7, "needFilled", "(I)V"⟩
abbrev cX7_needLearnt : ByteArray := prog_1_method_48_code
def yX7_needLearnt : MethodName := ⟨RX7, "needLearnt", "(I)V"⟩
abbrev cX7_refuse : ByteArray := prog_1_method_49_code
def yX7_refuse : MethodName := ⟨RX7, "refuse", "(II)V"⟩
abbrev cX7_roundOf : ByteArray := prog_1_method_50_code
def yX7_roundOf : MethodName := ⟨RX7, "roundOf", "(I)I"⟩
abbrev cX7_doMove : ByteArray := prog_1_method_51_code
def yX7_doMove : MethodName := ⟨RX7, "doMove", "(III)V"⟩
abbrev cX7_doLoggedMove : ByteArray := prog_1_method_52_code
def yX7_doLoggedMove : MethodName := ⟨RX7, "doLoggedMove", "(III)V"⟩
abbrev cX7_putMade : ByteArray := prog_1_method_53_code
def yX7_putMade : MethodName := ⟨RX7, "putMade", "(I)I"⟩
abbrev cX7_isUndoneByInverse : ByteArray := prog_1_method_54_code
def yX7_isUndoneByInverse : MethodName := ⟨RX7, "isUndoneByInverse", "(LTwistyBarrels$Permutation;)Z"⟩
abbrev cX7_takeSequence : ByteArray := prog_1_method_55_code
def yX7_takeSequence : MethodName := ⟨RX7, "takeSequence", "()I"⟩
abbrev cX7_movesBetween : ByteArray := prog_1_method_56_code
def yX7_movesBetween : MethodName := ⟨RX7, "movesBetween", "(II)I"⟩
def RX8 : String := "TwistyBarrelsModel"
def TX8 : u_T := fun k => match k with
  | 0 => ("TwistyBarrelsModel", "s", "[I", true)
  | 1 => ("TwistyBarrelsModel", "before", "[I", true)
  | 2 => ("TwistyBarrelsModel", "saved", "[I", true)
  | 3 => ("TwistyBarrelsModel", "isSaved", "Z", false)
  | 4 => ("TwistyBarrelsModel", "past", "[I", true)
  | 5 => ("TwistyBarrelsModel", "pastMany", "I", false)
  | 6 => ("TwistyBarrelsModel", "thrown", "I", false)
  | 7 => ("TwistyBarrelsModel", "reason", "I", false)
  | 8 => ("TwistyBarrelsModel", "detail", "I", false)
  | 9 => ("TwistyBarrelsModel", "pool", "[I", true)
  | 10 => ("TwistyBarrelsModel", "counts", "[I", true)
  | 11 => ("TwistyBarrelsModel", "rows", "I", false)
  | 12 => ("TwistyBarrelsModel", "were", "[I", true)
  | 13 => ("TwistyBarrelsModel", "text", "[C", true)
  | 14 => ("TwistyBarrelsModel", "length", "I", false)
  | 15 => ("TwistyBarrelsModel", "place", "I", false)
  | 16 => ("TwistyBarrelsModel", "isWrong", "Z", false)
  | 17 => ("TwistyBarrelsModel", "error", "I", false)
  | 18 => ("TwistyBarrelsModel", "line", "[C", true)
  | _ => ("TwistyBarrelsModel", "lineMany", "I", false)
def tyX8 : Nat → FieldType := fun k => match k with
  | 0 => .array .int
  | 1 => .array .int
  | 2 => .array .int
  | 3 => .boolean
  | 4 => .array .int
  | 5 => .int
  | 6 => .int
  | 7 => .int
  | 8 => .int
  | 9 => .array .int
  | 10 => .array .int
  | 11 => .int
  | 12 => .array .int
  | 13 => .array .char
  | 14 => .int
  | 15 => .int
  | 16 => .boolean
  | 17 => .int
  | 18 => .array .char
  | _ => .int
theorem nmX8 : ∀ a, a < 20 → ∀ b, b < 20 → a ≠ b → (TX8 a).2.1 ≠ (TX8 b).2.1 := by decide +kernel
theorem tyX8_ok : ∀ k, k < 20 → parseFieldDescriptor (TX8 k).2.2.1 = some (tyX8 k) := by decide +kernel
abbrev cX8_init : ByteArray := prog_10_method_1_code
def yX8_init : MethodName := ⟨RX8, "<init>", "()V"⟩
abbrev cX8_thrown : ByteArray := prog_10_method_2_code
def yX8_thrown : MethodName := ⟨RX8, "thrown", "()I"⟩
abbrev cX8_in : ByteArray := prog_10_method_3_code
def yX8_in : MethodName := ⟨RX8, "in", "(III)Z"⟩
abbrev cX8_keep : ByteArray := prog_10_method_4_code
def yX8_keep : MethodName := ⟨RX8, "keep", "()V"⟩
abbrev cX8_ends : ByteArray := prog_10_method_5_code
def yX8_ends : MethodName := ⟨RX8, "ends", "(I)I"⟩
abbrev cX8_fails : ByteArray := prog_10_method_6_code
def yX8_fails : MethodName := ⟨RX8, "fails", "(I)I"⟩
abbrev cX8_refuse : ByteArray := prog_10_method_7_code
def yX8_refuse : MethodName := ⟨RX8, "refuse", "(III)I"⟩
abbrev cX8_refusal : ByteArray := prog_10_method_8_code
def yX8_refusal : MethodName := ⟨RX8, "refusal", "(Z)I"⟩
abbrev cX8_nothing : ByteArray := prog_10_method_9_code
def yX8_nothing : MethodName := ⟨RX8, "nothing", "()I"⟩
abbrev cX8_move : ByteArray := prog_10_method_10_code
def yX8_move : MethodName := ⟨RX8, "move", "(ZII)I"⟩
abbrev cX8_ofShelf : ByteArray := prog_10_method_11_code
def yX8_ofShelf : MethodName := ⟨RX8, "ofShelf", "(I)I"⟩
abbrev cX8_then : ByteArray := prog_10_method_12_code
def yX8_then : MethodName := ⟨RX8, "then", "(II)V"⟩
abbrev cX8_inverse : ByteArray := prog_10_method_13_code
def yX8_inverse : MethodName := ⟨RX8, "inverse", "(I)I"⟩
abbrev cX8_times : ByteArray := prog_10_method_14_code
def yX8_times : MethodName := ⟨RX8, "times", "(II)I"⟩
abbrev cX8_commutator : ByteArray := prog_10_method_15_code
def yX8_commutator : MethodName := ⟨RX8, "commutator", "(II)I"⟩
abbrev cX8_does : ByteArray := prog_10_method_16_code
def yX8_does : MethodName := ⟨RX8, "does", "(I)V"⟩
abbrev cX8_movedBy : ByteArray := prog_10_method_17_code
def yX8_movedBy : MethodName := ⟨RX8, "movedBy", "(I)I"⟩
abbrev cX8_puts : ByteArray := prog_10_method_18_code
def yX8_puts : MethodName := ⟨RX8, "puts", "(II)I"⟩
abbrev cX8_home : ByteArray := prog_10_method_19_code
def yX8_home : MethodName := ⟨RX8, "home", "()I"⟩
abbrev cX8_moves : ByteArray := prog_10_method_20_code
def yX8_moves : MethodName := ⟨RX8, "moves", "(ZII)V"⟩
abbrev cX8_turn : ByteArray := prog_10_method_21_code
def yX8_turn : MethodName := ⟨RX8, "turn", "(II)I"⟩
abbrev cX8_shift : ByteArray := prog_10_method_22_code
def yX8_shift : MethodName := ⟨RX8, "shift", "(II)I"⟩
abbrev cX8_back : ByteArray := prog_10_method_23_code
def yX8_back : MethodName := ⟨RX8, "back", "()I"⟩
abbrev cX8_scramble : ByteArray := prog_10_method_24_code
def yX8_scramble : MethodName := ⟨RX8, "scramble", "(II)I"⟩
abbrev cX8_logOf : ByteArray := prog_10_method_25_code
def yX8_logOf : MethodName := ⟨RX8, "logOf", "(II)I"⟩
abbrev cX8_isSlot : ByteArray := prog_10_method_26_code
def yX8_isSlot : MethodName := ⟨RX8, "isSlot", "(I)Z"⟩
abbrev cX8_at : ByteArray := prog_10_method_27_code
def yX8_at : MethodName := ⟨RX8, "at", "(I)I"⟩
abbrev cX8_slotOf : ByteArray := prog_10_method_28_code
def yX8_slotOf : MethodName := ⟨RX8, "slotOf", "(I)I"⟩
abbrev cX8_where : ByteArray := prog_10_method_29_code
def yX8_where : MethodName := ⟨RX8, "where", "(I)I"⟩
abbrev cX8_paint : ByteArray := prog_10_method_30_code
def yX8_paint : MethodName := ⟨RX8, "paint", "(II)I"⟩
abbrev cX8_colourIn : ByteArray := prog_10_method_31_code
def yX8_colourIn : MethodName := ⟨RX8, "colourIn", "(I)I"⟩
abbrev cX8_colour : ByteArray := prog_10_method_32_code
def yX8_colour : MethodName := ⟨RX8, "colour", "(I)I"⟩
abbrev cX8_isOne : ByteArray := prog_10_method_33_code
def yX8_isOne : MethodName := ⟨RX8, "isOne", "(I)Z"⟩
abbrev cX8_isDone : ByteArray := prog_10_method_34_code
def yX8_isDone : MethodName := ⟨RX8, "isDone", "(I)Z"⟩
abbrev cX8_seamMany : ByteArray := prog_10_method_35_code
def yX8_seamMany : MethodName := ⟨RX8, "seamMany", "()I"⟩
abbrev cX8_seams : ByteArray := prog_10_method_36_code
def yX8_seams : MethodName := ⟨RX8, "seams", "()I"⟩
abbrev cX8_apart : ByteArray := prog_10_method_37_code
def yX8_apart : MethodName := ⟨RX8, "apart", "(II)I"⟩
abbrev cX8_fewest : ByteArray := prog_10_method_38_code
def yX8_fewest : MethodName := ⟨RX8, "fewest", "(II)I"⟩
abbrev cX8_append : ByteArray := prog_10_method_39_code
def yX8_append : MethodName := ⟨RX8, "append", "(C)I"⟩
abbrev cX8_isHere : ByteArray := prog_10_method_40_code
def yX8_isHere : MethodName := ⟨RX8, "isHere", "(CC)Z"⟩
abbrev cX8_sign : ByteArray := prog_10_method_41_code
def yX8_sign : MethodName := ⟨RX8, "sign", "(CC)I"⟩
abbrev cX8_isItem : ByteArray := prog_10_method_42_code
def yX8_isItem : MethodName := ⟨RX8, "isItem", "()Z"⟩
abbrev cX8_sequence : ByteArray := prog_10_method_43_code
def yX8_sequence : MethodName := ⟨RX8, "sequence", "(I)I"⟩
abbrev cX8_item : ByteArray := prog_10_method_44_code
def yX8_item : MethodName := ⟨RX8, "item", "(I)I"⟩
abbrev cX8_readsText : ByteArray := prog_10_method_45_code
def yX8_readsText : MethodName := ⟨RX8, "readsText", "(I)I"⟩
abbrev cX8_read : ByteArray := prog_10_method_46_code
def yX8_read : MethodName := ⟨RX8, "read", "()I"⟩
abbrev cX8_errorPosition : ByteArray := prog_10_method_47_code
def yX8_errorPosition : MethodName := ⟨RX8, "errorPosition", "()I"⟩
abbrev cX8_isShelf : ByteArray := prog_10_method_48_code
def yX8_isShelf : MethodName := ⟨RX8, "isShelf", "(I)Z"⟩
abbrev cX8_isEmpty : ByteArray := prog_10_method_49_code
def yX8_isEmpty : MethodName := ⟨RX8, "isEmpty", "(I)Z"⟩
abbrev cX8_learn : ByteArray := prog_10_method_50_code
def yX8_learn : MethodName := ⟨RX8, "learn", "(I)I"⟩
abbrev cX8_use : ByteArray := prog_10_method_51_code
def yX8_use : MethodName := ⟨RX8, "use", "(II)I"⟩
abbrev cX8_join : ByteArray := prog_10_method_52_code
def yX8_join : MethodName := ⟨RX8, "join", "(III)I"⟩
abbrev cX8_invert : ByteArray := prog_10_method_53_code
def yX8_invert : MethodName := ⟨RX8, "invert", "(II)I"⟩
abbrev cX8_commute : ByteArray := prog_10_method_54_code
def yX8_commute : MethodName := ⟨RX8, "commute", "(III)I"⟩
abbrev cX8_filledMany : ByteArray := prog_10_method_55_code
def yX8_filledMany : MethodName := ⟨RX8, "filledMany", "()I"⟩
abbrev cX8_forget : ByteArray := prog_10_method_56_code
def yX8_forget : MethodName := ⟨RX8, "forget", "(I)I"⟩
abbrev cX8_goes : ByteArray := prog_10_method_57_code
def yX8_goes : MethodName := ⟨RX8, "goes", "(II)I"⟩
abbrev cX8_goesTo : ByteArray := prog_10_method_58_code
def yX8_goesTo : MethodName := ⟨RX8, "goesTo", "(II)I"⟩
abbrev cX8_cycleOf : ByteArray := prog_10_method_59_code
def yX8_cycleOf : MethodName := ⟨RX8, "cycleOf", "(II)I"⟩
abbrev cX8_isLowest : ByteArray := prog_10_method_60_code
def yX8_isLowest : MethodName := ⟨RX8, "isLowest", "(II)Z"⟩
abbrev cX8_common : ByteArray := prog_10_method_61_code
def yX8_common : MethodName := ⟨RX8, "common", "(II)I"⟩
abbrev cX8_order : ByteArray := prog_10_method_62_code
def yX8_order : MethodName := ⟨RX8, "order", "(I)I"⟩
abbrev cX8_shelfOf : ByteArray := prog_10_method_63_code
def yX8_shelfOf : MethodName := ⟨RX8, "shelfOf", "(II)I"⟩
abbrev cX8_orderAgain : ByteArray := prog_10_method_64_code
def yX8_orderAgain : MethodName := ⟨RX8, "orderAgain", "(I)I"⟩
abbrev cX8_isEven : ByteArray := prog_10_method_65_code
def yX8_isEven : MethodName := ⟨RX8, "isEven", "(IZ)Z"⟩
abbrev cX8_cycle : ByteArray := prog_10_method_66_code
def yX8_cycle : MethodName := ⟨RX8, "cycle", "(II)I"⟩
abbrev cX8_commutes : ByteArray := prog_10_method_67_code
def yX8_commutes : MethodName := ⟨RX8, "commutes", "(II)Z"⟩
abbrev cX8_says : ByteArray := prog_10_method_68_code
def yX8_says : MethodName := ⟨RX8, "says", "(C)V"⟩
abbrev cX8_saysNumber : ByteArray := prog_10_method_69_code
def yX8_saysNumber : MethodName := ⟨RX8, "saysNumber", "(I)V"⟩
abbrev cX8_line : ByteArray := prog_10_method_70_code
def yX8_line : MethodName := ⟨RX8, "line", "(I)I"⟩
abbrev cX8_logLine : ByteArray := prog_10_method_71_code
def yX8_logLine : MethodName := ⟨RX8, "logLine", "()I"⟩
abbrev cX8_cycleLine : ByteArray := prog_10_method_72_code
def yX8_cycleLine : MethodName := ⟨RX8, "cycleLine", "(I)I"⟩
abbrev cX8_character : ByteArray := prog_10_method_73_code
def yX8_character : MethodName := ⟨RX8, "character", "(I)C"⟩
abbrev cX8_doneMany : ByteArray := prog_10_method_74_code
def yX8_doneMany : MethodName := ⟨RX8, "doneMany", "()I"⟩
abbrev cX8_account : ByteArray := prog_10_method_75_code
def yX8_account : MethodName := ⟨RX8, "account", "(I)I"⟩
abbrev cX8_isWell : ByteArray := prog_10_method_76_code
def yX8_isWell : MethodName := ⟨RX8, "isWell", "()Z"⟩
abbrev cX8_meanAway : ByteArray := prog_10_method_77_code
def yX8_meanAway : MethodName := ⟨RX8, "meanAway", "()D"⟩
abbrev cX8_seamShare : ByteArray := prog_10_method_78_code
def yX8_seamShare : MethodName := ⟨RX8, "seamShare", "()F"⟩
abbrev cX8_undo : ByteArray := prog_10_method_79_code
def yX8_undo : MethodName := ⟨RX8, "undo", "()I"⟩
abbrev cX8_save : ByteArray := prog_10_method_80_code
def yX8_save : MethodName := ⟨RX8, "save", "()I"⟩
abbrev cX8_restore : ByteArray := prog_10_method_81_code
def yX8_restore : MethodName := ⟨RX8, "restore", "()I"⟩
def RJx145de : String := "java/io/Serializable"
def TJx145de : u_T := fun k => match k with
  | _ => ("", "", "", false)
def tyJx145de : Nat → FieldType := fun k => match k with
  | _ => .int
theorem nmJx145de : ∀ a, a < 0 → ∀ b, b < 0 → a ≠ b → (TJx145de a).2.1 ≠ (TJx145de b).2.1 := by decide +kernel
theorem tyJx145de_ok : ∀ k, k < 0 → parseFieldDescriptor (TJx145de k).2.2.1 = some (tyJx145de k) := by decide +kernel
def RJ9 : String := "java/lang/Math"
def TJ9 : u_T := fun k => match k with
  | _ => ("", "", "", false)
def tyJ9 : Nat → FieldType := fun k => match k with
  | _ => .int
theorem nmJ9 : ∀ a, a < 0 → ∀ b, b < 0 → a ≠ b → (TJ9 a).2.1 ≠ (TJ9 b).2.1 := by decide +kernel
theorem tyJ9_ok : ∀ k, k < 0 → parseFieldDescriptor (TJ9 k).2.2.1 = some (tyJ9 k) := by decide +kernel
abbrev cJ9_max_7cf53 : ByteArray := prog_16_method_65_code
def yJ9_max_7cf53 : MethodName := ⟨RJ9, "max", "(II)I"⟩
def RJ0 : String := "java/lang/String"
def TJ0 : u_T := fun k => match k with
  | _ => ("", "", "", false)
def tyJ0 : Nat → FieldType := fun k => match k with
  | _ => .int
theorem nmJ0 : ∀ a, a < 0 → ∀ b, b < 0 → a ≠ b → (TJ0 a).2.1 ≠ (TJ0 b).2.1 := by decide +kernel
theorem tyJ0_ok : ∀ k, k < 0 → parseFieldDescriptor (TJ0 k).2.2.1 = some (tyJ0 k) := by decide +kernel
def RJ10 : String := "java/lang/System"
def TJ10 : u_T := fun k => match k with
  | _ => ("", "", "", false)
def tyJ10 : Nat → FieldType := fun k => match k with
  | _ => .int
theorem nmJ10 : ∀ a, a < 0 → ∀ b, b < 0 → a ≠ b → (TJ10 a).2.1 ≠ (TJ10 b).2.1 := by decide +kernel
theorem tyJ10_ok : ∀ k, k < 0 → parseFieldDescriptor (TJ10 k).2.2.1 = some (tyJ10 k) := by decide +kernel
def RL : String := "TwistyBarrelsLaw"
abbrev cL_turn : ByteArray := method_3_code
def yL_turn : MethodName := ⟨RL, "turn", "(LTwistyBarrels;II[J)I"⟩
abbrev cL_shift : ByteArray := method_4_code
def yL_shift : MethodName := ⟨RL, "shift", "(LTwistyBarrels;II[J)I"⟩
abbrev cL_back : ByteArray := method_5_code
def yL_back : MethodName := ⟨RL, "back", "(LTwistyBarrels;[J)I"⟩
abbrev cL_scramble : ByteArray := method_6_code
def yL_scramble : MethodName := ⟨RL, "scramble", "(LTwistyBarrels;II[J)I"⟩
abbrev cL_logOf : ByteArray := method_7_code
def yL_logOf : MethodName := ⟨RL, "logOf", "(LTwistyBarrels;II[J)I"⟩
abbrev cL_at : ByteArray := method_8_code
def yL_at : MethodName := ⟨RL, "at", "(LTwistyBarrels;I[J)I"⟩
abbrev cL_where : ByteArray := method_9_code
def yL_where : MethodName := ⟨RL, "where", "(LTwistyBarrels;I[J)I"⟩
abbrev cL_paint : ByteArray := method_10_code
def yL_paint : MethodName := ⟨RL, "paint", "(LTwistyBarrels;II[J)I"⟩
abbrev cL_colour : ByteArray := method_11_code
def yL_colour : MethodName := ⟨RL, "colour", "(LTwistyBarrels;I[J)I"⟩
abbrev cL_isDone : ByteArray := method_12_code
def yL_isDone : MethodName := ⟨RL, "isDone", "(LTwistyBarrels;I[J)I"⟩
abbrev cL_fewest : ByteArray := method_13_code
def yL_fewest : MethodName := ⟨RL, "fewest", "(LTwistyBarrels;II[J)I"⟩
abbrev cL_learn : ByteArray := method_14_code
def yL_learn : MethodName := ⟨RL, "learn", "(LTwistyBarrels;I[J)I"⟩
abbrev cL_use : ByteArray := method_15_code
def yL_use : MethodName := ⟨RL, "use", "(LTwistyBarrels;II[J)I"⟩
abbrev cL_join : ByteArray := method_16_code
def yL_join : MethodName := ⟨RL, "join", "(LTwistyBarrels;III[J)I"⟩
abbrev cL_invert : ByteArray := method_17_code
def yL_invert : MethodName := ⟨RL, "invert", "(LTwistyBarrels;II[J)I"⟩
abbrev cL_commute : ByteArray := method_18_code
def yL_commute : MethodName := ⟨RL, "commute", "(LTwistyBarrels;III[J)I"⟩
abbrev cL_forget : ByteArray := method_19_code
def yL_forget : MethodName := ⟨RL, "forget", "(LTwistyBarrels;I[J)I"⟩
abbrev cL_goesTo : ByteArray := method_20_code
def yL_goesTo : MethodName := ⟨RL, "goesTo", "(LTwistyBarrels;II[J)I"⟩
abbrev cL_shelfOf : ByteArray := method_21_code
def yL_shelfOf : MethodName := ⟨RL, "shelfOf", "(LTwistyBarrels;II[J)I"⟩
abbrev cL_orderAgain : ByteArray := method_22_code
def yL_orderAgain : MethodName := ⟨RL, "orderAgain", "(LTwistyBarrels;I[J)I"⟩
abbrev cL_isEven : ByteArray := method_23_code
def yL_isEven : MethodName := ⟨RL, "isEven", "(LTwistyBarrels;IZ[J)I"⟩
abbrev cL_cycle : ByteArray := method_24_code
def yL_cycle : MethodName := ⟨RL, "cycle", "(LTwistyBarrels;II[J)I"⟩
abbrev cL_commutes : ByteArray := method_25_code
def yL_commutes : MethodName := ⟨RL, "commutes", "(LTwistyBarrels;II[J)I"⟩
abbrev cL_line : ByteArray := method_26_code
def yL_line : MethodName := ⟨RL, "line", "(LTwistyBarrels;I[J)I"⟩
abbrev cL_cycleLine : ByteArray := method_27_code
def yL_cycleLine : MethodName := ⟨RL, "cycleLine", "(LTwistyBarrels;I[J)I"⟩
abbrev cL_character : ByteArray := method_28_code
def yL_character : MethodName := ⟨RL, "character", "(LTwistyBarrels;I[J)I"⟩
abbrev cL_append : ByteArray := method_29_code
def yL_append : MethodName := ⟨RL, "append", "(LTwistyBarrels;C[J)I"⟩
abbrev cL_read : ByteArray := method_30_code
def yL_read : MethodName := ⟨RL, "read", "(LTwistyBarrels;[J)I"⟩
abbrev cL_errorPosition : ByteArray := method_31_code
def yL_errorPosition : MethodName := ⟨RL, "errorPosition", "(LTwistyBarrels;[J)I"⟩
abbrev cL_refusal : ByteArray := method_32_code
def yL_refusal : MethodName := ⟨RL, "refusal", "(LTwistyBarrels;Z[J)I"⟩
abbrev cL_account : ByteArray := method_33_code
def yL_account : MethodName := ⟨RL, "account", "(LTwistyBarrels;I[J)I"⟩
abbrev cL_undo : ByteArray := method_34_code
def yL_undo : MethodName := ⟨RL, "undo", "(LTwistyBarrels;[J)I"⟩
abbrev cL_restore : ByteArray := method_35_code
def yL_restore : MethodName := ⟨RL, "restore", "(LTwistyBarrels;[J)I"⟩
abbrev cL_law : ByteArray := code
def yL_law : MethodName := ⟨RL, "law", "([I)Z"⟩
abbrev vwCl : List vw_C := [(RX0, TX0, 3), (RX1, TX1, 2), (RX2, TX2, 2), (RX3, TX3, 1), (RX4, TX4, 6), (RX5, TX5, 2), (RX6, TX6, 6), (RX7, TX7, 11), (RX8, TX8, 20)]
end
section
/-! ===== the judgement J: a method's frame over a world of cells; all that the machine needs besides is hidden in it ===== -/
def BIG : List Cond := lw_tbl.filter goodWord
theorem big_of {w : Cond} (h : w ∈ lw_tbl) (g : goodWord w = true) : w ∈ BIG := List.mem_filter.mpr ⟨h, g⟩
theorem big_good {w : Cond} (h : w ∈ BIG) : (w.onTables && w.keeps) = true ∨ ∃ ty, w = .arrayClass ty := good_of_word (List.mem_filter.mp h).2
theorem big_t (i : Nat) {w : Cond} (h : tables_1[i]? = some w) (g : goodWord w = true) : w ∈ BIG := big_of (List.mem_append_right _ (List.mem_of_getElem? h)) g
theorem big_s (i : Nat) {w : Cond} (h : (k2_sels lw_privs)[i]? = some w) (g : goodWord w = true) : w ∈ BIG := big_of (List.mem_append_left _ (List.mem_of_getElem? h)) g
theorem goodIn_big {ws : List Cond} (h : ∀ w ∈ ws, w ∈ BIG) : GoodIn BIG ws := fun w hw => ⟨h w hw, big_good (h w hw)⟩
/-- the tables' words that are kept in ways of their own -/
def nwk : Cond → Bool
  | .castable _ _ => true
  | .declares _ => true
  | .methodLinkNest _ _ _ _ => true
  | _ => false
def NWL : List Cond := lw_tbl.filter nwk
theorem nw_of (i : Nat) {w : Cond} (h : tables_1[i]? = some w) (g : nwk w = true) : w ∈ NWL := List.mem_filter.mpr ⟨List.mem_append_right _ (List.mem_of_getElem? h), g⟩
theorem nw_warm {w : Cond} (hk : nwk w = true) {s U : State} (hW : s.WarmedH U.vm) (h : va_Nw w s) : va_Nw w U := by
  cases w <;> first | exact va_Nw.warmC hW h | exact va_Nw.warmD hW h | exact va_Nw.warmM hW h | (simp [nwk] at hk)
theorem nw_ot {w : Cond} (hk : nwk w = true) : w.onTables = true := by
  cases w <;> first | rfl | (simp [nwk] at hk)
def exs : List String := ["java/lang/IndexOutOfBoundsException", "java/lang/IllegalArgumentException", "java/lang/IllegalStateException", "java/lang/UnsupportedOperationException", "java/util/NoSuchElementException"]
/-- where the law's cells begin; the classes' numbers and slots; the array classes' numbers -/
abbrev GP : Type := Nat × va_G × (Nat → ClassId)
/-- a method: its class, code, locals, what it returns, its table, whether it is a constructor -/
abbrev MI : Type := String × ByteArray × Nat × Option FieldType × List (Nat × Nat × Nat × Nat) × Bool
def gtys (g : GP) : List (ClassId × FieldType) := [(g.2.2 0, .int), (g.2.2 1, .boolean), (g.2.2 2, .char), (g.2.2 3, .long), (g.2.2 4, .object "TwistyBarrels$Permutation"), (g.2.2 5, .object "TwistyBarrels$State")]
def gA (g : GP) : Nat → Prop := fun q => g.1 ≤ q
/-- the texts that the class throws with: entry and text -/
def strs : List (Nat × String) := [(320, "there is no snapshot"), (294, "there is no such account"), (280, "no error position was kept"), (283, "nothing was refused"), (323, "there is no such place"), (312, "no change can be undone"), (325, "the number is out of range"), (331, "it is refused"), (327, "there is nothing on the shelf"), (272, "the input is full"), (160, "there is no such shelf"), (350, "the text is no sequence")]
/-- what lies about the system: the classes, the two statics that a throw reads, the texts; the system's cells come behind -/
def Amb (g : GP) (U : State) : Prop := va_K g.2.1 vwCl (gtys g) U ∧ vx_Zq Bundle.tN "UNASSIGNED_STACK" Bundle.steD (gA g) U U.heap ∧ vx_Zq Bundle.tN "SUPPRESSED_SENTINEL" Bundle.listD (gA g) U U.heap ∧ (∀ q ∈ strs, ∃ a, vk_R RX7 q.1 q.2 a U) ∧ g.1 ≤ U.heap.size ∧ (∀ z ∈ NWL, va_Nw z U) ∧ (∀ a ∈ exs, ∀ b ∈ exs, a ≠ b → va_Nc a b U)
/-- the heap holds the world w, its cells apart, in the system's part -/
def Wd (g : GP) (w : va_W) (H : Heap) : Prop := va_P g.2.1 vwCl w H ∧ va_D (gA g) w
def Cx (g : GP) (M : MI) (p : Program) (ln : Launch) (s : State) (m : MethodId) (args : Array Value) (meth : Method) (c : Code) : Prop :=
  p.tables.exec = Jvm.exec ∧ c.code = M.2.1 ∧ c.maxLocals = M.2.2.1 ∧ meth.sig.returnType = M.2.2.2.1 ∧ s.vm.findClass M.1 = some m.cls ∧ (∀ w ∈ BIG, w.before args s = true) ∧ meth.locks = false ∧ ln.stackTraces = false ∧ (M.2.2.2.2.2 = false → c.exceptionTable.toList = tableOf M.2.2.2.2.1) ∧ (M.2.2.2.2.2 = true → meth.name = "<init>") ∧ Amb g s
def lvx : Nat → List (Option Value) → List (Nat × Value)
  | _, [] => []
  | i, none :: t => lvx (i + 1) t
  | i, some v :: t => (i, v) :: lvx (i + 1) t
theorem lvx_mem : ∀ (l : List (Option Value)) (i0 j : Nat) (v : Value), (j, v) ∈ lvx i0 l ↔ ∃ t, j = i0 + t ∧ l[t]? = some (some v)
  | [], i0, j, v => by simp [lvx]
  | none :: l, i0, j, v => by
    rw [show lvx i0 (none :: l) = lvx (i0 + 1) l from rfl, lvx_mem l (i0 + 1) j v]
    constructor
    · rintro ⟨t, h1, h2⟩; exact ⟨t + 1, by omega, by simpa using h2⟩
    · rintro ⟨t, h1, h2⟩
      cases t with
      | zero => simp at h2
      | succ t => exact ⟨t, by omega, by simpa using h2⟩
  | some x :: l, i0, j, v => by
    rw [show lvx i0 (some x :: l) = (i0, x) :: lvx (i0 + 1) l from rfl, List.mem_cons, lvx_mem l (i0 + 1) j v]
    constructor
    · rintro (h | ⟨t, h1, h2⟩)
      · cases h; exact ⟨0, by omega, by simp⟩
      · exact ⟨t + 1, by omega, by simpa using h2⟩
    · rintro ⟨t, h1, h2⟩
      cases t with
      | zero => simp at h2; subst h2; exact Or.inl (by rw [h1]; rfl)
      | succ t => exact Or.inr ⟨t, by omega, by simpa using h2⟩
theorem lvx_get {ls : Array Slot} {nL : Nat} {l : List (Option Value)} (h : lv_has ls nL (lvx 0 l)) {i : Nat} {v : Value} (hi : l[i]? = some (some v)) : ls[i]? = some (.val v) := h.2.2 (i, v) ((lvx_mem l 0 i v).mpr ⟨i, by omega, hi⟩)
def cat1 (o : Option (Option Value)) : Bool := match o with
  | some (some v) => v.category == 1
  | _ => true
/-- behind a store of one slot -/
theorem lvx_set {ls : Array Slot} {nL : Nat} {l l' : List (Option Value)} {i : Nat} {v : Value} (h : lv_has ls nL ((i, v) :: (lvx 0 l).filter (fun q => !(q.1 == i) && !(q.1 + 1 == i && q.2.category == 2)))) (hc : i = 0 ∨ cat1 l[i - 1]? = true) (hl : l.set i (some v) = l') : lv_has ls nL (lvx 0 l') := by
  refine ⟨h.1, h.2.1, fun q hq => h.2.2 q ?_⟩
  obtain ⟨j, w⟩ := q
  rw [← hl] at hq
  obtain ⟨t, h1, h2⟩ := (lvx_mem _ 0 j w).mp hq
  have h1 : t = j := by omega
  subst h1
  by_cases e : t = i
  · subst e
    have hlt : t < l.length := by
      have := (List.getElem?_eq_some_iff.mp h2).1
      simpa using this
    rw [List.getElem?_set_self hlt] at h2
    cases h2
    exact List.mem_cons_self
  · rw [List.getElem?_set_ne (Ne.symm e)] at h2
    refine List.mem_cons_of_mem _ (List.mem_filter.mpr ⟨(lvx_mem l 0 t w).mpr ⟨t, by omega, h2⟩, ?_⟩)
    have e1 : (t == i) = false := by simpa using e
    simp only [e1, Bool.not_false, Bool.true_and]
    by_cases e2 : t + 1 = i
    · rcases hc with hc | hc
      · omega
      · rw [show i - 1 = t by omega, h2] at hc
        have : w.category = 1 := by simpa [cat1] using hc
        simp [this]
    · simp [e2]
/-- fewer locals known -/
theorem lvx_sub {ls : Array Slot} {nL : Nat} {l l' : List (Option Value)} (h : lv_has ls nL (lvx 0 l)) (hl : ∀ (t : Nat) (v : Value), l'[t]? = some (some v) → l[t]? = some (some v)) : lv_has ls nL (lvx 0 l') := by
  refine ⟨h.1, h.2.1, fun q hq => h.2.2 q ?_⟩
  obtain ⟨j, w⟩ := q
  obtain ⟨t, h1, h2⟩ := (lvx_mem _ 0 j w).mp hq
  exact (lvx_mem _ 0 j w).mpr ⟨t, h1, hl t w h2⟩
abbrev QT : Type := List Frame → Array Value → State → State → Prop
def J (g : GP) (M : MI) (R : Room) (Q : QT) (k n : Nat) (w : va_W) (pc : Nat) (l : List (Option Value)) (st : List Value) : Prop :=
  ∀ (p : Program) (ln : Launch) (e : Env) (s : State) (m : MethodId) (args : Array Value) (below : List Frame) (meth : Method) (c : Code), Cx g M p ln s m args meth c →
    ∀ (H : Heap) (locs : List Loc) (ls : Array Slot), Wd g w H → va_S (gA g) s.heap H locs → lv_has ls M.2.2.1 (lvx 0 l) → W p ln e R s m args below meth c H locs k n (Q below args s) (F0 m pc ls st)
/-- the frame with E thrown over it -/
def JX (g : GP) (M : MI) (R : Room) (Q : QT) (k n : Nat) (w : va_W) (pc : Nat) (l : List (Option Value)) (st : List Value) (E : String) : Prop :=
  ∀ (p : Program) (ln : Launch) (e : Env) (s : State) (m : MethodId) (args : Array Value) (below : List Frame) (meth : Method) (c : Code), Cx g M p ln s m args meth c →
    ∀ (H : Heap) (locs : List Loc) (ls : Array Slot) (q : Addr) (ce : Cell), Wd g w H → va_S (gA g) s.heap H locs → lv_has ls M.2.2.1 (lvx 0 l) → H[q]? = some ce → ce.vm = .none → s.vm.findClass E = some ce.cls → vx_W p ln e R s m args below meth c H locs k n (Q below args s) (F0 m pc ls st) q
abbrev PT : Type := (Option Value ⊕ String) → va_W → Prop
def QR (g : GP) (P : PT) : State → Outcome → State → Prop := fun st o t => ∃ v w', o = .returned v ∧ P (.inl v) w' ∧ Wd g w' t.heap ∧ va_F (gA g) st t
def XR (g : GP) (P : PT) : String → State → State → Prop := fun E st t => ∃ w', P (.inr E) w' ∧ Wd g w' t.heap ∧ va_F (gA g) st t
def MQx (g : GP) (R : Room) (P : PT) : QT := fun below args s => vx_MQ below (fun _ => QR g P) (XR g P) args s R.cells R.slots (gA g)
/-- a method's contract over the world w with the arguments av -/
def CT (g : GP) (y : MethodName) (M : MI) (R : Room) (w : va_W) (av : List Value) (P : PT) : Prop :=
  ∀ ln : Launch, ln.stackTraces = false → vx_Met ln y (Cond.code y M.2.1 M.2.2.1 M.2.2.2.1 :: BIG) R (va_Pc av (fun U => Amb g U ∧ Wd g w U.heap)) (fun _ => QR g P) (XR g P) R.cells R.slots (gA g)
/-- the same for a constructor (it throws nothing) -/
def CI (g : GP) (y : MethodName) (M : MI) (R : Room) (w : va_W) (av : List Value) (P : PT) : Prop :=
  ∀ ln : Launch, ln.stackTraces = false → Met ln y (Cond.code y M.2.1 M.2.2.1 M.2.2.2.1 :: BIG) R (va_Pc av (fun U => Amb g U ∧ Wd g w U.heap)) (fun _ => QR g P) R.cells R.slots (gA g)
def MQi (g : GP) (R : Room) (P : PT) : QT := fun below args s => MQ below (fun _ => QR g P) args s R.cells R.slots (gA g)
/-- a method with a table of its own -/
def CW (g : GP) (y : MethodName) (M : MI) (R : Room) (w : va_W) (av : List Value) (P : PT) : Prop :=
  ∀ ln : Launch, ln.stackTraces = false → vx_Met ln y (Cond.codeWith y M.2.1 M.2.2.1 M.2.2.2.1 M.2.2.2.2.1 :: BIG) R (va_Pc av (fun U => Amb g U ∧ Wd g w U.heap)) (fun _ => QR g P) (XR g P) R.cells R.slots (gA g)
theorem Amb.at {g : GP} {s U : State} {H : Heap} {locs : List Loc} (h : Amb g s) (hS : va_S (gA g) s.heap H locs) (hU : U.heap = H) (hW : s.WarmedH U.vm) : Amb g U := by
  obtain ⟨h1, h2, h3, h4, h5, h6, h7⟩ := h
  have hv : s.vm.Alike U.vm := hW.alike
  refine ⟨h1.moved hv, ?_, ?_, fun q hq => ?_, by rw [hU]; exact Nat.le_trans h5 hS.1, fun z hz => nw_warm (List.mem_filter.mp hz).2 hW (h6 z hz), fun a ha b hb hn => (h7 a ha b hb hn).moved hv⟩
  · rw [hU]; exact (h2.moved hv).kept (fun a ha hn => hS.2.1 a ha hn)
  · rw [hU]; exact (h3.moved hv).kept (fun a ha hn => hS.2.1 a ha hn)
  · obtain ⟨a, ha⟩ := h4 q hq
    exact ⟨a, ha.warm hW⟩
theorem Amb.blind {g : GP} {U : State} {gf : JFrame} {mk : MethodId} {a : Array Value} (h : Amb g U) : Amb g (U.calling gf mk a) := by
  obtain ⟨h1, h2, h3, h4, h5, h6, h7⟩ := h
  have hv : U.vm.Alike (U.calling gf mk a).vm := Vm.Alike.refl U.vm
  refine ⟨h1.moved hv, h2.moved hv, h3.moved hv, fun q hq => ?_, h5, fun z hz => va_Nw.same (nw_ot (List.mem_filter.mp hz).2) (u := U) rfl (h6 z hz), fun a ha b hb hn => (h7 a ha b hb hn).moved hv⟩
  obtain ⟨z, hz⟩ := h4 q hq
  exact ⟨z, vk_R.same (u := U) rfl hz⟩
theorem pc_blind {g : GP} {w : va_W} {av : List Value} : FrameBlind (va_Pc av (fun U => Amb g U ∧ Wd g w U.heap)) := fun _ _ _ _ h => ⟨h.1, h.2.1.blind, h.2.2⟩
theorem pc_pre {g : GP} {w : va_W} {av : List Value} {s : State} {H : Heap} {locs : List Loc} (h : Amb g s) (hS : va_S (gA g) s.heap H locs) (hw : Wd g w H) : ∀ U : State, U.heap = H → s.WarmedH U.vm → va_Pc av (fun U => Amb g U ∧ Wd g w U.heap) av.toArray U := fun U hU hW => ⟨rfl, h.at hS hU hW, by rw [hU]; exact hw⟩
section JJ
variable {g : GP} {M : MI} {R : Room} {Q : QT} {k n pc : Nat} {w : va_W} {l : List (Option Value)} {st : List Value}
theorem J.sub {l' : List (Option Value)} (K : J g M R Q k n w pc l' st) (hl : ∀ (t : Nat) (v : Value), l'[t]? = some (some v) → l[t]? = some (some v)) : J g M R Q k n w pc l st :=
  fun p ln e s m args below meth c C H locs ls hw hS h => K p ln e s m args below meth c C H locs ls hw hS (lvx_sub h hl)
theorem J.widen {k' n' : Nat} (h1 : k ≤ k') (h2 : n ≤ n') (K : J g M R Q k' n' w pc l st) : J g M R Q k n w pc l st :=
  fun p ln e s m args below meth c C H locs ls hw hS h => W.widen h1 h2 (K p ln e s m args below meth c C H locs ls hw hS h)
theorem J.callG {st0 : List Value} {mc ms : Nat} {P : PT} (hrun : ∀ (p : Program) (ln : Launch) (e : Env) (s : State) (m : MethodId) (args : Array Value) (below : List Frame) (meth : Method) (c : Code), Cx g M p ln s m args meth c →
      ∀ (H : Heap) (locs : List Loc) (ls : Array Slot), Wd g w H → va_S (gA g) s.heap H locs → lv_has ls M.2.2.1 (lvx 0 l) → vx_Run p ln e R s m args below meth c H locs k n mc ms (F0 m pc ls st0) st (QR g P) (XR g P) (gA g))
    (kk : ∀ v w', P (.inl v) w' → J g M R Q (k + mc) (n + ms) w' (pc + 3) l (v.toList ++ st)) (kx : ∀ E w', P (.inr E) w' → JX g M R Q (k + mc) (n + ms) w' pc l st E) : J g M R Q k n w pc l st0 := by
  intro p ln e s m args below meth c C H locs ls hw hS hl T hT X
  rcases hrun p ln e s m args below meth c C H locs ls hw hS hl T hT X with ⟨v, st₀, t, T', L, h0, X', hL, e1, e2, ⟨v', w', hv, hp, hw', hF⟩, stp⟩ | ⟨q, st₀, t, T', L, E, ce, h0, X', hL, e1, e2, ⟨w', hp, hw', hF⟩, hce, hcv, hcl, stp⟩
  · cases hv
    obtain ⟨-, -, k3⟩ := vx_keep h0 e1 hS (fun q _ h => h) (fun q h => h) hL hF
    obtain ⟨t2, a1, b1⟩ := kk v w' hp p ln e s m args below meth c C T'.heap (locs ++ L) ls (by rw [e1]; exact hw') k3 hl T' rfl X'
    exact ⟨t2, stp t2 a1, b1⟩
  · obtain ⟨-, -, k3⟩ := vx_keep h0 e1 hS (fun q _ h => h) (fun q h => h) hL hF
    obtain ⟨t2, a1, b1⟩ := kx E w' hp p ln e s m args below meth c C T'.heap (locs ++ L) ls q ce (by rw [e1]; exact hw') k3 hl (by rw [e1]; exact hce) hcv hcl T' rfl X'
    exact ⟨t2, stp.trans a1, b1⟩
/-- not caught here -/
theorem JX.out {P : PT} {E : String} (hp : P (.inr E) w) (hi : M.2.2.2.2.2 = false) (ht : M.2.2.2.2.1 = []) (hk : k ≤ R.cells) (hn : n ≤ R.slots) : JX g M R (MQx g R P) k n w pc l st E := by
  intro p ln e s m args below meth c C H locs ls q ce hw hS hl hce hcv hcl
  have htab := C.2.2.2.2.2.2.2.2.1 hi
  rw [ht] at htab
  exact vx_out (fun x hx => by rw [htab] at hx; cases hx) C.2.2.2.2.2.2.1 hce hcv hcl (fun t ht _ => ⟨w, hp, by rw [ht]; exact hw, hS.F ht⟩) hS.2.2 hk hn
/-- from the walk of the body to the contract -/
theorem CT.of {y : MethodName} {av : List Value} {P : PT} {l0 : List (Option Value)} {own : String} {cc : ByteArray} {nL : Nat} {ret : Option FieldType} (hy : plainName y.cls = true) (hyc : y.cls = own) (hn : (lg_sl av).length ≤ nL) (hl : lv_args 0 av = lvx 0 l0)
    (K : J g (own, cc, nL, ret, [], false) R (MQx g R P) 0 0 w 0 l0 []) : CT g y (own, cc, nL, ret, [], false) R w av P := by
  intro ln hst
  refine vx_ofW (cc := cc) (maxL := nL) (ret := ret) hy rfl ?_
  intro p e s m args below meth c s₁ B hml htab hv
  obtain ⟨rfl, hamb, hw⟩ := hv
  have hts0 := atoms_spec (ws := Cond.code y cc nL ret :: BIG) B.pre
  have hown : s.vm.findClass own = some m.cls := by rw [← hyc]; exact findClass_of_methodNamed B.named
  have hl9 := lv_entry av (n := nL) hn
  rw [lg_entry_eq]
  generalize (lg_sl av ++ List.replicate (nL - (lg_sl av).length) Slot.unset).toArray = ls at hl9 ⊢
  rw [hl] at hl9
  have htab9 : c.exceptionTable.toList = tableOf [] := by
    have : c.exceptionTable.toList = [] := List.eq_nil_iff_forall_not_mem.mpr htab
    rw [this]; rfl
  exact K p ln e s m av.toArray below meth c ⟨B.exec, B.bytes, hml, B.returns, hown, fun w hw => hts0 w (List.mem_cons_of_mem _ hw), B.notSynchronized, hst, fun _ => htab9, fun h => (by cases h), hamb⟩ s.heap [] ls hw va_S.rf hl9
theorem CI.of {y : MethodName} {av : List Value} {P : PT} {l0 : List (Option Value)} {own : String} {cc : ByteArray} {nL : Nat} (hy : plainName y.cls = true) (hyc : y.cls = own) (hyn : y.name = "<init>") (hn : (lg_sl av).length ≤ nL) (hl : lv_args 0 av = lvx 0 l0)
    (K : J g (own, cc, nL, none, [], true) R (MQi g R P) 0 0 w 0 l0 []) : CI g y (own, cc, nL, none, [], true) R w av P := by
  intro ln hst
  refine Met.ofW (cc := cc) (maxL := nL) (ret := none) hy rfl ?_
  intro p e s m args below meth c s₁ B hml hv
  obtain ⟨rfl, hamb, hw⟩ := hv
  have hts0 := atoms_spec (ws := Cond.code y cc nL none :: BIG) B.pre
  have hown : s.vm.findClass own = some m.cls := by rw [← hyc]; exact findClass_of_methodNamed B.named
  have hin : meth.name = "<init>" := (name_of_methodNamed B.named B.method).1.trans hyn
  have hl9 := lv_entry av (n := nL) hn
  rw [lg_entry_eq]
  generalize (lg_sl av ++ List.replicate (nL - (lg_sl av).length) Slot.unset).toArray = ls at hl9 ⊢
  rw [hl] at hl9
  exact K p ln e s m av.toArray below meth c ⟨B.exec, B.bytes, hml, B.returns, hown, fun w hw => hts0 w (List.mem_cons_of_mem _ hw), B.notSynchronized, hst, fun h => (by cases h), fun _ => hin, hamb⟩ s.heap [] ls hw va_S.rf hl9
theorem CW.of {y : MethodName} {av : List Value} {P : PT} {l0 : List (Option Value)} {own : String} {cc : ByteArray} {nL : Nat} {ret : Option FieldType} {hh : List (Nat × Nat × Nat × Nat)} (hy : plainName y.cls = true) (hyc : y.cls = own) (hn : (lg_sl av).length ≤ nL) (hl : lv_args 0 av = lvx 0 l0)
    (K : J g (own, cc, nL, ret, hh, false) R (MQx g R P) 0 0 w 0 l0 []) : CW g y (own, cc, nL, ret, hh, false) R w av P := by
  intro ln hst
  refine vx_ofWH (cc := cc) (maxL := nL) (ret := ret) (hh := hh) hy rfl ?_
  intro p e s m args below meth c s₁ B hml hv
  obtain ⟨rfl, hamb, hw⟩ := hv
  have hts0 := atoms_spec (ws := Cond.codeWith y cc nL ret hh :: BIG) B.pre
  have hown : s.vm.findClass own = some m.cls := by rw [← hyc]; exact findClass_of_methodNamed B.named
  have hl9 := lv_entry av (n := nL) hn
  rw [lg_entry_eq]
  generalize (lg_sl av ++ List.replicate (nL - (lg_sl av).length) Slot.unset).toArray = ls at hl9 ⊢
  rw [hl] at hl9
  have htab9 : c.exceptionTable.toList = tableOf hh := vx_table (x := y) B (hts0 _ List.mem_cons_self)
  exact K p ln e s m av.toArray below meth c ⟨B.exec, B.bytes, hml, B.returns, hown, fun w hw => hts0 w (List.mem_cons_of_mem _ hw), B.notSynchronized, hst, fun _ => htab9, fun h => (by cases h), hamb⟩ s.heap [] ls hw va_S.rf hl9
/-! calls -/
theorem J.callV {C : String} {y : MethodName} {My : MI} {Ry : Room} {b idx na : Nat} {As : List Value} {P : PT} {d : String} (hC : CT g y My Ry w (.ref b :: As) P)
    (f1 : Cond.methodLink M.1 idx y ∈ BIG) (f2 : Cond.instanceMethod y ∈ BIG) (f3 : Cond.selects C y y ∈ BIG) (f4 : Cond.initialized C ∈ BIG) (f5 : Cond.code y My.2.1 My.2.2.1 My.2.2.2.1 ∈ BIG)
    (hd : y.cls = C ∧ y.cls ≠ "java/lang/invoke/MethodHandle" ∧ y.cls ≠ "java/lang/invoke/VarHandle" ∧ (parseMethodDescriptor y.desc).map (fun d => d.parameters.length) = some na) (hna : As.length = na)
    (hR : Ry.frames + 1 ≤ R.frames ∧ 8 + (My.2.2.1 + 11) + Ry.locals ≤ R.locals) (q0 : Nat) {ci : Nat} {q : vw_C} {fs : List Value} (hq : vwCl[ci]? = some q) (hqC : q.1 = C) (he : w[q0]? = some (b, .inr (ci, fs)))
    (hW : (st.map fun v => v.category).sum ≤ 8) (hdg : decode M.2.1 pc = .ok (.invokevirtual idx, 3)) (hk : k + Ry.cells ≤ R.cells ∧ n + Ry.slots ≤ R.slots)
    (kk : ∀ v w', P (.inl v) w' → J g M R Q (k + Ry.cells) (n + Ry.slots) w' (pc + 3) l (v.toList ++ st)) (kx : ∀ E w', P (.inr E) w' → JX g M R Q (k + Ry.cells) (n + Ry.slots) w' pc l st E) : J g M R Q k n w pc l (As.reverse ++ .ref b :: st) := by
  refine J.callG (P := P) (mc := Ry.cells) (ms := Ry.slots) ?_ kk kx
  intro p ln e s m args below meth c C9 H locs ls hw hS hl
  obtain ⟨hx, hb, hml, hr, hown, hts, hlk, hst, htab, hini, hamb⟩ := C9
  subst hqC
  exact vx_runV (As := As) (rest := st) (Ts := BIG) (own := M.1) ⟨hx, hb, hml, hown, hts⟩ (hC ln hst)
    (cwV (ws' := BIG) na hts (goodIn_big (fun z hz => by
      simp only [wsV, List.cons_append, List.nil_append, List.mem_cons] at hz
      rcases hz with rfl | rfl | rfl | rfl | rfl | hz
      · exact f1
      · exact f2
      · exact f3
      · exact f4
      · exact f5
      · exact hz)) rfl rfl rfl hd hR)
    ⟨pc_blind, va_recv hamb.1 hw.1 hq he, pc_pre hamb hS hw⟩ rfl hna hl.1 rfl (lv_room hW) hdg hk
theorem J.callS {y : MethodName} {My : MI} {Ry : Room} {idx na : Nat} {As : List Value} {P : PT} (hC : CT g y My Ry w As P)
    (f1 : Cond.methodLink M.1 idx y ∈ BIG) (f2 : Cond.static y ∈ BIG) (f4 : Cond.initialized M.1 ∈ BIG) (f5 : Cond.code y My.2.1 My.2.2.1 My.2.2.2.1 ∈ BIG)
    (hd : y.cls = M.1 ∧ y.cls ≠ "java/lang/invoke/MethodHandle" ∧ y.cls ≠ "java/lang/invoke/VarHandle" ∧ (parseMethodDescriptor y.desc).map (fun d => d.parameters.length) = some na) (hna : As.length = na)
    (hR : Ry.frames + 1 ≤ R.frames ∧ 8 + (My.2.2.1 + 11) + Ry.locals ≤ R.locals)
    (hW : (st.map fun v => v.category).sum ≤ 8) (hdg : decode M.2.1 pc = .ok (.invokestatic idx, 3)) (hk : k + Ry.cells ≤ R.cells ∧ n + Ry.slots ≤ R.slots)
    (kk : ∀ v w', P (.inl v) w' → J g M R Q (k + Ry.cells) (n + Ry.slots) w' (pc + 3) l (v.toList ++ st)) (kx : ∀ E w', P (.inr E) w' → JX g M R Q (k + Ry.cells) (n + Ry.slots) w' pc l st E) : J g M R Q k n w pc l (As.reverse ++ st) := by
  refine J.callG (P := P) (mc := Ry.cells) (ms := Ry.slots) ?_ kk kx
  intro p ln e s m args below meth c C9 H locs ls hw hS hl
  obtain ⟨hx, hb, hml, hr, hown, hts, hlk, hst, htab, hini, hamb⟩ := C9
  exact vx_runS (As := As) (rest := st) (Ts := BIG) (own := M.1) ⟨hx, hb, hml, hown, hts⟩ (hC ln hst)
    (cwS (ws' := BIG) na hts (goodIn_big (fun z hz => by
      simp only [wsS, List.cons_append, List.nil_append, List.mem_cons] at hz
      rcases hz with rfl | rfl | rfl | rfl | hz
      · exact f1
      · exact f2
      · exact f4
      · exact f5
      · exact hz)) rfl rfl rfl hd hR)
    ⟨pc_blind, pc_pre hamb hS hw⟩ rfl hna hl.1 rfl (lv_room hW) hdg hk
theorem J.callSN {y : MethodName} {My : MI} {Ry : Room} {idx na : Nat} {host : String} {As : List Value} {P : PT} (hC : CT g y My Ry w As P)
    (f1 : Cond.methodLinkNest M.1 idx y host ∈ NWL) (f2 : Cond.static y ∈ BIG) (f4 : Cond.initialized y.cls ∈ BIG) (f5 : Cond.code y My.2.1 My.2.2.1 My.2.2.2.1 ∈ BIG)
    (hd : y.cls ≠ "java/lang/invoke/MethodHandle" ∧ y.cls ≠ "java/lang/invoke/VarHandle" ∧ (parseMethodDescriptor y.desc).map (fun d => d.parameters.length) = some na) (hna : As.length = na)
    (hR : Ry.frames + 1 ≤ R.frames ∧ 8 + (My.2.2.1 + 11) + Ry.locals ≤ R.locals)
    (hW : (st.map fun v => v.category).sum ≤ 8) (hdg : decode M.2.1 pc = .ok (.invokestatic idx, 3)) (hk : k + Ry.cells ≤ R.cells ∧ n + Ry.slots ≤ R.slots)
    (kk : ∀ v w', P (.inl v) w' → J g M R Q (k + Ry.cells) (n + Ry.slots) w' (pc + 3) l (v.toList ++ st)) (kx : ∀ E w', P (.inr E) w' → JX g M R Q (k + Ry.cells) (n + Ry.slots) w' pc l st E) : J g M R Q k n w pc l (As.reverse ++ st) := by
  refine J.callG (P := P) (mc := Ry.cells) (ms := Ry.slots) ?_ kk kx
  intro p ln e s m args below meth c C9 H locs ls hw hS hl
  obtain ⟨hx, hb, hml, hr, hown, hts, hlk, hst, htab, hini, hamb⟩ := C9
  exact vx_runSN (As := As) (rest := st) (Ts := BIG) (own := M.1) ⟨hx, hb, hml, hown, hts⟩ (hC ln hst)
    ⟨va_cnB (ws' := BIG) na hts (goodIn_big (fun z hz => by
      rcases List.mem_cons.mp hz with rfl | hz
      · exact f5
      · exact hz)) rfl rfl rfl (hamb.2.2.2.2.2.1 _ f1) (hts _ f4) hd hR, hts _ f2, trivial⟩
    ⟨pc_blind, pc_pre hamb hS hw⟩ rfl hna hl.1 rfl (lv_room hW) hdg hk
/-- a static method with a table, called from the law -/
theorem J.callSW {y : MethodName} {My : MI} {Ry : Room} {idx na : Nat} {As : List Value} {P : PT} (hC : CW g y My Ry w As P)
    (f1 : Cond.methodLink M.1 idx y ∈ BIG) (f2 : Cond.static y ∈ BIG) (f4 : Cond.initialized y.cls ∈ BIG) (f5 : Cond.codeWith y My.2.1 My.2.2.1 My.2.2.2.1 My.2.2.2.2.1 ∈ BIG)
    (hd : y.cls ≠ "java/lang/invoke/MethodHandle" ∧ y.cls ≠ "java/lang/invoke/VarHandle" ∧ (parseMethodDescriptor y.desc).map (fun d => d.parameters.length) = some na) (hna : As.length = na)
    (hR : Ry.frames + 1 ≤ R.frames ∧ 8 + (My.2.2.1 + 11) + Ry.locals ≤ R.locals)
    (hW : (st.map fun v => v.category).sum ≤ 8) (hdg : decode M.2.1 pc = .ok (.invokestatic idx, 3)) (hk : k + Ry.cells ≤ R.cells ∧ n + Ry.slots ≤ R.slots)
    (kk : ∀ v w', P (.inl v) w' → J g M R Q (k + Ry.cells) (n + Ry.slots) w' (pc + 3) l (v.toList ++ st)) (kx : ∀ E w', P (.inr E) w' → JX g M R Q (k + Ry.cells) (n + Ry.slots) w' pc l st E) : J g M R Q k n w pc l (As.reverse ++ st) := by
  refine J.callG (P := P) (mc := Ry.cells) (ms := Ry.slots) ?_ kk kx
  intro p ln e s m args below meth c C9 H locs ls hw hS hl
  obtain ⟨hx, hb, hml, hr, hown, hts, hlk, hst, htab, hini, hamb⟩ := C9
  exact vx_runSX (As := As) (rest := st) (Ts := BIG) (own := M.1) (hh := My.2.2.2.2.1) (bytes := My.2.1) (maxL := My.2.2.1) (ret := My.2.2.2.1) ⟨hx, hb, hml, hown, hts⟩ (hC ln hst)
    (vx_cwSW (ws' := BIG) na hts (goodIn_big (fun z hz => by
      simp only [va_wsS, List.cons_append, List.nil_append, List.mem_cons] at hz
      rcases hz with rfl | rfl | rfl | rfl | hz
      · exact f1
      · exact f2
      · exact f4
      · exact f5
      · exact hz)) rfl rfl rfl hd hR)
    ⟨pc_blind, pc_pre hamb hS hw⟩ rfl hna hl.1 rfl (lv_room hW) hdg hk
theorem run_x {p : Program} {ln : Launch} {e : Env} {s : State} {m : MethodId} {args : Array Value} {below : List Frame} {meth : Method} {c : Code} {H : Heap} {locs : List Loc} {mc ms : Nat} {gf : JFrame} {Qa : State → Outcome → State → Prop} {XC : String → State → State → Prop} {free : Addr → Prop}
    (h : va_Run p ln e R s m args below meth c H locs k n mc ms gf st Qa free) : vx_Run p ln e R s m args below meth c H locs k n mc ms gf st Qa XC free := fun T hT X => Or.inl (h T hT X)
theorem J.callI {y : MethodName} {My : MI} {Ry : Room} {b idx na : Nat} {As : List Value} {P : PT} (hret : My.2.2.2.1 = none) (hC : CI g y My Ry w (.ref b :: As) P)
    (f1 : Cond.methodLink M.1 idx y ∈ BIG) (f2 : Cond.instanceMethod y ∈ BIG) (f4 : Cond.initialized y.cls ∈ BIG) (f5 : Cond.code y My.2.1 My.2.2.1 My.2.2.2.1 ∈ BIG) (hyn : y.name = "<init>")
    (hd : y.cls ≠ "java/lang/invoke/MethodHandle" ∧ y.cls ≠ "java/lang/invoke/VarHandle" ∧ (parseMethodDescriptor y.desc).map (fun d => d.parameters.length) = some na) (hna : As.length = na)
    (hR : Ry.frames + 1 ≤ R.frames ∧ 8 + (My.2.2.1 + 11) + Ry.locals ≤ R.locals)
    (hW : (st.map fun v => v.category).sum ≤ 8) (hdg : decode M.2.1 pc = .ok (.invokespecial idx, 3)) (hk : k + Ry.cells ≤ R.cells ∧ n + Ry.slots ≤ R.slots)
    (kk : ∀ v w', P (.inl v) w' → J g M R Q (k + Ry.cells) (n + Ry.slots) w' (pc + 3) l (v.toList ++ st)) : J g M R Q k n w pc l (As.reverse ++ .ref b :: st) := by
  refine J.callG (P := fun o w' => match o with | .inl v => P (.inl v) w' | .inr _ => False) (mc := Ry.cells) (ms := Ry.slots) ?_ kk (fun E w' h => h.elim)
  intro p ln e s m args below meth c C9 H locs ls hw hS hl
  obtain ⟨hx, hb, hml, hr, hown, hts, hlk, hst, htab, hini, hamb⟩ := C9
  refine run_x ?_
  have hC9 := hC ln hst
  rw [hret] at hC9 f5
  exact va_runI (As := As) (rest := st) (Ts := BIG) (own := M.1) ⟨hx, hb, hml, hown, hts⟩ hC9
    (cwI (ws' := BIG) na hts (goodIn_big (fun z hz => by
      rcases List.mem_cons.mp hz with rfl | hz
      · exact f5
      · exact hz)) rfl rfl rfl (hts _ f4) (hts _ f1) (hts _ f2) hyn hd hR)
    ⟨pc_blind, pc_pre hamb hS hw⟩ rfl hna hl.1 rfl (lv_room hW) hdg hk
theorem J.callIN {y : MethodName} {My : MI} {Ry : Room} {b idx na : Nat} {host : String} {As : List Value} {P : PT} (hret : My.2.2.2.1 = none) (hC : CI g y My Ry w (.ref b :: As) P)
    (f1 : Cond.methodLinkNest M.1 idx y host ∈ NWL) (f2 : Cond.instanceMethod y ∈ BIG) (f4 : Cond.initialized y.cls ∈ BIG) (f5 : Cond.code y My.2.1 My.2.2.1 My.2.2.2.1 ∈ BIG) (hyn : y.name = "<init>")
    (hd : y.cls ≠ "java/lang/invoke/MethodHandle" ∧ y.cls ≠ "java/lang/invoke/VarHandle" ∧ (parseMethodDescriptor y.desc).map (fun d => d.parameters.length) = some na) (hna : As.length = na)
    (hR : Ry.frames + 1 ≤ R.frames ∧ 8 + (My.2.2.1 + 11) + Ry.locals ≤ R.locals)
    (hW : (st.map fun v => v.category).sum ≤ 8) (hdg : decode M.2.1 pc = .ok (.invokespecial idx, 3)) (hk : k + Ry.cells ≤ R.cells ∧ n + Ry.slots ≤ R.slots)
    (kk : ∀ v w', P (.inl v) w' → J g M R Q (k + Ry.cells) (n + Ry.slots) w' (pc + 3) l (v.toList ++ st)) : J g M R Q k n w pc l (As.reverse ++ .ref b :: st) := by
  refine J.callG (P := fun o w' => match o with | .inl v => P (.inl v) w' | .inr _ => False) (mc := Ry.cells) (ms := Ry.slots) ?_ kk (fun E w' h => h.elim)
  intro p ln e s m args below meth c C9 H locs ls hw hS hl
  obtain ⟨hx, hb, hml, hr, hown, hts, hlk, hst, htab, hini, hamb⟩ := C9
  refine run_x ?_
  have hC9 := hC ln hst
  rw [hret] at hC9 f5
  exact va_runIN (As := As) (rest := st) (Ts := BIG) (own := M.1) (host := host) ⟨hx, hb, hml, hown, hts⟩ hC9
    ⟨va_cnB (ws' := BIG) na hts (goodIn_big (fun z hz => by
      rcases List.mem_cons.mp hz with rfl | hz
      · exact f5
      · exact hz)) rfl rfl rfl (hamb.2.2.2.2.2.1 _ f1) (hts _ f4) hd hR, hyn, hts _ f2⟩
    ⟨pc_blind, pc_pre hamb hS hw⟩ rfl hna hl.1 rfl (lv_room hW) hdg hk
end JJ
theorem Cx.at {g : GP} {M : MI} {p : Program} {ln : Launch} {s : State} {m : MethodId} {args : Array Value} {meth : Method} {c : Code} (C9 : Cx g M p ln s m args meth c) {L : List Cond} (h : L.all (fun w => decide (w ∈ lw_tbl) && (goodWord w || nwk w)) = true) : ∀ w ∈ L, w.before args s = true := by
  intro w hw
  have h1 := List.all_eq_true.mp h w hw
  simp only [Bool.and_eq_true, decide_eq_true_eq, Bool.or_eq_true] at h1
  rcases h1.2 with h2 | h2
  · exact C9.2.2.2.2.2.1 w (big_of h1.1 h2)
  · exact va_Nw.use (nw_ot h2) (C9.2.2.2.2.2.2.2.2.2.2.2.2.2.2.2.1 w (List.mem_filter.mpr ⟨h1.1, h2⟩))
end
section
/-! ===== rules of J, an instruction each; what stands as nI stays as nI ===== -/
section RU
variable {g : GP} {M : MI} {R : Room} {Q : QT} {k n pc : Nat} {w : va_W} {l : List (Option Value)} {st : List Value}
theorem J.iconst {i : Int} {v : Int32} (d : decode M.2.1 pc = .ok (.iconst i, 1)) (hv : Int32.ofInt i = v) (K : J g M R Q k n w (pc + 1) l (.int v :: st)) : J g M R Q k n w pc l st :=
  fun p ln e s m args below meth c C H locs ls hw hS hl => lv_iconst C.1 C.2.1 d hv (K p ln e s m args below meth c C H locs ls hw hS hl)
theorem J.bipush {i : Int} {v : Int32} (d : decode M.2.1 pc = .ok (.bipush i, 2)) (hv : (Int8.ofInt i).toInt32 = v) (K : J g M R Q k n w (pc + 2) l (.int v :: st)) : J g M R Q k n w pc l st :=
  fun p ln e s m args below meth c C H locs ls hw hS hl => lv_bipush C.1 C.2.1 d hv (K p ln e s m args below meth c C H locs ls hw hS hl)
theorem J.sipush {i : Int} {v : Int32} (d : decode M.2.1 pc = .ok (.sipush i, 3)) (hv : (Int16.ofInt i).toInt32 = v) (K : J g M R Q k n w (pc + 3) l (.int v :: st)) : J g M R Q k n w pc l st :=
  fun p ln e s m args below meth c C H locs ls hw hS hl => lv_sipush C.1 C.2.1 d hv (K p ln e s m args below meth c C H locs ls hw hS hl)
theorem J.ldcI {i : Nat} {v v' : Int32} (d : decode M.2.1 pc = .ok (.ldc i, 2)) (f : Cond.constant M.1 i v ∈ BIG) (hv : v = v') (K : J g M R Q k n w (pc + 2) l (.int v' :: st)) : J g M R Q k n w pc l st := by
  subst hv
  exact fun p ln e s m args below meth c C H locs ls hw hS hl => lv_ldc C.1 C.2.1 C.2.2.2.2.1 (C.2.2.2.2.2.1 _ f) d (K p ln e s m args below meth c C H locs ls hw hS hl)
theorem J.lconst {i : Fin 2} {v : Int64} (d : decode M.2.1 pc = .ok (.lconst i, 1)) (hv : Int64.ofNat (i : Nat) = v) (K : J g M R Q k n w (pc + 1) l (.long v :: st)) : J g M R Q k n w pc l st :=
  fun p ln e s m args below meth c C H locs ls hw hS hl => lv_lconst C.1 C.2.1 d hv (K p ln e s m args below meth c C H locs ls hw hS hl)
theorem J.iload_n {i : Fin 4} {x : Int32} (d : decode M.2.1 pc = .ok (.iload_n i, 1)) (h : l[(i : Nat)]? = some (some (.int x))) (K : J g M R Q k n w (pc + 1) l (.int x :: st)) : J g M R Q k n w pc l st :=
  fun p ln e s m args below meth c C H locs ls hw hS hl => lv_iload_n C.1 C.2.1 d rfl (lvx_get hl h) (K p ln e s m args below meth c C H locs ls hw hS hl)
theorem J.iload {i : Nat} {x : Int32} (d : decode M.2.1 pc = .ok (.iload i, 2)) (h : l[i]? = some (some (.int x))) (K : J g M R Q k n w (pc + 2) l (.int x :: st)) : J g M R Q k n w pc l st :=
  fun p ln e s m args below meth c C H locs ls hw hS hl => lv_iload C.1 C.2.1 d (lvx_get hl h) (K p ln e s m args below meth c C H locs ls hw hS hl)
theorem J.aload_n {i : Fin 4} {x : Nat} (d : decode M.2.1 pc = .ok (.aload_n i, 1)) (h : l[(i : Nat)]? = some (some (.ref x))) (K : J g M R Q k n w (pc + 1) l (.ref x :: st)) : J g M R Q k n w pc l st :=
  fun p ln e s m args below meth c C H locs ls hw hS hl => lv_aload_n C.1 C.2.1 d rfl (lvx_get hl h) (K p ln e s m args below meth c C H locs ls hw hS hl)
theorem J.aload {i : Nat} {x : Nat} (d : decode M.2.1 pc = .ok (.aload i, 2)) (h : l[i]? = some (some (.ref x))) (K : J g M R Q k n w (pc + 2) l (.ref x :: st)) : J g M R Q k n w pc l st :=
  fun p ln e s m args below meth c C H locs ls hw hS hl => lv_aload C.1 C.2.1 d (lvx_get hl h) (K p ln e s m args below meth c C H locs ls hw hS hl)
theorem J.dload {i : Nat} {x : UInt64} (d : decode M.2.1 pc = .ok (.dload i, 2)) (h : l[i]? = some (some (.double x))) (K : J g M R Q k n w (pc + 2) l (.double x :: st)) : J g M R Q k n w pc l st :=
  fun p ln e s m args below meth c C H locs ls hw hS hl => lv_dload C.1 C.2.1 d (lvx_get hl h) (K p ln e s m args below meth c C H locs ls hw hS hl)
theorem J.istore_n {i : Fin 4} {x : Int32} {l' : List (Option Value)} (d : decode M.2.1 pc = .ok (.istore_n i, 1)) (hn : (i : Nat) < M.2.2.1) (hc : (i : Nat) = 0 ∨ cat1 l[(i : Nat) - 1]? = true) (hl' : l.set i (some (.int x)) = l') (K : J g M R Q k n w (pc + 1) l' st) : J g M R Q k n w pc l (.int x :: st) :=
  fun p ln e s m args below meth c C H locs ls hw hS hl => lv_istore_n C.1 C.2.1 d rfl hl hn rfl (fun ls' h => K p ln e s m args below meth c C H locs ls' hw hS (lvx_set h hc hl'))
theorem J.istore {i : Nat} {x : Int32} {l' : List (Option Value)} (d : decode M.2.1 pc = .ok (.istore i, 2)) (hn : i < M.2.2.1) (hc : i = 0 ∨ cat1 l[i - 1]? = true) (hl' : l.set i (some (.int x)) = l') (K : J g M R Q k n w (pc + 2) l' st) : J g M R Q k n w pc l (.int x :: st) :=
  fun p ln e s m args below meth c C H locs ls hw hS hl => lv_istore C.1 C.2.1 d hl hn rfl (fun ls' h => K p ln e s m args below meth c C H locs ls' hw hS (lvx_set h hc hl'))
theorem J.astore_n {i : Fin 4} {x : Nat} {l' : List (Option Value)} (d : decode M.2.1 pc = .ok (.astore_n i, 1)) (hn : (i : Nat) < M.2.2.1) (hc : (i : Nat) = 0 ∨ cat1 l[(i : Nat) - 1]? = true) (hl' : l.set i (some (.ref x)) = l') (K : J g M R Q k n w (pc + 1) l' st) : J g M R Q k n w pc l (.ref x :: st) :=
  fun p ln e s m args below meth c C H locs ls hw hS hl => lv_astore_n C.1 C.2.1 d rfl hl hn rfl (fun ls' h => K p ln e s m args below meth c C H locs ls' hw hS (lvx_set h hc hl'))
theorem J.astore {i : Nat} {x : Nat} {l' : List (Option Value)} (d : decode M.2.1 pc = .ok (.astore i, 2)) (hn : i < M.2.2.1) (hc : i = 0 ∨ cat1 l[i - 1]? = true) (hl' : l.set i (some (.ref x)) = l') (K : J g M R Q k n w (pc + 2) l' st) : J g M R Q k n w pc l (.ref x :: st) :=
  fun p ln e s m args below meth c C H locs ls hw hS hl => lv_astore C.1 C.2.1 d hl hn rfl (fun ls' h => K p ln e s m args below meth c C H locs ls' hw hS (lvx_set h hc hl'))
theorem J.iinc {i : Nat} {z : Int} {x v : Int32} {l' : List (Option Value)} (d : decode M.2.1 pc = .ok (.iinc i z, 3)) (h : l[i]? = some (some (.int x))) (hv : x + Int32.ofInt z = v) (hn : i < M.2.2.1) (hc : i = 0 ∨ cat1 l[i - 1]? = true) (hl' : l.set i (some (.int v)) = l') (K : J g M R Q k n w (pc + 3) l' st) : J g M R Q k n w pc l st := by
  intro p ln e s m args below meth c C H locs ls hw hS hl
  obtain ⟨t, ht⟩ := List.getElem?_of_mem ((lvx_mem l 0 i _).mpr ⟨i, by omega, h⟩)
  exact lv_iinc C.1 C.2.1 d hl ht hv hn rfl (fun ls' h => K p ln e s m args below meth c C H locs ls' hw hS (lvx_set h hc hl'))
theorem J.iadd {x y z : Int32} (d : decode M.2.1 pc = .ok (.iadd, 1)) (h : x + y = z) (K : J g M R Q k n w (pc + 1) l (.int z :: st)) : J g M R Q k n w pc l (.int y :: .int x :: st) := by
  subst h
  exact fun p ln e s m args below meth c C H locs ls hw hS hl => lv_iadd C.1 C.2.1 d (K p ln e s m args below meth c C H locs ls hw hS hl)
theorem J.isub {x y z : Int32} (d : decode M.2.1 pc = .ok (.isub, 1)) (h : x - y = z) (K : J g M R Q k n w (pc + 1) l (.int z :: st)) : J g M R Q k n w pc l (.int y :: .int x :: st) := by
  subst h
  exact fun p ln e s m args below meth c C H locs ls hw hS hl => lv_isub C.1 C.2.1 d (K p ln e s m args below meth c C H locs ls hw hS hl)
theorem J.imul {x y z : Int32} (d : decode M.2.1 pc = .ok (.imul, 1)) (h : x * y = z) (K : J g M R Q k n w (pc + 1) l (.int z :: st)) : J g M R Q k n w pc l (.int y :: .int x :: st) := by
  subst h
  exact fun p ln e s m args below meth c C H locs ls hw hS hl => lv_imul C.1 C.2.1 d (K p ln e s m args below meth c C H locs ls hw hS hl)
theorem J.idiv {a b : Nat} (d : decode M.2.1 pc = .ok (.idiv, 1)) (h1 : a < 2147483648) (h2 : 0 < b) (h3 : b < 2147483648) (K : J g M R Q k n w (pc + 1) l (.int (nI (a / b)) :: st)) : J g M R Q k n w pc l (.int (nI b) :: .int (nI a) :: st) := by
  rw [← pk_div h1 h2 h3] at K
  exact fun p ln e s m args below meth c C H locs ls hw hS hl => lv_idiv C.1 C.2.1 d (nI_ne0 h2 h3) (K p ln e s m args below meth c C H locs ls hw hS hl)
theorem J.irem {a b : Nat} (d : decode M.2.1 pc = .ok (.irem, 1)) (h1 : a < 2147483648) (h2 : 0 < b) (h3 : b < 2147483648) (K : J g M R Q k n w (pc + 1) l (.int (nI (a % b)) :: st)) : J g M R Q k n w pc l (.int (nI b) :: .int (nI a) :: st) := by
  rw [← pk_rem h1 h2 h3] at K
  exact fun p ln e s m args below meth c C H locs ls hw hS hl => lv_irem C.1 C.2.1 d (nI_ne0 h2 h3) (K p ln e s m args below meth c C H locs ls hw hS hl)
theorem J.iaddN {a b : Nat} (d : decode M.2.1 pc = .ok (.iadd, 1)) (K : J g M R Q k n w (pc + 1) l (.int (nI (a + b)) :: st)) : J g M R Q k n w pc l (.int (nI b) :: .int (nI a) :: st) := J.iadd d (nI_add a b) K
theorem J.isubN {a b : Nat} (d : decode M.2.1 pc = .ok (.isub, 1)) (h : b ≤ a) (K : J g M R Q k n w (pc + 1) l (.int (nI (a - b)) :: st)) : J g M R Q k n w pc l (.int (nI b) :: .int (nI a) :: st) := J.isub d (pk_sub h) K
theorem J.imulN {a b : Nat} (d : decode M.2.1 pc = .ok (.imul, 1)) (K : J g M R Q k n w (pc + 1) l (.int (nI (a * b)) :: st)) : J g M R Q k n w pc l (.int (nI b) :: .int (nI a) :: st) := J.imul d (pk_mul a b) K
theorem J.iincN {i z : Nat} {zi : Int} {a : Nat} {l' : List (Option Value)} (d : decode M.2.1 pc = .ok (.iinc i zi, 3)) (hz : Int32.ofInt zi = nI z) (h : l[i]? = some (some (.int (nI a)))) (hn : i < M.2.2.1) (hc : i = 0 ∨ cat1 l[i - 1]? = true) (hl' : l.set i (some (.int (nI (a + z)))) = l') (K : J g M R Q k n w (pc + 3) l' st) : J g M R Q k n w pc l st :=
  J.iinc d h (by rw [hz, nI_add]) hn hc hl' K
theorem J.ineg {x z : Int32} (d : decode M.2.1 pc = .ok (.ineg, 1)) (h : -x = z) (K : J g M R Q k n w (pc + 1) l (.int z :: st)) : J g M R Q k n w pc l (.int x :: st) := by
  subst h
  exact fun p ln e s m args below meth c C H locs ls hw hS hl => lv_ineg C.1 C.2.1 d (K p ln e s m args below meth c C H locs ls hw hS hl)
theorem J.i2c {x z : Int32} (d : decode M.2.1 pc = .ok (.i2c, 1)) (h : (x.toUInt32 % 65536).toInt32 = z) (K : J g M R Q k n w (pc + 1) l (.int z :: st)) : J g M R Q k n w pc l (.int x :: st) :=
  fun p ln e s m args below meth c C H locs ls hw hS hl => lv_i2c C.1 C.2.1 d h (K p ln e s m args below meth c C H locs ls hw hS hl)
theorem J.i2l {x : Int32} (d : decode M.2.1 pc = .ok (.i2l, 1)) (K : J g M R Q k n w (pc + 1) l (.long x.toInt64 :: st)) : J g M R Q k n w pc l (.int x :: st) :=
  fun p ln e s m args below meth c C H locs ls hw hS hl => lv_i2l C.1 C.2.1 d rfl (K p ln e s m args below meth c C H locs ls hw hS hl)
theorem J.dup {v : Value} (d : decode M.2.1 pc = .ok (.dup, 1)) (h : v.category = 1) (K : J g M R Q k n w (pc + 1) l (v :: v :: st)) : J g M R Q k n w pc l (v :: st) :=
  fun p ln e s m args below meth c C H locs ls hw hS hl => lv_dup C.1 C.2.1 d h (K p ln e s m args below meth c C H locs ls hw hS hl)
theorem J.pop {v : Value} (d : decode M.2.1 pc = .ok (.pop, 1)) (h : v.category = 1) (K : J g M R Q k n w (pc + 1) l st) : J g M R Q k n w pc l (v :: st) :=
  fun p ln e s m args below meth c C H locs ls hw hS hl => lv_pop C.1 C.2.1 d h (K p ln e s m args below meth c C H locs ls hw hS hl)
theorem J.goto {off : Int} {tgt : Nat} (d : decode M.2.1 pc = .ok (.goto off, 3)) (ht : (pc : Int) + off = (tgt : Int)) (K : J g M R Q k n w tgt l st) : J g M R Q k n w pc l st :=
  fun p ln e s m args below meth c C H locs ls hw hS hl => lv_goto C.1 C.2.1 d ht (K p ln e s m args below meth c C H locs ls hw hS hl)
theorem J.icmp_eq {x y : Int32} {off : Int} {tgt : Nat} (d : decode M.2.1 pc = .ok (.if_icmp .eq off, 3)) (ht : (pc : Int) + off = (tgt : Int)) (kt : x = y → J g M R Q k n w tgt l st) (kf : ¬ x = y → J g M R Q k n w (pc + 3) l st) : J g M R Q k n w pc l (.int y :: .int x :: st) :=
  fun p ln e s m args below meth c C H locs ls hw hS hl => lv_icmp_eq C.1 C.2.1 d ht (fun z => kt z p ln e s m args below meth c C H locs ls hw hS hl) (fun z => kf z p ln e s m args below meth c C H locs ls hw hS hl)
theorem J.icmp_eqN {a b : Nat} {off : Int} {tgt : Nat} (d : decode M.2.1 pc = .ok (.if_icmp .eq off, 3)) (ht : (pc : Int) + off = (tgt : Int)) (ha : a < 2147483648) (hb : b < 2147483648) (kt : a = b → J g M R Q k n w tgt l st) (kf : a ≠ b → J g M R Q k n w (pc + 3) l st) : J g M R Q k n w pc l (.int (nI b) :: .int (nI a) :: st) :=
  J.icmp_eq d ht (fun z => kt ((nI_eq ha hb).mp z)) (fun z => kf (fun q => z ((nI_eq ha hb).mpr q)))
theorem J.icmp_ne {x y : Int32} {off : Int} {tgt : Nat} (d : decode M.2.1 pc = .ok (.if_icmp .ne off, 3)) (ht : (pc : Int) + off = (tgt : Int)) (kt : ¬ x = y → J g M R Q k n w tgt l st) (kf : x = y → J g M R Q k n w (pc + 3) l st) : J g M R Q k n w pc l (.int y :: .int x :: st) :=
  fun p ln e s m args below meth c C H locs ls hw hS hl => lv_icmp_ne C.1 C.2.1 d ht (fun z => kt z p ln e s m args below meth c C H locs ls hw hS hl) (fun z => kf z p ln e s m args below meth c C H locs ls hw hS hl)
theorem J.icmp_neN {a b : Nat} {off : Int} {tgt : Nat} (d : decode M.2.1 pc = .ok (.if_icmp .ne off, 3)) (ht : (pc : Int) + off = (tgt : Int)) (ha : a < 2147483648) (hb : b < 2147483648) (kt : a ≠ b → J g M R Q k n w tgt l st) (kf : a = b → J g M R Q k n w (pc + 3) l st) : J g M R Q k n w pc l (.int (nI b) :: .int (nI a) :: st) :=
  J.icmp_ne d ht (fun z => kt (fun q => z ((nI_eq ha hb).mpr q))) (fun z => kf ((nI_eq ha hb).mp z))
theorem J.icmp_lt {x y : Int32} {off : Int} {tgt : Nat} (d : decode M.2.1 pc = .ok (.if_icmp .lt off, 3)) (ht : (pc : Int) + off = (tgt : Int)) (kt : x < y → J g M R Q k n w tgt l st) (kf : ¬ x < y → J g M R Q k n w (pc + 3) l st) : J g M R Q k n w pc l (.int y :: .int x :: st) :=
  fun p ln e s m args below meth c C H locs ls hw hS hl => lv_icmp_lt C.1 C.2.1 d ht (fun z => kt z p ln e s m args below meth c C H locs ls hw hS hl) (fun z => kf z p ln e s m args below meth c C H locs ls hw hS hl)
theorem J.icmp_ltN {a b : Nat} {off : Int} {tgt : Nat} (d : decode M.2.1 pc = .ok (.if_icmp .lt off, 3)) (ht : (pc : Int) + off = (tgt : Int)) (ha : a < 2147483648) (hb : b < 2147483648) (kt : a < b → J g M R Q k n w tgt l st) (kf : b ≤ a → J g M R Q k n w (pc + 3) l st) : J g M R Q k n w pc l (.int (nI b) :: .int (nI a) :: st) :=
  J.icmp_lt d ht (fun z => kt ((nI_ltI ha hb).mp z)) (fun z => kf (Nat.not_lt.mp (fun q => z ((nI_ltI ha hb).mpr q))))
theorem J.icmp_ge {x y : Int32} {off : Int} {tgt : Nat} (d : decode M.2.1 pc = .ok (.if_icmp .ge off, 3)) (ht : (pc : Int) + off = (tgt : Int)) (kt : y ≤ x → J g M R Q k n w tgt l st) (kf : ¬ y ≤ x → J g M R Q k n w (pc + 3) l st) : J g M R Q k n w pc l (.int y :: .int x :: st) :=
  fun p ln e s m args below meth c C H locs ls hw hS hl => lv_icmp_ge C.1 C.2.1 d ht (fun z => kt z p ln e s m args below meth c C H locs ls hw hS hl) (fun z => kf z p ln e s m args below meth c C H locs ls hw hS hl)
theorem J.icmp_geN {a b : Nat} {off : Int} {tgt : Nat} (d : decode M.2.1 pc = .ok (.if_icmp .ge off, 3)) (ht : (pc : Int) + off = (tgt : Int)) (ha : a < 2147483648) (hb : b < 2147483648) (kt : b ≤ a → J g M R Q k n w tgt l st) (kf : a < b → J g M R Q k n w (pc + 3) l st) : J g M R Q k n w pc l (.int (nI b) :: .int (nI a) :: st) :=
  J.icmp_ge d ht (fun z => kt ((nI_leI hb ha).mp z)) (fun z => kf (Nat.not_le.mp (fun q => z ((nI_leI hb ha).mpr q))))
theorem J.icmp_gt {x y : Int32} {off : Int} {tgt : Nat} (d : decode M.2.1 pc = .ok (.if_icmp .gt off, 3)) (ht : (pc : Int) + off = (tgt : Int)) (kt : y < x → J g M R Q k n w tgt l st) (kf : ¬ y < x → J g M R Q k n w (pc + 3) l st) : J g M R Q k n w pc l (.int y :: .int x :: st) :=
  fun p ln e s m args below meth c C H locs ls hw hS hl => lv_icmp_gt C.1 C.2.1 d ht (fun z => kt z p ln e s m args below meth c C H locs ls hw hS hl) (fun z => kf z p ln e s m args below meth c C H locs ls hw hS hl)
theorem J.icmp_gtN {a b : Nat} {off : Int} {tgt : Nat} (d : decode M.2.1 pc = .ok (.if_icmp .gt off, 3)) (ht : (pc : Int) + off = (tgt : Int)) (ha : a < 2147483648) (hb : b < 2147483648) (kt : b < a → J g M R Q k n w tgt l st) (kf : a ≤ b → J g M R Q k n w (pc + 3) l st) : J g M R Q k n w pc l (.int (nI b) :: .int (nI a) :: st) :=
  J.icmp_gt d ht (fun z => kt ((nI_ltI hb ha).mp z)) (fun z => kf (Nat.not_lt.mp (fun q => z ((nI_ltI hb ha).mpr q))))
theorem J.icmp_le {x y : Int32} {off : Int} {tgt : Nat} (d : decode M.2.1 pc = .ok (.if_icmp .le off, 3)) (ht : (pc : Int) + off = (tgt : Int)) (kt : x ≤ y → J g M R Q k n w tgt l st) (kf : ¬ x ≤ y → J g M R Q k n w (pc + 3) l st) : J g M R Q k n w pc l (.int y :: .int x :: st) :=
  fun p ln e s m args below meth c C H locs ls hw hS hl => lv_icmp_le C.1 C.2.1 d ht (fun z => kt z p ln e s m args below meth c C H locs ls hw hS hl) (fun z => kf z p ln e s m args below meth c C H locs ls hw hS hl)
theorem J.icmp_leN {a b : Nat} {off : Int} {tgt : Nat} (d : decode M.2.1 pc = .ok (.if_icmp .le off, 3)) (ht : (pc : Int) + off = (tgt : Int)) (ha : a < 2147483648) (hb : b < 2147483648) (kt : a ≤ b → J g M R Q k n w tgt l st) (kf : b < a → J g M R Q k n w (pc + 3) l st) : J g M R Q k n w pc l (.int (nI b) :: .int (nI a) :: st) :=
  J.icmp_le d ht (fun z => kt ((nI_leI ha hb).mp z)) (fun z => kf (Nat.not_le.mp (fun q => z ((nI_leI ha hb).mpr q))))
theorem J.if_eq {x : Int32} {off : Int} {tgt : Nat} (d : decode M.2.1 pc = .ok (.ifCond .eq off, 3)) (ht : (pc : Int) + off = (tgt : Int)) (kt : x = 0 → J g M R Q k n w tgt l st) (kf : ¬ x = 0 → J g M R Q k n w (pc + 3) l st) : J g M R Q k n w pc l (.int x :: st) :=
  fun p ln e s m args below meth c C H locs ls hw hS hl => lv_if_eq C.1 C.2.1 d ht (fun z => kt z p ln e s m args below meth c C H locs ls hw hS hl) (fun z => kf z p ln e s m args below meth c C H locs ls hw hS hl)
theorem J.if_eqN {a : Nat} {off : Int} {tgt : Nat} (d : decode M.2.1 pc = .ok (.ifCond .eq off, 3)) (ht : (pc : Int) + off = (tgt : Int)) (ha : a < 2147483648) (kt : a = 0 → J g M R Q k n w tgt l st) (kf : 0 < a → J g M R Q k n w (pc + 3) l st) : J g M R Q k n w pc l (.int (nI a) :: st) :=
  J.if_eq d ht (fun z => kt ((nI_eq ha (b := 0) (by decide)).mp (z.trans nI_0.symm))) (fun z => kf (Nat.pos_of_ne_zero (fun q => z (by rw [q]; exact nI_0))))
theorem J.if_ne {x : Int32} {off : Int} {tgt : Nat} (d : decode M.2.1 pc = .ok (.ifCond .ne off, 3)) (ht : (pc : Int) + off = (tgt : Int)) (kt : ¬ x = 0 → J g M R Q k n w tgt l st) (kf : x = 0 → J g M R Q k n w (pc + 3) l st) : J g M R Q k n w pc l (.int x :: st) :=
  fun p ln e s m args below meth c C H locs ls hw hS hl => lv_if_ne C.1 C.2.1 d ht (fun z => kt z p ln e s m args below meth c C H locs ls hw hS hl) (fun z => kf z p ln e s m args below meth c C H locs ls hw hS hl)
theorem J.if_neN {a : Nat} {off : Int} {tgt : Nat} (d : decode M.2.1 pc = .ok (.ifCond .ne off, 3)) (ht : (pc : Int) + off = (tgt : Int)) (ha : a < 2147483648) (kt : 0 < a → J g M R Q k n w tgt l st) (kf : a = 0 → J g M R Q k n w (pc + 3) l st) : J g M R Q k n w pc l (.int (nI a) :: st) :=
  J.if_ne d ht (fun z => kt (Nat.pos_of_ne_zero (fun q => z (by rw [q]; exact nI_0)))) (fun z => kf ((nI_eq ha (b := 0) (by decide)).mp (z.trans nI_0.symm)))
theorem J.if_lt {x : Int32} {off : Int} {tgt : Nat} (d : decode M.2.1 pc = .ok (.ifCond .lt off, 3)) (ht : (pc : Int) + off = (tgt : Int)) (kt : x < 0 → J g M R Q k n w tgt l st) (kf : ¬ x < 0 → J g M R Q k n w (pc + 3) l st) : J g M R Q k n w pc l (.int x :: st) :=
  fun p ln e s m args below meth c C H locs ls hw hS hl => lv_if_lt C.1 C.2.1 d ht (fun z => kt z p ln e s m args below meth c C H locs ls hw hS hl) (fun z => kf z p ln e s m args below meth c C H locs ls hw hS hl)
theorem J.if_ltN {a : Nat} {off : Int} {tgt : Nat} (d : decode M.2.1 pc = .ok (.ifCond .lt off, 3)) (ht : (pc : Int) + off = (tgt : Int)) (ha : a < 2147483648) (kt : False → J g M R Q k n w tgt l st) (kf : True → J g M R Q k n w (pc + 3) l st) : J g M R Q k n w pc l (.int (nI a) :: st) :=
  J.if_lt d ht (fun z => (nI_pos ha z).elim) (fun _ => kf trivial)
theorem J.if_ge {x : Int32} {off : Int} {tgt : Nat} (d : decode M.2.1 pc = .ok (.ifCond .ge off, 3)) (ht : (pc : Int) + off = (tgt : Int)) (kt : 0 ≤ x → J g M R Q k n w tgt l st) (kf : ¬ 0 ≤ x → J g M R Q k n w (pc + 3) l st) : J g M R Q k n w pc l (.int x :: st) :=
  fun p ln e s m args below meth c C H locs ls hw hS hl => lv_if_ge C.1 C.2.1 d ht (fun z => kt z p ln e s m args below meth c C H locs ls hw hS hl) (fun z => kf z p ln e s m args below meth c C H locs ls hw hS hl)
theorem J.if_geN {a : Nat} {off : Int} {tgt : Nat} (d : decode M.2.1 pc = .ok (.ifCond .ge off, 3)) (ht : (pc : Int) + off = (tgt : Int)) (ha : a < 2147483648) (kt : True → J g M R Q k n w tgt l st) (kf : False → J g M R Q k n w (pc + 3) l st) : J g M R Q k n w pc l (.int (nI a) :: st) :=
  J.if_ge d ht (fun _ => kt trivial) (fun z => (z (nI_pos' ha)).elim)
theorem J.if_gt {x : Int32} {off : Int} {tgt : Nat} (d : decode M.2.1 pc = .ok (.ifCond .gt off, 3)) (ht : (pc : Int) + off = (tgt : Int)) (kt : 0 < x → J g M R Q k n w tgt l st) (kf : ¬ 0 < x → J g M R Q k n w (pc + 3) l st) : J g M R Q k n w pc l (.int x :: st) :=
  fun p ln e s m args below meth c C H locs ls hw hS hl => lv_if_gt C.1 C.2.1 d ht (fun z => kt z p ln e s m args below meth c C H locs ls hw hS hl) (fun z => kf z p ln e s m args below meth c C H locs ls hw hS hl)
theorem J.if_gtN {a : Nat} {off : Int} {tgt : Nat} (d : decode M.2.1 pc = .ok (.ifCond .gt off, 3)) (ht : (pc : Int) + off = (tgt : Int)) (ha : a < 2147483648) (kt : 0 < a → J g M R Q k n w tgt l st) (kf : a = 0 → J g M R Q k n w (pc + 3) l st) : J g M R Q k n w pc l (.int (nI a) :: st) :=
  J.if_gt d ht (fun z => kt ((nI_ltI (a := 0) (by decide) ha).mp (nI_0 ▸ z))) (fun z => kf (Nat.eq_zero_of_not_pos (fun q => z (by have := nI_lt q ha; rw [nI_0] at this; exact this))))
theorem J.if_le {x : Int32} {off : Int} {tgt : Nat} (d : decode M.2.1 pc = .ok (.ifCond .le off, 3)) (ht : (pc : Int) + off = (tgt : Int)) (kt : x ≤ 0 → J g M R Q k n w tgt l st) (kf : ¬ x ≤ 0 → J g M R Q k n w (pc + 3) l st) : J g M R Q k n w pc l (.int x :: st) :=
  fun p ln e s m args below meth c C H locs ls hw hS hl => lv_if_le C.1 C.2.1 d ht (fun z => kt z p ln e s m args below meth c C H locs ls hw hS hl) (fun z => kf z p ln e s m args below meth c C H locs ls hw hS hl)
theorem J.if_leN {a : Nat} {off : Int} {tgt : Nat} (d : decode M.2.1 pc = .ok (.ifCond .le off, 3)) (ht : (pc : Int) + off = (tgt : Int)) (ha : a < 2147483648) (kt : a = 0 → J g M R Q k n w tgt l st) (kf : 0 < a → J g M R Q k n w (pc + 3) l st) : J g M R Q k n w pc l (.int (nI a) :: st) :=
  J.if_le d ht (fun z => kt (Nat.eq_zero_of_not_pos (fun q => nI_nle q ha z))) (fun z => kf (Nat.pos_of_ne_zero (fun q => z (by rw [q, nI_0]; exact Int32.le_refl _))))
theorem J.tableIn {dflt lo hi off : Int} {offs : Array Int} {len tgt : Nat} {x : Int32} (d : decode M.2.1 pc = .ok (.tableswitch dflt lo hi offs, len)) (h1 : ¬ x.toInt < lo) (h2 : ¬ hi < x.toInt) (ho : offs[(x.toInt - lo).toNat]? = some off) (ht : (pc : Int) + off = (tgt : Int)) (K : J g M R Q k n w tgt l st) : J g M R Q k n w pc l (.int x :: st) :=
  fun p ln e s m args below meth c C H locs ls hw hS hl => lv_tableIn C.1 C.2.1 d h1 h2 ho ht (K p ln e s m args below meth c C H locs ls hw hS hl)
theorem J.tableOut {dflt lo hi : Int} {offs : Array Int} {len tgt : Nat} {x : Int32} (d : decode M.2.1 pc = .ok (.tableswitch dflt lo hi offs, len)) (h : x.toInt < lo ∨ hi < x.toInt) (ht : (pc : Int) + dflt = (tgt : Int)) (K : J g M R Q k n w tgt l st) : J g M R Q k n w pc l (.int x :: st) :=
  fun p ln e s m args below meth c C H locs ls hw hS hl => lv_tableOut C.1 C.2.1 d h ht (K p ln e s m args below meth c C H locs ls hw hS hl)
theorem J.lookup {dflt off : Int} {ps : Array (Int × Int)} {len tgt : Nat} {x : Int32} (d : decode M.2.1 pc = .ok (.lookupswitch dflt ps, len)) (hp : (ps.toList.zip (ps.toList.drop 1)).all (fun (a, next) => a.1 < next.1) = true) (ho : Op.lookupswitch.offset ps.toList dflt x.toInt = off) (ht : (pc : Int) + off = (tgt : Int)) (K : J g M R Q k n w tgt l st) : J g M R Q k n w pc l (.int x :: st) :=
  fun p ln e s m args below meth c C H locs ls hw hS hl => lv_lookup C.1 C.2.1 d hp ho ht (K p ln e s m args below meth c C H locs ls hw hS hl)
theorem J.dup2 {a b : Value} (d : decode M.2.1 pc = .ok (.dup2, 1)) (h1 : a.category = 1) (h2 : b.category = 1) (K : J g M R Q k n w (pc + 1) l (a :: b :: a :: b :: st)) : J g M R Q k n w pc l (a :: b :: st) :=
  fun p ln e s m args below meth c C H locs ls hw hS hl => lv_dup2_11 C.1 C.2.1 d h1 h2 (K p ln e s m args below meth c C H locs ls hw hS hl)
end RU
section RE
variable {g : GP} {M : MI} {R : Room} {P : PT} {k n pc : Nat} {w : va_W} {l : List (Option Value)}
theorem J.iret {v : Int32} (hr : M.2.2.2.1 = some .int) (hk : k ≤ R.cells) (hn : n ≤ R.slots) (d : decode M.2.1 pc = .ok (.ireturn, 1)) (hp : P (.inl (some (.int v))) w) : J g M R (MQx g R P) k n w pc l [.int v] :=
  fun p ln e s m args below meth c C H locs ls hw hS hl => W.widen hk hn (vx_ret (W.iret C.1 C.2.1 (C.2.2.2.1.trans hr) (fun t ht hW => ⟨_, w, rfl, hp, by rw [ht]; exact hw, hS.F ht⟩) hS.2.2 d C.2.2.2.2.2.2.1))
theorem J.zret {v : Int32} {ty : FieldType} (hr : M.2.2.2.1 = some ty) (hv : narrow ty (.int v) = .int v) (hk : k ≤ R.cells) (hn : n ≤ R.slots) (d : decode M.2.1 pc = .ok (.ireturn, 1)) (hp : P (.inl (some (.int v))) w) : J g M R (MQx g R P) k n w pc l [.int v] :=
  fun p ln e s m args below meth c C H locs ls hw hS hl => W.widen hk hn (vx_ret (W.zret C.1 C.2.1 (C.2.2.2.1.trans hr) hv (fun t ht hW => ⟨_, w, rfl, hp, by rw [ht]; exact hw, hS.F ht⟩) hS.2.2 d C.2.2.2.2.2.2.1))
theorem J.vret (hr : M.2.2.2.1 = none) (hk : k ≤ R.cells) (hn : n ≤ R.slots) (d : decode M.2.1 pc = .ok (.return_, 1)) (hp : P (.inl none) w) : J g M R (MQx g R P) k n w pc l [] :=
  fun p ln e s m args below meth c C H locs ls hw hS hl => W.widen hk hn (vx_ret (W.vret C.1 C.2.1 (C.2.2.2.1.trans hr) (fun t ht hW => ⟨_, w, rfl, hp, by rw [ht]; exact hw, hS.F ht⟩) hS.2.2 d C.2.2.2.2.2.2.1))
theorem J.vretI (hr : M.2.2.2.1 = none) (hk : k ≤ R.cells) (hn : n ≤ R.slots) (d : decode M.2.1 pc = .ok (.return_, 1)) (hp : P (.inl none) w) : J g M R (MQi g R P) k n w pc l [] :=
  fun p ln e s m args below meth c C H locs ls hw hS hl => W.widen hk hn (W.vret C.1 C.2.1 (C.2.2.2.1.trans hr) (fun t ht hW => ⟨_, w, rfl, hp, by rw [ht]; exact hw, hS.F ht⟩) hS.2.2 d C.2.2.2.2.2.2.1)
theorem J.throwS {E tx : String} {ik is ic : Nat} {names : List String} {st : List Value} (hcls : Bundle.fit E = true) (hnames : ∀ z ∈ names, Bundle.fit z = true)
    (f1 : Cond.classLink M.1 ik E ∈ BIG) (f2 : Cond.initialized E ∈ BIG) (hown : M.1 = RX7) (hs : (is, tx) ∈ strs) (hat : ∀ (p : Program) (ln : Launch) (s : State) (m : MethodId) (args : Array Value) (meth : Method) (c : Code), Cx g M p ln s m args meth c → ∀ w ∈ vx_atS M.1 ic E names, w.before args s = true)
    (hgood : ∀ w ∈ Cond.classLink M.1 ik E :: Cond.initialized E :: vx_atS M.1 ic E names, vx_ot w = true)
    (d0 : decode M.2.1 pc = .ok (.new ik, 3)) (d3 : decode M.2.1 (pc + 3) = .ok (.dup, 1)) (d4 : decode M.2.1 (pc + 4) = .ok (.ldc is, 2)) (d6 : decode M.2.1 (pc + 6) = .ok (.invokespecial ic, 3)) (d9 : decode M.2.1 (pc + 9) = .ok (.athrow, 1))
    (hi9 : M.2.2.2.2.2 = false) (htab : M.2.2.2.2.1 = []) (hRf : names.length + 3 < R.frames) (hRl : (st.map fun v => v.category).sum + (13 * (names.length + 1) + 43) ≤ R.locals) (hk : k + 1 ≤ R.cells) (hn : n + 6 ≤ R.slots) (hp : P (.inr E) w) : J g M R (MQx g R P) k n w pc l st := by
  intro p ln e s m args below meth c C9 H locs ls hw hS hl
  have hat9 := hat p ln s m args meth c C9
  obtain ⟨hx, hb, hml, hr, hown9, hts, hlk, hst, htb, hini, hamb⟩ := C9
  obtain ⟨a, ha⟩ := hamb.2.2.2.1 _ hs
  have htb := htb hi9
  rw [htab] at htb
  rw [← hown] at ha
  exact vx_throwS hx hb hst (names := names) hown9 hcls hnames (hts _ f1) (hts _ f2) ha hat9 hgood hamb.2.1 hamb.2.2.1 hS (hl.1.trans hml.symm) d0 d3 d4 d6 d9 (fun x hx => by rw [htb] at hx; cases hx) hRf hRl hk hn hlk
    (fun t hv hz hk => ⟨w, hp, ⟨hw.1.kept (fun i q hq => hk q.1 (hw.1 i q hq).lt), hw.2⟩, ⟨Nat.le_trans hS.1 hz, fun q h1 h2 => (hk q (Nat.lt_of_lt_of_le h1 hS.1)).trans (hS.2.1 q h1 h2)⟩⟩) hS.2.2 hk hn
theorem J.throwSW {E tx : String} {ik is ic : Nat} {names : List String} {st : List Value} (hcls : Bundle.fit E = true) (hnames : ∀ z ∈ names, Bundle.fit z = true)
    (f1 : Cond.classLink M.1 ik E ∈ BIG) (f2 : Cond.initialized E ∈ BIG) (hown : M.1 = RX7) (hs : (is, tx) ∈ strs) (hat : ∀ (p : Program) (ln : Launch) (s : State) (m : MethodId) (args : Array Value) (meth : Method) (c : Code), Cx g M p ln s m args meth c → ∀ w ∈ vx_atS M.1 ic E names, w.before args s = true)
    (hgood : ∀ w ∈ Cond.classLink M.1 ik E :: Cond.initialized E :: vx_atS M.1 ic E names, vx_ot w = true)
    (d0 : decode M.2.1 pc = .ok (.new ik, 3)) (d3 : decode M.2.1 (pc + 3) = .ok (.dup, 1)) (d4 : decode M.2.1 (pc + 4) = .ok (.ldc_w is, 3)) (d6 : decode M.2.1 (pc + 7) = .ok (.invokespecial ic, 3)) (d9 : decode M.2.1 (pc + 10) = .ok (.athrow, 1))
    (hi9 : M.2.2.2.2.2 = false) (htab : M.2.2.2.2.1 = []) (hRf : names.length + 3 < R.frames) (hRl : (st.map fun v => v.category).sum + (13 * (names.length + 1) + 43) ≤ R.locals) (hk : k + 1 ≤ R.cells) (hn : n + 6 ≤ R.slots) (hp : P (.inr E) w) : J g M R (MQx g R P) k n w pc l st := by
  intro p ln e s m args below meth c C9 H locs ls hw hS hl
  have hat9 := hat p ln s m args meth c C9
  obtain ⟨hx, hb, hml, hr, hown9, hts, hlk, hst, htb, hini, hamb⟩ := C9
  obtain ⟨a, ha⟩ := hamb.2.2.2.1 _ hs
  have htb := htb hi9
  rw [htab] at htb
  rw [← hown] at ha
  exact vx_throwSW hx hb hst (names := names) hown9 hcls hnames (hts _ f1) (hts _ f2) ha hat9 hgood hamb.2.1 hamb.2.2.1 hS (hl.1.trans hml.symm) d0 d3 d4 d6 d9 (fun x hx => by rw [htb] at hx; cases hx) hRf hRl hk hn hlk
    (fun t hv hz hk => ⟨w, hp, ⟨hw.1.kept (fun i q hq => hk q.1 (hw.1 i q hq).lt), hw.2⟩, ⟨Nat.le_trans hS.1 hz, fun q h1 h2 => (hk q (Nat.lt_of_lt_of_le h1 hS.1)).trans (hS.2.1 q h1 h2)⟩⟩) hS.2.2 hk hn
end RE
end
section
/-! ===== the system's cells by number: 0 the class's object, 1 its state, 20 its past, 174 its snapshot, 193 its reader, 231 its line, 233 made, 235 spare, 237 the reference, 247 the law's row; a memory gives the ints in them ===== -/
abbrev Mem : Type := Nat → Nat → Int32
def NC : Nat := 248
def ktl : List Nat := [13, 5, 2, 1032, 1032, 1032, 3, 1120, 4, 30005, 1, 1032, 1, 1032, 1, 1032, 1, 1032, 1, 1032, 6, 7, 5, 2, 1032, 1032, 1032, 3, 1120, 4, 30005, 1, 1032, 1, 1032, 1, 1032, 1, 1032, 1, 1032, 5, 2, 1032, 1032, 1032, 3, 1120, 4, 30005, 1, 1032, 1, 1032, 1, 1032, 1, 1032, 1, 1032, 5, 2, 1032, 1032, 1032, 3, 1120, 4, 30005, 1, 1032, 1, 1032, 1, 1032, 1, 1032, 1, 1032, 5, 2, 1032, 1032, 1032, 3, 1120, 4, 30005, 1, 1032, 1, 1032, 1, 1032, 1, 1032, 1, 1032, 5, 2, 1032, 1032, 1032, 3, 1120, 4, 30005, 1, 1032, 1, 1032, 1, 1032, 1, 1032, 1, 1032, 5, 2, 1032, 1032, 1032, 3, 1120, 4, 30005, 1, 1032, 1, 1032, 1, 1032, 1, 1032, 1, 1032, 5, 2, 1032, 1032, 1032, 3, 1120, 4, 30005, 1, 1032, 1, 1032, 1, 1032, 1, 1032, 1, 1032, 5, 2, 1032, 1032, 1032, 3, 1120, 4, 30005, 1, 1032, 1, 1032, 1, 1032, 1, 1032, 1, 1032, 5, 2, 1032, 1032, 1032, 3, 1120, 4, 30005, 1, 1032, 1, 1032, 1, 1032, 1, 1032, 1, 1032, 8, 9, 20120, 10, 11, 12, 1, 1032, 1, 1032, 1, 1032, 1, 1032, 1, 1032, 1, 1032, 1, 1032, 1, 1032, 1, 1032, 1, 1032, 1, 1032, 1, 1032, 1, 1032, 1, 1032, 1, 1032, 1, 1032, 9, 20120, 1, 1032, 1, 1032, 14, 1352, 1352, 1352, 3816, 7400, 1200, 1032, 20060, 20200, 40001]
def kt (o : Nat) : Nat := ktl.getD o 0
theorem rg_lt {o N : Nat} (L : List Nat) (hN : L.length = N) (h : L.getD o 0 ≠ 0) : o < N := by
  refine Nat.not_le.mp fun q => h ?_
  rw [List.getD_eq_getElem?_getD, List.getElem?_eq_none (by rw [hN]; exact q)]
  rfl
theorem kt_lt {o : Nat} (h : kt o ≠ 0) : o < NC := rg_lt ktl rfl h
theorem rg_get {α : Type} {N o : Nat} (f : Nat → α) (h : o < N) : ((List.range N).map f)[o]? = some (f o) := by
  rw [List.getElem?_map, List.getElem?_range h, Option.map_some]
theorem rg_set {α : Type} {N o : Nat} {f f' : Nat → α} {e : α} (he : f' o = e) (hf : ∀ i, i ≠ o → f' i = f i) : ((List.range N).map f).set o e = (List.range N).map f' := by
  apply List.ext_getElem?
  intro i
  rw [List.getElem?_set, List.length_map, List.length_range]
  by_cases hi : o = i
  · subst hi
    rw [if_pos rfl]
    by_cases hl : o < N
    · rw [if_pos hl, rg_get f' hl, he]
    · rw [if_neg hl, List.getElem?_eq_none (by rw [List.length_map, List.length_range]; omega)]
  · rw [if_neg hi]
    by_cases hl : i < N
    · rw [rg_get f hl, rg_get f' hl, hf i (Ne.symm hi)]
    · rw [List.getElem?_eq_none (by rw [List.length_map, List.length_range]; omega), List.getElem?_eq_none (by rw [List.length_map, List.length_range]; omega)]
/-- what the cell o of kind c is, with the ints m in it -/
def kdo (g : GP) (adr : Nat → Nat) (o : Nat) (m : Nat → Int32) (c : Nat) : va_E :=
  match c with
  | 1 => .inr (3, [.ref (adr (o + 1))])
  | 2 => .inr (0, [.ref (adr (o + 1)), .ref (adr (o + 2)), .ref (adr (o + 3))])
  | 3 => .inr (1, [.ref (adr (o + 1)), .int (m 1)])
  | 4 => .inl (g.2.2 4, 5, .inr (.inr (.inr (.inr (fun j => some (adr (o + 2 + 2 * j)))))))
  | 5 => .inr (6, [.ref (adr (o + 1)), .ref (adr (o + 5)), .int (m 2), .int (m 3), .ref (adr (o + 7)), .ref (adr (o + 8))])
  | 6 => .inr (2, [.ref (adr (o + 1)), .int (m 1)])
  | 7 => .inl (g.2.2 5, 8, .inr (.inr (.inr (.inr (fun j => some (adr (22 + 19 * (m j).toNatClampNeg)))))))
  | 8 => .inr (4, [.ref (adr (o + 1)), .int (m 1), .ref (adr (o + 3)), .ref (adr (o + 4)), .ref (adr (o + 5)), .ref (adr (o + 6))])
  | 9 => .inr (5, [.ref (adr (o + 1)), .int (m 1)])
  | 10 => .inl (g.2.2 4, 5, .inr (.inr (.inr (.inr (fun j => some (adr (o + 5 + 6 * j)))))))
  | 11 => .inl (g.2.2 4, 5, .inr (.inr (.inr (.inr (fun j => some (adr (o + 6 + 6 * j)))))))
  | 12 => .inl (g.2.2 4, 5, .inr (.inr (.inr (.inr (fun j => some (adr (o + 7 + 6 * j)))))))
  | 13 => .inr (7, [.ref (adr (o + 1)), .ref (adr (o + 20)), .ref (adr (o + 174)), .int (m 3), .ref (adr (o + 193)), .ref (adr (o + 231)), .ref (adr (o + 233)), .ref (adr (o + 235)), .int (m 8), .int (m 9), .int (m 10)])
  | 14 => .inr (8, [.ref (adr (o + 1)), .ref (adr (o + 2)), .ref (adr (o + 3)), .int (m 3), .ref (adr (o + 4)), .int (m 5), .int (m 6), .int (m 7), .int (m 8), .ref (adr (o + 5)), .ref (adr (o + 6)), .int (m 11), .ref (adr (o + 7)), .ref (adr (o + 8)), .int (m 14), .int (m 15), .int (m 16), .int (m 17), .ref (adr (o + 9)), .int (m 19)])
  | _ => .inr (0, [])
def kdc (g : GP) (adr : Nat → Nat) (o : Nat) (m : Nat → Int32) (c : Nat) : va_E :=
  if c < 1000 then kdo g adr o m c else if c < 20000 then .inl (g.2.2 0, c - 1000, .inl m) else if c < 30000 then .inl (g.2.2 2, c - 20000, .inl m) else if c < 40000 then .inl (g.2.2 1, c - 30000, .inl m) else .inl (g.2.2 3, c - 40000, .inr (.inl (fun j => (m j).toInt64)))
theorem kdc_i (g : GP) (adr : Nat → Nat) (o : Nat) (m : Nat → Int32) {N : Nat} (h : N < 19000) : kdc g adr o m (1000 + N) = .inl (g.2.2 0, N, .inl m) := by
  unfold kdc
  rw [if_neg (by omega), if_pos (by omega), show 1000 + N - 1000 = N by omega]
theorem kdc_c (g : GP) (adr : Nat → Nat) (o : Nat) (m : Nat → Int32) {N : Nat} (h : N < 10000) : kdc g adr o m (20000 + N) = .inl (g.2.2 2, N, .inl m) := by
  unfold kdc
  rw [if_neg (by omega), if_neg (by omega), if_pos (by omega), show 20000 + N - 20000 = N by omega]
theorem kdc_z (g : GP) (adr : Nat → Nat) (o : Nat) (m : Nat → Int32) {N : Nat} (h : N < 10000) : kdc g adr o m (30000 + N) = .inl (g.2.2 1, N, .inl m) := by
  unfold kdc
  rw [if_neg (by omega), if_neg (by omega), if_neg (by omega), if_pos (by omega), show 30000 + N - 30000 = N by omega]
theorem kdc_l (g : GP) (adr : Nat → Nat) (o : Nat) (m : Nat → Int32) : kdc g adr o m 40001 = .inl (g.2.2 3, 1, .inr (.inl (fun j => (m j).toInt64))) := by
  unfold kdc
  rw [if_neg (by omega), if_neg (by omega), if_neg (by omega), if_neg (by omega)]
def WM (g : GP) (adr : Nat → Nat) (μ : Mem) : va_W := (List.range NC).map (fun i => (adr i, kdc g adr i (μ i) (kt i)))
def wr (μ : Mem) (o k : Nat) (v : Int32) : Mem := fun o' k' => if o' = o ∧ k' = k then v else μ o' k'
/-- n ints of the row a from sp on, copied to the row b from dp on -/
def cpy (μ : Mem) (a sp b dp n : Nat) : Mem := fun o k => if o = b then va_cpy (μ a) (μ b) sp dp n k else μ o k
theorem wr_s {μ : Mem} {o k : Nat} {v : Int32} : wr μ o k v o k = v := if_pos ⟨rfl, rfl⟩
theorem wr_n {μ : Mem} {o k o' k' : Nat} {v : Int32} (h : o' ≠ o ∨ k' ≠ k) : wr μ o k v o' k' = μ o' k' := if_neg (fun q => h.elim (fun z => z q.1) (fun z => z q.2))
theorem wr_o {μ : Mem} {o k o' : Nat} {v : Int32} (h : o' ≠ o) : wr μ o k v o' = μ o' := funext fun _ => wr_n (Or.inl h)
theorem WM_get {g : GP} {adr : Nat → Nat} {μ : Mem} {o c : Nat} (h : kt o = c) (hc : c ≠ 0) : (WM g adr μ)[o]? = some (adr o, kdc g adr o (μ o) c) := by
  have ho : o < NC := kt_lt (by rw [h]; exact hc)
  subst h
  exact rg_get (fun i => (adr i, kdc g adr i (μ i) (kt i))) ho
theorem WM_set {g : GP} {adr : Nat → Nat} {μ : Mem} {o c : Nat} {m' : Nat → Int32} {e : va_E} (h : kt o = c) (he : kdc g adr o m' c = e) : (WM g adr μ).set o (adr o, e) = WM g adr (fun o' => if o' = o then m' else μ o') := by
  subst h; subst he
  refine rg_set (f := fun i => (adr i, kdc g adr i (μ i) (kt i))) (f' := fun i => (adr i, kdc g adr i ((fun o' => if o' = o then m' else μ o') i) (kt i))) ?_ (fun i hi => ?_)
  · show (adr o, kdc g adr o (if o = o then m' else μ o) (kt o)) = _
    rw [if_pos rfl]
  · show (adr i, kdc g adr i (if i = o then m' else μ i) (kt i)) = _
    rw [if_neg hi]
theorem wr_eq {μ : Mem} {o k : Nat} {v : Int32} : (fun o' => if o' = o then (upd (μ o) k v) else μ o') = wr μ o k v := by
  funext o' k'
  unfold wr upd
  by_cases h : o' = o
  · subst h
    rw [if_pos rfl]
    by_cases h2 : k' = k
    · rw [if_pos h2, if_pos ⟨rfl, h2⟩]
    · rw [if_neg h2, if_neg (fun q => h2 q.2)]
  · rw [if_neg h, if_neg (fun q => h q.1)]
section MM
variable {g : GP} {M : MI} {R : Room} {Q : QT} {k n pc : Nat} {w : va_W} {l : List (Option Value)} {st : List Value} {adr : Nat → Nat} {μ : Mem}
theorem J.getF {C : String} {T : u_T} {N ci idx kf q0 a : Nat} {fs : List Value} {v : Value} (hin : ∀ z ∈ u_ws C T N, z ∈ BIG) (hc : vwCl[ci]? = some (C, T, N)) (hk : kf < N) (f : Cond.fieldLink M.1 idx (T kf).1 (T kf).2.1 (T kf).2.2.1 ∈ BIG)
    (he : w[q0]? = some (a, .inr (ci, fs))) (hv : fs[kf]? = some v) (d : decode M.2.1 pc = .ok (.getfield idx, 3)) (K : J g M R Q k n w (pc + 3) l (v :: st)) : J g M R Q k n w pc l (.ref a :: st) :=
  fun p ln e s m args below meth c C9 H locs ls hw hS hl => va_get (D := g.2.1) C9.1 C9.2.1 (own := M.1) C9.2.2.2.2.2.1 hin C9.2.2.2.2.1 C9.2.2.2.2.2.2.2.2.2.2.1 hw.1 q0 he hc kf hk (C9.2.2.2.2.2.1 _ f) (fun _ h => h) hv d (K p ln e s m args below meth c C9 H locs ls hw hS hl)
theorem J.putF {C : String} {T : u_T} {N ci idx kf q0 a : Nat} {fs : List Value} {v : Value} {ty : FieldType} (hin : ∀ z ∈ u_ws C T N, z ∈ BIG) (ty0 : Nat → FieldType) (hty : ∀ k, k < N → parseFieldDescriptor (T k).2.2.1 = some (ty0 k)) (hnm : ∀ a, a < N → ∀ b, b < N → a ≠ b → (T a).2.1 ≠ (T b).2.1) (hc : vwCl[ci]? = some (C, T, N)) (hk : kf < N) (f : Cond.fieldLink M.1 idx (T kf).1 (T kf).2.1 (T kf).2.2.1 ∈ BIG)
    (he : w[q0]? = some (a, .inr (ci, fs))) (hfin : (T kf).2.2.2 = false) (hd : parseFieldDescriptor (T kf).2.2.1 = some ty) (hn : narrow ty v = v) (hfit : fits ty v = true) (hl9 : kf < fs.length) (d : decode M.2.1 pc = .ok (.putfield idx, 3)) (K : J g M R Q k n (w.set q0 (a, .inr (ci, fs.set kf v))) (pc + 3) l st) : J g M R Q k n w pc l (v :: .ref a :: st) :=
  fun p ln e s m args below meth c C9 H locs ls hw hS hl => va_put (D := g.2.1) C9.1 C9.2.1 (own := M.1) C9.2.2.2.2.2.1 hin ty0 hty hnm C9.2.2.2.2.1 C9.2.2.2.2.2.2.2.2.2.2.1 hw.1 hw.2 hS q0 he hc kf hk (C9.2.2.2.2.2.1 _ f) (fun _ h => h) hfin hd hn hfit hl9 d (fun H1 locs1 hP hD hS1 => K p ln e s m args below meth c C9 H1 locs1 ls ⟨hP, hD⟩ hS1 hl)
/-! arrays of the memory -/
theorem J.iald {o N i : Nat} {x : Int32} (ho : kt o = 1000 + N) (hN : N < 19000) (hN0 : 0 < N) (hi : i < N) (hx : μ o i = x) (d : decode M.2.1 pc = .ok (.iaload, 1)) (K : J g M R Q k n (WM g adr μ) (pc + 1) l (.int x :: st)) : J g M R Q k n (WM g adr μ) pc l (.int (nI i) :: .ref (adr o) :: st) := by
  intro p ln e s m args below meth c C9 H locs ls hw hS hl
  have he : (WM g adr μ)[o]? = some (adr o, .inl (g.2.2 0, N, .inl (μ o))) := by
    rw [WM_get ho (by omega), kdc_i g adr o _ hN]
  refine va_iald (D := g.2.1) C9.1 C9.2.1 C9.2.2.2.2.2.2.2.2.2.2.1 hw.1 o 0 he rfl (vp_in_nI hi (by omega)) d ?_
  rw [nI_clamp (by omega), hx]
  exact K p ln e s m args below meth c C9 H locs ls hw hS hl
theorem J.cald {o N i : Nat} {x : Int32} (ho : kt o = 20000 + N) (hN : N < 10000) (hi : i < N) (hx : μ o i = x) (d : decode M.2.1 pc = .ok (.caload, 1)) (K : J g M R Q k n (WM g adr μ) (pc + 1) l (.int x :: st)) : J g M R Q k n (WM g adr μ) pc l (.int (nI i) :: .ref (adr o) :: st) := by
  intro p ln e s m args below meth c C9 H locs ls hw hS hl
  have he : (WM g adr μ)[o]? = some (adr o, .inl (g.2.2 2, N, .inl (μ o))) := by
    rw [WM_get ho (by omega), kdc_c g adr o _ hN]
  refine va_cald (D := g.2.1) C9.1 C9.2.1 C9.2.2.2.2.2.2.2.2.2.2.1 hw.1 o 2 he rfl (vp_in_nI hi (by omega)) d ?_
  rw [nI_clamp (by omega), hx]
  exact K p ln e s m args below meth c C9 H locs ls hw hS hl
theorem J.zald {o N i : Nat} {x : Int32} (ho : kt o = 30000 + N) (hN : N < 10000) (hi : i < N) (hx : μ o i = x) (d : decode M.2.1 pc = .ok (.baload, 1)) (K : J g M R Q k n (WM g adr μ) (pc + 1) l (.int x :: st)) : J g M R Q k n (WM g adr μ) pc l (.int (nI i) :: .ref (adr o) :: st) := by
  intro p ln e s m args below meth c C9 H locs ls hw hS hl
  have he : (WM g adr μ)[o]? = some (adr o, .inl (g.2.2 1, N, .inl (μ o))) := by
    rw [WM_get ho (by omega), kdc_z g adr o _ hN]
  refine va_zald (D := g.2.1) C9.1 C9.2.1 C9.2.2.2.2.2.2.2.2.2.2.1 hw.1 o 1 he rfl (vp_in_nI hi (by omega)) d ?_
  rw [nI_clamp (by omega), hx]
  exact K p ln e s m args below meth c C9 H locs ls hw hS hl
theorem J.lald {o i : Nat} {x : Int32} (ho : kt o = 40001) (hi : i < 1) (hx : μ o i = x) (d : decode M.2.1 pc = .ok (.laload, 1)) (K : J g M R Q k n (WM g adr μ) (pc + 1) l (.long x.toInt64 :: st)) : J g M R Q k n (WM g adr μ) pc l (.int (nI i) :: .ref (adr o) :: st) := by
  intro p ln e s m args below meth c C9 H locs ls hw hS hl
  have he : (WM g adr μ)[o]? = some (adr o, .inl (g.2.2 3, 1, .inr (.inl (fun j => (μ o j).toInt64)))) := by
    rw [WM_get ho (by omega), kdc_l g adr o]
  refine va_lald (D := g.2.1) C9.1 C9.2.1 C9.2.2.2.2.2.2.2.2.2.2.1 hw.1 o 3 he rfl (vp_in_nI hi (by omega)) d ?_
  rw [nI_clamp (by omega), hx]
  exact K p ln e s m args below meth c C9 H locs ls hw hS hl
theorem J.iast {o N i : Nat} {x : Int32} (ho : kt o = 1000 + N) (hN : N < 19000) (hN0 : 0 < N) (hi : i < N) (d : decode M.2.1 pc = .ok (.iastore, 1)) (K : J g M R Q k n (WM g adr (wr μ o i x)) (pc + 1) l st) : J g M R Q k n (WM g adr μ) pc l (.int x :: .int (nI i) :: .ref (adr o) :: st) := by
  intro p ln e s m args below meth c C9 H locs ls hw hS hl
  have hd : ∀ m, kdc g adr o m (1000 + N) = .inl (g.2.2 0, N, .inl m) := fun m => kdc_i g adr o m hN
  have he : (WM g adr μ)[o]? = some (adr o, .inl (g.2.2 0, N, .inl (μ o))) := by rw [WM_get ho (by omega), hd]
  refine va_iast (D := g.2.1) C9.1 C9.2.1 C9.2.2.2.2.2.2.2.2.2.2.1 hw.1 hw.2 hS o 0 he rfl (vp_in_nI hi (by omega)) d (fun H1 locs1 hP hD hS1 => ?_)
  rw [nI_clamp (by omega), WM_set ho (hd _), wr_eq] at hP hD
  exact K p ln e s m args below meth c C9 H1 locs1 ls ⟨hP, hD⟩ hS1 hl
theorem J.cast {o N i : Nat} {x : Int32} (ho : kt o = 20000 + N) (hN : N < 10000) (hi : i < N) (hx : vp_nar .char x = x) (d : decode M.2.1 pc = .ok (.castore, 1)) (K : J g M R Q k n (WM g adr (wr μ o i x)) (pc + 1) l st) : J g M R Q k n (WM g adr μ) pc l (.int x :: .int (nI i) :: .ref (adr o) :: st) := by
  intro p ln e s m args below meth c C9 H locs ls hw hS hl
  have hd : ∀ m, kdc g adr o m (20000 + N) = .inl (g.2.2 2, N, .inl m) := fun m => kdc_c g adr o m hN
  have he : (WM g adr μ)[o]? = some (adr o, .inl (g.2.2 2, N, .inl (μ o))) := by rw [WM_get ho (by omega), hd]
  refine va_cast (D := g.2.1) C9.1 C9.2.1 C9.2.2.2.2.2.2.2.2.2.2.1 hw.1 hw.2 hS o 2 he rfl (vp_in_nI hi (by omega)) d (fun H1 locs1 hP hD hS1 => ?_)
  rw [nI_clamp (by omega), hx, WM_set ho (hd _), wr_eq] at hP hD
  exact K p ln e s m args below meth c C9 H1 locs1 ls ⟨hP, hD⟩ hS1 hl
theorem J.zast {o N i : Nat} {x : Int32} (ho : kt o = 30000 + N) (hN : N < 10000) (hi : i < N) (hx : vp_nar .boolean x = x) (d : decode M.2.1 pc = .ok (.bastore, 1)) (K : J g M R Q k n (WM g adr (wr μ o i x)) (pc + 1) l st) : J g M R Q k n (WM g adr μ) pc l (.int x :: .int (nI i) :: .ref (adr o) :: st) := by
  intro p ln e s m args below meth c C9 H locs ls hw hS hl
  have hd : ∀ m, kdc g adr o m (30000 + N) = .inl (g.2.2 1, N, .inl m) := fun m => kdc_z g adr o m hN
  have he : (WM g adr μ)[o]? = some (adr o, .inl (g.2.2 1, N, .inl (μ o))) := by rw [WM_get ho (by omega), hd]
  refine va_zast (D := g.2.1) C9.1 C9.2.1 C9.2.2.2.2.2.2.2.2.2.2.1 hw.1 hw.2 hS o 1 he rfl (vp_in_nI hi (by omega)) d (fun H1 locs1 hP hD hS1 => ?_)
  rw [nI_clamp (by omega), hx, WM_set ho (hd _), wr_eq] at hP hD
  exact K p ln e s m args below meth c C9 H1 locs1 ls ⟨hP, hD⟩ hS1 hl
theorem J.last {o i : Nat} {x : Int32} {y : Int64} (ho : kt o = 40001) (hi : i < 1) (hx : x.toInt64 = y) (d : decode M.2.1 pc = .ok (.lastore, 1)) (K : J g M R Q k n (WM g adr (wr μ o i x)) (pc + 1) l st) : J g M R Q k n (WM g adr μ) pc l (.long y :: .int (nI i) :: .ref (adr o) :: st) := by
  intro p ln e s m args below meth c C9 H locs ls hw hS hl
  have he : (WM g adr μ)[o]? = some (adr o, .inl (g.2.2 3, 1, .inr (.inl (fun j => (μ o j).toInt64)))) := by
    rw [WM_get ho (by omega), kdc_l g adr o]
  subst hx
  refine va_last (D := g.2.1) C9.1 C9.2.1 C9.2.2.2.2.2.2.2.2.2.2.1 hw.1 hw.2 hS o 3 he rfl (vp_in_nI hi (by omega)) d (fun H1 locs1 hP hD hS1 => ?_)
  have e9 : vp_updL (fun j => (μ o j).toInt64) i x.toInt64 = fun j => (upd (μ o) i x j).toInt64 := by
    funext j
    unfold vp_updL upd
    by_cases h : j = i
    · rw [if_pos h, if_pos h]
    · rw [if_neg h, if_neg h]
  rw [nI_clamp (by omega), e9, WM_set (m' := upd (μ o) i x) ho (kdc_l g adr o _), wr_eq] at hP hD
  exact K p ln e s m args below meth c C9 H1 locs1 ls ⟨hP, hD⟩ hS1 hl
/-- the fixed rows of permutations -/
theorem J.aaldP {o i a : Nat} (d : decode M.2.1 pc = .ok (.aaload, 1)) (hi : i < 5) (ho : (kt o = 4 ∧ a = o + 2 + 2 * i) ∨ (kt o = 10 ∧ a = o + 5 + 6 * i) ∨ (kt o = 11 ∧ a = o + 6 + 6 * i) ∨ (kt o = 12 ∧ a = o + 7 + 6 * i)) (K : J g M R Q k n (WM g adr μ) (pc + 1) l (.ref (adr a) :: st)) : J g M R Q k n (WM g adr μ) pc l (.int (nI i) :: .ref (adr o) :: st) := by
  intro p ln e s m args below meth c C9 H locs ls hw hS hl
  rcases ho with ⟨h, rfl⟩ | ⟨h, rfl⟩ | ⟨h, rfl⟩ | ⟨h, rfl⟩ <;>
  · have he := WM_get (g := g) (adr := adr) (μ := μ) h (by omega)
    refine va_aldq (D := g.2.1) C9.1 C9.2.1 C9.2.2.2.2.2.2.2.2.2.2.1 hw.1 o 4 he rfl (vp_in_nI hi (by omega)) d ?_
    rw [nI_clamp (by omega)]
    exact K p ln e s m args below meth c C9 H locs ls hw hS hl
/-- the past's states -/
theorem J.aaldS {o i q : Nat} (d : decode M.2.1 pc = .ok (.aaload, 1)) (hi : i < 8) (ho : kt o = 7) (hq : μ o i = nI q) (hq2 : q < 8) (K : J g M R Q k n (WM g adr μ) (pc + 1) l (.ref (adr (22 + 19 * q)) :: st)) : J g M R Q k n (WM g adr μ) pc l (.int (nI i) :: .ref (adr o) :: st) := by
  intro p ln e s m args below meth c C9 H locs ls hw hS hl
  have he := WM_get (g := g) (adr := adr) (μ := μ) ho (by omega)
  refine va_aldq (D := g.2.1) C9.1 C9.2.1 C9.2.2.2.2.2.2.2.2.2.2.1 hw.1 o 5 he rfl (vp_in_nI hi (by omega)) d ?_
  rw [nI_clamp (by omega), hq, nI_clamp (by omega)]
  exact K p ln e s m args below meth c C9 H locs ls hw hS hl
theorem kt_S {q : Nat} (h : q < 8) : kt (22 + 19 * q) = 5 := by
  match q, h with
  | 0, _ => rfl
  | 1, _ => rfl
  | 2, _ => rfl
  | 3, _ => rfl
  | 4, _ => rfl
  | 5, _ => rfl
  | 6, _ => rfl
  | 7, _ => rfl
theorem J.aastS {o i q : Nat} (d : decode M.2.1 pc = .ok (.aastore, 1)) (hi : i < 8) (ho : kt o = 7) (hq2 : q < 8) (K : J g M R Q k n (WM g adr (wr μ o i (nI q))) (pc + 1) l st) : J g M R Q k n (WM g adr μ) pc l (.ref (adr (22 + 19 * q)) :: .int (nI i) :: .ref (adr o) :: st) := by
  intro p ln e s m args below meth c C9 H locs ls hw hS hl
  have he := WM_get (g := g) (adr := adr) (μ := μ) ho (by omega)
  have hv := WM_get (g := g) (adr := adr) (μ := μ) (kt_S hq2) (by omega)
  refine va_astq (D := g.2.1) C9.1 C9.2.1 C9.2.2.2.2.2.2.2.2.2.2.1 hw.1 hw.2 hS o 5 (22 + 19 * q) 6 (r := (RX6, TX6, 6)) he rfl hv rfl (vp_in_nI hi (by omega)) d (fun H1 locs1 hP hD hS1 => ?_)
  have e9 : kdc g adr o (upd (μ o) i (nI q)) 7 = .inl (g.2.2 5, 8, .inr (.inr (.inr (.inr (va_up (fun j => some (adr (22 + 19 * (μ o j).toNatClampNeg))) i (some (adr (22 + 19 * q)))))))) := by
    show Sum.inl (g.2.2 5, 8, Sum.inr (Sum.inr (Sum.inr (Sum.inr (fun j => some (adr (22 + 19 * (upd (μ o) i (nI q) j).toNatClampNeg)))))) ) = _
    congr 7
    funext j
    unfold va_up upd
    by_cases h : j = i
    · rw [if_pos h, if_pos h, nI_clamp (by omega)]
    · rw [if_neg h, if_neg h]
  rw [nI_clamp (by omega), WM_set ho e9, wr_eq] at hP hD
  exact K p ln e s m args below meth c C9 H1 locs1 ls ⟨hP, hD⟩ hS1 hl
theorem J.copy {idx o1 o2 N1 N2 sp dp z : Nat} (f : Cond.methodLink M.1 idx arraycopyName ∈ BIG) (f2 : Cond.native arraycopyName ∈ BIG) (f3 : Cond.static arraycopyName ∈ BIG) (f4 : Cond.initialized "java/lang/System" ∈ BIG)
    (h1 : kt o1 = 1000 + N1) (h2 : kt o2 = 1000 + N2) (h3 : sp + z ≤ N1) (h4 : dp + z ≤ N2) (h5 : N1 < 19000) (h6 : N2 < 19000) (h7 : 0 < N1) (h8 : 0 < N2) (hf : 1 ≤ R.frames) (hR : (st.map fun v => v.category).sum + (nativeFrameWords "java/lang/System" "arraycopy" 5 + 11) ≤ R.locals)
    (d : decode M.2.1 pc = .ok (.invokestatic idx, 3)) (K : J g M R Q k n (WM g adr (cpy μ o1 sp o2 dp z)) (pc + 3) l st) : J g M R Q k n (WM g adr μ) pc l (.int (nI z) :: .int (nI dp) :: .ref (adr o2) :: .int (nI sp) :: .ref (adr o1) :: st) := by
  intro p ln e s m args below meth c C9 H locs ls hw hS hl
  have hd : ∀ (o N : Nat) m, N < 19000 → 0 < N → kdc g adr o m (1000 + N) = .inl (g.2.2 0, N, .inl m) := by
    intro o N m q1 _
    exact kdc_i g adr o m q1
  have he1 : (WM g adr μ)[o1]? = some (adr o1, .inl (g.2.2 0, N1, .inl (μ o1))) := by rw [WM_get h1 (by omega), hd o1 N1 _ h5 h7]
  have he2 : (WM g adr μ)[o2]? = some (adr o2, .inl (g.2.2 0, N2, .inl (μ o2))) := by rw [WM_get h2 (by omega), hd o2 N2 _ h6 h8]
  have c1 : (nI sp).toNatClampNeg = sp := nI_clamp (by omega)
  have c2 : (nI dp).toNatClampNeg = dp := nI_clamp (by omega)
  have c3 : (nI z).toNatClampNeg = z := nI_clamp (by omega)
  refine va_copyi (D := g.2.1) C9.1 C9.2.1 (C9.2.2.1.trans hl.1.symm) (own := M.1) (index := idx) C9.2.2.2.2.1 (C9.2.2.2.2.2.1 _ f) (C9.2.2.2.2.2.1 _ f2) (C9.2.2.2.2.2.1 _ f3) (C9.2.2.2.2.2.1 _ f4) C9.2.2.2.2.2.2.2.2.2.2.1 hw.1 hw.2 hS o1 o2 0 0 (ty := .int) he1 he2 rfl rfl rfl
    (nI_pos (by omega)) (nI_pos (by omega)) (nI_pos (by omega)) (by rw [c1, c3]; exact h3) (by rw [c2, c3]; exact h4) (fun i _ => rfl) hf hR d (fun H1 locs1 hP hD hS1 => ?_)
  have e9 : (fun o' => if o' = o2 then va_cpy (μ o1) (μ o2) sp dp z else μ o') = cpy μ o1 sp o2 dp z := by
    funext o' k'
    unfold cpy
    by_cases h : o' = o2
    · rw [if_pos h, if_pos h]
    · rw [if_neg h, if_neg h]
  rw [c1, c2, c3, WM_set h2 (hd o2 N2 _ h6 h8), e9] at hP hD
  exact K p ln e s m args below meth c C9 H1 locs1 ls ⟨hP, hD⟩ hS1 hl
end MM
end
section
/-! ===== printed: words of the tables, by their places ===== -/
theorem t_43 : Cond.laysFinal RX0 RX0 "stickers" "[I" ∈ BIG := big_t 43 (by decide +kernel) (by decide +kernel)
theorem t_45 : Cond.laysFinal RX0 RX0 "slots" "[I" ∈ BIG := big_t 45 (by decide +kernel) (by decide +kernel)
theorem t_47 : Cond.laysFinal RX0 RX0 "colours" "[I" ∈ BIG := big_t 47 (by decide +kernel) (by decide +kernel)
theorem inB0 : ∀ z ∈ u_ws RX0 TX0 3, z ∈ BIG := by
  show ∀ z ∈ [u_lay RX0 TX0 0, u_lay RX0 TX0 1, u_lay RX0 TX0 2], z ∈ BIG
  exact List.forall_mem_cons.mpr ⟨t_43, List.forall_mem_cons.mpr ⟨t_45, List.forall_mem_cons.mpr ⟨t_47, fun _ h => absurd h List.not_mem_nil⟩⟩⟩
theorem t_59 : Cond.laysFinal RX1 RX1 "parts" "[I" ∈ BIG := big_t 59 (by decide +kernel) (by decide +kernel)
theorem t_61 : Cond.lays RX1 RX1 "moves" "I" ∈ BIG := big_t 61 (by decide +kernel) (by decide +kernel)
theorem inB1 : ∀ z ∈ u_ws RX1 TX1 2, z ∈ BIG := by
  show ∀ z ∈ [u_lay RX1 TX1 0, u_lay RX1 TX1 1], z ∈ BIG
  exact List.forall_mem_cons.mpr ⟨t_59, List.forall_mem_cons.mpr ⟨t_61, fun _ h => absurd h List.not_mem_nil⟩⟩
theorem t_110 : Cond.laysFinal RX2 RX2 "states" "[LTwistyBarrels$State;" ∈ BIG := big_t 110 (by decide +kernel) (by decide +kernel)
theorem t_112 : Cond.lays RX2 RX2 "held" "I" ∈ BIG := big_t 112 (by decide +kernel) (by decide +kernel)
theorem inB2 : ∀ z ∈ u_ws RX2 TX2 2, z ∈ BIG := by
  show ∀ z ∈ [u_lay RX2 TX2 0, u_lay RX2 TX2 1], z ∈ BIG
  exact List.forall_mem_cons.mpr ⟨t_110, List.forall_mem_cons.mpr ⟨t_112, fun _ h => absurd h List.not_mem_nil⟩⟩
theorem t_72 : Cond.laysFinal RX3 RX3 "goes" "[I" ∈ BIG := big_t 72 (by decide +kernel) (by decide +kernel)
theorem inB3 : ∀ z ∈ u_ws RX3 TX3 1, z ∈ BIG := by
  show ∀ z ∈ [u_lay RX3 TX3 0], z ∈ BIG
  exact List.forall_mem_cons.mpr ⟨t_72, fun _ h => absurd h List.not_mem_nil⟩
theorem t_144 : Cond.laysFinal RX4 RX4 "text" "LTwistyBarrels$Signs;" ∈ BIG := big_t 144 (by decide +kernel) (by decide +kernel)
theorem t_146 : Cond.lays RX4 RX4 "place" "I" ∈ BIG := big_t 146 (by decide +kernel) (by decide +kernel)
theorem t_148 : Cond.laysFinal RX4 RX4 "sequences" "[LTwistyBarrels$Permutation;" ∈ BIG := big_t 148 (by decide +kernel) (by decide +kernel)
theorem t_150 : Cond.laysFinal RX4 RX4 "items" "[LTwistyBarrels$Permutation;" ∈ BIG := big_t 150 (by decide +kernel) (by decide +kernel)
theorem t_152 : Cond.laysFinal RX4 RX4 "firsts" "[LTwistyBarrels$Permutation;" ∈ BIG := big_t 152 (by decide +kernel) (by decide +kernel)
theorem t_154 : Cond.laysFinal RX4 RX4 "inverse" "LTwistyBarrels$Permutation;" ∈ BIG := big_t 154 (by decide +kernel) (by decide +kernel)
theorem inB4 : ∀ z ∈ u_ws RX4 TX4 6, z ∈ BIG := by
  show ∀ z ∈ [u_lay RX4 TX4 0, u_lay RX4 TX4 1, u_lay RX4 TX4 2, u_lay RX4 TX4 3, u_lay RX4 TX4 4, u_lay RX4 TX4 5], z ∈ BIG
  exact List.forall_mem_cons.mpr ⟨t_144, List.forall_mem_cons.mpr ⟨t_146, List.forall_mem_cons.mpr ⟨t_148, List.forall_mem_cons.mpr ⟨t_150, List.forall_mem_cons.mpr ⟨t_152, List.forall_mem_cons.mpr ⟨t_154, fun _ h => absurd h List.not_mem_nil⟩⟩⟩⟩⟩⟩
theorem t_129 : Cond.laysFinal RX5 RX5 "signs" "[C" ∈ BIG := big_t 129 (by decide +kernel) (by decide +kernel)
theorem t_131 : Cond.lays RX5 RX5 "length" "I" ∈ BIG := big_t 131 (by decide +kernel) (by decide +kernel)
theorem inB5 : ∀ z ∈ u_ws RX5 TX5 2, z ∈ BIG := by
  show ∀ z ∈ [u_lay RX5 TX5 0, u_lay RX5 TX5 1], z ∈ BIG
  exact List.forall_mem_cons.mpr ⟨t_129, List.forall_mem_cons.mpr ⟨t_131, fun _ h => absurd h List.not_mem_nil⟩⟩
theorem t_86 : Cond.laysFinal RX6 RX6 "barrel" "LTwistyBarrels$Barrel;" ∈ BIG := big_t 86 (by decide +kernel) (by decide +kernel)
theorem t_88 : Cond.laysFinal RX6 RX6 "log" "LTwistyBarrels$MoveLog;" ∈ BIG := big_t 88 (by decide +kernel) (by decide +kernel)
theorem t_90 : Cond.lays RX6 RX6 "movesDone" "I" ∈ BIG := big_t 90 (by decide +kernel) (by decide +kernel)
theorem t_92 : Cond.lays RX6 RX6 "sequencesRead" "I" ∈ BIG := big_t 92 (by decide +kernel) (by decide +kernel)
theorem t_94 : Cond.laysFinal RX6 RX6 "learnt" "[LTwistyBarrels$Permutation;" ∈ BIG := big_t 94 (by decide +kernel) (by decide +kernel)
theorem t_96 : Cond.laysFinal RX6 RX6 "filled" "[Z" ∈ BIG := big_t 96 (by decide +kernel) (by decide +kernel)
theorem inB6 : ∀ z ∈ u_ws RX6 TX6 6, z ∈ BIG := by
  show ∀ z ∈ [u_lay RX6 TX6 0, u_lay RX6 TX6 1, u_lay RX6 TX6 2, u_lay RX6 TX6 3, u_lay RX6 TX6 4, u_lay RX6 TX6 5], z ∈ BIG
  exact List.forall_mem_cons.mpr ⟨t_86, List.forall_mem_cons.mpr ⟨t_88, List.forall_mem_cons.mpr ⟨t_90, List.forall_mem_cons.mpr ⟨t_92, List.forall_mem_cons.mpr ⟨t_94, List.forall_mem_cons.mpr ⟨t_96, fun _ h => absurd h List.not_mem_nil⟩⟩⟩⟩⟩⟩
theorem t_172 : Cond.laysFinal RX7 RX7 "now" "LTwistyBarrels$State;" ∈ BIG := big_t 172 (by decide +kernel) (by decide +kernel)
theorem t_174 : Cond.laysFinal RX7 RX7 "past" "LTwistyBarrels$Past;" ∈ BIG := big_t 174 (by decide +kernel) (by decide +kernel)
theorem t_176 : Cond.laysFinal RX7 RX7 "snapshot" "LTwistyBarrels$State;" ∈ BIG := big_t 176 (by decide +kernel) (by decide +kernel)
theorem t_178 : Cond.lays RX7 RX7 "hasSnapshot" "Z" ∈ BIG := big_t 178 (by decide +kernel) (by decide +kernel)
theorem t_180 : Cond.laysFinal RX7 RX7 "reader" "LTwistyBarrels$SequenceReader;" ∈ BIG := big_t 180 (by decide +kernel) (by decide +kernel)
theorem t_182 : Cond.laysFinal RX7 RX7 "written" "LTwistyBarrels$Signs;" ∈ BIG := big_t 182 (by decide +kernel) (by decide +kernel)
theorem t_184 : Cond.laysFinal RX7 RX7 "made" "LTwistyBarrels$Permutation;" ∈ BIG := big_t 184 (by decide +kernel) (by decide +kernel)
theorem t_186 : Cond.laysFinal RX7 RX7 "spare" "LTwistyBarrels$Permutation;" ∈ BIG := big_t 186 (by decide +kernel) (by decide +kernel)
theorem t_188 : Cond.lays RX7 RX7 "errorKept" "I" ∈ BIG := big_t 188 (by decide +kernel) (by decide +kernel)
theorem t_190 : Cond.lays RX7 RX7 "reasonKept" "I" ∈ BIG := big_t 190 (by decide +kernel) (by decide +kernel)
theorem t_192 : Cond.lays RX7 RX7 "detailKept" "I" ∈ BIG := big_t 192 (by decide +kernel) (by decide +kernel)
theorem inB7 : ∀ z ∈ u_ws RX7 TX7 11, z ∈ BIG := by
  show ∀ z ∈ [u_lay RX7 TX7 0, u_lay RX7 TX7 1, u_lay RX7 TX7 2, u_lay RX7 TX7 3, u_lay RX7 TX7 4, u_lay RX7 TX7 5, u_lay RX7 TX7 6, u_lay RX7 TX7 7, u_lay RX7 TX7 8, u_lay RX7 TX7 9, u_lay RX7 TX7 10], z ∈ BIG
  exact List.forall_mem_cons.mpr ⟨t_172, List.forall_mem_cons.mpr ⟨t_174, List.forall_mem_cons.mpr ⟨t_176, List.forall_mem_cons.mpr ⟨t_178, List.forall_mem_cons.mpr ⟨t_180, List.forall_mem_cons.mpr ⟨t_182, List.forall_mem_cons.mpr ⟨t_184, List.forall_mem_cons.mpr ⟨t_186, List.forall_mem_cons.mpr ⟨t_188, List.forall_mem_cons.mpr ⟨t_190, List.forall_mem_cons.mpr ⟨t_192, fun _ h => absurd h List.not_mem_nil⟩⟩⟩⟩⟩⟩⟩⟩⟩⟩⟩
theorem t_996 : Cond.laysFinal RX8 RX8 "s" "[I" ∈ BIG := big_t 996 (by decide +kernel) (by decide +kernel)
theorem t_998 : Cond.laysFinal RX8 RX8 "before" "[I" ∈ BIG := big_t 998 (by decide +kernel) (by decide +kernel)
theorem t_1000 : Cond.laysFinal RX8 RX8 "saved" "[I" ∈ BIG := big_t 1000 (by decide +kernel) (by decide +kernel)
theorem t_1002 : Cond.lays RX8 RX8 "isSaved" "Z" ∈ BIG := big_t 1002 (by decide +kernel) (by decide +kernel)
theorem t_1004 : Cond.laysFinal RX8 RX8 "past" "[I" ∈ BIG := big_t 1004 (by decide +kernel) (by decide +kernel)
theorem t_1006 : Cond.lays RX8 RX8 "pastMany" "I" ∈ BIG := big_t 1006 (by decide +kernel) (by decide +kernel)
theorem t_1008 : Cond.lays RX8 RX8 "thrown" "I" ∈ BIG := big_t 1008 (by decide +kernel) (by decide +kernel)
theorem t_1010 : Cond.lays RX8 RX8 "reason" "I" ∈ BIG := big_t 1010 (by decide +kernel) (by decide +kernel)
theorem t_1012 : Cond.lays RX8 RX8 "detail" "I" ∈ BIG := big_t 1012 (by decide +kernel) (by decide +kernel)
theorem t_1014 : Cond.laysFinal RX8 RX8 "pool" "[I" ∈ BIG := big_t 1014 (by decide +kernel) (by decide +kernel)
theorem t_1016 : Cond.laysFinal RX8 RX8 "counts" "[I" ∈ BIG := big_t 1016 (by decide +kernel) (by decide +kernel)
theorem t_1018 : Cond.lays RX8 RX8 "rows" "I" ∈ BIG := big_t 1018 (by decide +kernel) (by decide +kernel)
theorem t_1020 : Cond.laysFinal RX8 RX8 "were" "[I" ∈ BIG := big_t 1020 (by decide +kernel) (by decide +kernel)
theorem t_1022 : Cond.laysFinal RX8 RX8 "text" "[C" ∈ BIG := big_t 1022 (by decide +kernel) (by decide +kernel)
theorem t_1024 : Cond.lays RX8 RX8 "length" "I" ∈ BIG := big_t 1024 (by decide +kernel) (by decide +kernel)
theorem t_1026 : Cond.lays RX8 RX8 "place" "I" ∈ BIG := big_t 1026 (by decide +kernel) (by decide +kernel)
theorem t_1028 : Cond.lays RX8 RX8 "isWrong" "Z" ∈ BIG := big_t 1028 (by decide +kernel) (by decide +kernel)
theorem t_1030 : Cond.lays RX8 RX8 "error" "I" ∈ BIG := big_t 1030 (by decide +kernel) (by decide +kernel)
theorem t_1032 : Cond.laysFinal RX8 RX8 "line" "[C" ∈ BIG := big_t 1032 (by decide +kernel) (by decide +kernel)
theorem t_1034 : Cond.lays RX8 RX8 "lineMany" "I" ∈ BIG := big_t 1034 (by decide +kernel) (by decide +kernel)
theorem inB8 : ∀ z ∈ u_ws RX8 TX8 20, z ∈ BIG := by
  show ∀ z ∈ [u_lay RX8 TX8 0, u_lay RX8 TX8 1, u_lay RX8 TX8 2, u_lay RX8 TX8 3, u_lay RX8 TX8 4, u_lay RX8 TX8 5, u_lay RX8 TX8 6, u_lay RX8 TX8 7, u_lay RX8 TX8 8, u_lay RX8 TX8 9, u_lay RX8 TX8 10, u_lay RX8 TX8 11, u_lay RX8 TX8 12, u_lay RX8 TX8 13, u_lay RX8 TX8 14, u_lay RX8 TX8 15, u_lay RX8 TX8 16, u_lay RX8 TX8 17, u_lay RX8 TX8 18, u_lay RX8 TX8 19], z ∈ BIG
  exact List.forall_mem_cons.mpr ⟨t_996, List.forall_mem_cons.mpr ⟨t_998, List.forall_mem_cons.mpr ⟨t_1000, List.forall_mem_cons.mpr ⟨t_1002, List.forall_mem_cons.mpr ⟨t_1004, List.forall_mem_cons.mpr ⟨t_1006, List.forall_mem_cons.mpr ⟨t_1008, List.forall_mem_cons.mpr ⟨t_1010, List.forall_mem_cons.mpr ⟨t_1012, List.forall_mem_cons.mpr ⟨t_1014, List.forall_mem_cons.mpr ⟨t_1016, List.forall_mem_cons.mpr ⟨t_1018, List.forall_mem_cons.mpr ⟨t_1020, List.forall_mem_cons.mpr ⟨t_1022, List.forall_mem_cons.mpr ⟨t_1024, List.forall_mem_cons.mpr ⟨t_1026, List.forall_mem_cons.mpr ⟨t_1028, List.forall_mem_cons.mpr ⟨t_1030, List.forall_mem_cons.mpr ⟨t_1032, List.forall_mem_cons.mpr ⟨t_1034, fun _ h => absurd h List.not_mem_nil⟩⟩⟩⟩⟩⟩⟩⟩⟩⟩⟩⟩⟩⟩⟩⟩⟩⟩⟩⟩
theorem inz : True := trivial
theorem t_24 : Cond.code yX7_init cX7_init 1 none ∈ BIG := big_t 24 (by decide +kernel) (by decide +kernel)
theorem t_335 : Cond.code yX7_turn cX7_turn 3 (some .int) ∈ BIG := big_t 335 (by decide +kernel) (by decide +kernel)
theorem t_476 : Cond.code yX7_shift cX7_shift 3 (some .int) ∈ BIG := big_t 476 (by decide +kernel) (by decide +kernel)
theorem t_484 : Cond.code yX7_back cX7_back 3 (some .int) ∈ BIG := big_t 484 (by decide +kernel) (by decide +kernel)
theorem t_518 : Cond.code yX7_scramble cX7_scramble 5 (some .int) ∈ BIG := big_t 518 (by decide +kernel) (by decide +kernel)
theorem t_526 : Cond.code yX7_logOf cX7_logOf 3 (some .int) ∈ BIG := big_t 526 (by decide +kernel) (by decide +kernel)
theorem t_533 : Cond.code yX7_at cX7_at 2 (some .int) ∈ BIG := big_t 533 (by decide +kernel) (by decide +kernel)
theorem t_544 : Cond.code yX7_where cX7_where 2 (some .int) ∈ BIG := big_t 544 (by decide +kernel) (by decide +kernel)
theorem t_555 : Cond.code yX7_paint cX7_paint 4 (some .int) ∈ BIG := big_t 555 (by decide +kernel) (by decide +kernel)
theorem t_567 : Cond.code yX7_colour cX7_colour 2 (some .int) ∈ BIG := big_t 567 (by decide +kernel) (by decide +kernel)
theorem t_575 : Cond.code yX7_isDone cX7_isDone 2 (some .boolean) ∈ BIG := big_t 575 (by decide +kernel) (by decide +kernel)
theorem t_198 : Cond.code yX7_seams cX7_seams 1 (some .int) ∈ BIG := big_t 198 (by decide +kernel) (by decide +kernel)
theorem t_586 : Cond.code yX7_fewest cX7_fewest 3 (some .int) ∈ BIG := big_t 586 (by decide +kernel) (by decide +kernel)
theorem t_594 : Cond.code yX7_learn cX7_learn 3 (some .int) ∈ BIG := big_t 594 (by decide +kernel) (by decide +kernel)
theorem t_684 : Cond.code yX7_use cX7_use 4 (some .int) ∈ BIG := big_t 684 (by decide +kernel) (by decide +kernel)
theorem t_703 : Cond.code yX7_join cX7_join 4 (some .int) ∈ BIG := big_t 703 (by decide +kernel) (by decide +kernel)
theorem t_718 : Cond.code yX7_invert cX7_invert 3 (some .int) ∈ BIG := big_t 718 (by decide +kernel) (by decide +kernel)
theorem t_725 : Cond.code yX7_commute cX7_commute 4 (some .int) ∈ BIG := big_t 725 (by decide +kernel) (by decide +kernel)
theorem t_733 : Cond.code yX7_forget cX7_forget 2 (some .int) ∈ BIG := big_t 733 (by decide +kernel) (by decide +kernel)
theorem t_749 : Cond.code yX7_goesTo cX7_goesTo 3 (some .int) ∈ BIG := big_t 749 (by decide +kernel) (by decide +kernel)
theorem t_777 : Cond.code yX7_shelfOf cX7_shelfOf 4 (some .int) ∈ BIG := big_t 777 (by decide +kernel) (by decide +kernel)
theorem t_811 : Cond.code yX7_orderAgain cX7_orderAgain 2 (some .int) ∈ BIG := big_t 811 (by decide +kernel) (by decide +kernel)
theorem t_824 : Cond.code yX7_isEven cX7_isEven 4 (some .boolean) ∈ BIG := big_t 824 (by decide +kernel) (by decide +kernel)
theorem t_840 : Cond.code yX7_cycle cX7_cycle 3 (some .int) ∈ BIG := big_t 840 (by decide +kernel) (by decide +kernel)
theorem t_848 : Cond.code yX7_commutes cX7_commutes 3 (some .boolean) ∈ BIG := big_t 848 (by decide +kernel) (by decide +kernel)
theorem t_859 : Cond.code yX7_line cX7_line 3 (some .int) ∈ BIG := big_t 859 (by decide +kernel) (by decide +kernel)
theorem t_221 : Cond.code yX7_logLine cX7_logLine 2 (some .int) ∈ BIG := big_t 221 (by decide +kernel) (by decide +kernel)
theorem t_866 : Cond.code yX7_cycleLine cX7_cycleLine 4 (some .int) ∈ BIG := big_t 866 (by decide +kernel) (by decide +kernel)
theorem t_880 : Cond.code yX7_character cX7_character 2 (some .char) ∈ BIG := big_t 880 (by decide +kernel) (by decide +kernel)
theorem t_889 : Cond.code yX7_append cX7_append 2 (some .int) ∈ BIG := big_t 889 (by decide +kernel) (by decide +kernel)
theorem t_912 : Cond.code yX7_read cX7_read 2 (some .int) ∈ BIG := big_t 912 (by decide +kernel) (by decide +kernel)
theorem t_919 : Cond.code yX7_errorPosition cX7_errorPosition 1 (some .int) ∈ BIG := big_t 919 (by decide +kernel) (by decide +kernel)
theorem t_927 : Cond.code yX7_refusal cX7_refusal 2 (some .int) ∈ BIG := big_t 927 (by decide +kernel) (by decide +kernel)
theorem t_935 : Cond.code yX7_account cX7_account 2 (some .int) ∈ BIG := big_t 935 (by decide +kernel) (by decide +kernel)
theorem t_251 : Cond.code yX7_isWell cX7_isWell 2 (some .boolean) ∈ BIG := big_t 251 (by decide +kernel) (by decide +kernel)
theorem t_288 : Cond.code yX7_meanAway cX7_meanAway 1 (some .double) ∈ BIG := big_t 288 (by decide +kernel) (by decide +kernel)
theorem t_300 : Cond.code yX7_seamShare cX7_seamShare 1 (some .float) ∈ BIG := big_t 300 (by decide +kernel) (by decide +kernel)
theorem t_952 : Cond.code yX7_undo cX7_undo 1 (some .int) ∈ BIG := big_t 952 (by decide +kernel) (by decide +kernel)
theorem t_305 : Cond.code yX7_save cX7_save 1 (some .int) ∈ BIG := big_t 305 (by decide +kernel) (by decide +kernel)
theorem t_964 : Cond.code yX7_restore cX7_restore 1 (some .int) ∈ BIG := big_t 964 (by decide +kernel) (by decide +kernel)
theorem t_213 : Cond.code yX7_isIndex cX7_isIndex 2 (some .boolean) ∈ BIG := big_t 213 (by decide +kernel) (by decide +kernel)
theorem t_341 : Cond.code yX7_needIndex cX7_needIndex 2 none ∈ BIG := big_t 341 (by decide +kernel) (by decide +kernel)
theorem t_338 : Cond.code yX7_needRing cX7_needRing 1 none ∈ BIG := big_t 338 (by decide +kernel) (by decide +kernel)
theorem t_536 : Cond.code yX7_needSlot cX7_needSlot 1 none ∈ BIG := big_t 536 (by decide +kernel) (by decide +kernel)
theorem t_687 : Cond.code yX7_needShelf cX7_needShelf 1 none ∈ BIG := big_t 687 (by decide +kernel) (by decide +kernel)
theorem t_415 : Cond.code yX7_needFromTo cX7_needFromTo 3 none ∈ BIG := big_t 415 (by decide +kernel) (by decide +kernel)
theorem t_691 : Cond.code yX7_needFilled cX7_needFilled 2 none ∈ BIG := big_t 691 (by decide +kernel) (by decide +kernel)
theorem t_753 : Cond.code yX7_needLearnt cX7_needLearnt 2 none ∈ BIG := big_t 753 (by decide +kernel) (by decide +kernel)
theorem t_488 : Cond.code yX7_refuse cX7_refuse 3 none ∈ BIG := big_t 488 (by decide +kernel) (by decide +kernel)
theorem t_507 : Cond.code yX7_roundOf cX7_roundOf 1 (some .int) ∈ BIG := big_t 507 (by decide +kernel) (by decide +kernel)
theorem t_444 : Cond.code yX7_doMove cX7_doMove 4 none ∈ BIG := big_t 444 (by decide +kernel) (by decide +kernel)
theorem t_440 : Cond.code yX7_doLoggedMove cX7_doLoggedMove 4 none ∈ BIG := big_t 440 (by decide +kernel) (by decide +kernel)
theorem t_707 : Cond.code yX7_putMade cX7_putMade 2 (some .int) ∈ BIG := big_t 707 (by decide +kernel) (by decide +kernel)
theorem t_268 : Cond.code yX7_isUndoneByInverse cX7_isUndoneByInverse 2 (some .boolean) ∈ BIG := big_t 268 (by decide +kernel) (by decide +kernel)
theorem t_599 : Cond.code yX7_takeSequence cX7_takeSequence 2 (some .int) ∈ BIG := big_t 599 (by decide +kernel) (by decide +kernel)
theorem t_295 : Cond.code yX7_movesBetween cX7_movesBetween 4 (some .int) ∈ BIG := big_t 295 (by decide +kernel) (by decide +kernel)
theorem t_974 : Cond.code yX8_init cX8_init 2 none ∈ BIG := big_t 974 (by decide +kernel) (by decide +kernel)
theorem t_1040 : Cond.code yX8_thrown cX8_thrown 1 (some .int) ∈ BIG := big_t 1040 (by decide +kernel) (by decide +kernel)
theorem t_1056 : Cond.code yX8_in cX8_in 3 (some .boolean) ∈ BIG := big_t 1056 (by decide +kernel) (by decide +kernel)
theorem t_1052 : Cond.code yX8_keep cX8_keep 1 none ∈ BIG := big_t 1052 (by decide +kernel) (by decide +kernel)
theorem t_1064 : Cond.code yX8_ends cX8_ends 2 (some .int) ∈ BIG := big_t 1064 (by decide +kernel) (by decide +kernel)
theorem t_1060 : Cond.code yX8_fails cX8_fails 2 (some .int) ∈ BIG := big_t 1060 (by decide +kernel) (by decide +kernel)
theorem t_1096 : Cond.code yX8_refuse cX8_refuse 4 (some .int) ∈ BIG := big_t 1096 (by decide +kernel) (by decide +kernel)
theorem t_1044 : Cond.code yX8_refusal cX8_refusal 2 (some .int) ∈ BIG := big_t 1044 (by decide +kernel) (by decide +kernel)
theorem t_1076 : Cond.code yX8_nothing cX8_nothing 2 (some .int) ∈ BIG := big_t 1076 (by decide +kernel) (by decide +kernel)
theorem t_1072 : Cond.code yX8_move cX8_move 8 (some .int) ∈ BIG := big_t 1072 (by decide +kernel) (by decide +kernel)
theorem t_1191 : Cond.code yX8_ofShelf cX8_ofShelf 3 (some .int) ∈ BIG := big_t 1191 (by decide +kernel) (by decide +kernel)
theorem t_1199 : Cond.code yX8_then cX8_then 4 none ∈ BIG := big_t 1199 (by decide +kernel) (by decide +kernel)
theorem t_1207 : Cond.code yX8_inverse cX8_inverse 4 (some .int) ∈ BIG := big_t 1207 (by decide +kernel) (by decide +kernel)
theorem t_1195 : Cond.code yX8_times cX8_times 5 (some .int) ∈ BIG := big_t 1195 (by decide +kernel) (by decide +kernel)
theorem t_1203 : Cond.code yX8_commutator cX8_commutator 4 (some .int) ∈ BIG := big_t 1203 (by decide +kernel) (by decide +kernel)
theorem t_1080 : Cond.code yX8_does cX8_does 3 none ∈ BIG := big_t 1080 (by decide +kernel) (by decide +kernel)
theorem t_1226 : Cond.code yX8_movedBy cX8_movedBy 4 (some .int) ∈ BIG := big_t 1226 (by decide +kernel) (by decide +kernel)
theorem t_1222 : Cond.code yX8_puts cX8_puts 3 (some .int) ∈ BIG := big_t 1222 (by decide +kernel) (by decide +kernel)
theorem t_1084 : Cond.code yX8_home cX8_home 3 (some .int) ∈ BIG := big_t 1084 (by decide +kernel) (by decide +kernel)
theorem t_1068 : Cond.code yX8_moves cX8_moves 5 none ∈ BIG := big_t 1068 (by decide +kernel) (by decide +kernel)
theorem t_1048 : Cond.code yX8_turn cX8_turn 3 (some .int) ∈ BIG := big_t 1048 (by decide +kernel) (by decide +kernel)
theorem t_1088 : Cond.code yX8_shift cX8_shift 3 (some .int) ∈ BIG := big_t 1088 (by decide +kernel) (by decide +kernel)
theorem t_1092 : Cond.code yX8_back cX8_back 3 (some .int) ∈ BIG := big_t 1092 (by decide +kernel) (by decide +kernel)
theorem t_1100 : Cond.code yX8_scramble cX8_scramble 6 (some .int) ∈ BIG := big_t 1100 (by decide +kernel) (by decide +kernel)
theorem t_1105 : Cond.code yX8_logOf cX8_logOf 3 (some .int) ∈ BIG := big_t 1105 (by decide +kernel) (by decide +kernel)
theorem t_1112 : Cond.code yX8_isSlot cX8_isSlot 1 (some .boolean) ∈ BIG := big_t 1112 (by decide +kernel) (by decide +kernel)
theorem t_1109 : Cond.code yX8_at cX8_at 2 (some .int) ∈ BIG := big_t 1109 (by decide +kernel) (by decide +kernel)
theorem t_1120 : Cond.code yX8_slotOf cX8_slotOf 3 (some .int) ∈ BIG := big_t 1120 (by decide +kernel) (by decide +kernel)
theorem t_1116 : Cond.code yX8_where cX8_where 2 (some .int) ∈ BIG := big_t 1116 (by decide +kernel) (by decide +kernel)
theorem t_1124 : Cond.code yX8_paint cX8_paint 4 (some .int) ∈ BIG := big_t 1124 (by decide +kernel) (by decide +kernel)
theorem t_1132 : Cond.code yX8_colourIn cX8_colourIn 2 (some .int) ∈ BIG := big_t 1132 (by decide +kernel) (by decide +kernel)
theorem t_1128 : Cond.code yX8_colour cX8_colour 2 (some .int) ∈ BIG := big_t 1128 (by decide +kernel) (by decide +kernel)
theorem t_1140 : Cond.code yX8_isOne cX8_isOne 4 (some .boolean) ∈ BIG := big_t 1140 (by decide +kernel) (by decide +kernel)
theorem t_1136 : Cond.code yX8_isDone cX8_isDone 2 (some .boolean) ∈ BIG := big_t 1136 (by decide +kernel) (by decide +kernel)
theorem t_1148 : Cond.code yX8_seamMany cX8_seamMany 5 (some .int) ∈ BIG := big_t 1148 (by decide +kernel) (by decide +kernel)
theorem t_1144 : Cond.code yX8_seams cX8_seams 1 (some .int) ∈ BIG := big_t 1144 (by decide +kernel) (by decide +kernel)
theorem t_1155 : Cond.code yX8_apart cX8_apart 3 (some .int) ∈ BIG := big_t 1155 (by decide +kernel) (by decide +kernel)
theorem t_1152 : Cond.code yX8_fewest cX8_fewest 3 (some .int) ∈ BIG := big_t 1152 (by decide +kernel) (by decide +kernel)
theorem t_1159 : Cond.code yX8_append cX8_append 2 (some .int) ∈ BIG := big_t 1159 (by decide +kernel) (by decide +kernel)
theorem t_1179 : Cond.code yX8_isHere cX8_isHere 3 (some .boolean) ∈ BIG := big_t 1179 (by decide +kernel) (by decide +kernel)
theorem t_1187 : Cond.code yX8_sign cX8_sign 3 (some .int) ∈ BIG := big_t 1187 (by decide +kernel) (by decide +kernel)
theorem t_1175 : Cond.code yX8_isItem cX8_isItem 2 (some .boolean) ∈ BIG := big_t 1175 (by decide +kernel) (by decide +kernel)
theorem t_1171 : Cond.code yX8_sequence cX8_sequence 5 (some .int) ∈ BIG := big_t 1171 (by decide +kernel) (by decide +kernel)
theorem t_1183 : Cond.code yX8_item cX8_item 12 (some .int) ∈ BIG := big_t 1183 (by decide +kernel) (by decide +kernel)
theorem t_1167 : Cond.code yX8_readsText cX8_readsText 3 (some .int) ∈ BIG := big_t 1167 (by decide +kernel) (by decide +kernel)
theorem t_1163 : Cond.code yX8_read cX8_read 2 (some .int) ∈ BIG := big_t 1163 (by decide +kernel) (by decide +kernel)
theorem t_1211 : Cond.code yX8_errorPosition cX8_errorPosition 1 (some .int) ∈ BIG := big_t 1211 (by decide +kernel) (by decide +kernel)
theorem t_1218 : Cond.code yX8_isShelf cX8_isShelf 1 (some .boolean) ∈ BIG := big_t 1218 (by decide +kernel) (by decide +kernel)
theorem t_1234 : Cond.code yX8_isEmpty cX8_isEmpty 2 (some .boolean) ∈ BIG := big_t 1234 (by decide +kernel) (by decide +kernel)
theorem t_1215 : Cond.code yX8_learn cX8_learn 4 (some .int) ∈ BIG := big_t 1215 (by decide +kernel) (by decide +kernel)
theorem t_1230 : Cond.code yX8_use cX8_use 4 (some .int) ∈ BIG := big_t 1230 (by decide +kernel) (by decide +kernel)
theorem t_1238 : Cond.code yX8_join cX8_join 5 (some .int) ∈ BIG := big_t 1238 (by decide +kernel) (by decide +kernel)
theorem t_1242 : Cond.code yX8_invert cX8_invert 3 (some .int) ∈ BIG := big_t 1242 (by decide +kernel) (by decide +kernel)
theorem t_1246 : Cond.code yX8_commute cX8_commute 4 (some .int) ∈ BIG := big_t 1246 (by decide +kernel) (by decide +kernel)
theorem t_1254 : Cond.code yX8_filledMany cX8_filledMany 3 (some .int) ∈ BIG := big_t 1254 (by decide +kernel) (by decide +kernel)
theorem t_1250 : Cond.code yX8_forget cX8_forget 2 (some .int) ∈ BIG := big_t 1250 (by decide +kernel) (by decide +kernel)
theorem t_1262 : Cond.code yX8_goes cX8_goes 3 (some .int) ∈ BIG := big_t 1262 (by decide +kernel) (by decide +kernel)
theorem t_1258 : Cond.code yX8_goesTo cX8_goesTo 3 (some .int) ∈ BIG := big_t 1258 (by decide +kernel) (by decide +kernel)
theorem t_1270 : Cond.code yX8_cycleOf cX8_cycleOf 5 (some .int) ∈ BIG := big_t 1270 (by decide +kernel) (by decide +kernel)
theorem t_1274 : Cond.code yX8_isLowest cX8_isLowest 5 (some .boolean) ∈ BIG := big_t 1274 (by decide +kernel) (by decide +kernel)
theorem t_1282 : Cond.code yX8_common cX8_common 2 (some .int) ∈ BIG := big_t 1282 (by decide +kernel) (by decide +kernel)
theorem t_1279 : Cond.code yX8_order cX8_order 5 (some .int) ∈ BIG := big_t 1279 (by decide +kernel) (by decide +kernel)
theorem t_1266 : Cond.code yX8_shelfOf cX8_shelfOf 8 (some .int) ∈ BIG := big_t 1266 (by decide +kernel) (by decide +kernel)
theorem t_1286 : Cond.code yX8_orderAgain cX8_orderAgain 2 (some .int) ∈ BIG := big_t 1286 (by decide +kernel) (by decide +kernel)
theorem t_1290 : Cond.code yX8_isEven cX8_isEven 5 (some .boolean) ∈ BIG := big_t 1290 (by decide +kernel) (by decide +kernel)
theorem t_1294 : Cond.code yX8_cycle cX8_cycle 3 (some .int) ∈ BIG := big_t 1294 (by decide +kernel) (by decide +kernel)
theorem t_1298 : Cond.code yX8_commutes cX8_commutes 5 (some .boolean) ∈ BIG := big_t 1298 (by decide +kernel) (by decide +kernel)
theorem t_1310 : Cond.code yX8_says cX8_says 2 none ∈ BIG := big_t 1310 (by decide +kernel) (by decide +kernel)
theorem t_1306 : Cond.code yX8_saysNumber cX8_saysNumber 2 none ∈ BIG := big_t 1306 (by decide +kernel) (by decide +kernel)
theorem t_1302 : Cond.code yX8_line cX8_line 3 (some .int) ∈ BIG := big_t 1302 (by decide +kernel) (by decide +kernel)
theorem t_1314 : Cond.code yX8_logLine cX8_logLine 2 (some .int) ∈ BIG := big_t 1314 (by decide +kernel) (by decide +kernel)
theorem t_1318 : Cond.code yX8_cycleLine cX8_cycleLine 4 (some .int) ∈ BIG := big_t 1318 (by decide +kernel) (by decide +kernel)
theorem t_1322 : Cond.code yX8_character cX8_character 2 (some .char) ∈ BIG := big_t 1322 (by decide +kernel) (by decide +kernel)
theorem t_1330 : Cond.code yX8_doneMany cX8_doneMany 3 (some .int) ∈ BIG := big_t 1330 (by decide +kernel) (by decide +kernel)
theorem t_1326 : Cond.code yX8_account cX8_account 2 (some .int) ∈ BIG := big_t 1326 (by decide +kernel) (by decide +kernel)
theorem t_1334 : Cond.code yX8_isWell cX8_isWell 3 (some .boolean) ∈ BIG := big_t 1334 (by decide +kernel) (by decide +kernel)
theorem t_1338 : Cond.code yX8_meanAway cX8_meanAway 3 (some .double) ∈ BIG := big_t 1338 (by decide +kernel) (by decide +kernel)
theorem t_1343 : Cond.code yX8_seamShare cX8_seamShare 1 (some .float) ∈ BIG := big_t 1343 (by decide +kernel) (by decide +kernel)
theorem t_1348 : Cond.code yX8_undo cX8_undo 1 (some .int) ∈ BIG := big_t 1348 (by decide +kernel) (by decide +kernel)
theorem t_1352 : Cond.code yX8_save cX8_save 1 (some .int) ∈ BIG := big_t 1352 (by decide +kernel) (by decide +kernel)
theorem t_1356 : Cond.code yX8_restore cX8_restore 1 (some .int) ∈ BIG := big_t 1356 (by decide +kernel) (by decide +kernel)
theorem t_38 : Cond.code yX0_init cX0_init 2 none ∈ BIG := big_t 38 (by decide +kernel) (by decide +kernel)
theorem t_313 : Cond.code yX0_copyFrom cX0_copyFrom 2 none ∈ BIG := big_t 313 (by decide +kernel) (by decide +kernel)
theorem t_210 : Cond.code yX0_stickerIn cX0_stickerIn 2 (some .int) ∈ BIG := big_t 210 (by decide +kernel) (by decide +kernel)
theorem t_548 : Cond.code yX0_slotOf cX0_slotOf 2 (some .int) ∈ BIG := big_t 548 (by decide +kernel) (by decide +kernel)
theorem t_217 : Cond.code yX0_colourOf cX0_colourOf 2 (some .int) ∈ BIG := big_t 217 (by decide +kernel) (by decide +kernel)
theorem t_206 : Cond.code yX0_colourIn cX0_colourIn 2 (some .int) ∈ BIG := big_t 206 (by decide +kernel) (by decide +kernel)
theorem t_560 : Cond.code yX0_giveColour cX0_giveColour 3 none ∈ BIG := big_t 560 (by decide +kernel) (by decide +kernel)
theorem t_460 : Cond.code yX0_follow cX0_follow 4 none ∈ BIG := big_t 460 (by decide +kernel) (by decide +kernel)
theorem t_326 : Cond.code yX0_countHome cX0_countHome 3 (some .int) ∈ BIG := big_t 326 (by decide +kernel) (by decide +kernel)
theorem t_579 : Cond.code yX0_hasOneColour cX0_hasOneColour 4 (some .boolean) ∈ BIG := big_t 579 (by decide +kernel) (by decide +kernel)
theorem t_939 : Cond.code yX0_countDone cX0_countDone 3 (some .int) ∈ BIG := big_t 939 (by decide +kernel) (by decide +kernel)
theorem t_202 : Cond.code yX0_countSeams cX0_countSeams 5 (some .int) ∈ BIG := big_t 202 (by decide +kernel) (by decide +kernel)
theorem t_292 : Cond.code yX0_movesToHomes cX0_movesToHomes 3 (some .int) ∈ BIG := big_t 292 (by decide +kernel) (by decide +kernel)
theorem t_255 : Cond.code yX0_isEachWhereTold cX0_isEachWhereTold 4 (some .boolean) ∈ BIG := big_t 255 (by decide +kernel) (by decide +kernel)
theorem t_55 : Cond.code yX1_init cX1_init 1 none ∈ BIG := big_t 55 (by decide +kernel) (by decide +kernel)
theorem t_320 : Cond.code yX1_copyFrom cX1_copyFrom 2 none ∈ BIG := big_t 320 (by decide +kernel) (by decide +kernel)
theorem t_229 : Cond.code yX1_size cX1_size 1 (some .int) ∈ BIG := big_t 229 (by decide +kernel) (by decide +kernel)
theorem t_233 : Cond.code yX1_part cX1_part 3 (some .int) ∈ BIG := big_t 233 (by decide +kernel) (by decide +kernel)
theorem t_469 : Cond.code yX1_add cX1_add 4 none ∈ BIG := big_t 469 (by decide +kernel) (by decide +kernel)
theorem t_511 : Cond.code yX1_dropLast cX1_dropLast 1 none ∈ BIG := big_t 511 (by decide +kernel) (by decide +kernel)
theorem t_696 : Cond.code yX1_clear cX1_clear 1 none ∈ BIG := big_t 696 (by decide +kernel) (by decide +kernel)
theorem t_103 : Cond.code yX2_init cX2_init 2 none ∈ BIG := big_t 103 (by decide +kernel) (by decide +kernel)
theorem t_944 : Cond.code yX2_size cX2_size 1 (some .int) ∈ BIG := big_t 944 (by decide +kernel) (by decide +kernel)
theorem t_969 : Cond.code yX2_clear cX2_clear 1 none ∈ BIG := big_t 969 (by decide +kernel) (by decide +kernel)
theorem t_435 : Cond.code yX2_hold cX2_hold 4 none ∈ BIG := big_t 435 (by decide +kernel) (by decide +kernel)
theorem t_957 : Cond.code yX2_giveBack cX2_giveBack 2 none ∈ BIG := big_t 957 (by decide +kernel) (by decide +kernel)
theorem t_69 : Cond.code yX3_init cX3_init 2 none ∈ BIG := big_t 69 (by decide +kernel) (by decide +kernel)
theorem t_464 : Cond.code yX3_of cX3_of 2 (some .int) ∈ BIG := big_t 464 (by decide +kernel) (by decide +kernel)
theorem t_612 : Cond.code yX3_toNothing cX3_toNothing 2 none ∈ BIG := big_t 612 (by decide +kernel) (by decide +kernel)
theorem t_272 : Cond.code yX3_toCopy cX3_toCopy 3 none ∈ BIG := big_t 272 (by decide +kernel) (by decide +kernel)
theorem t_448 : Cond.code yX3_toMove cX3_toMove 4 none ∈ BIG := big_t 448 (by decide +kernel) (by decide +kernel)
theorem t_452 : Cond.code yX3_toTurn cX3_toTurn 5 none ∈ BIG := big_t 452 (by decide +kernel) (by decide +kernel)
theorem t_456 : Cond.code yX3_toShift cX3_toShift 5 none ∈ BIG := big_t 456 (by decide +kernel) (by decide +kernel)
theorem t_276 : Cond.code yX3_toInverse cX3_toInverse 4 none ∈ BIG := big_t 276 (by decide +kernel) (by decide +kernel)
theorem t_280 : Cond.code yX3_then cX3_then 4 none ∈ BIG := big_t 280 (by decide +kernel) (by decide +kernel)
theorem t_649 : Cond.code yX3_toPower cX3_toPower 4 none ∈ BIG := big_t 649 (by decide +kernel) (by decide +kernel)
theorem t_659 : Cond.code yX3_toCommuted cX3_toCommuted 4 none ∈ BIG := big_t 659 (by decide +kernel) (by decide +kernel)
theorem t_284 : Cond.code yX3_movesNothing cX3_movesNothing 2 (some .boolean) ∈ BIG := big_t 284 (by decide +kernel) (by decide +kernel)
theorem t_711 : Cond.code yX3_countMoved cX3_countMoved 3 (some .int) ∈ BIG := big_t 711 (by decide +kernel) (by decide +kernel)
theorem t_790 : Cond.code yX3_cycleLength cX3_cycleLength 4 (some .int) ∈ BIG := big_t 790 (by decide +kernel) (by decide +kernel)
theorem t_785 : Cond.code yX3_isLowestOfCycle cX3_isLowestOfCycle 4 (some .boolean) ∈ BIG := big_t 785 (by decide +kernel) (by decide +kernel)
theorem t_781 : Cond.code yX3_countCycles cX3_countCycles 4 (some .int) ∈ BIG := big_t 781 (by decide +kernel) (by decide +kernel)
theorem t_794 : Cond.code yX3_longestCycle cX3_longestCycle 3 (some .int) ∈ BIG := big_t 794 (by decide +kernel) (by decide +kernel)
theorem t_801 : Cond.code yX3_orderByCycles cX3_orderByCycles 3 (some .int) ∈ BIG := big_t 801 (by decide +kernel) (by decide +kernel)
theorem t_815 : Cond.code yX3_orderByDoing cX3_orderByDoing 3 (some .int) ∈ BIG := big_t 815 (by decide +kernel) (by decide +kernel)
theorem t_832 : Cond.code yX3_isEvenByCycles cX3_isEvenByCycles 1 (some .boolean) ∈ BIG := big_t 832 (by decide +kernel) (by decide +kernel)
theorem t_828 : Cond.code yX3_isEvenByPairs cX3_isEvenByPairs 4 (some .boolean) ∈ BIG := big_t 828 (by decide +kernel) (by decide +kernel)
theorem t_852 : Cond.code yX3_isInEitherOrder cX3_isInEitherOrder 3 (some .boolean) ∈ BIG := big_t 852 (by decide +kernel) (by decide +kernel)
theorem t_804 : Cond.code yX3_leastCommonMultiple cX3_leastCommonMultiple 6 (some .int) ∈ BIG := big_t 804 (by decide +kernel) (by decide +kernel)
theorem t_119 : Cond.code yX4_init cX4_init 2 none ∈ BIG := big_t 119 (by decide +kernel) (by decide +kernel)
theorem t_668 : Cond.code yX4_place cX4_place 1 (some .int) ∈ BIG := big_t 668 (by decide +kernel) (by decide +kernel)
theorem t_673 : Cond.code yX4_result cX4_result 1 (some (.object "TwistyBarrels$Permutation")) ∈ BIG := big_t 673 (by decide +kernel) (by decide +kernel)
theorem t_603 : Cond.code yX4_understand cX4_understand 3 (some .int) ∈ BIG := big_t 603 (by decide +kernel) (by decide +kernel)
theorem t_616 : Cond.code yX4_isItemNext cX4_isItemNext 2 (some .boolean) ∈ BIG := big_t 616 (by decide +kernel) (by decide +kernel)
theorem t_607 : Cond.code yX4_sequence cX4_sequence 7 (some .int) ∈ BIG := big_t 607 (by decide +kernel) (by decide +kernel)
theorem t_624 : Cond.code yX4_item cX4_item 5 (some .int) ∈ BIG := big_t 624 (by decide +kernel) (by decide +kernel)
theorem t_632 : Cond.code yX4_digit cX4_digit 4 (some .int) ∈ BIG := big_t 632 (by decide +kernel) (by decide +kernel)
theorem t_628 : Cond.code yX4_moveItem cX4_moveItem 5 (some .int) ∈ BIG := big_t 628 (by decide +kernel) (by decide +kernel)
theorem t_638 : Cond.code yX4_shelfItem cX4_shelfItem 4 (some .int) ∈ BIG := big_t 638 (by decide +kernel) (by decide +kernel)
theorem t_645 : Cond.code yX4_repeatedItem cX4_repeatedItem 6 (some .int) ∈ BIG := big_t 645 (by decide +kernel) (by decide +kernel)
theorem t_655 : Cond.code yX4_commutedItem cX4_commutedItem 6 (some .int) ∈ BIG := big_t 655 (by decide +kernel) (by decide +kernel)
theorem t_125 : Cond.code yX5_init cX5_init 1 none ∈ BIG := big_t 125 (by decide +kernel) (by decide +kernel)
theorem t_247 : Cond.code yX5_size cX5_size 1 (some .int) ∈ BIG := big_t 247 (by decide +kernel) (by decide +kernel)
theorem t_225 : Cond.code yX5_clear cX5_clear 1 none ∈ BIG := big_t 225 (by decide +kernel) (by decide +kernel)
theorem t_620 : Cond.code yX5_signAt cX5_signAt 2 (some .int) ∈ BIG := big_t 620 (by decide +kernel) (by decide +kernel)
theorem t_238 : Cond.code yX5_addSign cX5_addSign 2 none ∈ BIG := big_t 238 (by decide +kernel) (by decide +kernel)
theorem t_242 : Cond.code yX5_addNumber cX5_addNumber 2 none ∈ BIG := big_t 242 (by decide +kernel) (by decide +kernel)
theorem t_871 : Cond.code yX5_addCycle cX5_addCycle 5 none ∈ BIG := big_t 871 (by decide +kernel) (by decide +kernel)
theorem t_32 : Cond.code yX6_init cX6_init 2 none ∈ BIG := big_t 32 (by decide +kernel) (by decide +kernel)
theorem t_309 : Cond.code yX6_copyFrom cX6_copyFrom 3 none ∈ BIG := big_t 309 (by decide +kernel) (by decide +kernel)
theorem t_259 : Cond.code yX6_isFilled cX6_isFilled 2 (some .boolean) ∈ BIG := big_t 259 (by decide +kernel) (by decide +kernel)
theorem t_264 : Cond.code yX6_onShelf cX6_onShelf 2 (some (.object "TwistyBarrels$Permutation")) ∈ BIG := big_t 264 (by decide +kernel) (by decide +kernel)
theorem t_677 : Cond.code yX6_putOn cX6_putOn 3 none ∈ BIG := big_t 677 (by decide +kernel) (by decide +kernel)
theorem t_737 : Cond.code yX6_takeFrom cX6_takeFrom 2 none ∈ BIG := big_t 737 (by decide +kernel) (by decide +kernel)
theorem t_741 : Cond.code yX6_countFilled cX6_countFilled 3 (some .int) ∈ BIG := big_t 741 (by decide +kernel) (by decide +kernel)
theorem t_329 : Cond.codeWith yL_turn cL_turn 5 (some .int) [(0, 10, 13, 13), (0, 10, 17, 15)] ∈ BIG := big_t 329 (by decide +kernel) (by decide +kernel)
theorem t_472 : Cond.codeWith yL_shift cL_shift 5 (some .int) [(0, 10, 13, 13), (0, 10, 17, 15)] ∈ BIG := big_t 472 (by decide +kernel) (by decide +kernel)
theorem t_479 : Cond.codeWith yL_back cL_back 3 (some .int) [(0, 8, 11, 24)] ∈ BIG := big_t 479 (by decide +kernel) (by decide +kernel)
theorem t_514 : Cond.codeWith yL_scramble cL_scramble 5 (some .int) [(0, 10, 13, 15)] ∈ BIG := big_t 514 (by decide +kernel) (by decide +kernel)
theorem t_522 : Cond.codeWith yL_logOf cL_logOf 5 (some .int) [(0, 10, 13, 13), (0, 10, 17, 15)] ∈ BIG := big_t 522 (by decide +kernel) (by decide +kernel)
theorem t_529 : Cond.codeWith yL_at cL_at 4 (some .int) [(0, 9, 12, 13)] ∈ BIG := big_t 529 (by decide +kernel) (by decide +kernel)
theorem t_540 : Cond.codeWith yL_where cL_where 4 (some .int) [(0, 9, 12, 13)] ∈ BIG := big_t 540 (by decide +kernel) (by decide +kernel)
theorem t_551 : Cond.codeWith yL_paint cL_paint 5 (some .int) [(0, 10, 13, 13), (0, 10, 17, 15), (0, 10, 21, 24)] ∈ BIG := big_t 551 (by decide +kernel) (by decide +kernel)
theorem t_563 : Cond.codeWith yL_colour cL_colour 4 (some .int) [(0, 9, 12, 13)] ∈ BIG := big_t 563 (by decide +kernel) (by decide +kernel)
theorem t_571 : Cond.codeWith yL_isDone cL_isDone 4 (some .int) [(0, 16, 19, 13)] ∈ BIG := big_t 571 (by decide +kernel) (by decide +kernel)
theorem t_582 : Cond.codeWith yL_fewest cL_fewest 5 (some .int) [(0, 10, 13, 13)] ∈ BIG := big_t 582 (by decide +kernel) (by decide +kernel)
theorem t_590 : Cond.codeWith yL_learn cL_learn 4 (some .int) [(0, 9, 12, 13), (0, 9, 15, 15), (0, 9, 18, 24)] ∈ BIG := big_t 590 (by decide +kernel) (by decide +kernel)
theorem t_680 : Cond.codeWith yL_use cL_use 5 (some .int) [(0, 10, 13, 13), (0, 10, 17, 15), (0, 10, 21, 24)] ∈ BIG := big_t 680 (by decide +kernel) (by decide +kernel)
theorem t_699 : Cond.codeWith yL_join cL_join 6 (some .int) [(0, 12, 15, 13), (0, 12, 19, 24)] ∈ BIG := big_t 699 (by decide +kernel) (by decide +kernel)
theorem t_714 : Cond.codeWith yL_invert cL_invert 5 (some .int) [(0, 10, 13, 13), (0, 10, 17, 24)] ∈ BIG := big_t 714 (by decide +kernel) (by decide +kernel)
theorem t_721 : Cond.codeWith yL_commute cL_commute 6 (some .int) [(0, 12, 15, 13), (0, 12, 19, 24)] ∈ BIG := big_t 721 (by decide +kernel) (by decide +kernel)
theorem t_729 : Cond.codeWith yL_forget cL_forget 4 (some .int) [(0, 9, 12, 13), (0, 9, 15, 24)] ∈ BIG := big_t 729 (by decide +kernel) (by decide +kernel)
theorem t_744 : Cond.codeWith yL_goesTo cL_goesTo 5 (some .int) [(0, 10, 13, 13), (0, 10, 17, 74)] ∈ BIG := big_t 744 (by decide +kernel) (by decide +kernel)
theorem t_773 : Cond.codeWith yL_shelfOf cL_shelfOf 5 (some .int) [(0, 10, 13, 13), (0, 10, 17, 15), (0, 10, 21, 74)] ∈ BIG := big_t 773 (by decide +kernel) (by decide +kernel)
theorem t_807 : Cond.codeWith yL_orderAgain cL_orderAgain 4 (some .int) [(0, 9, 12, 13), (0, 9, 15, 74)] ∈ BIG := big_t 807 (by decide +kernel) (by decide +kernel)
theorem t_820 : Cond.codeWith yL_isEven cL_isEven 5 (some .int) [(0, 17, 20, 13), (0, 17, 24, 74)] ∈ BIG := big_t 820 (by decide +kernel) (by decide +kernel)
theorem t_836 : Cond.codeWith yL_cycle cL_cycle 5 (some .int) [(0, 10, 13, 13), (0, 10, 17, 74)] ∈ BIG := big_t 836 (by decide +kernel) (by decide +kernel)
theorem t_844 : Cond.codeWith yL_commutes cL_commutes 5 (some .int) [(0, 17, 20, 13), (0, 17, 24, 74)] ∈ BIG := big_t 844 (by decide +kernel) (by decide +kernel)
theorem t_855 : Cond.codeWith yL_line cL_line 4 (some .int) [(0, 9, 12, 13)] ∈ BIG := big_t 855 (by decide +kernel) (by decide +kernel)
theorem t_862 : Cond.codeWith yL_cycleLine cL_cycleLine 4 (some .int) [(0, 9, 12, 13), (0, 9, 15, 74)] ∈ BIG := big_t 862 (by decide +kernel) (by decide +kernel)
theorem t_876 : Cond.codeWith yL_character cL_character 4 (some .int) [(0, 9, 12, 13)] ∈ BIG := big_t 876 (by decide +kernel) (by decide +kernel)
theorem t_884 : Cond.codeWith yL_append cL_append 4 (some .int) [(0, 9, 12, 107)] ∈ BIG := big_t 884 (by decide +kernel) (by decide +kernel)
theorem t_908 : Cond.codeWith yL_read cL_read 3 (some .int) [(0, 8, 11, 15), (0, 8, 14, 24)] ∈ BIG := big_t 908 (by decide +kernel) (by decide +kernel)
theorem t_915 : Cond.codeWith yL_errorPosition cL_errorPosition 3 (some .int) [(0, 8, 11, 74)] ∈ BIG := big_t 915 (by decide +kernel) (by decide +kernel)
theorem t_923 : Cond.codeWith yL_refusal cL_refusal 4 (some .int) [(0, 9, 12, 74)] ∈ BIG := big_t 923 (by decide +kernel) (by decide +kernel)
theorem t_931 : Cond.codeWith yL_account cL_account 4 (some .int) [(0, 9, 12, 15)] ∈ BIG := big_t 931 (by decide +kernel) (by decide +kernel)
theorem t_948 : Cond.codeWith yL_undo cL_undo 3 (some .int) [(0, 8, 11, 107)] ∈ BIG := big_t 948 (by decide +kernel) (by decide +kernel)
theorem t_960 : Cond.codeWith yL_restore cL_restore 3 (some .int) [(0, 8, 11, 107)] ∈ BIG := big_t 960 (by decide +kernel) (by decide +kernel)
theorem t_161 : Cond.fieldLink RX7 10 RX7 "now" "LTwistyBarrels$State;" ∈ BIG := big_t 161 (by decide +kernel) (by decide +kernel)
theorem t_162 : Cond.fieldLink RX7 19 RX7 "past" "LTwistyBarrels$Past;" ∈ BIG := big_t 162 (by decide +kernel) (by decide +kernel)
theorem t_163 : Cond.fieldLink RX7 23 RX7 "snapshot" "LTwistyBarrels$State;" ∈ BIG := big_t 163 (by decide +kernel) (by decide +kernel)
theorem t_164 : Cond.fieldLink RX7 26 RX7 "hasSnapshot" "Z" ∈ BIG := big_t 164 (by decide +kernel) (by decide +kernel)
theorem t_165 : Cond.fieldLink RX7 33 RX7 "reader" "LTwistyBarrels$SequenceReader;" ∈ BIG := big_t 165 (by decide +kernel) (by decide +kernel)
theorem t_166 : Cond.fieldLink RX7 40 RX7 "written" "LTwistyBarrels$Signs;" ∈ BIG := big_t 166 (by decide +kernel) (by decide +kernel)
theorem t_167 : Cond.fieldLink RX7 47 RX7 "made" "LTwistyBarrels$Permutation;" ∈ BIG := big_t 167 (by decide +kernel) (by decide +kernel)
theorem t_168 : Cond.fieldLink RX7 51 RX7 "spare" "LTwistyBarrels$Permutation;" ∈ BIG := big_t 168 (by decide +kernel) (by decide +kernel)
theorem t_169 : Cond.fieldLink RX7 54 RX7 "errorKept" "I" ∈ BIG := big_t 169 (by decide +kernel) (by decide +kernel)
theorem t_170 : Cond.fieldLink RX7 58 RX7 "reasonKept" "I" ∈ BIG := big_t 170 (by decide +kernel) (by decide +kernel)
theorem t_171 : Cond.fieldLink RX7 61 RX7 "detailKept" "I" ∈ BIG := big_t 171 (by decide +kernel) (by decide +kernel)
theorem t_77 : Cond.fieldLink RX7 79 RX6 "barrel" "LTwistyBarrels$Barrel;" ∈ BIG := big_t 77 (by decide +kernel) (by decide +kernel)
theorem t_79 : Cond.fieldLink RX7 93 RX6 "log" "LTwistyBarrels$MoveLog;" ∈ BIG := big_t 79 (by decide +kernel) (by decide +kernel)
theorem t_138 : Cond.fieldLink RX7 152 RX4 "text" "LTwistyBarrels$Signs;" ∈ BIG := big_t 138 (by decide +kernel) (by decide +kernel)
theorem t_83 : Cond.fieldLink RX7 275 RX6 "sequencesRead" "I" ∈ BIG := big_t 83 (by decide +kernel) (by decide +kernel)
theorem t_81 : Cond.fieldLink RX7 288 RX6 "movesDone" "I" ∈ BIG := big_t 81 (by decide +kernel) (by decide +kernel)
theorem t_40 : Cond.fieldLink RX0 9 RX0 "stickers" "[I" ∈ BIG := big_t 40 (by decide +kernel) (by decide +kernel)
theorem t_41 : Cond.fieldLink RX0 15 RX0 "slots" "[I" ∈ BIG := big_t 41 (by decide +kernel) (by decide +kernel)
theorem t_42 : Cond.fieldLink RX0 18 RX0 "colours" "[I" ∈ BIG := big_t 42 (by decide +kernel) (by decide +kernel)
theorem t_57 : Cond.fieldLink RX1 11 RX1 "parts" "[I" ∈ BIG := big_t 57 (by decide +kernel) (by decide +kernel)
theorem t_58 : Cond.fieldLink RX1 15 RX1 "moves" "I" ∈ BIG := big_t 58 (by decide +kernel) (by decide +kernel)
theorem t_108 : Cond.fieldLink RX2 11 RX2 "states" "[LTwistyBarrels$State;" ∈ BIG := big_t 108 (by decide +kernel) (by decide +kernel)
theorem t_109 : Cond.fieldLink RX2 17 RX2 "held" "I" ∈ BIG := big_t 109 (by decide +kernel) (by decide +kernel)
theorem t_71 : Cond.fieldLink RX3 9 RX3 "goes" "[I" ∈ BIG := big_t 71 (by decide +kernel) (by decide +kernel)
theorem t_137 : Cond.fieldLink RX4 12 RX4 "text" "LTwistyBarrels$Signs;" ∈ BIG := big_t 137 (by decide +kernel) (by decide +kernel)
theorem t_139 : Cond.fieldLink RX4 18 RX4 "place" "I" ∈ BIG := big_t 139 (by decide +kernel) (by decide +kernel)
theorem t_140 : Cond.fieldLink RX4 24 RX4 "sequences" "[LTwistyBarrels$Permutation;" ∈ BIG := big_t 140 (by decide +kernel) (by decide +kernel)
theorem t_141 : Cond.fieldLink RX4 28 RX4 "items" "[LTwistyBarrels$Permutation;" ∈ BIG := big_t 141 (by decide +kernel) (by decide +kernel)
theorem t_142 : Cond.fieldLink RX4 31 RX4 "firsts" "[LTwistyBarrels$Permutation;" ∈ BIG := big_t 142 (by decide +kernel) (by decide +kernel)
theorem t_143 : Cond.fieldLink RX4 35 RX4 "inverse" "LTwistyBarrels$Permutation;" ∈ BIG := big_t 143 (by decide +kernel) (by decide +kernel)
theorem t_127 : Cond.fieldLink RX5 13 RX5 "signs" "[C" ∈ BIG := big_t 127 (by decide +kernel) (by decide +kernel)
theorem t_128 : Cond.fieldLink RX5 17 RX5 "length" "I" ∈ BIG := big_t 128 (by decide +kernel) (by decide +kernel)
theorem t_76 : Cond.fieldLink RX6 12 RX6 "barrel" "LTwistyBarrels$Barrel;" ∈ BIG := big_t 76 (by decide +kernel) (by decide +kernel)
theorem t_78 : Cond.fieldLink RX6 21 RX6 "log" "LTwistyBarrels$MoveLog;" ∈ BIG := big_t 78 (by decide +kernel) (by decide +kernel)
theorem t_80 : Cond.fieldLink RX6 25 RX6 "movesDone" "I" ∈ BIG := big_t 80 (by decide +kernel) (by decide +kernel)
theorem t_82 : Cond.fieldLink RX6 29 RX6 "sequencesRead" "I" ∈ BIG := big_t 82 (by decide +kernel) (by decide +kernel)
theorem t_84 : Cond.fieldLink RX6 34 RX6 "learnt" "[LTwistyBarrels$Permutation;" ∈ BIG := big_t 84 (by decide +kernel) (by decide +kernel)
theorem t_85 : Cond.fieldLink RX6 38 RX6 "filled" "[Z" ∈ BIG := big_t 85 (by decide +kernel) (by decide +kernel)
theorem t_976 : Cond.fieldLink RX8 9 RX8 "s" "[I" ∈ BIG := big_t 976 (by decide +kernel) (by decide +kernel)
theorem t_977 : Cond.fieldLink RX8 13 RX8 "before" "[I" ∈ BIG := big_t 977 (by decide +kernel) (by decide +kernel)
theorem t_978 : Cond.fieldLink RX8 16 RX8 "saved" "[I" ∈ BIG := big_t 978 (by decide +kernel) (by decide +kernel)
theorem t_980 : Cond.fieldLink RX8 19 RX8 "past" "[I" ∈ BIG := big_t 980 (by decide +kernel) (by decide +kernel)
theorem t_985 : Cond.fieldLink RX8 22 RX8 "pool" "[I" ∈ BIG := big_t 985 (by decide +kernel) (by decide +kernel)
theorem t_986 : Cond.fieldLink RX8 25 RX8 "counts" "[I" ∈ BIG := big_t 986 (by decide +kernel) (by decide +kernel)
theorem t_988 : Cond.fieldLink RX8 28 RX8 "were" "[I" ∈ BIG := big_t 988 (by decide +kernel) (by decide +kernel)
theorem t_989 : Cond.fieldLink RX8 31 RX8 "text" "[C" ∈ BIG := big_t 989 (by decide +kernel) (by decide +kernel)
theorem t_993 : Cond.fieldLink RX8 35 RX8 "error" "I" ∈ BIG := big_t 993 (by decide +kernel) (by decide +kernel)
theorem t_994 : Cond.fieldLink RX8 39 RX8 "line" "[C" ∈ BIG := big_t 994 (by decide +kernel) (by decide +kernel)
theorem t_982 : Cond.fieldLink RX8 42 RX8 "thrown" "I" ∈ BIG := big_t 982 (by decide +kernel) (by decide +kernel)
theorem t_981 : Cond.fieldLink RX8 51 RX8 "pastMany" "I" ∈ BIG := big_t 981 (by decide +kernel) (by decide +kernel)
theorem t_983 : Cond.fieldLink RX8 54 RX8 "reason" "I" ∈ BIG := big_t 983 (by decide +kernel) (by decide +kernel)
theorem t_984 : Cond.fieldLink RX8 57 RX8 "detail" "I" ∈ BIG := big_t 984 (by decide +kernel) (by decide +kernel)
theorem t_987 : Cond.fieldLink RX8 60 RX8 "rows" "I" ∈ BIG := big_t 987 (by decide +kernel) (by decide +kernel)
theorem t_990 : Cond.fieldLink RX8 134 RX8 "length" "I" ∈ BIG := big_t 990 (by decide +kernel) (by decide +kernel)
theorem t_992 : Cond.fieldLink RX8 137 RX8 "isWrong" "Z" ∈ BIG := big_t 992 (by decide +kernel) (by decide +kernel)
theorem t_991 : Cond.fieldLink RX8 141 RX8 "place" "I" ∈ BIG := big_t 991 (by decide +kernel) (by decide +kernel)
theorem t_995 : Cond.fieldLink RX8 204 RX8 "lineMany" "I" ∈ BIG := big_t 995 (by decide +kernel) (by decide +kernel)
theorem t_979 : Cond.fieldLink RX8 220 RX8 "isSaved" "Z" ∈ BIG := big_t 979 (by decide +kernel) (by decide +kernel)
theorem t_336 : Cond.methodLink RX7 64 yX7_needRing ∈ BIG := big_t 336 (by decide +kernel) (by decide +kernel)
theorem t_337 : Cond.static yX7_needRing ∈ BIG := big_t 337 (by decide +kernel) (by decide +kernel)
theorem t_1 : Cond.initialized RX7 ∈ BIG := big_t 1 (by decide +kernel) (by decide +kernel)
theorem t_413 : Cond.methodLink RX7 68 yX7_needFromTo ∈ BIG := big_t 413 (by decide +kernel) (by decide +kernel)
theorem t_414 : Cond.static yX7_needFromTo ∈ BIG := big_t 414 (by decide +kernel) (by decide +kernel)
theorem t_432 : Cond.methodLink RX7 72 yX2_hold ∈ BIG := big_t 432 (by decide +kernel) (by decide +kernel)
theorem t_433 : Cond.instanceMethod yX2_hold ∈ BIG := big_t 433 (by decide +kernel) (by decide +kernel)
theorem t_434 : Cond.selects RX2 yX2_hold yX2_hold ∈ BIG := big_t 434 (by decide +kernel) (by decide +kernel)
theorem t_6 : Cond.initialized RX2 ∈ BIG := big_t 6 (by decide +kernel) (by decide +kernel)
theorem t_437 : Cond.methodLink RX7 76 yX7_doLoggedMove ∈ BIG := big_t 437 (by decide +kernel) (by decide +kernel)
theorem t_439 : Cond.instanceMethod yX7_doLoggedMove ∈ BIG := big_t 439 (by decide +kernel) (by decide +kernel)
theorem s_2 : Cond.selects RX7 yX7_doLoggedMove yX7_doLoggedMove ∈ BIG := big_s 2 (by decide +kernel) (by decide +kernel)
theorem t_323 : Cond.methodLink RX7 83 yX0_countHome ∈ BIG := big_t 323 (by decide +kernel) (by decide +kernel)
theorem t_324 : Cond.instanceMethod yX0_countHome ∈ BIG := big_t 324 (by decide +kernel) (by decide +kernel)
theorem t_325 : Cond.selects RX0 yX0_countHome yX0_countHome ∈ BIG := big_t 325 (by decide +kernel) (by decide +kernel)
theorem t_3 : Cond.initialized RX0 ∈ BIG := big_t 3 (by decide +kernel) (by decide +kernel)
theorem t_339 : Cond.methodLink RX7 89 yX7_needIndex ∈ BIG := big_t 339 (by decide +kernel) (by decide +kernel)
theorem t_340 : Cond.static yX7_needIndex ∈ BIG := big_t 340 (by decide +kernel) (by decide +kernel)
theorem t_226 : Cond.methodLink RX7 97 yX1_size ∈ BIG := big_t 226 (by decide +kernel) (by decide +kernel)
theorem t_227 : Cond.instanceMethod yX1_size ∈ BIG := big_t 227 (by decide +kernel) (by decide +kernel)
theorem t_228 : Cond.selects RX1 yX1_size yX1_size ∈ BIG := big_t 228 (by decide +kernel) (by decide +kernel)
theorem t_4 : Cond.initialized RX1 ∈ BIG := big_t 4 (by decide +kernel) (by decide +kernel)
theorem t_485 : Cond.methodLink RX7 102 yX7_refuse ∈ BIG := big_t 485 (by decide +kernel) (by decide +kernel)
theorem t_487 : Cond.instanceMethod yX7_refuse ∈ BIG := big_t 487 (by decide +kernel) (by decide +kernel)
theorem s_6 : Cond.selects RX7 yX7_refuse yX7_refuse ∈ BIG := big_s 6 (by decide +kernel) (by decide +kernel)
theorem t_230 : Cond.methodLink RX7 105 yX1_part ∈ BIG := big_t 230 (by decide +kernel) (by decide +kernel)
theorem t_231 : Cond.instanceMethod yX1_part ∈ BIG := big_t 231 (by decide +kernel) (by decide +kernel)
theorem t_232 : Cond.selects RX1 yX1_part yX1_part ∈ BIG := big_t 232 (by decide +kernel) (by decide +kernel)
theorem t_505 : Cond.methodLink RX7 109 yX7_roundOf ∈ BIG := big_t 505 (by decide +kernel) (by decide +kernel)
theorem t_506 : Cond.static yX7_roundOf ∈ BIG := big_t 506 (by decide +kernel) (by decide +kernel)
theorem t_441 : Cond.methodLink RX7 113 yX7_doMove ∈ BIG := big_t 441 (by decide +kernel) (by decide +kernel)
theorem t_443 : Cond.instanceMethod yX7_doMove ∈ BIG := big_t 443 (by decide +kernel) (by decide +kernel)
theorem s_3 : Cond.selects RX7 yX7_doMove yX7_doMove ∈ BIG := big_s 3 (by decide +kernel) (by decide +kernel)
theorem t_508 : Cond.methodLink RX7 116 yX1_dropLast ∈ BIG := big_t 508 (by decide +kernel) (by decide +kernel)
theorem t_509 : Cond.instanceMethod yX1_dropLast ∈ BIG := big_t 509 (by decide +kernel) (by decide +kernel)
theorem t_510 : Cond.selects RX1 yX1_dropLast yX1_dropLast ∈ BIG := big_t 510 (by decide +kernel) (by decide +kernel)
theorem t_534 : Cond.methodLink RX7 120 yX7_needSlot ∈ BIG := big_t 534 (by decide +kernel) (by decide +kernel)
theorem t_535 : Cond.static yX7_needSlot ∈ BIG := big_t 535 (by decide +kernel) (by decide +kernel)
theorem t_537 : Cond.methodLink RX7 123 yX0_stickerIn ∈ BIG := big_t 537 (by decide +kernel) (by decide +kernel)
theorem t_208 : Cond.instanceMethod yX0_stickerIn ∈ BIG := big_t 208 (by decide +kernel) (by decide +kernel)
theorem t_209 : Cond.selects RX0 yX0_stickerIn yX0_stickerIn ∈ BIG := big_t 209 (by decide +kernel) (by decide +kernel)
theorem t_545 : Cond.methodLink RX7 126 yX0_slotOf ∈ BIG := big_t 545 (by decide +kernel) (by decide +kernel)
theorem t_546 : Cond.instanceMethod yX0_slotOf ∈ BIG := big_t 546 (by decide +kernel) (by decide +kernel)
theorem t_547 : Cond.selects RX0 yX0_slotOf yX0_slotOf ∈ BIG := big_t 547 (by decide +kernel) (by decide +kernel)
theorem t_556 : Cond.methodLink RX7 129 yX0_colourOf ∈ BIG := big_t 556 (by decide +kernel) (by decide +kernel)
theorem t_215 : Cond.instanceMethod yX0_colourOf ∈ BIG := big_t 215 (by decide +kernel) (by decide +kernel)
theorem t_216 : Cond.selects RX0 yX0_colourOf yX0_colourOf ∈ BIG := big_t 216 (by decide +kernel) (by decide +kernel)
theorem t_557 : Cond.methodLink RX7 132 yX0_giveColour ∈ BIG := big_t 557 (by decide +kernel) (by decide +kernel)
theorem t_558 : Cond.instanceMethod yX0_giveColour ∈ BIG := big_t 558 (by decide +kernel) (by decide +kernel)
theorem t_559 : Cond.selects RX0 yX0_giveColour yX0_giveColour ∈ BIG := big_t 559 (by decide +kernel) (by decide +kernel)
theorem t_568 : Cond.methodLink RX7 135 yX0_colourIn ∈ BIG := big_t 568 (by decide +kernel) (by decide +kernel)
theorem t_204 : Cond.instanceMethod yX0_colourIn ∈ BIG := big_t 204 (by decide +kernel) (by decide +kernel)
theorem t_205 : Cond.selects RX0 yX0_colourIn yX0_colourIn ∈ BIG := big_t 205 (by decide +kernel) (by decide +kernel)
theorem t_576 : Cond.methodLink RX7 138 yX0_hasOneColour ∈ BIG := big_t 576 (by decide +kernel) (by decide +kernel)
theorem t_577 : Cond.instanceMethod yX0_hasOneColour ∈ BIG := big_t 577 (by decide +kernel) (by decide +kernel)
theorem t_578 : Cond.selects RX0 yX0_hasOneColour yX0_hasOneColour ∈ BIG := big_t 578 (by decide +kernel) (by decide +kernel)
theorem t_199 : Cond.methodLink RX7 142 yX0_countSeams ∈ BIG := big_t 199 (by decide +kernel) (by decide +kernel)
theorem t_200 : Cond.instanceMethod yX0_countSeams ∈ BIG := big_t 200 (by decide +kernel) (by decide +kernel)
theorem t_201 : Cond.selects RX0 yX0_countSeams yX0_countSeams ∈ BIG := big_t 201 (by decide +kernel) (by decide +kernel)
theorem t_587 : Cond.methodLink RX7 145 yX7_movesBetween ∈ BIG := big_t 587 (by decide +kernel) (by decide +kernel)
theorem t_294 : Cond.static yX7_movesBetween ∈ BIG := big_t 294 (by decide +kernel) (by decide +kernel)
theorem t_342 : Cond.methodLink RX7 148 yX7_isIndex ∈ BIG := big_t 342 (by decide +kernel) (by decide +kernel)
theorem t_212 : Cond.static yX7_isIndex ∈ BIG := big_t 212 (by decide +kernel) (by decide +kernel)
theorem t_222 : Cond.methodLink RX7 155 yX5_clear ∈ BIG := big_t 222 (by decide +kernel) (by decide +kernel)
theorem t_223 : Cond.instanceMethod yX5_clear ∈ BIG := big_t 223 (by decide +kernel) (by decide +kernel)
theorem t_224 : Cond.selects RX5 yX5_clear yX5_clear ∈ BIG := big_t 224 (by decide +kernel) (by decide +kernel)
theorem t_8 : Cond.initialized RX5 ∈ BIG := big_t 8 (by decide +kernel) (by decide +kernel)
theorem t_596 : Cond.methodLink RX7 165 yX7_takeSequence ∈ BIG := big_t 596 (by decide +kernel) (by decide +kernel)
theorem t_598 : Cond.instanceMethod yX7_takeSequence ∈ BIG := big_t 598 (by decide +kernel) (by decide +kernel)
theorem s_7 : Cond.selects RX7 yX7_takeSequence yX7_takeSequence ∈ BIG := big_s 7 (by decide +kernel) (by decide +kernel)
theorem t_670 : Cond.methodLink RX7 168 yX4_result ∈ BIG := big_t 670 (by decide +kernel) (by decide +kernel)
theorem t_671 : Cond.instanceMethod yX4_result ∈ BIG := big_t 671 (by decide +kernel) (by decide +kernel)
theorem t_672 : Cond.selects RX4 yX4_result yX4_result ∈ BIG := big_t 672 (by decide +kernel) (by decide +kernel)
theorem t_7 : Cond.initialized RX4 ∈ BIG := big_t 7 (by decide +kernel) (by decide +kernel)
theorem t_674 : Cond.methodLink RX7 172 yX6_putOn ∈ BIG := big_t 674 (by decide +kernel) (by decide +kernel)
theorem t_675 : Cond.instanceMethod yX6_putOn ∈ BIG := big_t 675 (by decide +kernel) (by decide +kernel)
theorem t_676 : Cond.selects RX6 yX6_putOn yX6_putOn ∈ BIG := big_t 676 (by decide +kernel) (by decide +kernel)
theorem t_2 : Cond.initialized RX6 ∈ BIG := big_t 2 (by decide +kernel) (by decide +kernel)
theorem t_685 : Cond.methodLink RX7 176 yX7_needShelf ∈ BIG := big_t 685 (by decide +kernel) (by decide +kernel)
theorem t_686 : Cond.static yX7_needShelf ∈ BIG := big_t 686 (by decide +kernel) (by decide +kernel)
theorem t_688 : Cond.methodLink RX7 179 yX7_needFilled ∈ BIG := big_t 688 (by decide +kernel) (by decide +kernel)
theorem t_690 : Cond.instanceMethod yX7_needFilled ∈ BIG := big_t 690 (by decide +kernel) (by decide +kernel)
theorem s_16 : Cond.selects RX7 yX7_needFilled yX7_needFilled ∈ BIG := big_s 16 (by decide +kernel) (by decide +kernel)
theorem t_261 : Cond.methodLink RX7 182 yX6_onShelf ∈ BIG := big_t 261 (by decide +kernel) (by decide +kernel)
theorem t_262 : Cond.instanceMethod yX6_onShelf ∈ BIG := big_t 262 (by decide +kernel) (by decide +kernel)
theorem t_263 : Cond.selects RX6 yX6_onShelf yX6_onShelf ∈ BIG := big_t 263 (by decide +kernel) (by decide +kernel)
theorem t_273 : Cond.methodLink RX7 186 yX3_toInverse ∈ BIG := big_t 273 (by decide +kernel) (by decide +kernel)
theorem t_274 : Cond.instanceMethod yX3_toInverse ∈ BIG := big_t 274 (by decide +kernel) (by decide +kernel)
theorem t_275 : Cond.selects RX3 yX3_toInverse yX3_toInverse ∈ BIG := big_t 275 (by decide +kernel) (by decide +kernel)
theorem t_5 : Cond.initialized RX3 ∈ BIG := big_t 5 (by decide +kernel) (by decide +kernel)
theorem t_269 : Cond.methodLink RX7 190 yX3_toCopy ∈ BIG := big_t 269 (by decide +kernel) (by decide +kernel)
theorem t_270 : Cond.instanceMethod yX3_toCopy ∈ BIG := big_t 270 (by decide +kernel) (by decide +kernel)
theorem t_271 : Cond.selects RX3 yX3_toCopy yX3_toCopy ∈ BIG := big_t 271 (by decide +kernel) (by decide +kernel)
theorem t_692 : Cond.methodLink RX7 193 yX3_toPower ∈ BIG := big_t 692 (by decide +kernel) (by decide +kernel)
theorem t_647 : Cond.instanceMethod yX3_toPower ∈ BIG := big_t 647 (by decide +kernel) (by decide +kernel)
theorem t_648 : Cond.selects RX3 yX3_toPower yX3_toPower ∈ BIG := big_t 648 (by decide +kernel) (by decide +kernel)
theorem t_457 : Cond.methodLink RX7 197 yX0_follow ∈ BIG := big_t 457 (by decide +kernel) (by decide +kernel)
theorem t_458 : Cond.instanceMethod yX0_follow ∈ BIG := big_t 458 (by decide +kernel) (by decide +kernel)
theorem t_459 : Cond.selects RX0 yX0_follow yX0_follow ∈ BIG := big_t 459 (by decide +kernel) (by decide +kernel)
theorem t_693 : Cond.methodLink RX7 200 yX1_clear ∈ BIG := big_t 693 (by decide +kernel) (by decide +kernel)
theorem t_694 : Cond.instanceMethod yX1_clear ∈ BIG := big_t 694 (by decide +kernel) (by decide +kernel)
theorem t_695 : Cond.selects RX1 yX1_clear yX1_clear ∈ BIG := big_t 695 (by decide +kernel) (by decide +kernel)
theorem t_277 : Cond.methodLink RX7 201 yX3_then ∈ BIG := big_t 277 (by decide +kernel) (by decide +kernel)
theorem t_278 : Cond.instanceMethod yX3_then ∈ BIG := big_t 278 (by decide +kernel) (by decide +kernel)
theorem t_279 : Cond.selects RX3 yX3_then yX3_then ∈ BIG := big_t 279 (by decide +kernel) (by decide +kernel)
theorem t_704 : Cond.methodLink RX7 204 yX7_putMade ∈ BIG := big_t 704 (by decide +kernel) (by decide +kernel)
theorem t_706 : Cond.instanceMethod yX7_putMade ∈ BIG := big_t 706 (by decide +kernel) (by decide +kernel)
theorem s_17 : Cond.selects RX7 yX7_putMade yX7_putMade ∈ BIG := big_s 17 (by decide +kernel) (by decide +kernel)
theorem t_726 : Cond.methodLink RX7 207 yX3_toCommuted ∈ BIG := big_t 726 (by decide +kernel) (by decide +kernel)
theorem t_657 : Cond.instanceMethod yX3_toCommuted ∈ BIG := big_t 657 (by decide +kernel) (by decide +kernel)
theorem t_658 : Cond.selects RX3 yX3_toCommuted yX3_toCommuted ∈ BIG := big_t 658 (by decide +kernel) (by decide +kernel)
theorem t_734 : Cond.methodLink RX7 211 yX6_takeFrom ∈ BIG := big_t 734 (by decide +kernel) (by decide +kernel)
theorem t_735 : Cond.instanceMethod yX6_takeFrom ∈ BIG := big_t 735 (by decide +kernel) (by decide +kernel)
theorem t_736 : Cond.selects RX6 yX6_takeFrom yX6_takeFrom ∈ BIG := big_t 736 (by decide +kernel) (by decide +kernel)
theorem t_738 : Cond.methodLink RX7 214 yX6_countFilled ∈ BIG := big_t 738 (by decide +kernel) (by decide +kernel)
theorem t_739 : Cond.instanceMethod yX6_countFilled ∈ BIG := big_t 739 (by decide +kernel) (by decide +kernel)
theorem t_740 : Cond.selects RX6 yX6_countFilled yX6_countFilled ∈ BIG := big_t 740 (by decide +kernel) (by decide +kernel)
theorem t_750 : Cond.methodLink RX7 217 yX7_needLearnt ∈ BIG := big_t 750 (by decide +kernel) (by decide +kernel)
theorem t_752 : Cond.instanceMethod yX7_needLearnt ∈ BIG := big_t 752 (by decide +kernel) (by decide +kernel)
theorem s_18 : Cond.selects RX7 yX7_needLearnt yX7_needLearnt ∈ BIG := big_s 18 (by decide +kernel) (by decide +kernel)
theorem t_770 : Cond.methodLink RX7 220 yX3_of ∈ BIG := big_t 770 (by decide +kernel) (by decide +kernel)
theorem t_462 : Cond.instanceMethod yX3_of ∈ BIG := big_t 462 (by decide +kernel) (by decide +kernel)
theorem t_463 : Cond.selects RX3 yX3_of yX3_of ∈ BIG := big_t 463 (by decide +kernel) (by decide +kernel)
theorem t_708 : Cond.methodLink RX7 223 yX3_countMoved ∈ BIG := big_t 708 (by decide +kernel) (by decide +kernel)
theorem t_709 : Cond.instanceMethod yX3_countMoved ∈ BIG := big_t 709 (by decide +kernel) (by decide +kernel)
theorem t_710 : Cond.selects RX3 yX3_countMoved yX3_countMoved ∈ BIG := big_t 710 (by decide +kernel) (by decide +kernel)
theorem t_778 : Cond.methodLink RX7 226 yX3_countCycles ∈ BIG := big_t 778 (by decide +kernel) (by decide +kernel)
theorem t_779 : Cond.instanceMethod yX3_countCycles ∈ BIG := big_t 779 (by decide +kernel) (by decide +kernel)
theorem t_780 : Cond.selects RX3 yX3_countCycles yX3_countCycles ∈ BIG := big_t 780 (by decide +kernel) (by decide +kernel)
theorem t_791 : Cond.methodLink RX7 229 yX3_longestCycle ∈ BIG := big_t 791 (by decide +kernel) (by decide +kernel)
theorem t_792 : Cond.instanceMethod yX3_longestCycle ∈ BIG := big_t 792 (by decide +kernel) (by decide +kernel)
theorem t_793 : Cond.selects RX3 yX3_longestCycle yX3_longestCycle ∈ BIG := big_t 793 (by decide +kernel) (by decide +kernel)
theorem t_798 : Cond.methodLink RX7 232 yX3_orderByCycles ∈ BIG := big_t 798 (by decide +kernel) (by decide +kernel)
theorem t_799 : Cond.instanceMethod yX3_orderByCycles ∈ BIG := big_t 799 (by decide +kernel) (by decide +kernel)
theorem t_800 : Cond.selects RX3 yX3_orderByCycles yX3_orderByCycles ∈ BIG := big_t 800 (by decide +kernel) (by decide +kernel)
theorem t_812 : Cond.methodLink RX7 235 yX3_orderByDoing ∈ BIG := big_t 812 (by decide +kernel) (by decide +kernel)
theorem t_813 : Cond.instanceMethod yX3_orderByDoing ∈ BIG := big_t 813 (by decide +kernel) (by decide +kernel)
theorem t_814 : Cond.selects RX3 yX3_orderByDoing yX3_orderByDoing ∈ BIG := big_t 814 (by decide +kernel) (by decide +kernel)
theorem t_825 : Cond.methodLink RX7 239 yX3_isEvenByPairs ∈ BIG := big_t 825 (by decide +kernel) (by decide +kernel)
theorem t_826 : Cond.instanceMethod yX3_isEvenByPairs ∈ BIG := big_t 826 (by decide +kernel) (by decide +kernel)
theorem t_827 : Cond.selects RX3 yX3_isEvenByPairs yX3_isEvenByPairs ∈ BIG := big_t 827 (by decide +kernel) (by decide +kernel)
theorem t_829 : Cond.methodLink RX7 243 yX3_isEvenByCycles ∈ BIG := big_t 829 (by decide +kernel) (by decide +kernel)
theorem t_830 : Cond.instanceMethod yX3_isEvenByCycles ∈ BIG := big_t 830 (by decide +kernel) (by decide +kernel)
theorem t_831 : Cond.selects RX3 yX3_isEvenByCycles yX3_isEvenByCycles ∈ BIG := big_t 831 (by decide +kernel) (by decide +kernel)
theorem t_841 : Cond.methodLink RX7 246 yX3_cycleLength ∈ BIG := big_t 841 (by decide +kernel) (by decide +kernel)
theorem t_788 : Cond.instanceMethod yX3_cycleLength ∈ BIG := big_t 788 (by decide +kernel) (by decide +kernel)
theorem t_789 : Cond.selects RX3 yX3_cycleLength yX3_cycleLength ∈ BIG := big_t 789 (by decide +kernel) (by decide +kernel)
theorem t_849 : Cond.methodLink RX7 249 yX3_isInEitherOrder ∈ BIG := big_t 849 (by decide +kernel) (by decide +kernel)
theorem t_850 : Cond.instanceMethod yX3_isInEitherOrder ∈ BIG := big_t 850 (by decide +kernel) (by decide +kernel)
theorem t_851 : Cond.selects RX3 yX3_isInEitherOrder yX3_isInEitherOrder ∈ BIG := big_t 851 (by decide +kernel) (by decide +kernel)
theorem t_239 : Cond.methodLink RX7 253 yX5_addNumber ∈ BIG := big_t 239 (by decide +kernel) (by decide +kernel)
theorem t_240 : Cond.instanceMethod yX5_addNumber ∈ BIG := big_t 240 (by decide +kernel) (by decide +kernel)
theorem t_241 : Cond.selects RX5 yX5_addNumber yX5_addNumber ∈ BIG := big_t 241 (by decide +kernel) (by decide +kernel)
theorem t_244 : Cond.methodLink RX7 256 yX5_size ∈ BIG := big_t 244 (by decide +kernel) (by decide +kernel)
theorem t_245 : Cond.instanceMethod yX5_size ∈ BIG := big_t 245 (by decide +kernel) (by decide +kernel)
theorem t_246 : Cond.selects RX5 yX5_size yX5_size ∈ BIG := big_t 246 (by decide +kernel) (by decide +kernel)
theorem t_235 : Cond.methodLink RX7 257 yX5_addSign ∈ BIG := big_t 235 (by decide +kernel) (by decide +kernel)
theorem t_236 : Cond.instanceMethod yX5_addSign ∈ BIG := big_t 236 (by decide +kernel) (by decide +kernel)
theorem t_237 : Cond.selects RX5 yX5_addSign yX5_addSign ∈ BIG := big_t 237 (by decide +kernel) (by decide +kernel)
theorem t_867 : Cond.methodLink RX7 261 yX3_isLowestOfCycle ∈ BIG := big_t 867 (by decide +kernel) (by decide +kernel)
theorem t_783 : Cond.instanceMethod yX3_isLowestOfCycle ∈ BIG := big_t 783 (by decide +kernel) (by decide +kernel)
theorem t_784 : Cond.selects RX3 yX3_isLowestOfCycle yX3_isLowestOfCycle ∈ BIG := big_t 784 (by decide +kernel) (by decide +kernel)
theorem t_868 : Cond.methodLink RX7 264 yX5_addCycle ∈ BIG := big_t 868 (by decide +kernel) (by decide +kernel)
theorem t_869 : Cond.instanceMethod yX5_addCycle ∈ BIG := big_t 869 (by decide +kernel) (by decide +kernel)
theorem t_870 : Cond.selects RX5 yX5_addCycle yX5_addCycle ∈ BIG := big_t 870 (by decide +kernel) (by decide +kernel)
theorem t_881 : Cond.methodLink RX7 267 yX5_signAt ∈ BIG := big_t 881 (by decide +kernel) (by decide +kernel)
theorem t_618 : Cond.instanceMethod yX5_signAt ∈ BIG := big_t 618 (by decide +kernel) (by decide +kernel)
theorem t_619 : Cond.selects RX5 yX5_signAt yX5_signAt ∈ BIG := big_t 619 (by decide +kernel) (by decide +kernel)
theorem t_936 : Cond.methodLink RX7 285 yX0_countDone ∈ BIG := big_t 936 (by decide +kernel) (by decide +kernel)
theorem t_937 : Cond.instanceMethod yX0_countDone ∈ BIG := big_t 937 (by decide +kernel) (by decide +kernel)
theorem t_938 : Cond.selects RX0 yX0_countDone yX0_countDone ∈ BIG := big_t 938 (by decide +kernel) (by decide +kernel)
theorem t_941 : Cond.methodLink RX7 291 yX2_size ∈ BIG := big_t 941 (by decide +kernel) (by decide +kernel)
theorem t_942 : Cond.instanceMethod yX2_size ∈ BIG := big_t 942 (by decide +kernel) (by decide +kernel)
theorem t_943 : Cond.selects RX2 yX2_size yX2_size ∈ BIG := big_t 943 (by decide +kernel) (by decide +kernel)
theorem t_252 : Cond.methodLink RX7 297 yX0_isEachWhereTold ∈ BIG := big_t 252 (by decide +kernel) (by decide +kernel)
theorem t_253 : Cond.instanceMethod yX0_isEachWhereTold ∈ BIG := big_t 253 (by decide +kernel) (by decide +kernel)
theorem t_254 : Cond.selects RX0 yX0_isEachWhereTold yX0_isEachWhereTold ∈ BIG := big_t 254 (by decide +kernel) (by decide +kernel)
theorem t_256 : Cond.methodLink RX7 300 yX6_isFilled ∈ BIG := big_t 256 (by decide +kernel) (by decide +kernel)
theorem t_257 : Cond.instanceMethod yX6_isFilled ∈ BIG := big_t 257 (by decide +kernel) (by decide +kernel)
theorem t_258 : Cond.selects RX6 yX6_isFilled yX6_isFilled ∈ BIG := big_t 258 (by decide +kernel) (by decide +kernel)
theorem t_265 : Cond.methodLink RX7 303 yX7_isUndoneByInverse ∈ BIG := big_t 265 (by decide +kernel) (by decide +kernel)
theorem t_267 : Cond.instanceMethod yX7_isUndoneByInverse ∈ BIG := big_t 267 (by decide +kernel) (by decide +kernel)
theorem s_0 : Cond.selects RX7 yX7_isUndoneByInverse yX7_isUndoneByInverse ∈ BIG := big_s 0 (by decide +kernel) (by decide +kernel)
theorem t_289 : Cond.methodLink RX7 306 yX0_movesToHomes ∈ BIG := big_t 289 (by decide +kernel) (by decide +kernel)
theorem t_290 : Cond.instanceMethod yX0_movesToHomes ∈ BIG := big_t 290 (by decide +kernel) (by decide +kernel)
theorem t_291 : Cond.selects RX0 yX0_movesToHomes yX0_movesToHomes ∈ BIG := big_t 291 (by decide +kernel) (by decide +kernel)
theorem t_954 : Cond.methodLink RX7 314 yX2_giveBack ∈ BIG := big_t 954 (by decide +kernel) (by decide +kernel)
theorem t_955 : Cond.instanceMethod yX2_giveBack ∈ BIG := big_t 955 (by decide +kernel) (by decide +kernel)
theorem t_956 : Cond.selects RX2 yX2_giveBack yX2_giveBack ∈ BIG := big_t 956 (by decide +kernel) (by decide +kernel)
theorem t_306 : Cond.methodLink RX7 317 yX6_copyFrom ∈ BIG := big_t 306 (by decide +kernel) (by decide +kernel)
theorem t_307 : Cond.instanceMethod yX6_copyFrom ∈ BIG := big_t 307 (by decide +kernel) (by decide +kernel)
theorem t_308 : Cond.selects RX6 yX6_copyFrom yX6_copyFrom ∈ BIG := big_t 308 (by decide +kernel) (by decide +kernel)
theorem t_966 : Cond.methodLink RX7 322 yX2_clear ∈ BIG := big_t 966 (by decide +kernel) (by decide +kernel)
theorem t_967 : Cond.instanceMethod yX2_clear ∈ BIG := big_t 967 (by decide +kernel) (by decide +kernel)
theorem t_968 : Cond.selects RX2 yX2_clear yX2_clear ∈ BIG := big_t 968 (by decide +kernel) (by decide +kernel)
theorem t_445 : Cond.methodLink RX7 334 yX3_toMove ∈ BIG := big_t 445 (by decide +kernel) (by decide +kernel)
theorem t_446 : Cond.instanceMethod yX3_toMove ∈ BIG := big_t 446 (by decide +kernel) (by decide +kernel)
theorem t_447 : Cond.selects RX3 yX3_toMove yX3_toMove ∈ BIG := big_t 447 (by decide +kernel) (by decide +kernel)
theorem t_466 : Cond.methodLink RX7 337 yX1_add ∈ BIG := big_t 466 (by decide +kernel) (by decide +kernel)
theorem t_467 : Cond.instanceMethod yX1_add ∈ BIG := big_t 467 (by decide +kernel) (by decide +kernel)
theorem t_468 : Cond.selects RX1 yX1_add yX1_add ∈ BIG := big_t 468 (by decide +kernel) (by decide +kernel)
theorem t_281 : Cond.methodLink RX7 340 yX3_movesNothing ∈ BIG := big_t 281 (by decide +kernel) (by decide +kernel)
theorem t_282 : Cond.instanceMethod yX3_movesNothing ∈ BIG := big_t 282 (by decide +kernel) (by decide +kernel)
theorem t_283 : Cond.selects RX3 yX3_movesNothing yX3_movesNothing ∈ BIG := big_t 283 (by decide +kernel) (by decide +kernel)
theorem t_600 : Cond.methodLink RX7 343 yX4_understand ∈ BIG := big_t 600 (by decide +kernel) (by decide +kernel)
theorem t_601 : Cond.instanceMethod yX4_understand ∈ BIG := big_t 601 (by decide +kernel) (by decide +kernel)
theorem t_602 : Cond.selects RX4 yX4_understand yX4_understand ∈ BIG := big_t 602 (by decide +kernel) (by decide +kernel)
theorem t_665 : Cond.methodLink RX7 347 yX4_place ∈ BIG := big_t 665 (by decide +kernel) (by decide +kernel)
theorem t_666 : Cond.instanceMethod yX4_place ∈ BIG := big_t 666 (by decide +kernel) (by decide +kernel)
theorem t_667 : Cond.selects RX4 yX4_place yX4_place ∈ BIG := big_t 667 (by decide +kernel) (by decide +kernel)
theorem t_211 : Cond.methodLinkNest RX0 27 yX7_isIndex RX7 ∈ NWL := nw_of 211 (by decide +kernel) (by decide +kernel)
theorem t_207 : Cond.methodLink RX0 31 yX0_stickerIn ∈ BIG := big_t 207 (by decide +kernel) (by decide +kernel)
theorem t_214 : Cond.methodLink RX0 35 yX0_colourOf ∈ BIG := big_t 214 (by decide +kernel) (by decide +kernel)
theorem t_461 : Cond.methodLink RX0 38 yX3_of ∈ BIG := big_t 461 (by decide +kernel) (by decide +kernel)
theorem t_203 : Cond.methodLink RX0 43 yX0_colourIn ∈ BIG := big_t 203 (by decide +kernel) (by decide +kernel)
theorem t_940 : Cond.methodLink RX0 46 yX0_hasOneColour ∈ BIG := big_t 940 (by decide +kernel) (by decide +kernel)
theorem t_293 : Cond.methodLinkNest RX0 50 yX7_movesBetween RX7 ∈ NWL := nw_of 293 (by decide +kernel) (by decide +kernel)
theorem t_234 : Cond.methodLinkNest RX1 25 yX7_isIndex RX7 ∈ NWL := nw_of 234 (by decide +kernel) (by decide +kernel)
theorem t_436 : Cond.methodLink RX2 22 yX6_copyFrom ∈ BIG := big_t 436 (by decide +kernel) (by decide +kernel)
theorem t_465 : Cond.methodLinkNest RX3 15 yX7_isIndex RX7 ∈ NWL := nw_of 465 (by decide +kernel) (by decide +kernel)
theorem t_449 : Cond.methodLink RX3 19 yX3_toTurn ∈ BIG := big_t 449 (by decide +kernel) (by decide +kernel)
theorem t_451 : Cond.instanceMethod yX3_toTurn ∈ BIG := big_t 451 (by decide +kernel) (by decide +kernel)
theorem s_4 : Cond.selects RX3 yX3_toTurn yX3_toTurn ∈ BIG := big_s 4 (by decide +kernel) (by decide +kernel)
theorem t_453 : Cond.methodLink RX3 23 yX3_toShift ∈ BIG := big_t 453 (by decide +kernel) (by decide +kernel)
theorem t_455 : Cond.instanceMethod yX3_toShift ∈ BIG := big_t 455 (by decide +kernel) (by decide +kernel)
theorem s_5 : Cond.selects RX3 yX3_toShift yX3_toShift ∈ BIG := big_s 5 (by decide +kernel) (by decide +kernel)
theorem t_650 : Cond.methodLink RX3 26 yX3_toNothing ∈ BIG := big_t 650 (by decide +kernel) (by decide +kernel)
theorem t_610 : Cond.instanceMethod yX3_toNothing ∈ BIG := big_t 610 (by decide +kernel) (by decide +kernel)
theorem t_611 : Cond.selects RX3 yX3_toNothing yX3_toNothing ∈ BIG := big_t 611 (by decide +kernel) (by decide +kernel)
theorem t_651 : Cond.methodLink RX3 29 yX3_then ∈ BIG := big_t 651 (by decide +kernel) (by decide +kernel)
theorem t_660 : Cond.methodLink RX3 33 yX3_toCopy ∈ BIG := big_t 660 (by decide +kernel) (by decide +kernel)
theorem t_661 : Cond.methodLink RX3 36 yX3_toInverse ∈ BIG := big_t 661 (by decide +kernel) (by decide +kernel)
theorem t_786 : Cond.methodLink RX3 39 yX3_of ∈ BIG := big_t 786 (by decide +kernel) (by decide +kernel)
theorem t_782 : Cond.methodLink RX3 43 yX3_isLowestOfCycle ∈ BIG := big_t 782 (by decide +kernel) (by decide +kernel)
theorem t_787 : Cond.methodLink RX3 47 yX3_cycleLength ∈ BIG := big_t 787 (by decide +kernel) (by decide +kernel)
theorem t_802 : Cond.methodLink RX3 56 yX3_leastCommonMultiple ∈ BIG := big_t 802 (by decide +kernel) (by decide +kernel)
theorem t_803 : Cond.static yX3_leastCommonMultiple ∈ BIG := big_t 803 (by decide +kernel) (by decide +kernel)
theorem t_817 : Cond.methodLink RX3 60 yX3_movesNothing ∈ BIG := big_t 817 (by decide +kernel) (by decide +kernel)
theorem t_833 : Cond.methodLink RX3 64 yX3_countCycles ∈ BIG := big_t 833 (by decide +kernel) (by decide +kernel)
theorem t_604 : Cond.methodLink RX4 39 yX4_sequence ∈ BIG := big_t 604 (by decide +kernel) (by decide +kernel)
theorem t_606 : Cond.instanceMethod yX4_sequence ∈ BIG := big_t 606 (by decide +kernel) (by decide +kernel)
theorem s_8 : Cond.selects RX4 yX4_sequence yX4_sequence ∈ BIG := big_s 8 (by decide +kernel) (by decide +kernel)
theorem t_664 : Cond.methodLink RX4 43 yX5_size ∈ BIG := big_t 664 (by decide +kernel) (by decide +kernel)
theorem t_617 : Cond.methodLink RX4 47 yX5_signAt ∈ BIG := big_t 617 (by decide +kernel) (by decide +kernel)
theorem t_608 : Cond.methodLinkNest RX4 51 yX7_isIndex RX7 ∈ NWL := nw_of 608 (by decide +kernel) (by decide +kernel)
theorem t_609 : Cond.methodLink RX4 55 yX3_toNothing ∈ BIG := big_t 609 (by decide +kernel) (by decide +kernel)
theorem t_613 : Cond.methodLink RX4 58 yX4_isItemNext ∈ BIG := big_t 613 (by decide +kernel) (by decide +kernel)
theorem t_615 : Cond.instanceMethod yX4_isItemNext ∈ BIG := big_t 615 (by decide +kernel) (by decide +kernel)
theorem s_9 : Cond.selects RX4 yX4_isItemNext yX4_isItemNext ∈ BIG := big_s 9 (by decide +kernel) (by decide +kernel)
theorem t_621 : Cond.methodLink RX4 62 yX4_item ∈ BIG := big_t 621 (by decide +kernel) (by decide +kernel)
theorem t_623 : Cond.instanceMethod yX4_item ∈ BIG := big_t 623 (by decide +kernel) (by decide +kernel)
theorem s_10 : Cond.selects RX4 yX4_item yX4_item ∈ BIG := big_s 10 (by decide +kernel) (by decide +kernel)
theorem t_663 : Cond.methodLink RX4 65 yX3_then ∈ BIG := big_t 663 (by decide +kernel) (by decide +kernel)
theorem t_625 : Cond.methodLink RX4 69 yX4_moveItem ∈ BIG := big_t 625 (by decide +kernel) (by decide +kernel)
theorem t_627 : Cond.instanceMethod yX4_moveItem ∈ BIG := big_t 627 (by decide +kernel) (by decide +kernel)
theorem s_11 : Cond.selects RX4 yX4_moveItem yX4_moveItem ∈ BIG := big_s 11 (by decide +kernel) (by decide +kernel)
theorem t_635 : Cond.methodLink RX4 73 yX4_shelfItem ∈ BIG := big_t 635 (by decide +kernel) (by decide +kernel)
theorem t_637 : Cond.instanceMethod yX4_shelfItem ∈ BIG := big_t 637 (by decide +kernel) (by decide +kernel)
theorem s_13 : Cond.selects RX4 yX4_shelfItem yX4_shelfItem ∈ BIG := big_s 13 (by decide +kernel) (by decide +kernel)
theorem t_642 : Cond.methodLink RX4 77 yX4_repeatedItem ∈ BIG := big_t 642 (by decide +kernel) (by decide +kernel)
theorem t_644 : Cond.instanceMethod yX4_repeatedItem ∈ BIG := big_t 644 (by decide +kernel) (by decide +kernel)
theorem s_14 : Cond.selects RX4 yX4_repeatedItem yX4_repeatedItem ∈ BIG := big_s 14 (by decide +kernel) (by decide +kernel)
theorem t_652 : Cond.methodLink RX4 81 yX4_commutedItem ∈ BIG := big_t 652 (by decide +kernel) (by decide +kernel)
theorem t_654 : Cond.instanceMethod yX4_commutedItem ∈ BIG := big_t 654 (by decide +kernel) (by decide +kernel)
theorem s_15 : Cond.selects RX4 yX4_commutedItem yX4_commutedItem ∈ BIG := big_s 15 (by decide +kernel) (by decide +kernel)
theorem t_662 : Cond.methodLink RX4 84 yX3_toInverse ∈ BIG := big_t 662 (by decide +kernel) (by decide +kernel)
theorem t_641 : Cond.methodLink RX4 87 yX3_toCopy ∈ BIG := big_t 641 (by decide +kernel) (by decide +kernel)
theorem t_629 : Cond.methodLink RX4 90 yX4_digit ∈ BIG := big_t 629 (by decide +kernel) (by decide +kernel)
theorem t_631 : Cond.instanceMethod yX4_digit ∈ BIG := big_t 631 (by decide +kernel) (by decide +kernel)
theorem s_12 : Cond.selects RX4 yX4_digit yX4_digit ∈ BIG := big_s 12 (by decide +kernel) (by decide +kernel)
theorem t_633 : Cond.methodLinkNest RX4 94 yX7_roundOf RX7 ∈ NWL := nw_of 633 (by decide +kernel) (by decide +kernel)
theorem t_634 : Cond.methodLink RX4 97 yX3_toMove ∈ BIG := big_t 634 (by decide +kernel) (by decide +kernel)
theorem t_639 : Cond.methodLink RX4 101 yX6_isFilled ∈ BIG := big_t 639 (by decide +kernel) (by decide +kernel)
theorem t_640 : Cond.methodLink RX4 107 yX6_onShelf ∈ BIG := big_t 640 (by decide +kernel) (by decide +kernel)
theorem t_646 : Cond.methodLink RX4 111 yX3_toPower ∈ BIG := big_t 646 (by decide +kernel) (by decide +kernel)
theorem t_656 : Cond.methodLink RX4 115 yX3_toCommuted ∈ BIG := big_t 656 (by decide +kernel) (by decide +kernel)
theorem t_243 : Cond.methodLink RX5 21 yX5_addSign ∈ BIG := big_t 243 (by decide +kernel) (by decide +kernel)
theorem t_872 : Cond.methodLink RX5 25 yX5_addNumber ∈ BIG := big_t 872 (by decide +kernel) (by decide +kernel)
theorem t_873 : Cond.methodLink RX5 29 yX3_of ∈ BIG := big_t 873 (by decide +kernel) (by decide +kernel)
theorem t_310 : Cond.methodLink RX6 43 yX0_copyFrom ∈ BIG := big_t 310 (by decide +kernel) (by decide +kernel)
theorem t_311 : Cond.instanceMethod yX0_copyFrom ∈ BIG := big_t 311 (by decide +kernel) (by decide +kernel)
theorem t_312 : Cond.selects RX0 yX0_copyFrom yX0_copyFrom ∈ BIG := big_t 312 (by decide +kernel) (by decide +kernel)
theorem t_317 : Cond.methodLink RX6 47 yX1_copyFrom ∈ BIG := big_t 317 (by decide +kernel) (by decide +kernel)
theorem t_318 : Cond.instanceMethod yX1_copyFrom ∈ BIG := big_t 318 (by decide +kernel) (by decide +kernel)
theorem t_319 : Cond.selects RX1 yX1_copyFrom yX1_copyFrom ∈ BIG := big_t 319 (by decide +kernel) (by decide +kernel)
theorem t_322 : Cond.methodLink RX6 50 yX3_toCopy ∈ BIG := big_t 322 (by decide +kernel) (by decide +kernel)
theorem t_260 : Cond.methodLinkNest RX6 54 yX7_isIndex RX7 ∈ NWL := nw_of 260 (by decide +kernel) (by decide +kernel)
theorem t_332 : Cond.methodLink RL 7 yX7_turn ∈ BIG := big_t 332 (by decide +kernel) (by decide +kernel)
theorem t_333 : Cond.instanceMethod yX7_turn ∈ BIG := big_t 333 (by decide +kernel) (by decide +kernel)
theorem t_334 : Cond.selects RX7 yX7_turn yX7_turn ∈ BIG := big_t 334 (by decide +kernel) (by decide +kernel)
theorem t_473 : Cond.methodLink RL 17 yX7_shift ∈ BIG := big_t 473 (by decide +kernel) (by decide +kernel)
theorem t_474 : Cond.instanceMethod yX7_shift ∈ BIG := big_t 474 (by decide +kernel) (by decide +kernel)
theorem t_475 : Cond.selects RX7 yX7_shift yX7_shift ∈ BIG := big_t 475 (by decide +kernel) (by decide +kernel)
theorem t_481 : Cond.methodLink RL 20 yX7_back ∈ BIG := big_t 481 (by decide +kernel) (by decide +kernel)
theorem t_482 : Cond.instanceMethod yX7_back ∈ BIG := big_t 482 (by decide +kernel) (by decide +kernel)
theorem t_483 : Cond.selects RX7 yX7_back yX7_back ∈ BIG := big_t 483 (by decide +kernel) (by decide +kernel)
theorem t_515 : Cond.methodLink RL 26 yX7_scramble ∈ BIG := big_t 515 (by decide +kernel) (by decide +kernel)
theorem t_516 : Cond.instanceMethod yX7_scramble ∈ BIG := big_t 516 (by decide +kernel) (by decide +kernel)
theorem t_517 : Cond.selects RX7 yX7_scramble yX7_scramble ∈ BIG := big_t 517 (by decide +kernel) (by decide +kernel)
theorem t_523 : Cond.methodLink RL 29 yX7_logOf ∈ BIG := big_t 523 (by decide +kernel) (by decide +kernel)
theorem t_524 : Cond.instanceMethod yX7_logOf ∈ BIG := big_t 524 (by decide +kernel) (by decide +kernel)
theorem t_525 : Cond.selects RX7 yX7_logOf yX7_logOf ∈ BIG := big_t 525 (by decide +kernel) (by decide +kernel)
theorem t_530 : Cond.methodLink RL 32 yX7_at ∈ BIG := big_t 530 (by decide +kernel) (by decide +kernel)
theorem t_531 : Cond.instanceMethod yX7_at ∈ BIG := big_t 531 (by decide +kernel) (by decide +kernel)
theorem t_532 : Cond.selects RX7 yX7_at yX7_at ∈ BIG := big_t 532 (by decide +kernel) (by decide +kernel)
theorem t_541 : Cond.methodLink RL 36 yX7_where ∈ BIG := big_t 541 (by decide +kernel) (by decide +kernel)
theorem t_542 : Cond.instanceMethod yX7_where ∈ BIG := big_t 542 (by decide +kernel) (by decide +kernel)
theorem t_543 : Cond.selects RX7 yX7_where yX7_where ∈ BIG := big_t 543 (by decide +kernel) (by decide +kernel)
theorem t_552 : Cond.methodLink RL 39 yX7_paint ∈ BIG := big_t 552 (by decide +kernel) (by decide +kernel)
theorem t_553 : Cond.instanceMethod yX7_paint ∈ BIG := big_t 553 (by decide +kernel) (by decide +kernel)
theorem t_554 : Cond.selects RX7 yX7_paint yX7_paint ∈ BIG := big_t 554 (by decide +kernel) (by decide +kernel)
theorem t_564 : Cond.methodLink RL 42 yX7_colour ∈ BIG := big_t 564 (by decide +kernel) (by decide +kernel)
theorem t_565 : Cond.instanceMethod yX7_colour ∈ BIG := big_t 565 (by decide +kernel) (by decide +kernel)
theorem t_566 : Cond.selects RX7 yX7_colour yX7_colour ∈ BIG := big_t 566 (by decide +kernel) (by decide +kernel)
theorem t_572 : Cond.methodLink RL 45 yX7_isDone ∈ BIG := big_t 572 (by decide +kernel) (by decide +kernel)
theorem t_573 : Cond.instanceMethod yX7_isDone ∈ BIG := big_t 573 (by decide +kernel) (by decide +kernel)
theorem t_574 : Cond.selects RX7 yX7_isDone yX7_isDone ∈ BIG := big_t 574 (by decide +kernel) (by decide +kernel)
theorem t_583 : Cond.methodLink RL 49 yX7_fewest ∈ BIG := big_t 583 (by decide +kernel) (by decide +kernel)
theorem t_584 : Cond.instanceMethod yX7_fewest ∈ BIG := big_t 584 (by decide +kernel) (by decide +kernel)
theorem t_585 : Cond.selects RX7 yX7_fewest yX7_fewest ∈ BIG := big_t 585 (by decide +kernel) (by decide +kernel)
theorem t_591 : Cond.methodLink RL 52 yX7_learn ∈ BIG := big_t 591 (by decide +kernel) (by decide +kernel)
theorem t_592 : Cond.instanceMethod yX7_learn ∈ BIG := big_t 592 (by decide +kernel) (by decide +kernel)
theorem t_593 : Cond.selects RX7 yX7_learn yX7_learn ∈ BIG := big_t 593 (by decide +kernel) (by decide +kernel)
theorem t_681 : Cond.methodLink RL 55 yX7_use ∈ BIG := big_t 681 (by decide +kernel) (by decide +kernel)
theorem t_682 : Cond.instanceMethod yX7_use ∈ BIG := big_t 682 (by decide +kernel) (by decide +kernel)
theorem t_683 : Cond.selects RX7 yX7_use yX7_use ∈ BIG := big_t 683 (by decide +kernel) (by decide +kernel)
theorem t_700 : Cond.methodLink RL 58 yX7_join ∈ BIG := big_t 700 (by decide +kernel) (by decide +kernel)
theorem t_701 : Cond.instanceMethod yX7_join ∈ BIG := big_t 701 (by decide +kernel) (by decide +kernel)
theorem t_702 : Cond.selects RX7 yX7_join yX7_join ∈ BIG := big_t 702 (by decide +kernel) (by decide +kernel)
theorem t_715 : Cond.methodLink RL 62 yX7_invert ∈ BIG := big_t 715 (by decide +kernel) (by decide +kernel)
theorem t_716 : Cond.instanceMethod yX7_invert ∈ BIG := big_t 716 (by decide +kernel) (by decide +kernel)
theorem t_717 : Cond.selects RX7 yX7_invert yX7_invert ∈ BIG := big_t 717 (by decide +kernel) (by decide +kernel)
theorem t_722 : Cond.methodLink RL 65 yX7_commute ∈ BIG := big_t 722 (by decide +kernel) (by decide +kernel)
theorem t_723 : Cond.instanceMethod yX7_commute ∈ BIG := big_t 723 (by decide +kernel) (by decide +kernel)
theorem t_724 : Cond.selects RX7 yX7_commute yX7_commute ∈ BIG := big_t 724 (by decide +kernel) (by decide +kernel)
theorem t_730 : Cond.methodLink RL 68 yX7_forget ∈ BIG := big_t 730 (by decide +kernel) (by decide +kernel)
theorem t_731 : Cond.instanceMethod yX7_forget ∈ BIG := big_t 731 (by decide +kernel) (by decide +kernel)
theorem t_732 : Cond.selects RX7 yX7_forget yX7_forget ∈ BIG := big_t 732 (by decide +kernel) (by decide +kernel)
theorem t_746 : Cond.methodLink RL 71 yX7_goesTo ∈ BIG := big_t 746 (by decide +kernel) (by decide +kernel)
theorem t_747 : Cond.instanceMethod yX7_goesTo ∈ BIG := big_t 747 (by decide +kernel) (by decide +kernel)
theorem t_748 : Cond.selects RX7 yX7_goesTo yX7_goesTo ∈ BIG := big_t 748 (by decide +kernel) (by decide +kernel)
theorem t_774 : Cond.methodLink RL 76 yX7_shelfOf ∈ BIG := big_t 774 (by decide +kernel) (by decide +kernel)
theorem t_775 : Cond.instanceMethod yX7_shelfOf ∈ BIG := big_t 775 (by decide +kernel) (by decide +kernel)
theorem t_776 : Cond.selects RX7 yX7_shelfOf yX7_shelfOf ∈ BIG := big_t 776 (by decide +kernel) (by decide +kernel)
theorem t_808 : Cond.methodLink RL 79 yX7_orderAgain ∈ BIG := big_t 808 (by decide +kernel) (by decide +kernel)
theorem t_809 : Cond.instanceMethod yX7_orderAgain ∈ BIG := big_t 809 (by decide +kernel) (by decide +kernel)
theorem t_810 : Cond.selects RX7 yX7_orderAgain yX7_orderAgain ∈ BIG := big_t 810 (by decide +kernel) (by decide +kernel)
theorem t_821 : Cond.methodLink RL 82 yX7_isEven ∈ BIG := big_t 821 (by decide +kernel) (by decide +kernel)
theorem t_822 : Cond.instanceMethod yX7_isEven ∈ BIG := big_t 822 (by decide +kernel) (by decide +kernel)
theorem t_823 : Cond.selects RX7 yX7_isEven yX7_isEven ∈ BIG := big_t 823 (by decide +kernel) (by decide +kernel)
theorem t_837 : Cond.methodLink RL 86 yX7_cycle ∈ BIG := big_t 837 (by decide +kernel) (by decide +kernel)
theorem t_838 : Cond.instanceMethod yX7_cycle ∈ BIG := big_t 838 (by decide +kernel) (by decide +kernel)
theorem t_839 : Cond.selects RX7 yX7_cycle yX7_cycle ∈ BIG := big_t 839 (by decide +kernel) (by decide +kernel)
theorem t_845 : Cond.methodLink RL 89 yX7_commutes ∈ BIG := big_t 845 (by decide +kernel) (by decide +kernel)
theorem t_846 : Cond.instanceMethod yX7_commutes ∈ BIG := big_t 846 (by decide +kernel) (by decide +kernel)
theorem t_847 : Cond.selects RX7 yX7_commutes yX7_commutes ∈ BIG := big_t 847 (by decide +kernel) (by decide +kernel)
theorem t_856 : Cond.methodLink RL 93 yX7_line ∈ BIG := big_t 856 (by decide +kernel) (by decide +kernel)
theorem t_857 : Cond.instanceMethod yX7_line ∈ BIG := big_t 857 (by decide +kernel) (by decide +kernel)
theorem t_858 : Cond.selects RX7 yX7_line yX7_line ∈ BIG := big_t 858 (by decide +kernel) (by decide +kernel)
theorem t_863 : Cond.methodLink RL 96 yX7_cycleLine ∈ BIG := big_t 863 (by decide +kernel) (by decide +kernel)
theorem t_864 : Cond.instanceMethod yX7_cycleLine ∈ BIG := big_t 864 (by decide +kernel) (by decide +kernel)
theorem t_865 : Cond.selects RX7 yX7_cycleLine yX7_cycleLine ∈ BIG := big_t 865 (by decide +kernel) (by decide +kernel)
theorem t_877 : Cond.methodLink RL 99 yX7_character ∈ BIG := big_t 877 (by decide +kernel) (by decide +kernel)
theorem t_878 : Cond.instanceMethod yX7_character ∈ BIG := big_t 878 (by decide +kernel) (by decide +kernel)
theorem t_879 : Cond.selects RX7 yX7_character yX7_character ∈ BIG := big_t 879 (by decide +kernel) (by decide +kernel)
theorem t_886 : Cond.methodLink RL 103 yX7_append ∈ BIG := big_t 886 (by decide +kernel) (by decide +kernel)
theorem t_887 : Cond.instanceMethod yX7_append ∈ BIG := big_t 887 (by decide +kernel) (by decide +kernel)
theorem t_888 : Cond.selects RX7 yX7_append yX7_append ∈ BIG := big_t 888 (by decide +kernel) (by decide +kernel)
theorem t_909 : Cond.methodLink RL 109 yX7_read ∈ BIG := big_t 909 (by decide +kernel) (by decide +kernel)
theorem t_910 : Cond.instanceMethod yX7_read ∈ BIG := big_t 910 (by decide +kernel) (by decide +kernel)
theorem t_911 : Cond.selects RX7 yX7_read yX7_read ∈ BIG := big_t 911 (by decide +kernel) (by decide +kernel)
theorem t_916 : Cond.methodLink RL 112 yX7_errorPosition ∈ BIG := big_t 916 (by decide +kernel) (by decide +kernel)
theorem t_917 : Cond.instanceMethod yX7_errorPosition ∈ BIG := big_t 917 (by decide +kernel) (by decide +kernel)
theorem t_918 : Cond.selects RX7 yX7_errorPosition yX7_errorPosition ∈ BIG := big_t 918 (by decide +kernel) (by decide +kernel)
theorem t_924 : Cond.methodLink RL 115 yX7_refusal ∈ BIG := big_t 924 (by decide +kernel) (by decide +kernel)
theorem t_925 : Cond.instanceMethod yX7_refusal ∈ BIG := big_t 925 (by decide +kernel) (by decide +kernel)
theorem t_926 : Cond.selects RX7 yX7_refusal yX7_refusal ∈ BIG := big_t 926 (by decide +kernel) (by decide +kernel)
theorem t_932 : Cond.methodLink RL 119 yX7_account ∈ BIG := big_t 932 (by decide +kernel) (by decide +kernel)
theorem t_933 : Cond.instanceMethod yX7_account ∈ BIG := big_t 933 (by decide +kernel) (by decide +kernel)
theorem t_934 : Cond.selects RX7 yX7_account yX7_account ∈ BIG := big_t 934 (by decide +kernel) (by decide +kernel)
theorem t_949 : Cond.methodLink RL 122 yX7_undo ∈ BIG := big_t 949 (by decide +kernel) (by decide +kernel)
theorem t_950 : Cond.instanceMethod yX7_undo ∈ BIG := big_t 950 (by decide +kernel) (by decide +kernel)
theorem t_951 : Cond.selects RX7 yX7_undo yX7_undo ∈ BIG := big_t 951 (by decide +kernel) (by decide +kernel)
theorem t_961 : Cond.methodLink RL 125 yX7_restore ∈ BIG := big_t 961 (by decide +kernel) (by decide +kernel)
theorem t_962 : Cond.instanceMethod yX7_restore ∈ BIG := big_t 962 (by decide +kernel) (by decide +kernel)
theorem t_963 : Cond.selects RX7 yX7_restore yX7_restore ∈ BIG := big_t 963 (by decide +kernel) (by decide +kernel)
theorem t_327 : Cond.methodLink RL 132 yL_turn ∈ BIG := big_t 327 (by decide +kernel) (by decide +kernel)
theorem t_328 : Cond.static yL_turn ∈ BIG := big_t 328 (by decide +kernel) (by decide +kernel)
theorem t_0 : Cond.initialized RL ∈ BIG := big_t 0 (by decide +kernel) (by decide +kernel)
theorem t_1045 : Cond.methodLink RL 137 yX8_turn ∈ BIG := big_t 1045 (by decide +kernel) (by decide +kernel)
theorem t_1046 : Cond.instanceMethod yX8_turn ∈ BIG := big_t 1046 (by decide +kernel) (by decide +kernel)
theorem t_1047 : Cond.selects RX8 yX8_turn yX8_turn ∈ BIG := big_t 1047 (by decide +kernel) (by decide +kernel)
theorem t_9 : Cond.initialized RX8 ∈ BIG := big_t 9 (by decide +kernel) (by decide +kernel)
theorem t_1037 : Cond.methodLink RL 138 yX8_thrown ∈ BIG := big_t 1037 (by decide +kernel) (by decide +kernel)
theorem t_1038 : Cond.instanceMethod yX8_thrown ∈ BIG := big_t 1038 (by decide +kernel) (by decide +kernel)
theorem t_1039 : Cond.selects RX8 yX8_thrown yX8_thrown ∈ BIG := big_t 1039 (by decide +kernel) (by decide +kernel)
theorem t_470 : Cond.methodLink RL 141 yL_shift ∈ BIG := big_t 470 (by decide +kernel) (by decide +kernel)
theorem t_471 : Cond.static yL_shift ∈ BIG := big_t 471 (by decide +kernel) (by decide +kernel)
theorem t_1085 : Cond.methodLink RL 143 yX8_shift ∈ BIG := big_t 1085 (by decide +kernel) (by decide +kernel)
theorem t_1086 : Cond.instanceMethod yX8_shift ∈ BIG := big_t 1086 (by decide +kernel) (by decide +kernel)
theorem t_1087 : Cond.selects RX8 yX8_shift yX8_shift ∈ BIG := big_t 1087 (by decide +kernel) (by decide +kernel)
theorem t_477 : Cond.methodLink RL 144 yL_back ∈ BIG := big_t 477 (by decide +kernel) (by decide +kernel)
theorem t_478 : Cond.static yL_back ∈ BIG := big_t 478 (by decide +kernel) (by decide +kernel)
theorem t_1089 : Cond.methodLink RL 147 yX8_back ∈ BIG := big_t 1089 (by decide +kernel) (by decide +kernel)
theorem t_1090 : Cond.instanceMethod yX8_back ∈ BIG := big_t 1090 (by decide +kernel) (by decide +kernel)
theorem t_1091 : Cond.selects RX8 yX8_back yX8_back ∈ BIG := big_t 1091 (by decide +kernel) (by decide +kernel)
theorem t_512 : Cond.methodLink RL 148 yL_scramble ∈ BIG := big_t 512 (by decide +kernel) (by decide +kernel)
theorem t_513 : Cond.static yL_scramble ∈ BIG := big_t 513 (by decide +kernel) (by decide +kernel)
theorem t_1097 : Cond.methodLink RL 150 yX8_scramble ∈ BIG := big_t 1097 (by decide +kernel) (by decide +kernel)
theorem t_1098 : Cond.instanceMethod yX8_scramble ∈ BIG := big_t 1098 (by decide +kernel) (by decide +kernel)
theorem t_1099 : Cond.selects RX8 yX8_scramble yX8_scramble ∈ BIG := big_t 1099 (by decide +kernel) (by decide +kernel)
theorem t_520 : Cond.methodLink RL 151 yL_logOf ∈ BIG := big_t 520 (by decide +kernel) (by decide +kernel)
theorem t_521 : Cond.static yL_logOf ∈ BIG := big_t 521 (by decide +kernel) (by decide +kernel)
theorem t_1102 : Cond.methodLink RL 153 yX8_logOf ∈ BIG := big_t 1102 (by decide +kernel) (by decide +kernel)
theorem t_1103 : Cond.instanceMethod yX8_logOf ∈ BIG := big_t 1103 (by decide +kernel) (by decide +kernel)
theorem t_1104 : Cond.selects RX8 yX8_logOf yX8_logOf ∈ BIG := big_t 1104 (by decide +kernel) (by decide +kernel)
theorem t_527 : Cond.methodLink RL 154 yL_at ∈ BIG := big_t 527 (by decide +kernel) (by decide +kernel)
theorem t_528 : Cond.static yL_at ∈ BIG := big_t 528 (by decide +kernel) (by decide +kernel)
theorem t_1106 : Cond.methodLink RL 157 yX8_at ∈ BIG := big_t 1106 (by decide +kernel) (by decide +kernel)
theorem t_1107 : Cond.instanceMethod yX8_at ∈ BIG := big_t 1107 (by decide +kernel) (by decide +kernel)
theorem t_1108 : Cond.selects RX8 yX8_at yX8_at ∈ BIG := big_t 1108 (by decide +kernel) (by decide +kernel)
theorem t_538 : Cond.methodLink RL 158 yL_where ∈ BIG := big_t 538 (by decide +kernel) (by decide +kernel)
theorem t_539 : Cond.static yL_where ∈ BIG := big_t 539 (by decide +kernel) (by decide +kernel)
theorem t_1113 : Cond.methodLink RL 160 yX8_where ∈ BIG := big_t 1113 (by decide +kernel) (by decide +kernel)
theorem t_1114 : Cond.instanceMethod yX8_where ∈ BIG := big_t 1114 (by decide +kernel) (by decide +kernel)
theorem t_1115 : Cond.selects RX8 yX8_where yX8_where ∈ BIG := big_t 1115 (by decide +kernel) (by decide +kernel)
theorem t_549 : Cond.methodLink RL 161 yL_paint ∈ BIG := big_t 549 (by decide +kernel) (by decide +kernel)
theorem t_550 : Cond.static yL_paint ∈ BIG := big_t 550 (by decide +kernel) (by decide +kernel)
theorem t_1121 : Cond.methodLink RL 163 yX8_paint ∈ BIG := big_t 1121 (by decide +kernel) (by decide +kernel)
theorem t_1122 : Cond.instanceMethod yX8_paint ∈ BIG := big_t 1122 (by decide +kernel) (by decide +kernel)
theorem t_1123 : Cond.selects RX8 yX8_paint yX8_paint ∈ BIG := big_t 1123 (by decide +kernel) (by decide +kernel)
theorem t_561 : Cond.methodLink RL 164 yL_colour ∈ BIG := big_t 561 (by decide +kernel) (by decide +kernel)
theorem t_562 : Cond.static yL_colour ∈ BIG := big_t 562 (by decide +kernel) (by decide +kernel)
theorem t_1125 : Cond.methodLink RL 166 yX8_colour ∈ BIG := big_t 1125 (by decide +kernel) (by decide +kernel)
theorem t_1126 : Cond.instanceMethod yX8_colour ∈ BIG := big_t 1126 (by decide +kernel) (by decide +kernel)
theorem t_1127 : Cond.selects RX8 yX8_colour yX8_colour ∈ BIG := big_t 1127 (by decide +kernel) (by decide +kernel)
theorem t_569 : Cond.methodLink RL 167 yL_isDone ∈ BIG := big_t 569 (by decide +kernel) (by decide +kernel)
theorem t_570 : Cond.static yL_isDone ∈ BIG := big_t 570 (by decide +kernel) (by decide +kernel)
theorem t_1133 : Cond.methodLink RL 169 yX8_isDone ∈ BIG := big_t 1133 (by decide +kernel) (by decide +kernel)
theorem t_1134 : Cond.instanceMethod yX8_isDone ∈ BIG := big_t 1134 (by decide +kernel) (by decide +kernel)
theorem t_1135 : Cond.selects RX8 yX8_isDone yX8_isDone ∈ BIG := big_t 1135 (by decide +kernel) (by decide +kernel)
theorem t_195 : Cond.methodLink RL 170 yX7_seams ∈ BIG := big_t 195 (by decide +kernel) (by decide +kernel)
theorem t_196 : Cond.instanceMethod yX7_seams ∈ BIG := big_t 196 (by decide +kernel) (by decide +kernel)
theorem t_197 : Cond.selects RX7 yX7_seams yX7_seams ∈ BIG := big_t 197 (by decide +kernel) (by decide +kernel)
theorem t_1141 : Cond.methodLink RL 173 yX8_seams ∈ BIG := big_t 1141 (by decide +kernel) (by decide +kernel)
theorem t_1142 : Cond.instanceMethod yX8_seams ∈ BIG := big_t 1142 (by decide +kernel) (by decide +kernel)
theorem t_1143 : Cond.selects RX8 yX8_seams yX8_seams ∈ BIG := big_t 1143 (by decide +kernel) (by decide +kernel)
theorem t_580 : Cond.methodLink RL 174 yL_fewest ∈ BIG := big_t 580 (by decide +kernel) (by decide +kernel)
theorem t_581 : Cond.static yL_fewest ∈ BIG := big_t 581 (by decide +kernel) (by decide +kernel)
theorem t_1149 : Cond.methodLink RL 176 yX8_fewest ∈ BIG := big_t 1149 (by decide +kernel) (by decide +kernel)
theorem t_1150 : Cond.instanceMethod yX8_fewest ∈ BIG := big_t 1150 (by decide +kernel) (by decide +kernel)
theorem t_1151 : Cond.selects RX8 yX8_fewest yX8_fewest ∈ BIG := big_t 1151 (by decide +kernel) (by decide +kernel)
theorem t_588 : Cond.methodLink RL 177 yL_learn ∈ BIG := big_t 588 (by decide +kernel) (by decide +kernel)
theorem t_589 : Cond.static yL_learn ∈ BIG := big_t 589 (by decide +kernel) (by decide +kernel)
theorem t_1212 : Cond.methodLink RL 179 yX8_learn ∈ BIG := big_t 1212 (by decide +kernel) (by decide +kernel)
theorem t_1213 : Cond.instanceMethod yX8_learn ∈ BIG := big_t 1213 (by decide +kernel) (by decide +kernel)
theorem t_1214 : Cond.selects RX8 yX8_learn yX8_learn ∈ BIG := big_t 1214 (by decide +kernel) (by decide +kernel)
theorem t_678 : Cond.methodLink RL 180 yL_use ∈ BIG := big_t 678 (by decide +kernel) (by decide +kernel)
theorem t_679 : Cond.static yL_use ∈ BIG := big_t 679 (by decide +kernel) (by decide +kernel)
theorem t_1227 : Cond.methodLink RL 182 yX8_use ∈ BIG := big_t 1227 (by decide +kernel) (by decide +kernel)
theorem t_1228 : Cond.instanceMethod yX8_use ∈ BIG := big_t 1228 (by decide +kernel) (by decide +kernel)
theorem t_1229 : Cond.selects RX8 yX8_use yX8_use ∈ BIG := big_t 1229 (by decide +kernel) (by decide +kernel)
theorem t_697 : Cond.methodLink RL 183 yL_join ∈ BIG := big_t 697 (by decide +kernel) (by decide +kernel)
theorem t_698 : Cond.static yL_join ∈ BIG := big_t 698 (by decide +kernel) (by decide +kernel)
theorem t_1235 : Cond.methodLink RL 186 yX8_join ∈ BIG := big_t 1235 (by decide +kernel) (by decide +kernel)
theorem t_1236 : Cond.instanceMethod yX8_join ∈ BIG := big_t 1236 (by decide +kernel) (by decide +kernel)
theorem t_1237 : Cond.selects RX8 yX8_join yX8_join ∈ BIG := big_t 1237 (by decide +kernel) (by decide +kernel)
theorem t_712 : Cond.methodLink RL 187 yL_invert ∈ BIG := big_t 712 (by decide +kernel) (by decide +kernel)
theorem t_713 : Cond.static yL_invert ∈ BIG := big_t 713 (by decide +kernel) (by decide +kernel)
theorem t_1239 : Cond.methodLink RL 189 yX8_invert ∈ BIG := big_t 1239 (by decide +kernel) (by decide +kernel)
theorem t_1240 : Cond.instanceMethod yX8_invert ∈ BIG := big_t 1240 (by decide +kernel) (by decide +kernel)
theorem t_1241 : Cond.selects RX8 yX8_invert yX8_invert ∈ BIG := big_t 1241 (by decide +kernel) (by decide +kernel)
theorem t_719 : Cond.methodLink RL 190 yL_commute ∈ BIG := big_t 719 (by decide +kernel) (by decide +kernel)
theorem t_720 : Cond.static yL_commute ∈ BIG := big_t 720 (by decide +kernel) (by decide +kernel)
theorem t_1243 : Cond.methodLink RL 192 yX8_commute ∈ BIG := big_t 1243 (by decide +kernel) (by decide +kernel)
theorem t_1244 : Cond.instanceMethod yX8_commute ∈ BIG := big_t 1244 (by decide +kernel) (by decide +kernel)
theorem t_1245 : Cond.selects RX8 yX8_commute yX8_commute ∈ BIG := big_t 1245 (by decide +kernel) (by decide +kernel)
theorem t_727 : Cond.methodLink RL 193 yL_forget ∈ BIG := big_t 727 (by decide +kernel) (by decide +kernel)
theorem t_728 : Cond.static yL_forget ∈ BIG := big_t 728 (by decide +kernel) (by decide +kernel)
theorem t_1247 : Cond.methodLink RL 195 yX8_forget ∈ BIG := big_t 1247 (by decide +kernel) (by decide +kernel)
theorem t_1248 : Cond.instanceMethod yX8_forget ∈ BIG := big_t 1248 (by decide +kernel) (by decide +kernel)
theorem t_1249 : Cond.selects RX8 yX8_forget yX8_forget ∈ BIG := big_t 1249 (by decide +kernel) (by decide +kernel)
theorem t_742 : Cond.methodLink RL 196 yL_goesTo ∈ BIG := big_t 742 (by decide +kernel) (by decide +kernel)
theorem t_743 : Cond.static yL_goesTo ∈ BIG := big_t 743 (by decide +kernel) (by decide +kernel)
theorem t_1255 : Cond.methodLink RL 198 yX8_goesTo ∈ BIG := big_t 1255 (by decide +kernel) (by decide +kernel)
theorem t_1256 : Cond.instanceMethod yX8_goesTo ∈ BIG := big_t 1256 (by decide +kernel) (by decide +kernel)
theorem t_1257 : Cond.selects RX8 yX8_goesTo yX8_goesTo ∈ BIG := big_t 1257 (by decide +kernel) (by decide +kernel)
theorem t_771 : Cond.methodLink RL 199 yL_shelfOf ∈ BIG := big_t 771 (by decide +kernel) (by decide +kernel)
theorem t_772 : Cond.static yL_shelfOf ∈ BIG := big_t 772 (by decide +kernel) (by decide +kernel)
theorem t_1263 : Cond.methodLink RL 201 yX8_shelfOf ∈ BIG := big_t 1263 (by decide +kernel) (by decide +kernel)
theorem t_1264 : Cond.instanceMethod yX8_shelfOf ∈ BIG := big_t 1264 (by decide +kernel) (by decide +kernel)
theorem t_1265 : Cond.selects RX8 yX8_shelfOf yX8_shelfOf ∈ BIG := big_t 1265 (by decide +kernel) (by decide +kernel)
theorem t_805 : Cond.methodLink RL 202 yL_orderAgain ∈ BIG := big_t 805 (by decide +kernel) (by decide +kernel)
theorem t_806 : Cond.static yL_orderAgain ∈ BIG := big_t 806 (by decide +kernel) (by decide +kernel)
theorem t_1283 : Cond.methodLink RL 204 yX8_orderAgain ∈ BIG := big_t 1283 (by decide +kernel) (by decide +kernel)
theorem t_1284 : Cond.instanceMethod yX8_orderAgain ∈ BIG := big_t 1284 (by decide +kernel) (by decide +kernel)
theorem t_1285 : Cond.selects RX8 yX8_orderAgain yX8_orderAgain ∈ BIG := big_t 1285 (by decide +kernel) (by decide +kernel)
theorem t_818 : Cond.methodLink RL 205 yL_isEven ∈ BIG := big_t 818 (by decide +kernel) (by decide +kernel)
theorem t_819 : Cond.static yL_isEven ∈ BIG := big_t 819 (by decide +kernel) (by decide +kernel)
theorem t_1287 : Cond.methodLink RL 208 yX8_isEven ∈ BIG := big_t 1287 (by decide +kernel) (by decide +kernel)
theorem t_1288 : Cond.instanceMethod yX8_isEven ∈ BIG := big_t 1288 (by decide +kernel) (by decide +kernel)
theorem t_1289 : Cond.selects RX8 yX8_isEven yX8_isEven ∈ BIG := big_t 1289 (by decide +kernel) (by decide +kernel)
theorem t_834 : Cond.methodLink RL 209 yL_cycle ∈ BIG := big_t 834 (by decide +kernel) (by decide +kernel)
theorem t_835 : Cond.static yL_cycle ∈ BIG := big_t 835 (by decide +kernel) (by decide +kernel)
theorem t_1291 : Cond.methodLink RL 211 yX8_cycle ∈ BIG := big_t 1291 (by decide +kernel) (by decide +kernel)
theorem t_1292 : Cond.instanceMethod yX8_cycle ∈ BIG := big_t 1292 (by decide +kernel) (by decide +kernel)
theorem t_1293 : Cond.selects RX8 yX8_cycle yX8_cycle ∈ BIG := big_t 1293 (by decide +kernel) (by decide +kernel)
theorem t_842 : Cond.methodLink RL 212 yL_commutes ∈ BIG := big_t 842 (by decide +kernel) (by decide +kernel)
theorem t_843 : Cond.static yL_commutes ∈ BIG := big_t 843 (by decide +kernel) (by decide +kernel)
theorem t_1295 : Cond.methodLink RL 214 yX8_commutes ∈ BIG := big_t 1295 (by decide +kernel) (by decide +kernel)
theorem t_1296 : Cond.instanceMethod yX8_commutes ∈ BIG := big_t 1296 (by decide +kernel) (by decide +kernel)
theorem t_1297 : Cond.selects RX8 yX8_commutes yX8_commutes ∈ BIG := big_t 1297 (by decide +kernel) (by decide +kernel)
theorem t_853 : Cond.methodLink RL 215 yL_line ∈ BIG := big_t 853 (by decide +kernel) (by decide +kernel)
theorem t_854 : Cond.static yL_line ∈ BIG := big_t 854 (by decide +kernel) (by decide +kernel)
theorem t_1299 : Cond.methodLink RL 217 yX8_line ∈ BIG := big_t 1299 (by decide +kernel) (by decide +kernel)
theorem t_1300 : Cond.instanceMethod yX8_line ∈ BIG := big_t 1300 (by decide +kernel) (by decide +kernel)
theorem t_1301 : Cond.selects RX8 yX8_line yX8_line ∈ BIG := big_t 1301 (by decide +kernel) (by decide +kernel)
theorem t_218 : Cond.methodLink RL 218 yX7_logLine ∈ BIG := big_t 218 (by decide +kernel) (by decide +kernel)
theorem t_219 : Cond.instanceMethod yX7_logLine ∈ BIG := big_t 219 (by decide +kernel) (by decide +kernel)
theorem t_220 : Cond.selects RX7 yX7_logLine yX7_logLine ∈ BIG := big_t 220 (by decide +kernel) (by decide +kernel)
theorem t_1311 : Cond.methodLink RL 221 yX8_logLine ∈ BIG := big_t 1311 (by decide +kernel) (by decide +kernel)
theorem t_1312 : Cond.instanceMethod yX8_logLine ∈ BIG := big_t 1312 (by decide +kernel) (by decide +kernel)
theorem t_1313 : Cond.selects RX8 yX8_logLine yX8_logLine ∈ BIG := big_t 1313 (by decide +kernel) (by decide +kernel)
theorem t_860 : Cond.methodLink RL 222 yL_cycleLine ∈ BIG := big_t 860 (by decide +kernel) (by decide +kernel)
theorem t_861 : Cond.static yL_cycleLine ∈ BIG := big_t 861 (by decide +kernel) (by decide +kernel)
theorem t_1315 : Cond.methodLink RL 224 yX8_cycleLine ∈ BIG := big_t 1315 (by decide +kernel) (by decide +kernel)
theorem t_1316 : Cond.instanceMethod yX8_cycleLine ∈ BIG := big_t 1316 (by decide +kernel) (by decide +kernel)
theorem t_1317 : Cond.selects RX8 yX8_cycleLine yX8_cycleLine ∈ BIG := big_t 1317 (by decide +kernel) (by decide +kernel)
theorem t_874 : Cond.methodLink RL 225 yL_character ∈ BIG := big_t 874 (by decide +kernel) (by decide +kernel)
theorem t_875 : Cond.static yL_character ∈ BIG := big_t 875 (by decide +kernel) (by decide +kernel)
theorem t_1319 : Cond.methodLink RL 227 yX8_character ∈ BIG := big_t 1319 (by decide +kernel) (by decide +kernel)
theorem t_1320 : Cond.instanceMethod yX8_character ∈ BIG := big_t 1320 (by decide +kernel) (by decide +kernel)
theorem t_1321 : Cond.selects RX8 yX8_character yX8_character ∈ BIG := big_t 1321 (by decide +kernel) (by decide +kernel)
theorem t_882 : Cond.methodLink RL 228 yL_append ∈ BIG := big_t 882 (by decide +kernel) (by decide +kernel)
theorem t_883 : Cond.static yL_append ∈ BIG := big_t 883 (by decide +kernel) (by decide +kernel)
theorem t_1156 : Cond.methodLink RL 231 yX8_append ∈ BIG := big_t 1156 (by decide +kernel) (by decide +kernel)
theorem t_1157 : Cond.instanceMethod yX8_append ∈ BIG := big_t 1157 (by decide +kernel) (by decide +kernel)
theorem t_1158 : Cond.selects RX8 yX8_append yX8_append ∈ BIG := big_t 1158 (by decide +kernel) (by decide +kernel)
theorem t_906 : Cond.methodLink RL 232 yL_read ∈ BIG := big_t 906 (by decide +kernel) (by decide +kernel)
theorem t_907 : Cond.static yL_read ∈ BIG := big_t 907 (by decide +kernel) (by decide +kernel)
theorem t_1160 : Cond.methodLink RL 234 yX8_read ∈ BIG := big_t 1160 (by decide +kernel) (by decide +kernel)
theorem t_1161 : Cond.instanceMethod yX8_read ∈ BIG := big_t 1161 (by decide +kernel) (by decide +kernel)
theorem t_1162 : Cond.selects RX8 yX8_read yX8_read ∈ BIG := big_t 1162 (by decide +kernel) (by decide +kernel)
theorem t_913 : Cond.methodLink RL 235 yL_errorPosition ∈ BIG := big_t 913 (by decide +kernel) (by decide +kernel)
theorem t_914 : Cond.static yL_errorPosition ∈ BIG := big_t 914 (by decide +kernel) (by decide +kernel)
theorem t_1208 : Cond.methodLink RL 237 yX8_errorPosition ∈ BIG := big_t 1208 (by decide +kernel) (by decide +kernel)
theorem t_1209 : Cond.instanceMethod yX8_errorPosition ∈ BIG := big_t 1209 (by decide +kernel) (by decide +kernel)
theorem t_1210 : Cond.selects RX8 yX8_errorPosition yX8_errorPosition ∈ BIG := big_t 1210 (by decide +kernel) (by decide +kernel)
theorem t_921 : Cond.methodLink RL 238 yL_refusal ∈ BIG := big_t 921 (by decide +kernel) (by decide +kernel)
theorem t_922 : Cond.static yL_refusal ∈ BIG := big_t 922 (by decide +kernel) (by decide +kernel)
theorem t_1041 : Cond.methodLink RL 241 yX8_refusal ∈ BIG := big_t 1041 (by decide +kernel) (by decide +kernel)
theorem t_1042 : Cond.instanceMethod yX8_refusal ∈ BIG := big_t 1042 (by decide +kernel) (by decide +kernel)
theorem t_1043 : Cond.selects RX8 yX8_refusal yX8_refusal ∈ BIG := big_t 1043 (by decide +kernel) (by decide +kernel)
theorem t_929 : Cond.methodLink RL 242 yL_account ∈ BIG := big_t 929 (by decide +kernel) (by decide +kernel)
theorem t_930 : Cond.static yL_account ∈ BIG := big_t 930 (by decide +kernel) (by decide +kernel)
theorem t_1323 : Cond.methodLink RL 244 yX8_account ∈ BIG := big_t 1323 (by decide +kernel) (by decide +kernel)
theorem t_1324 : Cond.instanceMethod yX8_account ∈ BIG := big_t 1324 (by decide +kernel) (by decide +kernel)
theorem t_1325 : Cond.selects RX8 yX8_account yX8_account ∈ BIG := big_t 1325 (by decide +kernel) (by decide +kernel)
theorem t_248 : Cond.methodLink RL 245 yX7_isWell ∈ BIG := big_t 248 (by decide +kernel) (by decide +kernel)
theorem t_249 : Cond.instanceMethod yX7_isWell ∈ BIG := big_t 249 (by decide +kernel) (by decide +kernel)
theorem t_250 : Cond.selects RX7 yX7_isWell yX7_isWell ∈ BIG := big_t 250 (by decide +kernel) (by decide +kernel)
theorem t_1331 : Cond.methodLink RL 249 yX8_isWell ∈ BIG := big_t 1331 (by decide +kernel) (by decide +kernel)
theorem t_1332 : Cond.instanceMethod yX8_isWell ∈ BIG := big_t 1332 (by decide +kernel) (by decide +kernel)
theorem t_1333 : Cond.selects RX8 yX8_isWell yX8_isWell ∈ BIG := big_t 1333 (by decide +kernel) (by decide +kernel)
theorem t_285 : Cond.methodLink RL 250 yX7_meanAway ∈ BIG := big_t 285 (by decide +kernel) (by decide +kernel)
theorem t_286 : Cond.instanceMethod yX7_meanAway ∈ BIG := big_t 286 (by decide +kernel) (by decide +kernel)
theorem t_287 : Cond.selects RX7 yX7_meanAway yX7_meanAway ∈ BIG := big_t 287 (by decide +kernel) (by decide +kernel)
theorem t_1335 : Cond.methodLink RL 254 yX8_meanAway ∈ BIG := big_t 1335 (by decide +kernel) (by decide +kernel)
theorem t_1336 : Cond.instanceMethod yX8_meanAway ∈ BIG := big_t 1336 (by decide +kernel) (by decide +kernel)
theorem t_1337 : Cond.selects RX8 yX8_meanAway yX8_meanAway ∈ BIG := big_t 1337 (by decide +kernel) (by decide +kernel)
theorem t_297 : Cond.methodLink RL 255 yX7_seamShare ∈ BIG := big_t 297 (by decide +kernel) (by decide +kernel)
theorem t_298 : Cond.instanceMethod yX7_seamShare ∈ BIG := big_t 298 (by decide +kernel) (by decide +kernel)
theorem t_299 : Cond.selects RX7 yX7_seamShare yX7_seamShare ∈ BIG := big_t 299 (by decide +kernel) (by decide +kernel)
theorem t_1340 : Cond.methodLink RL 259 yX8_seamShare ∈ BIG := big_t 1340 (by decide +kernel) (by decide +kernel)
theorem t_1341 : Cond.instanceMethod yX8_seamShare ∈ BIG := big_t 1341 (by decide +kernel) (by decide +kernel)
theorem t_1342 : Cond.selects RX8 yX8_seamShare yX8_seamShare ∈ BIG := big_t 1342 (by decide +kernel) (by decide +kernel)
theorem t_946 : Cond.methodLink RL 260 yL_undo ∈ BIG := big_t 946 (by decide +kernel) (by decide +kernel)
theorem t_947 : Cond.static yL_undo ∈ BIG := big_t 947 (by decide +kernel) (by decide +kernel)
theorem t_1345 : Cond.methodLink RL 262 yX8_undo ∈ BIG := big_t 1345 (by decide +kernel) (by decide +kernel)
theorem t_1346 : Cond.instanceMethod yX8_undo ∈ BIG := big_t 1346 (by decide +kernel) (by decide +kernel)
theorem t_1347 : Cond.selects RX8 yX8_undo yX8_undo ∈ BIG := big_t 1347 (by decide +kernel) (by decide +kernel)
theorem t_302 : Cond.methodLink RL 263 yX7_save ∈ BIG := big_t 302 (by decide +kernel) (by decide +kernel)
theorem t_303 : Cond.instanceMethod yX7_save ∈ BIG := big_t 303 (by decide +kernel) (by decide +kernel)
theorem t_304 : Cond.selects RX7 yX7_save yX7_save ∈ BIG := big_t 304 (by decide +kernel) (by decide +kernel)
theorem t_1349 : Cond.methodLink RL 266 yX8_save ∈ BIG := big_t 1349 (by decide +kernel) (by decide +kernel)
theorem t_1350 : Cond.instanceMethod yX8_save ∈ BIG := big_t 1350 (by decide +kernel) (by decide +kernel)
theorem t_1351 : Cond.selects RX8 yX8_save yX8_save ∈ BIG := big_t 1351 (by decide +kernel) (by decide +kernel)
theorem t_958 : Cond.methodLink RL 267 yL_restore ∈ BIG := big_t 958 (by decide +kernel) (by decide +kernel)
theorem t_959 : Cond.static yL_restore ∈ BIG := big_t 959 (by decide +kernel) (by decide +kernel)
theorem t_1353 : Cond.methodLink RL 269 yX8_restore ∈ BIG := big_t 1353 (by decide +kernel) (by decide +kernel)
theorem t_1354 : Cond.instanceMethod yX8_restore ∈ BIG := big_t 1354 (by decide +kernel) (by decide +kernel)
theorem t_1355 : Cond.selects RX8 yX8_restore yX8_restore ∈ BIG := big_t 1355 (by decide +kernel) (by decide +kernel)
theorem t_1073 : Cond.methodLink RX8 63 yX8_nothing ∈ BIG := big_t 1073 (by decide +kernel) (by decide +kernel)
theorem t_1075 : Cond.instanceMethod yX8_nothing ∈ BIG := big_t 1075 (by decide +kernel) (by decide +kernel)
theorem s_24 : Cond.selects RX8 yX8_nothing yX8_nothing ∈ BIG := big_s 24 (by decide +kernel) (by decide +kernel)
theorem t_1196 : Cond.methodLink RX8 67 yX8_then ∈ BIG := big_t 1196 (by decide +kernel) (by decide +kernel)
theorem t_1198 : Cond.instanceMethod yX8_then ∈ BIG := big_t 1198 (by decide +kernel) (by decide +kernel)
theorem s_40 : Cond.selects RX8 yX8_then yX8_then ∈ BIG := big_s 40 (by decide +kernel) (by decide +kernel)
theorem t_1192 : Cond.methodLink RX8 71 yX8_times ∈ BIG := big_t 1192 (by decide +kernel) (by decide +kernel)
theorem t_1194 : Cond.instanceMethod yX8_times ∈ BIG := big_t 1194 (by decide +kernel) (by decide +kernel)
theorem s_39 : Cond.selects RX8 yX8_times yX8_times ∈ BIG := big_s 39 (by decide +kernel) (by decide +kernel)
theorem t_1204 : Cond.methodLink RX8 75 yX8_inverse ∈ BIG := big_t 1204 (by decide +kernel) (by decide +kernel)
theorem t_1206 : Cond.instanceMethod yX8_inverse ∈ BIG := big_t 1206 (by decide +kernel) (by decide +kernel)
theorem s_42 : Cond.selects RX8 yX8_inverse yX8_inverse ∈ BIG := big_s 42 (by decide +kernel) (by decide +kernel)
theorem t_1223 : Cond.methodLink RX8 79 yX8_movedBy ∈ BIG := big_t 1223 (by decide +kernel) (by decide +kernel)
theorem t_1225 : Cond.instanceMethod yX8_movedBy ∈ BIG := big_t 1225 (by decide +kernel) (by decide +kernel)
theorem s_44 : Cond.selects RX8 yX8_movedBy yX8_movedBy ∈ BIG := big_s 44 (by decide +kernel) (by decide +kernel)
theorem t_1069 : Cond.methodLink RX8 82 yX8_move ∈ BIG := big_t 1069 (by decide +kernel) (by decide +kernel)
theorem t_1071 : Cond.instanceMethod yX8_move ∈ BIG := big_t 1071 (by decide +kernel) (by decide +kernel)
theorem s_23 : Cond.selects RX8 yX8_move yX8_move ∈ BIG := big_s 23 (by decide +kernel) (by decide +kernel)
theorem t_1077 : Cond.methodLink RX8 86 yX8_does ∈ BIG := big_t 1077 (by decide +kernel) (by decide +kernel)
theorem t_1079 : Cond.instanceMethod yX8_does ∈ BIG := big_t 1079 (by decide +kernel) (by decide +kernel)
theorem s_25 : Cond.selects RX8 yX8_does yX8_does ∈ BIG := big_s 25 (by decide +kernel) (by decide +kernel)
theorem t_1049 : Cond.methodLink RX8 90 yX8_keep ∈ BIG := big_t 1049 (by decide +kernel) (by decide +kernel)
theorem t_1051 : Cond.instanceMethod yX8_keep ∈ BIG := big_t 1051 (by decide +kernel) (by decide +kernel)
theorem s_19 : Cond.selects RX8 yX8_keep yX8_keep ∈ BIG := big_s 19 (by decide +kernel) (by decide +kernel)
theorem t_1054 : Cond.methodLink RX8 93 yX8_in ∈ BIG := big_t 1054 (by decide +kernel) (by decide +kernel)
theorem t_1055 : Cond.static yX8_in ∈ BIG := big_t 1055 (by decide +kernel) (by decide +kernel)
theorem t_1057 : Cond.methodLink RX8 97 yX8_fails ∈ BIG := big_t 1057 (by decide +kernel) (by decide +kernel)
theorem t_1059 : Cond.instanceMethod yX8_fails ∈ BIG := big_t 1059 (by decide +kernel) (by decide +kernel)
theorem s_20 : Cond.selects RX8 yX8_fails yX8_fails ∈ BIG := big_s 20 (by decide +kernel) (by decide +kernel)
theorem t_1061 : Cond.methodLink RX8 100 yX8_ends ∈ BIG := big_t 1061 (by decide +kernel) (by decide +kernel)
theorem t_1063 : Cond.instanceMethod yX8_ends ∈ BIG := big_t 1063 (by decide +kernel) (by decide +kernel)
theorem s_21 : Cond.selects RX8 yX8_ends yX8_ends ∈ BIG := big_s 21 (by decide +kernel) (by decide +kernel)
theorem t_1065 : Cond.methodLink RX8 103 yX8_moves ∈ BIG := big_t 1065 (by decide +kernel) (by decide +kernel)
theorem t_1067 : Cond.instanceMethod yX8_moves ∈ BIG := big_t 1067 (by decide +kernel) (by decide +kernel)
theorem s_22 : Cond.selects RX8 yX8_moves yX8_moves ∈ BIG := big_s 22 (by decide +kernel) (by decide +kernel)
theorem t_1081 : Cond.methodLink RX8 107 yX8_home ∈ BIG := big_t 1081 (by decide +kernel) (by decide +kernel)
theorem t_1083 : Cond.instanceMethod yX8_home ∈ BIG := big_t 1083 (by decide +kernel) (by decide +kernel)
theorem s_26 : Cond.selects RX8 yX8_home yX8_home ∈ BIG := big_s 26 (by decide +kernel) (by decide +kernel)
theorem t_1093 : Cond.methodLink RX8 110 yX8_refuse ∈ BIG := big_t 1093 (by decide +kernel) (by decide +kernel)
theorem t_1095 : Cond.instanceMethod yX8_refuse ∈ BIG := big_t 1095 (by decide +kernel) (by decide +kernel)
theorem s_27 : Cond.selects RX8 yX8_refuse yX8_refuse ∈ BIG := big_s 27 (by decide +kernel) (by decide +kernel)
theorem t_1110 : Cond.methodLink RX8 115 yX8_isSlot ∈ BIG := big_t 1110 (by decide +kernel) (by decide +kernel)
theorem t_1111 : Cond.static yX8_isSlot ∈ BIG := big_t 1111 (by decide +kernel) (by decide +kernel)
theorem t_1117 : Cond.methodLink RX8 119 yX8_slotOf ∈ BIG := big_t 1117 (by decide +kernel) (by decide +kernel)
theorem t_1119 : Cond.instanceMethod yX8_slotOf ∈ BIG := big_t 1119 (by decide +kernel) (by decide +kernel)
theorem s_28 : Cond.selects RX8 yX8_slotOf yX8_slotOf ∈ BIG := big_s 28 (by decide +kernel) (by decide +kernel)
theorem t_1129 : Cond.methodLink RX8 122 yX8_colourIn ∈ BIG := big_t 1129 (by decide +kernel) (by decide +kernel)
theorem t_1131 : Cond.instanceMethod yX8_colourIn ∈ BIG := big_t 1131 (by decide +kernel) (by decide +kernel)
theorem s_29 : Cond.selects RX8 yX8_colourIn yX8_colourIn ∈ BIG := big_s 29 (by decide +kernel) (by decide +kernel)
theorem t_1137 : Cond.methodLink RX8 125 yX8_isOne ∈ BIG := big_t 1137 (by decide +kernel) (by decide +kernel)
theorem t_1139 : Cond.instanceMethod yX8_isOne ∈ BIG := big_t 1139 (by decide +kernel) (by decide +kernel)
theorem s_30 : Cond.selects RX8 yX8_isOne yX8_isOne ∈ BIG := big_s 30 (by decide +kernel) (by decide +kernel)
theorem t_1145 : Cond.methodLink RX8 128 yX8_seamMany ∈ BIG := big_t 1145 (by decide +kernel) (by decide +kernel)
theorem t_1147 : Cond.instanceMethod yX8_seamMany ∈ BIG := big_t 1147 (by decide +kernel) (by decide +kernel)
theorem s_31 : Cond.selects RX8 yX8_seamMany yX8_seamMany ∈ BIG := big_s 31 (by decide +kernel) (by decide +kernel)
theorem t_1153 : Cond.methodLink RX8 131 yX8_apart ∈ BIG := big_t 1153 (by decide +kernel) (by decide +kernel)
theorem t_1154 : Cond.static yX8_apart ∈ BIG := big_t 1154 (by decide +kernel) (by decide +kernel)
theorem t_1176 : Cond.methodLink RX8 144 yX8_isHere ∈ BIG := big_t 1176 (by decide +kernel) (by decide +kernel)
theorem t_1178 : Cond.instanceMethod yX8_isHere ∈ BIG := big_t 1178 (by decide +kernel) (by decide +kernel)
theorem s_35 : Cond.selects RX8 yX8_isHere yX8_isHere ∈ BIG := big_s 35 (by decide +kernel) (by decide +kernel)
theorem t_1172 : Cond.methodLink RX8 148 yX8_isItem ∈ BIG := big_t 1172 (by decide +kernel) (by decide +kernel)
theorem t_1174 : Cond.instanceMethod yX8_isItem ∈ BIG := big_t 1174 (by decide +kernel) (by decide +kernel)
theorem s_34 : Cond.selects RX8 yX8_isItem yX8_isItem ∈ BIG := big_s 34 (by decide +kernel) (by decide +kernel)
theorem t_1180 : Cond.methodLink RX8 152 yX8_item ∈ BIG := big_t 1180 (by decide +kernel) (by decide +kernel)
theorem t_1182 : Cond.instanceMethod yX8_item ∈ BIG := big_t 1182 (by decide +kernel) (by decide +kernel)
theorem s_36 : Cond.selects RX8 yX8_item yX8_item ∈ BIG := big_s 36 (by decide +kernel) (by decide +kernel)
theorem t_1184 : Cond.methodLink RX8 155 yX8_sign ∈ BIG := big_t 1184 (by decide +kernel) (by decide +kernel)
theorem t_1186 : Cond.instanceMethod yX8_sign ∈ BIG := big_t 1186 (by decide +kernel) (by decide +kernel)
theorem s_37 : Cond.selects RX8 yX8_sign yX8_sign ∈ BIG := big_s 37 (by decide +kernel) (by decide +kernel)
theorem t_1188 : Cond.methodLink RX8 159 yX8_ofShelf ∈ BIG := big_t 1188 (by decide +kernel) (by decide +kernel)
theorem t_1190 : Cond.instanceMethod yX8_ofShelf ∈ BIG := big_t 1190 (by decide +kernel) (by decide +kernel)
theorem s_38 : Cond.selects RX8 yX8_ofShelf yX8_ofShelf ∈ BIG := big_s 38 (by decide +kernel) (by decide +kernel)
theorem t_1168 : Cond.methodLink RX8 162 yX8_sequence ∈ BIG := big_t 1168 (by decide +kernel) (by decide +kernel)
theorem t_1170 : Cond.instanceMethod yX8_sequence ∈ BIG := big_t 1170 (by decide +kernel) (by decide +kernel)
theorem s_33 : Cond.selects RX8 yX8_sequence yX8_sequence ∈ BIG := big_s 33 (by decide +kernel) (by decide +kernel)
theorem t_1200 : Cond.methodLink RX8 165 yX8_commutator ∈ BIG := big_t 1200 (by decide +kernel) (by decide +kernel)
theorem t_1202 : Cond.instanceMethod yX8_commutator ∈ BIG := big_t 1202 (by decide +kernel) (by decide +kernel)
theorem s_41 : Cond.selects RX8 yX8_commutator yX8_commutator ∈ BIG := big_s 41 (by decide +kernel) (by decide +kernel)
theorem t_1164 : Cond.methodLink RX8 168 yX8_readsText ∈ BIG := big_t 1164 (by decide +kernel) (by decide +kernel)
theorem t_1166 : Cond.instanceMethod yX8_readsText ∈ BIG := big_t 1166 (by decide +kernel) (by decide +kernel)
theorem s_32 : Cond.selects RX8 yX8_readsText yX8_readsText ∈ BIG := big_s 32 (by decide +kernel) (by decide +kernel)
theorem t_1216 : Cond.methodLink RX8 171 yX8_isShelf ∈ BIG := big_t 1216 (by decide +kernel) (by decide +kernel)
theorem t_1217 : Cond.static yX8_isShelf ∈ BIG := big_t 1217 (by decide +kernel) (by decide +kernel)
theorem t_1219 : Cond.methodLink RX8 174 yX8_puts ∈ BIG := big_t 1219 (by decide +kernel) (by decide +kernel)
theorem t_1221 : Cond.instanceMethod yX8_puts ∈ BIG := big_t 1221 (by decide +kernel) (by decide +kernel)
theorem s_43 : Cond.selects RX8 yX8_puts yX8_puts ∈ BIG := big_s 43 (by decide +kernel) (by decide +kernel)
theorem t_1231 : Cond.methodLink RX8 177 yX8_isEmpty ∈ BIG := big_t 1231 (by decide +kernel) (by decide +kernel)
theorem t_1233 : Cond.instanceMethod yX8_isEmpty ∈ BIG := big_t 1233 (by decide +kernel) (by decide +kernel)
theorem s_45 : Cond.selects RX8 yX8_isEmpty yX8_isEmpty ∈ BIG := big_s 45 (by decide +kernel) (by decide +kernel)
theorem t_1251 : Cond.methodLink RX8 180 yX8_filledMany ∈ BIG := big_t 1251 (by decide +kernel) (by decide +kernel)
theorem t_1253 : Cond.instanceMethod yX8_filledMany ∈ BIG := big_t 1253 (by decide +kernel) (by decide +kernel)
theorem s_46 : Cond.selects RX8 yX8_filledMany yX8_filledMany ∈ BIG := big_s 46 (by decide +kernel) (by decide +kernel)
theorem t_1259 : Cond.methodLink RX8 183 yX8_goes ∈ BIG := big_t 1259 (by decide +kernel) (by decide +kernel)
theorem t_1261 : Cond.instanceMethod yX8_goes ∈ BIG := big_t 1261 (by decide +kernel) (by decide +kernel)
theorem s_47 : Cond.selects RX8 yX8_goes yX8_goes ∈ BIG := big_s 47 (by decide +kernel) (by decide +kernel)
theorem t_1280 : Cond.methodLink RX8 186 yX8_common ∈ BIG := big_t 1280 (by decide +kernel) (by decide +kernel)
theorem t_1281 : Cond.static yX8_common ∈ BIG := big_t 1281 (by decide +kernel) (by decide +kernel)
theorem t_1267 : Cond.methodLink RX8 189 yX8_cycleOf ∈ BIG := big_t 1267 (by decide +kernel) (by decide +kernel)
theorem t_1269 : Cond.instanceMethod yX8_cycleOf ∈ BIG := big_t 1269 (by decide +kernel) (by decide +kernel)
theorem s_48 : Cond.selects RX8 yX8_cycleOf yX8_cycleOf ∈ BIG := big_s 48 (by decide +kernel) (by decide +kernel)
theorem t_1271 : Cond.methodLink RX8 192 yX8_isLowest ∈ BIG := big_t 1271 (by decide +kernel) (by decide +kernel)
theorem t_1273 : Cond.instanceMethod yX8_isLowest ∈ BIG := big_t 1273 (by decide +kernel) (by decide +kernel)
theorem s_49 : Cond.selects RX8 yX8_isLowest yX8_isLowest ∈ BIG := big_s 49 (by decide +kernel) (by decide +kernel)
theorem t_1276 : Cond.methodLink RX8 201 yX8_order ∈ BIG := big_t 1276 (by decide +kernel) (by decide +kernel)
theorem t_1278 : Cond.instanceMethod yX8_order ∈ BIG := big_t 1278 (by decide +kernel) (by decide +kernel)
theorem s_50 : Cond.selects RX8 yX8_order yX8_order ∈ BIG := big_s 50 (by decide +kernel) (by decide +kernel)
theorem t_1303 : Cond.methodLink RX8 207 yX8_saysNumber ∈ BIG := big_t 1303 (by decide +kernel) (by decide +kernel)
theorem t_1305 : Cond.instanceMethod yX8_saysNumber ∈ BIG := big_t 1305 (by decide +kernel) (by decide +kernel)
theorem s_51 : Cond.selects RX8 yX8_saysNumber yX8_saysNumber ∈ BIG := big_s 51 (by decide +kernel) (by decide +kernel)
theorem t_1307 : Cond.methodLink RX8 210 yX8_says ∈ BIG := big_t 1307 (by decide +kernel) (by decide +kernel)
theorem t_1309 : Cond.instanceMethod yX8_says ∈ BIG := big_t 1309 (by decide +kernel) (by decide +kernel)
theorem s_52 : Cond.selects RX8 yX8_says yX8_says ∈ BIG := big_s 52 (by decide +kernel) (by decide +kernel)
theorem t_1327 : Cond.methodLink RX8 214 yX8_doneMany ∈ BIG := big_t 1327 (by decide +kernel) (by decide +kernel)
theorem t_1329 : Cond.instanceMethod yX8_doneMany ∈ BIG := big_t 1329 (by decide +kernel) (by decide +kernel)
theorem s_53 : Cond.selects RX8 yX8_doneMany yX8_doneMany ∈ BIG := big_s 53 (by decide +kernel) (by decide +kernel)
theorem t_316 : Cond.native arraycopyName ∈ BIG := big_t 316 (by decide +kernel) (by decide +kernel)
theorem t_315 : Cond.static arraycopyName ∈ BIG := big_t 315 (by decide +kernel) (by decide +kernel)
theorem t_15 : Cond.initialized RJ10 ∈ BIG := big_t 15 (by decide +kernel) (by decide +kernel)
theorem t_314 : Cond.methodLink RX0 21 arraycopyName ∈ BIG := big_t 314 (by decide +kernel) (by decide +kernel)
theorem t_321 : Cond.methodLink RX1 19 arraycopyName ∈ BIG := big_t 321 (by decide +kernel) (by decide +kernel)
theorem t_1053 : Cond.methodLink RX8 45 arraycopyName ∈ BIG := big_t 1053 (by decide +kernel) (by decide +kernel)
theorem at_162 : (vx_atS RX7 162 "java/lang/IndexOutOfBoundsException" ["java/lang/RuntimeException", "java/lang/Exception"]).all (fun w => decide (w ∈ lw_tbl) && (goodWord w || nwk w)) = true := by decide +kernel
theorem ao_162 : ∀ w ∈ Cond.classLink RX7 158 "java/lang/IndexOutOfBoundsException" :: Cond.initialized "java/lang/IndexOutOfBoundsException" :: vx_atS RX7 162 "java/lang/IndexOutOfBoundsException" ["java/lang/RuntimeException", "java/lang/Exception"], vx_ot w = true := List.all_eq_true.mp (by decide +kernel)
theorem t_343 : Cond.classLink RX7 158 "java/lang/IndexOutOfBoundsException" ∈ BIG := big_t 343 (by decide +kernel) (by decide +kernel)
theorem t_13 : Cond.initialized "java/lang/IndexOutOfBoundsException" ∈ BIG := big_t 13 (by decide +kernel) (by decide +kernel)
theorem at_274 : (vx_atS RX7 274 "java/lang/IllegalStateException" ["java/lang/RuntimeException", "java/lang/Exception"]).all (fun w => decide (w ∈ lw_tbl) && (goodWord w || nwk w)) = true := by decide +kernel
theorem ao_274 : ∀ w ∈ Cond.classLink RX7 270 "java/lang/IllegalStateException" :: Cond.initialized "java/lang/IllegalStateException" :: vx_atS RX7 274 "java/lang/IllegalStateException" ["java/lang/RuntimeException", "java/lang/Exception"], vx_ot w = true := List.all_eq_true.mp (by decide +kernel)
theorem t_890 : Cond.classLink RX7 270 "java/lang/IllegalStateException" ∈ BIG := big_t 890 (by decide +kernel) (by decide +kernel)
theorem t_19 : Cond.initialized "java/lang/IllegalStateException" ∈ BIG := big_t 19 (by decide +kernel) (by decide +kernel)
theorem at_282 : (vx_atS RX7 282 "java/util/NoSuchElementException" ["java/lang/RuntimeException", "java/lang/Exception"]).all (fun w => decide (w ∈ lw_tbl) && (goodWord w || nwk w)) = true := by decide +kernel
theorem ao_282 : ∀ w ∈ Cond.classLink RX7 278 "java/util/NoSuchElementException" :: Cond.initialized "java/util/NoSuchElementException" :: vx_atS RX7 282 "java/util/NoSuchElementException" ["java/lang/RuntimeException", "java/lang/Exception"], vx_ot w = true := List.all_eq_true.mp (by decide +kernel)
theorem t_754 : Cond.classLink RX7 278 "java/util/NoSuchElementException" ∈ BIG := big_t 754 (by decide +kernel) (by decide +kernel)
theorem t_17 : Cond.initialized "java/util/NoSuchElementException" ∈ BIG := big_t 17 (by decide +kernel) (by decide +kernel)
theorem at_296 : (vx_atS RX7 296 "java/lang/IllegalArgumentException" ["java/lang/RuntimeException", "java/lang/Exception"]).all (fun w => decide (w ∈ lw_tbl) && (goodWord w || nwk w)) = true := by decide +kernel
theorem ao_296 : ∀ w ∈ Cond.classLink RX7 292 "java/lang/IllegalArgumentException" :: Cond.initialized "java/lang/IllegalArgumentException" :: vx_atS RX7 296 "java/lang/IllegalArgumentException" ["java/lang/RuntimeException", "java/lang/Exception"], vx_ot w = true := List.all_eq_true.mp (by decide +kernel)
theorem t_416 : Cond.classLink RX7 292 "java/lang/IllegalArgumentException" ∈ BIG := big_t 416 (by decide +kernel) (by decide +kernel)
theorem t_14 : Cond.initialized "java/lang/IllegalArgumentException" ∈ BIG := big_t 14 (by decide +kernel) (by decide +kernel)
theorem at_333 : (vx_atS RX7 333 "java/lang/UnsupportedOperationException" ["java/lang/RuntimeException", "java/lang/Exception"]).all (fun w => decide (w ∈ lw_tbl) && (goodWord w || nwk w)) = true := by decide +kernel
theorem ao_333 : ∀ w ∈ Cond.classLink RX7 329 "java/lang/UnsupportedOperationException" :: Cond.initialized "java/lang/UnsupportedOperationException" :: vx_atS RX7 333 "java/lang/UnsupportedOperationException" ["java/lang/RuntimeException", "java/lang/Exception"], vx_ot w = true := List.all_eq_true.mp (by decide +kernel)
theorem t_489 : Cond.classLink RX7 329 "java/lang/UnsupportedOperationException" ∈ BIG := big_t 489 (by decide +kernel) (by decide +kernel)
theorem t_16 : Cond.initialized "java/lang/UnsupportedOperationException" ∈ BIG := big_t 16 (by decide +kernel) (by decide +kernel)
theorem t_519 : Cond.constant RX7 119 65537 ∈ BIG := big_t 519 (by decide +kernel) (by decide +kernel)
theorem t_1101 : Cond.constant RX8 114 65537 ∈ BIG := big_t 1101 (by decide +kernel) (by decide +kernel)
theorem t_816 : Cond.constant RX3 59 1000000 ∈ BIG := big_t 816 (by decide +kernel) (by decide +kernel)
end
section
/-! ===== printed: the methods, their fields and calls ===== -/
/-- heights instead of rooms: a method that calls h deep, and makes c cells of s slots -/
abbrev RM (h c s : Nat) : Room := { frames := h + 6, cells := c, slots := s, locals := 100 * (h + 1) }
/-- one outcome, and what the memory is then -/
def PM (g : GP) (adr : Nat → Nat) (r : Option Value ⊕ String) (φ : Mem → Prop) : PT := fun o w' => ∃ μ', w' = WM g adr μ' ∧ o = r ∧ φ μ'
abbrev mX7_init : MI := (RX7, cX7_init, 1, none, [], true)
abbrev mX7_turn : MI := (RX7, cX7_turn, 3, (some .int), [], false)
abbrev mX7_shift : MI := (RX7, cX7_shift, 3, (some .int), [], false)
abbrev mX7_back : MI := (RX7, cX7_back, 3, (some .int), [], false)
abbrev mX7_scramble : MI := (RX7, cX7_scramble, 5, (some .int), [], false)
abbrev mX7_logOf : MI := (RX7, cX7_logOf, 3, (some .int), [], false)
abbrev mX7_at : MI := (RX7, cX7_at, 2, (some .int), [], false)
abbrev mX7_where : MI := (RX7, cX7_where, 2, (some .int), [], false)
abbrev mX7_paint : MI := (RX7, cX7_paint, 4, (some .int), [], false)
abbrev mX7_colour : MI := (RX7, cX7_colour, 2, (some .int), [], false)
abbrev mX7_isDone : MI := (RX7, cX7_isDone, 2, (some .boolean), [], false)
abbrev mX7_seams : MI := (RX7, cX7_seams, 1, (some .int), [], false)
abbrev mX7_fewest : MI := (RX7, cX7_fewest, 3, (some .int), [], false)
abbrev mX7_learn : MI := (RX7, cX7_learn, 3, (some .int), [], false)
abbrev mX7_use : MI := (RX7, cX7_use, 4, (some .int), [], false)
abbrev mX7_join : MI := (RX7, cX7_join, 4, (some .int), [], false)
abbrev mX7_invert : MI := (RX7, cX7_invert, 3, (some .int), [], false)
abbrev mX7_commute : MI := (RX7, cX7_commute, 4, (some .int), [], false)
abbrev mX7_forget : MI := (RX7, cX7_forget, 2, (some .int), [], false)
abbrev mX7_goesTo : MI := (RX7, cX7_goesTo, 3, (some .int), [], false)
abbrev mX7_shelfOf : MI := (RX7, cX7_shelfOf, 4, (some .int), [], false)
abbrev mX7_orderAgain : MI := (RX7, cX7_orderAgain, 2, (some .int), [], false)
abbrev mX7_isEven : MI := (RX7, cX7_isEven, 4, (some .boolean), [], false)
abbrev mX7_cycle : MI := (RX7, cX7_cycle, 3, (some .int), [], false)
abbrev mX7_commutes : MI := (RX7, cX7_commutes, 3, (some .boolean), [], false)
abbrev mX7_line : MI := (RX7, cX7_line, 3, (some .int), [], false)
abbrev mX7_logLine : MI := (RX7, cX7_logLine, 2, (some .int), [], false)
abbrev mX7_cycleLine : MI := (RX7, cX7_cycleLine, 4, (some .int), [], false)
abbrev mX7_character : MI := (RX7, cX7_character, 2, (some .char), [], false)
abbrev mX7_append : MI := (RX7, cX7_append, 2, (some .int), [], false)
abbrev mX7_read : MI := (RX7, cX7_read, 2, (some .int), [], false)
abbrev mX7_errorPosition : MI := (RX7, cX7_errorPosition, 1, (some .int), [], false)
abbrev mX7_refusal : MI := (RX7, cX7_refusal, 2, (some .int), [], false)
abbrev mX7_account : MI := (RX7, cX7_account, 2, (some .int), [], false)
abbrev mX7_isWell : MI := (RX7, cX7_isWell, 2, (some .boolean), [], false)
abbrev mX7_meanAway : MI := (RX7, cX7_meanAway, 1, (some .double), [], false)
abbrev mX7_seamShare : MI := (RX7, cX7_seamShare, 1, (some .float), [], false)
abbrev mX7_undo : MI := (RX7, cX7_undo, 1, (some .int), [], false)
abbrev mX7_save : MI := (RX7, cX7_save, 1, (some .int), [], false)
abbrev mX7_restore : MI := (RX7, cX7_restore, 1, (some .int), [], false)
abbrev mX7_isIndex : MI := (RX7, cX7_isIndex, 2, (some .boolean), [], false)
abbrev mX7_needIndex : MI := (RX7, cX7_needIndex, 2, none, [], false)
abbrev mX7_needRing : MI := (RX7, cX7_needRing, 1, none, [], false)
abbrev mX7_needSlot : MI := (RX7, cX7_needSlot, 1, none, [], false)
abbrev mX7_needShelf : MI := (RX7, cX7_needShelf, 1, none, [], false)
abbrev mX7_needFromTo : MI := (RX7, cX7_needFromTo, 3, none, [], false)
abbrev mX7_needFilled : MI := (RX7, cX7_needFilled, 2, none, [], false)
abbrev mX7_needLearnt : MI := (RX7, cX7_needLearnt, 2, none, [], false)
abbrev mX7_refuse : MI := (RX7, cX7_refuse, 3, none, [], false)
abbrev mX7_roundOf : MI := (RX7, cX7_roundOf, 1, (some .int), [], false)
abbrev mX7_doMove : MI := (RX7, cX7_doMove, 4, none, [], false)
abbrev mX7_doLoggedMove : MI := (RX7, cX7_doLoggedMove, 4, none, [], false)
abbrev mX7_putMade : MI := (RX7, cX7_putMade, 2, (some .int), [], false)
abbrev mX7_isUndoneByInverse : MI := (RX7, cX7_isUndoneByInverse, 2, (some .boolean), [], false)
abbrev mX7_takeSequence : MI := (RX7, cX7_takeSequence, 2, (some .int), [], false)
abbrev mX7_movesBetween : MI := (RX7, cX7_movesBetween, 4, (some .int), [], false)
abbrev mX8_init : MI := (RX8, cX8_init, 2, none, [], true)
abbrev mX8_thrown : MI := (RX8, cX8_thrown, 1, (some .int), [], false)
abbrev mX8_in : MI := (RX8, cX8_in, 3, (some .boolean), [], false)
abbrev mX8_keep : MI := (RX8, cX8_keep, 1, none, [], false)
abbrev mX8_ends : MI := (RX8, cX8_ends, 2, (some .int), [], false)
abbrev mX8_fails : MI := (RX8, cX8_fails, 2, (some .int), [], false)
abbrev mX8_refuse : MI := (RX8, cX8_refuse, 4, (some .int), [], false)
abbrev mX8_refusal : MI := (RX8, cX8_refusal, 2, (some .int), [], false)
abbrev mX8_nothing : MI := (RX8, cX8_nothing, 2, (some .int), [], false)
abbrev mX8_move : MI := (RX8, cX8_move, 8, (some .int), [], false)
abbrev mX8_ofShelf : MI := (RX8, cX8_ofShelf, 3, (some .int), [], false)
abbrev mX8_then : MI := (RX8, cX8_then, 4, none, [], false)
abbrev mX8_inverse : MI := (RX8, cX8_inverse, 4, (some .int), [], false)
abbrev mX8_times : MI := (RX8, cX8_times, 5, (some .int), [], false)
abbrev mX8_commutator : MI := (RX8, cX8_commutator, 4, (some .int), [], false)
abbrev mX8_does : MI := (RX8, cX8_does, 3, none, [], false)
abbrev mX8_movedBy : MI := (RX8, cX8_movedBy, 4, (some .int), [], false)
abbrev mX8_puts : MI := (RX8, cX8_puts, 3, (some .int), [], false)
abbrev mX8_home : MI := (RX8, cX8_home, 3, (some .int), [], false)
abbrev mX8_moves : MI := (RX8, cX8_moves, 5, none, [], false)
abbrev mX8_turn : MI := (RX8, cX8_turn, 3, (some .int), [], false)
abbrev mX8_shift : MI := (RX8, cX8_shift, 3, (some .int), [], false)
abbrev mX8_back : MI := (RX8, cX8_back, 3, (some .int), [], false)
abbrev mX8_scramble : MI := (RX8, cX8_scramble, 6, (some .int), [], false)
abbrev mX8_logOf : MI := (RX8, cX8_logOf, 3, (some .int), [], false)
abbrev mX8_isSlot : MI := (RX8, cX8_isSlot, 1, (some .boolean), [], false)
abbrev mX8_at : MI := (RX8, cX8_at, 2, (some .int), [], false)
abbrev mX8_slotOf : MI := (RX8, cX8_slotOf, 3, (some .int), [], false)
abbrev mX8_where : MI := (RX8, cX8_where, 2, (some .int), [], false)
abbrev mX8_paint : MI := (RX8, cX8_paint, 4, (some .int), [], false)
abbrev mX8_colourIn : MI := (RX8, cX8_colourIn, 2, (some .int), [], false)
abbrev mX8_colour : MI := (RX8, cX8_colour, 2, (some .int), [], false)
abbrev mX8_isOne : MI := (RX8, cX8_isOne, 4, (some .boolean), [], false)
abbrev mX8_isDone : MI := (RX8, cX8_isDone, 2, (some .boolean), [], false)
abbrev mX8_seamMany : MI := (RX8, cX8_seamMany, 5, (some .int), [], false)
abbrev mX8_seams : MI := (RX8, cX8_seams, 1, (some .int), [], false)
abbrev mX8_apart : MI := (RX8, cX8_apart, 3, (some .int), [], false)
abbrev mX8_fewest : MI := (RX8, cX8_fewest, 3, (some .int), [], false)
abbrev mX8_append : MI := (RX8, cX8_append, 2, (some .int), [], false)
abbrev mX8_isHere : MI := (RX8, cX8_isHere, 3, (some .boolean), [], false)
abbrev mX8_sign : MI := (RX8, cX8_sign, 3, (some .int), [], false)
abbrev mX8_isItem : MI := (RX8, cX8_isItem, 2, (some .boolean), [], false)
abbrev mX8_sequence : MI := (RX8, cX8_sequence, 5, (some .int), [], false)
abbrev mX8_item : MI := (RX8, cX8_item, 12, (some .int), [], false)
abbrev mX8_readsText : MI := (RX8, cX8_readsText, 3, (some .int), [], false)
abbrev mX8_read : MI := (RX8, cX8_read, 2, (some .int), [], false)
abbrev mX8_errorPosition : MI := (RX8, cX8_errorPosition, 1, (some .int), [], false)
abbrev mX8_isShelf : MI := (RX8, cX8_isShelf, 1, (some .boolean), [], false)
abbrev mX8_isEmpty : MI := (RX8, cX8_isEmpty, 2, (some .boolean), [], false)
abbrev mX8_learn : MI := (RX8, cX8_learn, 4, (some .int), [], false)
abbrev mX8_use : MI := (RX8, cX8_use, 4, (some .int), [], false)
abbrev mX8_join : MI := (RX8, cX8_join, 5, (some .int), [], false)
abbrev mX8_invert : MI := (RX8, cX8_invert, 3, (some .int), [], false)
abbrev mX8_commute : MI := (RX8, cX8_commute, 4, (some .int), [], false)
abbrev mX8_filledMany : MI := (RX8, cX8_filledMany, 3, (some .int), [], false)
abbrev mX8_forget : MI := (RX8, cX8_forget, 2, (some .int), [], false)
abbrev mX8_goes : MI := (RX8, cX8_goes, 3, (some .int), [], false)
abbrev mX8_goesTo : MI := (RX8, cX8_goesTo, 3, (some .int), [], false)
abbrev mX8_cycleOf : MI := (RX8, cX8_cycleOf, 5, (some .int), [], false)
abbrev mX8_isLowest : MI := (RX8, cX8_isLowest, 5, (some .boolean), [], false)
abbrev mX8_common : MI := (RX8, cX8_common, 2, (some .int), [], false)
abbrev mX8_order : MI := (RX8, cX8_order, 5, (some .int), [], false)
abbrev mX8_shelfOf : MI := (RX8, cX8_shelfOf, 8, (some .int), [], false)
abbrev mX8_orderAgain : MI := (RX8, cX8_orderAgain, 2, (some .int), [], false)
abbrev mX8_isEven : MI := (RX8, cX8_isEven, 5, (some .boolean), [], false)
abbrev mX8_cycle : MI := (RX8, cX8_cycle, 3, (some .int), [], false)
abbrev mX8_commutes : MI := (RX8, cX8_commutes, 5, (some .boolean), [], false)
abbrev mX8_says : MI := (RX8, cX8_says, 2, none, [], false)
abbrev mX8_saysNumber : MI := (RX8, cX8_saysNumber, 2, none, [], false)
abbrev mX8_line : MI := (RX8, cX8_line, 3, (some .int), [], false)
abbrev mX8_logLine : MI := (RX8, cX8_logLine, 2, (some .int), [], false)
abbrev mX8_cycleLine : MI := (RX8, cX8_cycleLine, 4, (some .int), [], false)
abbrev mX8_character : MI := (RX8, cX8_character, 2, (some .char), [], false)
abbrev mX8_doneMany : MI := (RX8, cX8_doneMany, 3, (some .int), [], false)
abbrev mX8_account : MI := (RX8, cX8_account, 2, (some .int), [], false)
abbrev mX8_isWell : MI := (RX8, cX8_isWell, 3, (some .boolean), [], false)
abbrev mX8_meanAway : MI := (RX8, cX8_meanAway, 3, (some .double), [], false)
abbrev mX8_seamShare : MI := (RX8, cX8_seamShare, 1, (some .float), [], false)
abbrev mX8_undo : MI := (RX8, cX8_undo, 1, (some .int), [], false)
abbrev mX8_save : MI := (RX8, cX8_save, 1, (some .int), [], false)
abbrev mX8_restore : MI := (RX8, cX8_restore, 1, (some .int), [], false)
abbrev mX0_init : MI := (RX0, cX0_init, 2, none, [], true)
abbrev mX0_copyFrom : MI := (RX0, cX0_copyFrom, 2, none, [], false)
abbrev mX0_stickerIn : MI := (RX0, cX0_stickerIn, 2, (some .int), [], false)
abbrev mX0_slotOf : MI := (RX0, cX0_slotOf, 2, (some .int), [], false)
abbrev mX0_colourOf : MI := (RX0, cX0_colourOf, 2, (some .int), [], false)
abbrev mX0_colourIn : MI := (RX0, cX0_colourIn, 2, (some .int), [], false)
abbrev mX0_giveColour : MI := (RX0, cX0_giveColour, 3, none, [], false)
abbrev mX0_follow : MI := (RX0, cX0_follow, 4, none, [], false)
abbrev mX0_countHome : MI := (RX0, cX0_countHome, 3, (some .int), [], false)
abbrev mX0_hasOneColour : MI := (RX0, cX0_hasOneColour, 4, (some .boolean), [], false)
abbrev mX0_countDone : MI := (RX0, cX0_countDone, 3, (some .int), [], false)
abbrev mX0_countSeams : MI := (RX0, cX0_countSeams, 5, (some .int), [], false)
abbrev mX0_movesToHomes : MI := (RX0, cX0_movesToHomes, 3, (some .int), [], false)
abbrev mX0_isEachWhereTold : MI := (RX0, cX0_isEachWhereTold, 4, (some .boolean), [], false)
abbrev mX1_init : MI := (RX1, cX1_init, 1, none, [], true)
abbrev mX1_copyFrom : MI := (RX1, cX1_copyFrom, 2, none, [], false)
abbrev mX1_size : MI := (RX1, cX1_size, 1, (some .int), [], false)
abbrev mX1_part : MI := (RX1, cX1_part, 3, (some .int), [], false)
abbrev mX1_add : MI := (RX1, cX1_add, 4, none, [], false)
abbrev mX1_dropLast : MI := (RX1, cX1_dropLast, 1, none, [], false)
abbrev mX1_clear : MI := (RX1, cX1_clear, 1, none, [], false)
abbrev mX2_init : MI := (RX2, cX2_init, 2, none, [], true)
abbrev mX2_size : MI := (RX2, cX2_size, 1, (some .int), [], false)
abbrev mX2_clear : MI := (RX2, cX2_clear, 1, none, [], false)
abbrev mX2_hold : MI := (RX2, cX2_hold, 4, none, [], false)
abbrev mX2_giveBack : MI := (RX2, cX2_giveBack, 2, none, [], false)
abbrev mX3_init : MI := (RX3, cX3_init, 2, none, [], true)
abbrev mX3_of : MI := (RX3, cX3_of, 2, (some .int), [], false)
abbrev mX3_toNothing : MI := (RX3, cX3_toNothing, 2, none, [], false)
abbrev mX3_toCopy : MI := (RX3, cX3_toCopy, 3, none, [], false)
abbrev mX3_toMove : MI := (RX3, cX3_toMove, 4, none, [], false)
abbrev mX3_toTurn : MI := (RX3, cX3_toTurn, 5, none, [], false)
abbrev mX3_toShift : MI := (RX3, cX3_toShift, 5, none, [], false)
abbrev mX3_toInverse : MI := (RX3, cX3_toInverse, 4, none, [], false)
abbrev mX3_then : MI := (RX3, cX3_then, 4, none, [], false)
abbrev mX3_toPower : MI := (RX3, cX3_toPower, 4, none, [], false)
abbrev mX3_toCommuted : MI := (RX3, cX3_toCommuted, 4, none, [], false)
abbrev mX3_movesNothing : MI := (RX3, cX3_movesNothing, 2, (some .boolean), [], false)
abbrev mX3_countMoved : MI := (RX3, cX3_countMoved, 3, (some .int), [], false)
abbrev mX3_cycleLength : MI := (RX3, cX3_cycleLength, 4, (some .int), [], false)
abbrev mX3_isLowestOfCycle : MI := (RX3, cX3_isLowestOfCycle, 4, (some .boolean), [], false)
abbrev mX3_countCycles : MI := (RX3, cX3_countCycles, 4, (some .int), [], false)
abbrev mX3_longestCycle : MI := (RX3, cX3_longestCycle, 3, (some .int), [], false)
abbrev mX3_orderByCycles : MI := (RX3, cX3_orderByCycles, 3, (some .int), [], false)
abbrev mX3_orderByDoing : MI := (RX3, cX3_orderByDoing, 3, (some .int), [], false)
abbrev mX3_isEvenByCycles : MI := (RX3, cX3_isEvenByCycles, 1, (some .boolean), [], false)
abbrev mX3_isEvenByPairs : MI := (RX3, cX3_isEvenByPairs, 4, (some .boolean), [], false)
abbrev mX3_isInEitherOrder : MI := (RX3, cX3_isInEitherOrder, 3, (some .boolean), [], false)
abbrev mX3_leastCommonMultiple : MI := (RX3, cX3_leastCommonMultiple, 6, (some .int), [], false)
abbrev mX4_init : MI := (RX4, cX4_init, 2, none, [], true)
abbrev mX4_place : MI := (RX4, cX4_place, 1, (some .int), [], false)
abbrev mX4_result : MI := (RX4, cX4_result, 1, (some (.object "TwistyBarrels$Permutation")), [], false)
abbrev mX4_understand : MI := (RX4, cX4_understand, 3, (some .int), [], false)
abbrev mX4_isItemNext : MI := (RX4, cX4_isItemNext, 2, (some .boolean), [], false)
abbrev mX4_sequence : MI := (RX4, cX4_sequence, 7, (some .int), [], false)
abbrev mX4_item : MI := (RX4, cX4_item, 5, (some .int), [], false)
abbrev mX4_digit : MI := (RX4, cX4_digit, 4, (some .int), [], false)
abbrev mX4_moveItem : MI := (RX4, cX4_moveItem, 5, (some .int), [], false)
abbrev mX4_shelfItem : MI := (RX4, cX4_shelfItem, 4, (some .int), [], false)
abbrev mX4_repeatedItem : MI := (RX4, cX4_repeatedItem, 6, (some .int), [], false)
abbrev mX4_commutedItem : MI := (RX4, cX4_commutedItem, 6, (some .int), [], false)
abbrev mX5_init : MI := (RX5, cX5_init, 1, none, [], true)
abbrev mX5_size : MI := (RX5, cX5_size, 1, (some .int), [], false)
abbrev mX5_clear : MI := (RX5, cX5_clear, 1, none, [], false)
abbrev mX5_signAt : MI := (RX5, cX5_signAt, 2, (some .int), [], false)
abbrev mX5_addSign : MI := (RX5, cX5_addSign, 2, none, [], false)
abbrev mX5_addNumber : MI := (RX5, cX5_addNumber, 2, none, [], false)
abbrev mX5_addCycle : MI := (RX5, cX5_addCycle, 5, none, [], false)
abbrev mX6_init : MI := (RX6, cX6_init, 2, none, [], true)
abbrev mX6_copyFrom : MI := (RX6, cX6_copyFrom, 3, none, [], false)
abbrev mX6_isFilled : MI := (RX6, cX6_isFilled, 2, (some .boolean), [], false)
abbrev mX6_onShelf : MI := (RX6, cX6_onShelf, 2, (some (.object "TwistyBarrels$Permutation")), [], false)
abbrev mX6_putOn : MI := (RX6, cX6_putOn, 3, none, [], false)
abbrev mX6_takeFrom : MI := (RX6, cX6_takeFrom, 2, none, [], false)
abbrev mX6_countFilled : MI := (RX6, cX6_countFilled, 3, (some .int), [], false)
abbrev mL_turn : MI := (RL, cL_turn, 5, (some .int), [(0, 10, 13, 13), (0, 10, 17, 15)], false)
abbrev mL_shift : MI := (RL, cL_shift, 5, (some .int), [(0, 10, 13, 13), (0, 10, 17, 15)], false)
abbrev mL_back : MI := (RL, cL_back, 3, (some .int), [(0, 8, 11, 24)], false)
abbrev mL_scramble : MI := (RL, cL_scramble, 5, (some .int), [(0, 10, 13, 15)], false)
abbrev mL_logOf : MI := (RL, cL_logOf, 5, (some .int), [(0, 10, 13, 13), (0, 10, 17, 15)], false)
abbrev mL_at : MI := (RL, cL_at, 4, (some .int), [(0, 9, 12, 13)], false)
abbrev mL_where : MI := (RL, cL_where, 4, (some .int), [(0, 9, 12, 13)], false)
abbrev mL_paint : MI := (RL, cL_paint, 5, (some .int), [(0, 10, 13, 13), (0, 10, 17, 15), (0, 10, 21, 24)], false)
abbrev mL_colour : MI := (RL, cL_colour, 4, (some .int), [(0, 9, 12, 13)], false)
abbrev mL_isDone : MI := (RL, cL_isDone, 4, (some .int), [(0, 16, 19, 13)], false)
abbrev mL_fewest : MI := (RL, cL_fewest, 5, (some .int), [(0, 10, 13, 13)], false)
abbrev mL_learn : MI := (RL, cL_learn, 4, (some .int), [(0, 9, 12, 13), (0, 9, 15, 15), (0, 9, 18, 24)], false)
abbrev mL_use : MI := (RL, cL_use, 5, (some .int), [(0, 10, 13, 13), (0, 10, 17, 15), (0, 10, 21, 24)], false)
abbrev mL_join : MI := (RL, cL_join, 6, (some .int), [(0, 12, 15, 13), (0, 12, 19, 24)], false)
abbrev mL_invert : MI := (RL, cL_invert, 5, (some .int), [(0, 10, 13, 13), (0, 10, 17, 24)], false)
abbrev mL_commute : MI := (RL, cL_commute, 6, (some .int), [(0, 12, 15, 13), (0, 12, 19, 24)], false)
abbrev mL_forget : MI := (RL, cL_forget, 4, (some .int), [(0, 9, 12, 13), (0, 9, 15, 24)], false)
abbrev mL_goesTo : MI := (RL, cL_goesTo, 5, (some .int), [(0, 10, 13, 13), (0, 10, 17, 74)], false)
abbrev mL_shelfOf : MI := (RL, cL_shelfOf, 5, (some .int), [(0, 10, 13, 13), (0, 10, 17, 15), (0, 10, 21, 74)], false)
abbrev mL_orderAgain : MI := (RL, cL_orderAgain, 4, (some .int), [(0, 9, 12, 13), (0, 9, 15, 74)], false)
abbrev mL_isEven : MI := (RL, cL_isEven, 5, (some .int), [(0, 17, 20, 13), (0, 17, 24, 74)], false)
abbrev mL_cycle : MI := (RL, cL_cycle, 5, (some .int), [(0, 10, 13, 13), (0, 10, 17, 74)], false)
abbrev mL_commutes : MI := (RL, cL_commutes, 5, (some .int), [(0, 17, 20, 13), (0, 17, 24, 74)], false)
abbrev mL_line : MI := (RL, cL_line, 4, (some .int), [(0, 9, 12, 13)], false)
abbrev mL_cycleLine : MI := (RL, cL_cycleLine, 4, (some .int), [(0, 9, 12, 13), (0, 9, 15, 74)], false)
abbrev mL_character : MI := (RL, cL_character, 4, (some .int), [(0, 9, 12, 13)], false)
abbrev mL_append : MI := (RL, cL_append, 4, (some .int), [(0, 9, 12, 107)], false)
abbrev mL_read : MI := (RL, cL_read, 3, (some .int), [(0, 8, 11, 15), (0, 8, 14, 24)], false)
abbrev mL_errorPosition : MI := (RL, cL_errorPosition, 3, (some .int), [(0, 8, 11, 74)], false)
abbrev mL_refusal : MI := (RL, cL_refusal, 4, (some .int), [(0, 9, 12, 74)], false)
abbrev mL_account : MI := (RL, cL_account, 4, (some .int), [(0, 9, 12, 15)], false)
abbrev mL_undo : MI := (RL, cL_undo, 3, (some .int), [(0, 8, 11, 107)], false)
abbrev mL_restore : MI := (RL, cL_restore, 3, (some .int), [(0, 8, 11, 107)], false)
section CC
variable {g : GP} {M : MI} {R : Room} {Q : QT} {k n pc : Nat} {w : va_W} {l : List (Option Value)} {st : List Value} {adr : Nat → Nat} {μ : Mem}
theorem gf_X7_10 (hM : M.1 = RX7) {o o2 : Nat} (ho : kt o = 13) (e : o + 1 = o2) (d : decode M.2.1 pc = .ok (.getfield 10, 3)) (K : J g M R Q k n (WM g adr μ) (pc + 3) l (.ref (adr o2) :: st)) : J g M R Q k n (WM g adr μ) pc l (.ref (adr o) :: st) := by
  subst e
  exact J.getF (C := RX7) (T := TX7) (N := 11) (ci := 7) (kf := 0) inB7 rfl (by decide) (by rw [hM]; exact t_161) (WM_get ho (by decide)) rfl d K
theorem gf_X7_19 (hM : M.1 = RX7) {o o2 : Nat} (ho : kt o = 13) (e : o + 20 = o2) (d : decode M.2.1 pc = .ok (.getfield 19, 3)) (K : J g M R Q k n (WM g adr μ) (pc + 3) l (.ref (adr o2) :: st)) : J g M R Q k n (WM g adr μ) pc l (.ref (adr o) :: st) := by
  subst e
  exact J.getF (C := RX7) (T := TX7) (N := 11) (ci := 7) (kf := 1) inB7 rfl (by decide) (by rw [hM]; exact t_162) (WM_get ho (by decide)) rfl d K
theorem gf_X7_23 (hM : M.1 = RX7) {o o2 : Nat} (ho : kt o = 13) (e : o + 174 = o2) (d : decode M.2.1 pc = .ok (.getfield 23, 3)) (K : J g M R Q k n (WM g adr μ) (pc + 3) l (.ref (adr o2) :: st)) : J g M R Q k n (WM g adr μ) pc l (.ref (adr o) :: st) := by
  subst e
  exact J.getF (C := RX7) (T := TX7) (N := 11) (ci := 7) (kf := 2) inB7 rfl (by decide) (by rw [hM]; exact t_163) (WM_get ho (by decide)) rfl d K
theorem gf_X7_26 (hM : M.1 = RX7) {o : Nat} {x : Int32} (ho : kt o = 13) (hx : μ o 3 = x) (d : decode M.2.1 pc = .ok (.getfield 26, 3)) (K : J g M R Q k n (WM g adr μ) (pc + 3) l (.int x :: st)) : J g M R Q k n (WM g adr μ) pc l (.ref (adr o) :: st) := by
  subst hx
  exact J.getF (C := RX7) (T := TX7) (N := 11) (ci := 7) (kf := 3) inB7 rfl (by decide) (by rw [hM]; exact t_164) (WM_get ho (by decide)) rfl d K
theorem pf_X7_26 (hM : M.1 = RX7) {o : Nat} {x : Int32} (ho : kt o = 13) (hx : x = 0 ∨ x = 1) (d : decode M.2.1 pc = .ok (.putfield 26, 3)) (K : J g M R Q k n (WM g adr (wr μ o 3 x)) (pc + 3) l st) : J g M R Q k n (WM g adr μ) pc l (.int x :: .ref (adr o) :: st) := by
  refine J.putF (C := RX7) (T := TX7) (N := 11) (ci := 7) (kf := 3) (v := .int x) (ty := .boolean) inB7 tyX7 tyX7_ok nmX7 rfl (by decide) (by rw [hM]; exact t_164) (WM_get ho (by decide)) rfl (by decide +kernel) (by rcases hx with rfl | rfl <;> rfl) (by rcases hx with rfl | rfl <;> rfl) (by decide) d ?_
  rw [WM_set (m' := upd (μ o) 3 x) ho rfl, wr_eq]
  exact K
theorem gf_X7_33 (hM : M.1 = RX7) {o o2 : Nat} (ho : kt o = 13) (e : o + 193 = o2) (d : decode M.2.1 pc = .ok (.getfield 33, 3)) (K : J g M R Q k n (WM g adr μ) (pc + 3) l (.ref (adr o2) :: st)) : J g M R Q k n (WM g adr μ) pc l (.ref (adr o) :: st) := by
  subst e
  exact J.getF (C := RX7) (T := TX7) (N := 11) (ci := 7) (kf := 4) inB7 rfl (by decide) (by rw [hM]; exact t_165) (WM_get ho (by decide)) rfl d K
theorem gf_X7_40 (hM : M.1 = RX7) {o o2 : Nat} (ho : kt o = 13) (e : o + 231 = o2) (d : decode M.2.1 pc = .ok (.getfield 40, 3)) (K : J g M R Q k n (WM g adr μ) (pc + 3) l (.ref (adr o2) :: st)) : J g M R Q k n (WM g adr μ) pc l (.ref (adr o) :: st) := by
  subst e
  exact J.getF (C := RX7) (T := TX7) (N := 11) (ci := 7) (kf := 5) inB7 rfl (by decide) (by rw [hM]; exact t_166) (WM_get ho (by decide)) rfl d K
theorem gf_X7_47 (hM : M.1 = RX7) {o o2 : Nat} (ho : kt o = 13) (e : o + 233 = o2) (d : decode M.2.1 pc = .ok (.getfield 47, 3)) (K : J g M R Q k n (WM g adr μ) (pc + 3) l (.ref (adr o2) :: st)) : J g M R Q k n (WM g adr μ) pc l (.ref (adr o) :: st) := by
  subst e
  exact J.getF (C := RX7) (T := TX7) (N := 11) (ci := 7) (kf := 6) inB7 rfl (by decide) (by rw [hM]; exact t_167) (WM_get ho (by decide)) rfl d K
theorem gf_X7_51 (hM : M.1 = RX7) {o o2 : Nat} (ho : kt o = 13) (e : o + 235 = o2) (d : decode M.2.1 pc = .ok (.getfield 51, 3)) (K : J g M R Q k n (WM g adr μ) (pc + 3) l (.ref (adr o2) :: st)) : J g M R Q k n (WM g adr μ) pc l (.ref (adr o) :: st) := by
  subst e
  exact J.getF (C := RX7) (T := TX7) (N := 11) (ci := 7) (kf := 7) inB7 rfl (by decide) (by rw [hM]; exact t_168) (WM_get ho (by decide)) rfl d K
theorem gf_X7_54 (hM : M.1 = RX7) {o : Nat} {x : Int32} (ho : kt o = 13) (hx : μ o 8 = x) (d : decode M.2.1 pc = .ok (.getfield 54, 3)) (K : J g M R Q k n (WM g adr μ) (pc + 3) l (.int x :: st)) : J g M R Q k n (WM g adr μ) pc l (.ref (adr o) :: st) := by
  subst hx
  exact J.getF (C := RX7) (T := TX7) (N := 11) (ci := 7) (kf := 8) inB7 rfl (by decide) (by rw [hM]; exact t_169) (WM_get ho (by decide)) rfl d K
theorem pf_X7_54 (hM : M.1 = RX7) {o : Nat} {x : Int32} (ho : kt o = 13) (d : decode M.2.1 pc = .ok (.putfield 54, 3)) (K : J g M R Q k n (WM g adr (wr μ o 8 x)) (pc + 3) l st) : J g M R Q k n (WM g adr μ) pc l (.int x :: .ref (adr o) :: st) := by
  refine J.putF (C := RX7) (T := TX7) (N := 11) (ci := 7) (kf := 8) (v := .int x) (ty := .int) inB7 tyX7 tyX7_ok nmX7 rfl (by decide) (by rw [hM]; exact t_169) (WM_get ho (by decide)) rfl (by decide +kernel) rfl rfl (by decide) d ?_
  rw [WM_set (m' := upd (μ o) 8 x) ho rfl, wr_eq]
  exact K
theorem gf_X7_58 (hM : M.1 = RX7) {o : Nat} {x : Int32} (ho : kt o = 13) (hx : μ o 9 = x) (d : decode M.2.1 pc = .ok (.getfield 58, 3)) (K : J g M R Q k n (WM g adr μ) (pc + 3) l (.int x :: st)) : J g M R Q k n (WM g adr μ) pc l (.ref (adr o) :: st) := by
  subst hx
  exact J.getF (C := RX7) (T := TX7) (N := 11) (ci := 7) (kf := 9) inB7 rfl (by decide) (by rw [hM]; exact t_170) (WM_get ho (by decide)) rfl d K
theorem pf_X7_58 (hM : M.1 = RX7) {o : Nat} {x : Int32} (ho : kt o = 13) (d : decode M.2.1 pc = .ok (.putfield 58, 3)) (K : J g M R Q k n (WM g adr (wr μ o 9 x)) (pc + 3) l st) : J g M R Q k n (WM g adr μ) pc l (.int x :: .ref (adr o) :: st) := by
  refine J.putF (C := RX7) (T := TX7) (N := 11) (ci := 7) (kf := 9) (v := .int x) (ty := .int) inB7 tyX7 tyX7_ok nmX7 rfl (by decide) (by rw [hM]; exact t_170) (WM_get ho (by decide)) rfl (by decide +kernel) rfl rfl (by decide) d ?_
  rw [WM_set (m' := upd (μ o) 9 x) ho rfl, wr_eq]
  exact K
theorem gf_X7_61 (hM : M.1 = RX7) {o : Nat} {x : Int32} (ho : kt o = 13) (hx : μ o 10 = x) (d : decode M.2.1 pc = .ok (.getfield 61, 3)) (K : J g M R Q k n (WM g adr μ) (pc + 3) l (.int x :: st)) : J g M R Q k n (WM g adr μ) pc l (.ref (adr o) :: st) := by
  subst hx
  exact J.getF (C := RX7) (T := TX7) (N := 11) (ci := 7) (kf := 10) inB7 rfl (by decide) (by rw [hM]; exact t_171) (WM_get ho (by decide)) rfl d K
theorem pf_X7_61 (hM : M.1 = RX7) {o : Nat} {x : Int32} (ho : kt o = 13) (d : decode M.2.1 pc = .ok (.putfield 61, 3)) (K : J g M R Q k n (WM g adr (wr μ o 10 x)) (pc + 3) l st) : J g M R Q k n (WM g adr μ) pc l (.int x :: .ref (adr o) :: st) := by
  refine J.putF (C := RX7) (T := TX7) (N := 11) (ci := 7) (kf := 10) (v := .int x) (ty := .int) inB7 tyX7 tyX7_ok nmX7 rfl (by decide) (by rw [hM]; exact t_171) (WM_get ho (by decide)) rfl (by decide +kernel) rfl rfl (by decide) d ?_
  rw [WM_set (m' := upd (μ o) 10 x) ho rfl, wr_eq]
  exact K
theorem gf_X7_79 (hM : M.1 = RX7) {o o2 : Nat} (ho : kt o = 5) (e : o + 1 = o2) (d : decode M.2.1 pc = .ok (.getfield 79, 3)) (K : J g M R Q k n (WM g adr μ) (pc + 3) l (.ref (adr o2) :: st)) : J g M R Q k n (WM g adr μ) pc l (.ref (adr o) :: st) := by
  subst e
  exact J.getF (C := RX6) (T := TX6) (N := 6) (ci := 6) (kf := 0) inB6 rfl (by decide) (by rw [hM]; exact t_77) (WM_get ho (by decide)) rfl d K
theorem gf_X7_93 (hM : M.1 = RX7) {o o2 : Nat} (ho : kt o = 5) (e : o + 5 = o2) (d : decode M.2.1 pc = .ok (.getfield 93, 3)) (K : J g M R Q k n (WM g adr μ) (pc + 3) l (.ref (adr o2) :: st)) : J g M R Q k n (WM g adr μ) pc l (.ref (adr o) :: st) := by
  subst e
  exact J.getF (C := RX6) (T := TX6) (N := 6) (ci := 6) (kf := 1) inB6 rfl (by decide) (by rw [hM]; exact t_79) (WM_get ho (by decide)) rfl d K
theorem gf_X7_152 (hM : M.1 = RX7) {o o2 : Nat} (ho : kt o = 8) (e : o + 1 = o2) (d : decode M.2.1 pc = .ok (.getfield 152, 3)) (K : J g M R Q k n (WM g adr μ) (pc + 3) l (.ref (adr o2) :: st)) : J g M R Q k n (WM g adr μ) pc l (.ref (adr o) :: st) := by
  subst e
  exact J.getF (C := RX4) (T := TX4) (N := 6) (ci := 4) (kf := 0) inB4 rfl (by decide) (by rw [hM]; exact t_138) (WM_get ho (by decide)) rfl d K
theorem gf_X7_275 (hM : M.1 = RX7) {o : Nat} {x : Int32} (ho : kt o = 5) (hx : μ o 3 = x) (d : decode M.2.1 pc = .ok (.getfield 275, 3)) (K : J g M R Q k n (WM g adr μ) (pc + 3) l (.int x :: st)) : J g M R Q k n (WM g adr μ) pc l (.ref (adr o) :: st) := by
  subst hx
  exact J.getF (C := RX6) (T := TX6) (N := 6) (ci := 6) (kf := 3) inB6 rfl (by decide) (by rw [hM]; exact t_83) (WM_get ho (by decide)) rfl d K
theorem pf_X7_275 (hM : M.1 = RX7) {o : Nat} {x : Int32} (ho : kt o = 5) (d : decode M.2.1 pc = .ok (.putfield 275, 3)) (K : J g M R Q k n (WM g adr (wr μ o 3 x)) (pc + 3) l st) : J g M R Q k n (WM g adr μ) pc l (.int x :: .ref (adr o) :: st) := by
  refine J.putF (C := RX6) (T := TX6) (N := 6) (ci := 6) (kf := 3) (v := .int x) (ty := .int) inB6 tyX6 tyX6_ok nmX6 rfl (by decide) (by rw [hM]; exact t_83) (WM_get ho (by decide)) rfl (by decide +kernel) rfl rfl (by decide) d ?_
  rw [WM_set (m' := upd (μ o) 3 x) ho rfl, wr_eq]
  exact K
theorem gf_X7_288 (hM : M.1 = RX7) {o : Nat} {x : Int32} (ho : kt o = 5) (hx : μ o 2 = x) (d : decode M.2.1 pc = .ok (.getfield 288, 3)) (K : J g M R Q k n (WM g adr μ) (pc + 3) l (.int x :: st)) : J g M R Q k n (WM g adr μ) pc l (.ref (adr o) :: st) := by
  subst hx
  exact J.getF (C := RX6) (T := TX6) (N := 6) (ci := 6) (kf := 2) inB6 rfl (by decide) (by rw [hM]; exact t_81) (WM_get ho (by decide)) rfl d K
theorem pf_X7_288 (hM : M.1 = RX7) {o : Nat} {x : Int32} (ho : kt o = 5) (d : decode M.2.1 pc = .ok (.putfield 288, 3)) (K : J g M R Q k n (WM g adr (wr μ o 2 x)) (pc + 3) l st) : J g M R Q k n (WM g adr μ) pc l (.int x :: .ref (adr o) :: st) := by
  refine J.putF (C := RX6) (T := TX6) (N := 6) (ci := 6) (kf := 2) (v := .int x) (ty := .int) inB6 tyX6 tyX6_ok nmX6 rfl (by decide) (by rw [hM]; exact t_81) (WM_get ho (by decide)) rfl (by decide +kernel) rfl rfl (by decide) d ?_
  rw [WM_set (m' := upd (μ o) 2 x) ho rfl, wr_eq]
  exact K
theorem gf_X0_9 (hM : M.1 = RX0) {o o2 : Nat} (ho : kt o = 2) (e : o + 1 = o2) (d : decode M.2.1 pc = .ok (.getfield 9, 3)) (K : J g M R Q k n (WM g adr μ) (pc + 3) l (.ref (adr o2) :: st)) : J g M R Q k n (WM g adr μ) pc l (.ref (adr o) :: st) := by
  subst e
  exact J.getF (C := RX0) (T := TX0) (N := 3) (ci := 0) (kf := 0) inB0 rfl (by decide) (by rw [hM]; exact t_40) (WM_get ho (by decide)) rfl d K
theorem gf_X0_15 (hM : M.1 = RX0) {o o2 : Nat} (ho : kt o = 2) (e : o + 2 = o2) (d : decode M.2.1 pc = .ok (.getfield 15, 3)) (K : J g M R Q k n (WM g adr μ) (pc + 3) l (.ref (adr o2) :: st)) : J g M R Q k n (WM g adr μ) pc l (.ref (adr o) :: st) := by
  subst e
  exact J.getF (C := RX0) (T := TX0) (N := 3) (ci := 0) (kf := 1) inB0 rfl (by decide) (by rw [hM]; exact t_41) (WM_get ho (by decide)) rfl d K
theorem gf_X0_18 (hM : M.1 = RX0) {o o2 : Nat} (ho : kt o = 2) (e : o + 3 = o2) (d : decode M.2.1 pc = .ok (.getfield 18, 3)) (K : J g M R Q k n (WM g adr μ) (pc + 3) l (.ref (adr o2) :: st)) : J g M R Q k n (WM g adr μ) pc l (.ref (adr o) :: st) := by
  subst e
  exact J.getF (C := RX0) (T := TX0) (N := 3) (ci := 0) (kf := 2) inB0 rfl (by decide) (by rw [hM]; exact t_42) (WM_get ho (by decide)) rfl d K
theorem gf_X1_11 (hM : M.1 = RX1) {o o2 : Nat} (ho : kt o = 3) (e : o + 1 = o2) (d : decode M.2.1 pc = .ok (.getfield 11, 3)) (K : J g M R Q k n (WM g adr μ) (pc + 3) l (.ref (adr o2) :: st)) : J g M R Q k n (WM g adr μ) pc l (.ref (adr o) :: st) := by
  subst e
  exact J.getF (C := RX1) (T := TX1) (N := 2) (ci := 1) (kf := 0) inB1 rfl (by decide) (by rw [hM]; exact t_57) (WM_get ho (by decide)) rfl d K
theorem gf_X1_15 (hM : M.1 = RX1) {o : Nat} {x : Int32} (ho : kt o = 3) (hx : μ o 1 = x) (d : decode M.2.1 pc = .ok (.getfield 15, 3)) (K : J g M R Q k n (WM g adr μ) (pc + 3) l (.int x :: st)) : J g M R Q k n (WM g adr μ) pc l (.ref (adr o) :: st) := by
  subst hx
  exact J.getF (C := RX1) (T := TX1) (N := 2) (ci := 1) (kf := 1) inB1 rfl (by decide) (by rw [hM]; exact t_58) (WM_get ho (by decide)) rfl d K
theorem pf_X1_15 (hM : M.1 = RX1) {o : Nat} {x : Int32} (ho : kt o = 3) (d : decode M.2.1 pc = .ok (.putfield 15, 3)) (K : J g M R Q k n (WM g adr (wr μ o 1 x)) (pc + 3) l st) : J g M R Q k n (WM g adr μ) pc l (.int x :: .ref (adr o) :: st) := by
  refine J.putF (C := RX1) (T := TX1) (N := 2) (ci := 1) (kf := 1) (v := .int x) (ty := .int) inB1 tyX1 tyX1_ok nmX1 rfl (by decide) (by rw [hM]; exact t_58) (WM_get ho (by decide)) rfl (by decide +kernel) rfl rfl (by decide) d ?_
  rw [WM_set (m' := upd (μ o) 1 x) ho rfl, wr_eq]
  exact K
theorem gf_X2_11 (hM : M.1 = RX2) {o o2 : Nat} (ho : kt o = 6) (e : o + 1 = o2) (d : decode M.2.1 pc = .ok (.getfield 11, 3)) (K : J g M R Q k n (WM g adr μ) (pc + 3) l (.ref (adr o2) :: st)) : J g M R Q k n (WM g adr μ) pc l (.ref (adr o) :: st) := by
  subst e
  exact J.getF (C := RX2) (T := TX2) (N := 2) (ci := 2) (kf := 0) inB2 rfl (by decide) (by rw [hM]; exact t_108) (WM_get ho (by decide)) rfl d K
theorem gf_X2_17 (hM : M.1 = RX2) {o : Nat} {x : Int32} (ho : kt o = 6) (hx : μ o 1 = x) (d : decode M.2.1 pc = .ok (.getfield 17, 3)) (K : J g M R Q k n (WM g adr μ) (pc + 3) l (.int x :: st)) : J g M R Q k n (WM g adr μ) pc l (.ref (adr o) :: st) := by
  subst hx
  exact J.getF (C := RX2) (T := TX2) (N := 2) (ci := 2) (kf := 1) inB2 rfl (by decide) (by rw [hM]; exact t_109) (WM_get ho (by decide)) rfl d K
theorem pf_X2_17 (hM : M.1 = RX2) {o : Nat} {x : Int32} (ho : kt o = 6) (d : decode M.2.1 pc = .ok (.putfield 17, 3)) (K : J g M R Q k n (WM g adr (wr μ o 1 x)) (pc + 3) l st) : J g M R Q k n (WM g adr μ) pc l (.int x :: .ref (adr o) :: st) := by
  refine J.putF (C := RX2) (T := TX2) (N := 2) (ci := 2) (kf := 1) (v := .int x) (ty := .int) inB2 tyX2 tyX2_ok nmX2 rfl (by decide) (by rw [hM]; exact t_109) (WM_get ho (by decide)) rfl (by decide +kernel) rfl rfl (by decide) d ?_
  rw [WM_set (m' := upd (μ o) 1 x) ho rfl, wr_eq]
  exact K
theorem gf_X3_9 (hM : M.1 = RX3) {o o2 : Nat} (ho : kt o = 1) (e : o + 1 = o2) (d : decode M.2.1 pc = .ok (.getfield 9, 3)) (K : J g M R Q k n (WM g adr μ) (pc + 3) l (.ref (adr o2) :: st)) : J g M R Q k n (WM g adr μ) pc l (.ref (adr o) :: st) := by
  subst e
  exact J.getF (C := RX3) (T := TX3) (N := 1) (ci := 3) (kf := 0) inB3 rfl (by decide) (by rw [hM]; exact t_71) (WM_get ho (by decide)) rfl d K
theorem gf_X4_12 (hM : M.1 = RX4) {o o2 : Nat} (ho : kt o = 8) (e : o + 1 = o2) (d : decode M.2.1 pc = .ok (.getfield 12, 3)) (K : J g M R Q k n (WM g adr μ) (pc + 3) l (.ref (adr o2) :: st)) : J g M R Q k n (WM g adr μ) pc l (.ref (adr o) :: st) := by
  subst e
  exact J.getF (C := RX4) (T := TX4) (N := 6) (ci := 4) (kf := 0) inB4 rfl (by decide) (by rw [hM]; exact t_137) (WM_get ho (by decide)) rfl d K
theorem gf_X4_18 (hM : M.1 = RX4) {o : Nat} {x : Int32} (ho : kt o = 8) (hx : μ o 1 = x) (d : decode M.2.1 pc = .ok (.getfield 18, 3)) (K : J g M R Q k n (WM g adr μ) (pc + 3) l (.int x :: st)) : J g M R Q k n (WM g adr μ) pc l (.ref (adr o) :: st) := by
  subst hx
  exact J.getF (C := RX4) (T := TX4) (N := 6) (ci := 4) (kf := 1) inB4 rfl (by decide) (by rw [hM]; exact t_139) (WM_get ho (by decide)) rfl d K
theorem pf_X4_18 (hM : M.1 = RX4) {o : Nat} {x : Int32} (ho : kt o = 8) (d : decode M.2.1 pc = .ok (.putfield 18, 3)) (K : J g M R Q k n (WM g adr (wr μ o 1 x)) (pc + 3) l st) : J g M R Q k n (WM g adr μ) pc l (.int x :: .ref (adr o) :: st) := by
  refine J.putF (C := RX4) (T := TX4) (N := 6) (ci := 4) (kf := 1) (v := .int x) (ty := .int) inB4 tyX4 tyX4_ok nmX4 rfl (by decide) (by rw [hM]; exact t_139) (WM_get ho (by decide)) rfl (by decide +kernel) rfl rfl (by decide) d ?_
  rw [WM_set (m' := upd (μ o) 1 x) ho rfl, wr_eq]
  exact K
theorem gf_X4_24 (hM : M.1 = RX4) {o o2 : Nat} (ho : kt o = 8) (e : o + 3 = o2) (d : decode M.2.1 pc = .ok (.getfield 24, 3)) (K : J g M R Q k n (WM g adr μ) (pc + 3) l (.ref (adr o2) :: st)) : J g M R Q k n (WM g adr μ) pc l (.ref (adr o) :: st) := by
  subst e
  exact J.getF (C := RX4) (T := TX4) (N := 6) (ci := 4) (kf := 2) inB4 rfl (by decide) (by rw [hM]; exact t_140) (WM_get ho (by decide)) rfl d K
theorem gf_X4_28 (hM : M.1 = RX4) {o o2 : Nat} (ho : kt o = 8) (e : o + 4 = o2) (d : decode M.2.1 pc = .ok (.getfield 28, 3)) (K : J g M R Q k n (WM g adr μ) (pc + 3) l (.ref (adr o2) :: st)) : J g M R Q k n (WM g adr μ) pc l (.ref (adr o) :: st) := by
  subst e
  exact J.getF (C := RX4) (T := TX4) (N := 6) (ci := 4) (kf := 3) inB4 rfl (by decide) (by rw [hM]; exact t_141) (WM_get ho (by decide)) rfl d K
theorem gf_X4_31 (hM : M.1 = RX4) {o o2 : Nat} (ho : kt o = 8) (e : o + 5 = o2) (d : decode M.2.1 pc = .ok (.getfield 31, 3)) (K : J g M R Q k n (WM g adr μ) (pc + 3) l (.ref (adr o2) :: st)) : J g M R Q k n (WM g adr μ) pc l (.ref (adr o) :: st) := by
  subst e
  exact J.getF (C := RX4) (T := TX4) (N := 6) (ci := 4) (kf := 4) inB4 rfl (by decide) (by rw [hM]; exact t_142) (WM_get ho (by decide)) rfl d K
theorem gf_X4_35 (hM : M.1 = RX4) {o o2 : Nat} (ho : kt o = 8) (e : o + 6 = o2) (d : decode M.2.1 pc = .ok (.getfield 35, 3)) (K : J g M R Q k n (WM g adr μ) (pc + 3) l (.ref (adr o2) :: st)) : J g M R Q k n (WM g adr μ) pc l (.ref (adr o) :: st) := by
  subst e
  exact J.getF (C := RX4) (T := TX4) (N := 6) (ci := 4) (kf := 5) inB4 rfl (by decide) (by rw [hM]; exact t_143) (WM_get ho (by decide)) rfl d K
theorem gf_X5_13 (hM : M.1 = RX5) {o o2 : Nat} (ho : kt o = 9) (e : o + 1 = o2) (d : decode M.2.1 pc = .ok (.getfield 13, 3)) (K : J g M R Q k n (WM g adr μ) (pc + 3) l (.ref (adr o2) :: st)) : J g M R Q k n (WM g adr μ) pc l (.ref (adr o) :: st) := by
  subst e
  exact J.getF (C := RX5) (T := TX5) (N := 2) (ci := 5) (kf := 0) inB5 rfl (by decide) (by rw [hM]; exact t_127) (WM_get ho (by decide)) rfl d K
theorem gf_X5_17 (hM : M.1 = RX5) {o : Nat} {x : Int32} (ho : kt o = 9) (hx : μ o 1 = x) (d : decode M.2.1 pc = .ok (.getfield 17, 3)) (K : J g M R Q k n (WM g adr μ) (pc + 3) l (.int x :: st)) : J g M R Q k n (WM g adr μ) pc l (.ref (adr o) :: st) := by
  subst hx
  exact J.getF (C := RX5) (T := TX5) (N := 2) (ci := 5) (kf := 1) inB5 rfl (by decide) (by rw [hM]; exact t_128) (WM_get ho (by decide)) rfl d K
theorem pf_X5_17 (hM : M.1 = RX5) {o : Nat} {x : Int32} (ho : kt o = 9) (d : decode M.2.1 pc = .ok (.putfield 17, 3)) (K : J g M R Q k n (WM g adr (wr μ o 1 x)) (pc + 3) l st) : J g M R Q k n (WM g adr μ) pc l (.int x :: .ref (adr o) :: st) := by
  refine J.putF (C := RX5) (T := TX5) (N := 2) (ci := 5) (kf := 1) (v := .int x) (ty := .int) inB5 tyX5 tyX5_ok nmX5 rfl (by decide) (by rw [hM]; exact t_128) (WM_get ho (by decide)) rfl (by decide +kernel) rfl rfl (by decide) d ?_
  rw [WM_set (m' := upd (μ o) 1 x) ho rfl, wr_eq]
  exact K
theorem gf_X6_12 (hM : M.1 = RX6) {o o2 : Nat} (ho : kt o = 5) (e : o + 1 = o2) (d : decode M.2.1 pc = .ok (.getfield 12, 3)) (K : J g M R Q k n (WM g adr μ) (pc + 3) l (.ref (adr o2) :: st)) : J g M R Q k n (WM g adr μ) pc l (.ref (adr o) :: st) := by
  subst e
  exact J.getF (C := RX6) (T := TX6) (N := 6) (ci := 6) (kf := 0) inB6 rfl (by decide) (by rw [hM]; exact t_76) (WM_get ho (by decide)) rfl d K
theorem gf_X6_21 (hM : M.1 = RX6) {o o2 : Nat} (ho : kt o = 5) (e : o + 5 = o2) (d : decode M.2.1 pc = .ok (.getfield 21, 3)) (K : J g M R Q k n (WM g adr μ) (pc + 3) l (.ref (adr o2) :: st)) : J g M R Q k n (WM g adr μ) pc l (.ref (adr o) :: st) := by
  subst e
  exact J.getF (C := RX6) (T := TX6) (N := 6) (ci := 6) (kf := 1) inB6 rfl (by decide) (by rw [hM]; exact t_78) (WM_get ho (by decide)) rfl d K
theorem gf_X6_25 (hM : M.1 = RX6) {o : Nat} {x : Int32} (ho : kt o = 5) (hx : μ o 2 = x) (d : decode M.2.1 pc = .ok (.getfield 25, 3)) (K : J g M R Q k n (WM g adr μ) (pc + 3) l (.int x :: st)) : J g M R Q k n (WM g adr μ) pc l (.ref (adr o) :: st) := by
  subst hx
  exact J.getF (C := RX6) (T := TX6) (N := 6) (ci := 6) (kf := 2) inB6 rfl (by decide) (by rw [hM]; exact t_80) (WM_get ho (by decide)) rfl d K
theorem pf_X6_25 (hM : M.1 = RX6) {o : Nat} {x : Int32} (ho : kt o = 5) (d : decode M.2.1 pc = .ok (.putfield 25, 3)) (K : J g M R Q k n (WM g adr (wr μ o 2 x)) (pc + 3) l st) : J g M R Q k n (WM g adr μ) pc l (.int x :: .ref (adr o) :: st) := by
  refine J.putF (C := RX6) (T := TX6) (N := 6) (ci := 6) (kf := 2) (v := .int x) (ty := .int) inB6 tyX6 tyX6_ok nmX6 rfl (by decide) (by rw [hM]; exact t_80) (WM_get ho (by decide)) rfl (by decide +kernel) rfl rfl (by decide) d ?_
  rw [WM_set (m' := upd (μ o) 2 x) ho rfl, wr_eq]
  exact K
theorem gf_X6_29 (hM : M.1 = RX6) {o : Nat} {x : Int32} (ho : kt o = 5) (hx : μ o 3 = x) (d : decode M.2.1 pc = .ok (.getfield 29, 3)) (K : J g M R Q k n (WM g adr μ) (pc + 3) l (.int x :: st)) : J g M R Q k n (WM g adr μ) pc l (.ref (adr o) :: st) := by
  subst hx
  exact J.getF (C := RX6) (T := TX6) (N := 6) (ci := 6) (kf := 3) inB6 rfl (by decide) (by rw [hM]; exact t_82) (WM_get ho (by decide)) rfl d K
theorem pf_X6_29 (hM : M.1 = RX6) {o : Nat} {x : Int32} (ho : kt o = 5) (d : decode M.2.1 pc = .ok (.putfield 29, 3)) (K : J g M R Q k n (WM g adr (wr μ o 3 x)) (pc + 3) l st) : J g M R Q k n (WM g adr μ) pc l (.int x :: .ref (adr o) :: st) := by
  refine J.putF (C := RX6) (T := TX6) (N := 6) (ci := 6) (kf := 3) (v := .int x) (ty := .int) inB6 tyX6 tyX6_ok nmX6 rfl (by decide) (by rw [hM]; exact t_82) (WM_get ho (by decide)) rfl (by decide +kernel) rfl rfl (by decide) d ?_
  rw [WM_set (m' := upd (μ o) 3 x) ho rfl, wr_eq]
  exact K
theorem gf_X6_34 (hM : M.1 = RX6) {o o2 : Nat} (ho : kt o = 5) (e : o + 7 = o2) (d : decode M.2.1 pc = .ok (.getfield 34, 3)) (K : J g M R Q k n (WM g adr μ) (pc + 3) l (.ref (adr o2) :: st)) : J g M R Q k n (WM g adr μ) pc l (.ref (adr o) :: st) := by
  subst e
  exact J.getF (C := RX6) (T := TX6) (N := 6) (ci := 6) (kf := 4) inB6 rfl (by decide) (by rw [hM]; exact t_84) (WM_get ho (by decide)) rfl d K
theorem gf_X6_38 (hM : M.1 = RX6) {o o2 : Nat} (ho : kt o = 5) (e : o + 8 = o2) (d : decode M.2.1 pc = .ok (.getfield 38, 3)) (K : J g M R Q k n (WM g adr μ) (pc + 3) l (.ref (adr o2) :: st)) : J g M R Q k n (WM g adr μ) pc l (.ref (adr o) :: st) := by
  subst e
  exact J.getF (C := RX6) (T := TX6) (N := 6) (ci := 6) (kf := 5) inB6 rfl (by decide) (by rw [hM]; exact t_85) (WM_get ho (by decide)) rfl d K
theorem gf_X8_9 (hM : M.1 = RX8) {o o2 : Nat} (ho : kt o = 14) (e : o + 1 = o2) (d : decode M.2.1 pc = .ok (.getfield 9, 3)) (K : J g M R Q k n (WM g adr μ) (pc + 3) l (.ref (adr o2) :: st)) : J g M R Q k n (WM g adr μ) pc l (.ref (adr o) :: st) := by
  subst e
  exact J.getF (C := RX8) (T := TX8) (N := 20) (ci := 8) (kf := 0) inB8 rfl (by decide) (by rw [hM]; exact t_976) (WM_get ho (by decide)) rfl d K
theorem gf_X8_13 (hM : M.1 = RX8) {o o2 : Nat} (ho : kt o = 14) (e : o + 2 = o2) (d : decode M.2.1 pc = .ok (.getfield 13, 3)) (K : J g M R Q k n (WM g adr μ) (pc + 3) l (.ref (adr o2) :: st)) : J g M R Q k n (WM g adr μ) pc l (.ref (adr o) :: st) := by
  subst e
  exact J.getF (C := RX8) (T := TX8) (N := 20) (ci := 8) (kf := 1) inB8 rfl (by decide) (by rw [hM]; exact t_977) (WM_get ho (by decide)) rfl d K
theorem gf_X8_16 (hM : M.1 = RX8) {o o2 : Nat} (ho : kt o = 14) (e : o + 3 = o2) (d : decode M.2.1 pc = .ok (.getfield 16, 3)) (K : J g M R Q k n (WM g adr μ) (pc + 3) l (.ref (adr o2) :: st)) : J g M R Q k n (WM g adr μ) pc l (.ref (adr o) :: st) := by
  subst e
  exact J.getF (C := RX8) (T := TX8) (N := 20) (ci := 8) (kf := 2) inB8 rfl (by decide) (by rw [hM]; exact t_978) (WM_get ho (by decide)) rfl d K
theorem gf_X8_19 (hM : M.1 = RX8) {o o2 : Nat} (ho : kt o = 14) (e : o + 4 = o2) (d : decode M.2.1 pc = .ok (.getfield 19, 3)) (K : J g M R Q k n (WM g adr μ) (pc + 3) l (.ref (adr o2) :: st)) : J g M R Q k n (WM g adr μ) pc l (.ref (adr o) :: st) := by
  subst e
  exact J.getF (C := RX8) (T := TX8) (N := 20) (ci := 8) (kf := 4) inB8 rfl (by decide) (by rw [hM]; exact t_980) (WM_get ho (by decide)) rfl d K
theorem gf_X8_22 (hM : M.1 = RX8) {o o2 : Nat} (ho : kt o = 14) (e : o + 5 = o2) (d : decode M.2.1 pc = .ok (.getfield 22, 3)) (K : J g M R Q k n (WM g adr μ) (pc + 3) l (.ref (adr o2) :: st)) : J g M R Q k n (WM g adr μ) pc l (.ref (adr o) :: st) := by
  subst e
  exact J.getF (C := RX8) (T := TX8) (N := 20) (ci := 8) (kf := 9) inB8 rfl (by decide) (by rw [hM]; exact t_985) (WM_get ho (by decide)) rfl d K
theorem gf_X8_25 (hM : M.1 = RX8) {o o2 : Nat} (ho : kt o = 14) (e : o + 6 = o2) (d : decode M.2.1 pc = .ok (.getfield 25, 3)) (K : J g M R Q k n (WM g adr μ) (pc + 3) l (.ref (adr o2) :: st)) : J g M R Q k n (WM g adr μ) pc l (.ref (adr o) :: st) := by
  subst e
  exact J.getF (C := RX8) (T := TX8) (N := 20) (ci := 8) (kf := 10) inB8 rfl (by decide) (by rw [hM]; exact t_986) (WM_get ho (by decide)) rfl d K
theorem gf_X8_28 (hM : M.1 = RX8) {o o2 : Nat} (ho : kt o = 14) (e : o + 7 = o2) (d : decode M.2.1 pc = .ok (.getfield 28, 3)) (K : J g M R Q k n (WM g adr μ) (pc + 3) l (.ref (adr o2) :: st)) : J g M R Q k n (WM g adr μ) pc l (.ref (adr o) :: st) := by
  subst e
  exact J.getF (C := RX8) (T := TX8) (N := 20) (ci := 8) (kf := 12) inB8 rfl (by decide) (by rw [hM]; exact t_988) (WM_get ho (by decide)) rfl d K
theorem gf_X8_31 (hM : M.1 = RX8) {o o2 : Nat} (ho : kt o = 14) (e : o + 8 = o2) (d : decode M.2.1 pc = .ok (.getfield 31, 3)) (K : J g M R Q k n (WM g adr μ) (pc + 3) l (.ref (adr o2) :: st)) : J g M R Q k n (WM g adr μ) pc l (.ref (adr o) :: st) := by
  subst e
  exact J.getF (C := RX8) (T := TX8) (N := 20) (ci := 8) (kf := 13) inB8 rfl (by decide) (by rw [hM]; exact t_989) (WM_get ho (by decide)) rfl d K
theorem gf_X8_35 (hM : M.1 = RX8) {o : Nat} {x : Int32} (ho : kt o = 14) (hx : μ o 17 = x) (d : decode M.2.1 pc = .ok (.getfield 35, 3)) (K : J g M R Q k n (WM g adr μ) (pc + 3) l (.int x :: st)) : J g M R Q k n (WM g adr μ) pc l (.ref (adr o) :: st) := by
  subst hx
  exact J.getF (C := RX8) (T := TX8) (N := 20) (ci := 8) (kf := 17) inB8 rfl (by decide) (by rw [hM]; exact t_993) (WM_get ho (by decide)) rfl d K
theorem pf_X8_35 (hM : M.1 = RX8) {o : Nat} {x : Int32} (ho : kt o = 14) (d : decode M.2.1 pc = .ok (.putfield 35, 3)) (K : J g M R Q k n (WM g adr (wr μ o 17 x)) (pc + 3) l st) : J g M R Q k n (WM g adr μ) pc l (.int x :: .ref (adr o) :: st) := by
  refine J.putF (C := RX8) (T := TX8) (N := 20) (ci := 8) (kf := 17) (v := .int x) (ty := .int) inB8 tyX8 tyX8_ok nmX8 rfl (by decide) (by rw [hM]; exact t_993) (WM_get ho (by decide)) rfl (by decide +kernel) rfl rfl (by decide) d ?_
  rw [WM_set (m' := upd (μ o) 17 x) ho rfl, wr_eq]
  exact K
theorem gf_X8_39 (hM : M.1 = RX8) {o o2 : Nat} (ho : kt o = 14) (e : o + 9 = o2) (d : decode M.2.1 pc = .ok (.getfield 39, 3)) (K : J g M R Q k n (WM g adr μ) (pc + 3) l (.ref (adr o2) :: st)) : J g M R Q k n (WM g adr μ) pc l (.ref (adr o) :: st) := by
  subst e
  exact J.getF (C := RX8) (T := TX8) (N := 20) (ci := 8) (kf := 18) inB8 rfl (by decide) (by rw [hM]; exact t_994) (WM_get ho (by decide)) rfl d K
theorem gf_X8_42 (hM : M.1 = RX8) {o : Nat} {x : Int32} (ho : kt o = 14) (hx : μ o 6 = x) (d : decode M.2.1 pc = .ok (.getfield 42, 3)) (K : J g M R Q k n (WM g adr μ) (pc + 3) l (.int x :: st)) : J g M R Q k n (WM g adr μ) pc l (.ref (adr o) :: st) := by
  subst hx
  exact J.getF (C := RX8) (T := TX8) (N := 20) (ci := 8) (kf := 6) inB8 rfl (by decide) (by rw [hM]; exact t_982) (WM_get ho (by decide)) rfl d K
theorem pf_X8_42 (hM : M.1 = RX8) {o : Nat} {x : Int32} (ho : kt o = 14) (d : decode M.2.1 pc = .ok (.putfield 42, 3)) (K : J g M R Q k n (WM g adr (wr μ o 6 x)) (pc + 3) l st) : J g M R Q k n (WM g adr μ) pc l (.int x :: .ref (adr o) :: st) := by
  refine J.putF (C := RX8) (T := TX8) (N := 20) (ci := 8) (kf := 6) (v := .int x) (ty := .int) inB8 tyX8 tyX8_ok nmX8 rfl (by decide) (by rw [hM]; exact t_982) (WM_get ho (by decide)) rfl (by decide +kernel) rfl rfl (by decide) d ?_
  rw [WM_set (m' := upd (μ o) 6 x) ho rfl, wr_eq]
  exact K
theorem gf_X8_51 (hM : M.1 = RX8) {o : Nat} {x : Int32} (ho : kt o = 14) (hx : μ o 5 = x) (d : decode M.2.1 pc = .ok (.getfield 51, 3)) (K : J g M R Q k n (WM g adr μ) (pc + 3) l (.int x :: st)) : J g M R Q k n (WM g adr μ) pc l (.ref (adr o) :: st) := by
  subst hx
  exact J.getF (C := RX8) (T := TX8) (N := 20) (ci := 8) (kf := 5) inB8 rfl (by decide) (by rw [hM]; exact t_981) (WM_get ho (by decide)) rfl d K
theorem pf_X8_51 (hM : M.1 = RX8) {o : Nat} {x : Int32} (ho : kt o = 14) (d : decode M.2.1 pc = .ok (.putfield 51, 3)) (K : J g M R Q k n (WM g adr (wr μ o 5 x)) (pc + 3) l st) : J g M R Q k n (WM g adr μ) pc l (.int x :: .ref (adr o) :: st) := by
  refine J.putF (C := RX8) (T := TX8) (N := 20) (ci := 8) (kf := 5) (v := .int x) (ty := .int) inB8 tyX8 tyX8_ok nmX8 rfl (by decide) (by rw [hM]; exact t_981) (WM_get ho (by decide)) rfl (by decide +kernel) rfl rfl (by decide) d ?_
  rw [WM_set (m' := upd (μ o) 5 x) ho rfl, wr_eq]
  exact K
theorem gf_X8_54 (hM : M.1 = RX8) {o : Nat} {x : Int32} (ho : kt o = 14) (hx : μ o 7 = x) (d : decode M.2.1 pc = .ok (.getfield 54, 3)) (K : J g M R Q k n (WM g adr μ) (pc + 3) l (.int x :: st)) : J g M R Q k n (WM g adr μ) pc l (.ref (adr o) :: st) := by
  subst hx
  exact J.getF (C := RX8) (T := TX8) (N := 20) (ci := 8) (kf := 7) inB8 rfl (by decide) (by rw [hM]; exact t_983) (WM_get ho (by decide)) rfl d K
theorem pf_X8_54 (hM : M.1 = RX8) {o : Nat} {x : Int32} (ho : kt o = 14) (d : decode M.2.1 pc = .ok (.putfield 54, 3)) (K : J g M R Q k n (WM g adr (wr μ o 7 x)) (pc + 3) l st) : J g M R Q k n (WM g adr μ) pc l (.int x :: .ref (adr o) :: st) := by
  refine J.putF (C := RX8) (T := TX8) (N := 20) (ci := 8) (kf := 7) (v := .int x) (ty := .int) inB8 tyX8 tyX8_ok nmX8 rfl (by decide) (by rw [hM]; exact t_983) (WM_get ho (by decide)) rfl (by decide +kernel) rfl rfl (by decide) d ?_
  rw [WM_set (m' := upd (μ o) 7 x) ho rfl, wr_eq]
  exact K
theorem gf_X8_57 (hM : M.1 = RX8) {o : Nat} {x : Int32} (ho : kt o = 14) (hx : μ o 8 = x) (d : decode M.2.1 pc = .ok (.getfield 57, 3)) (K : J g M R Q k n (WM g adr μ) (pc + 3) l (.int x :: st)) : J g M R Q k n (WM g adr μ) pc l (.ref (adr o) :: st) := by
  subst hx
  exact J.getF (C := RX8) (T := TX8) (N := 20) (ci := 8) (kf := 8) inB8 rfl (by decide) (by rw [hM]; exact t_984) (WM_get ho (by decide)) rfl d K
theorem pf_X8_57 (hM : M.1 = RX8) {o : Nat} {x : Int32} (ho : kt o = 14) (d : decode M.2.1 pc = .ok (.putfield 57, 3)) (K : J g M R Q k n (WM g adr (wr μ o 8 x)) (pc + 3) l st) : J g M R Q k n (WM g adr μ) pc l (.int x :: .ref (adr o) :: st) := by
  refine J.putF (C := RX8) (T := TX8) (N := 20) (ci := 8) (kf := 8) (v := .int x) (ty := .int) inB8 tyX8 tyX8_ok nmX8 rfl (by decide) (by rw [hM]; exact t_984) (WM_get ho (by decide)) rfl (by decide +kernel) rfl rfl (by decide) d ?_
  rw [WM_set (m' := upd (μ o) 8 x) ho rfl, wr_eq]
  exact K
theorem gf_X8_60 (hM : M.1 = RX8) {o : Nat} {x : Int32} (ho : kt o = 14) (hx : μ o 11 = x) (d : decode M.2.1 pc = .ok (.getfield 60, 3)) (K : J g M R Q k n (WM g adr μ) (pc + 3) l (.int x :: st)) : J g M R Q k n (WM g adr μ) pc l (.ref (adr o) :: st) := by
  subst hx
  exact J.getF (C := RX8) (T := TX8) (N := 20) (ci := 8) (kf := 11) inB8 rfl (by decide) (by rw [hM]; exact t_987) (WM_get ho (by decide)) rfl d K
theorem pf_X8_60 (hM : M.1 = RX8) {o : Nat} {x : Int32} (ho : kt o = 14) (d : decode M.2.1 pc = .ok (.putfield 60, 3)) (K : J g M R Q k n (WM g adr (wr μ o 11 x)) (pc + 3) l st) : J g M R Q k n (WM g adr μ) pc l (.int x :: .ref (adr o) :: st) := by
  refine J.putF (C := RX8) (T := TX8) (N := 20) (ci := 8) (kf := 11) (v := .int x) (ty := .int) inB8 tyX8 tyX8_ok nmX8 rfl (by decide) (by rw [hM]; exact t_987) (WM_get ho (by decide)) rfl (by decide +kernel) rfl rfl (by decide) d ?_
  rw [WM_set (m' := upd (μ o) 11 x) ho rfl, wr_eq]
  exact K
theorem gf_X8_134 (hM : M.1 = RX8) {o : Nat} {x : Int32} (ho : kt o = 14) (hx : μ o 14 = x) (d : decode M.2.1 pc = .ok (.getfield 134, 3)) (K : J g M R Q k n (WM g adr μ) (pc + 3) l (.int x :: st)) : J g M R Q k n (WM g adr μ) pc l (.ref (adr o) :: st) := by
  subst hx
  exact J.getF (C := RX8) (T := TX8) (N := 20) (ci := 8) (kf := 14) inB8 rfl (by decide) (by rw [hM]; exact t_990) (WM_get ho (by decide)) rfl d K
theorem pf_X8_134 (hM : M.1 = RX8) {o : Nat} {x : Int32} (ho : kt o = 14) (d : decode M.2.1 pc = .ok (.putfield 134, 3)) (K : J g M R Q k n (WM g adr (wr μ o 14 x)) (pc + 3) l st) : J g M R Q k n (WM g adr μ) pc l (.int x :: .ref (adr o) :: st) := by
  refine J.putF (C := RX8) (T := TX8) (N := 20) (ci := 8) (kf := 14) (v := .int x) (ty := .int) inB8 tyX8 tyX8_ok nmX8 rfl (by decide) (by rw [hM]; exact t_990) (WM_get ho (by decide)) rfl (by decide +kernel) rfl rfl (by decide) d ?_
  rw [WM_set (m' := upd (μ o) 14 x) ho rfl, wr_eq]
  exact K
theorem gf_X8_137 (hM : M.1 = RX8) {o : Nat} {x : Int32} (ho : kt o = 14) (hx : μ o 16 = x) (d : decode M.2.1 pc = .ok (.getfield 137, 3)) (K : J g M R Q k n (WM g adr μ) (pc + 3) l (.int x :: st)) : J g M R Q k n (WM g adr μ) pc l (.ref (adr o) :: st) := by
  subst hx
  exact J.getF (C := RX8) (T := TX8) (N := 20) (ci := 8) (kf := 16) inB8 rfl (by decide) (by rw [hM]; exact t_992) (WM_get ho (by decide)) rfl d K
theorem pf_X8_137 (hM : M.1 = RX8) {o : Nat} {x : Int32} (ho : kt o = 14) (hx : x = 0 ∨ x = 1) (d : decode M.2.1 pc = .ok (.putfield 137, 3)) (K : J g M R Q k n (WM g adr (wr μ o 16 x)) (pc + 3) l st) : J g M R Q k n (WM g adr μ) pc l (.int x :: .ref (adr o) :: st) := by
  refine J.putF (C := RX8) (T := TX8) (N := 20) (ci := 8) (kf := 16) (v := .int x) (ty := .boolean) inB8 tyX8 tyX8_ok nmX8 rfl (by decide) (by rw [hM]; exact t_992) (WM_get ho (by decide)) rfl (by decide +kernel) (by rcases hx with rfl | rfl <;> rfl) (by rcases hx with rfl | rfl <;> rfl) (by decide) d ?_
  rw [WM_set (m' := upd (μ o) 16 x) ho rfl, wr_eq]
  exact K
theorem gf_X8_141 (hM : M.1 = RX8) {o : Nat} {x : Int32} (ho : kt o = 14) (hx : μ o 15 = x) (d : decode M.2.1 pc = .ok (.getfield 141, 3)) (K : J g M R Q k n (WM g adr μ) (pc + 3) l (.int x :: st)) : J g M R Q k n (WM g adr μ) pc l (.ref (adr o) :: st) := by
  subst hx
  exact J.getF (C := RX8) (T := TX8) (N := 20) (ci := 8) (kf := 15) inB8 rfl (by decide) (by rw [hM]; exact t_991) (WM_get ho (by decide)) rfl d K
theorem pf_X8_141 (hM : M.1 = RX8) {o : Nat} {x : Int32} (ho : kt o = 14) (d : decode M.2.1 pc = .ok (.putfield 141, 3)) (K : J g M R Q k n (WM g adr (wr μ o 15 x)) (pc + 3) l st) : J g M R Q k n (WM g adr μ) pc l (.int x :: .ref (adr o) :: st) := by
  refine J.putF (C := RX8) (T := TX8) (N := 20) (ci := 8) (kf := 15) (v := .int x) (ty := .int) inB8 tyX8 tyX8_ok nmX8 rfl (by decide) (by rw [hM]; exact t_991) (WM_get ho (by decide)) rfl (by decide +kernel) rfl rfl (by decide) d ?_
  rw [WM_set (m' := upd (μ o) 15 x) ho rfl, wr_eq]
  exact K
theorem gf_X8_204 (hM : M.1 = RX8) {o : Nat} {x : Int32} (ho : kt o = 14) (hx : μ o 19 = x) (d : decode M.2.1 pc = .ok (.getfield 204, 3)) (K : J g M R Q k n (WM g adr μ) (pc + 3) l (.int x :: st)) : J g M R Q k n (WM g adr μ) pc l (.ref (adr o) :: st) := by
  subst hx
  exact J.getF (C := RX8) (T := TX8) (N := 20) (ci := 8) (kf := 19) inB8 rfl (by decide) (by rw [hM]; exact t_995) (WM_get ho (by decide)) rfl d K
theorem pf_X8_204 (hM : M.1 = RX8) {o : Nat} {x : Int32} (ho : kt o = 14) (d : decode M.2.1 pc = .ok (.putfield 204, 3)) (K : J g M R Q k n (WM g adr (wr μ o 19 x)) (pc + 3) l st) : J g M R Q k n (WM g adr μ) pc l (.int x :: .ref (adr o) :: st) := by
  refine J.putF (C := RX8) (T := TX8) (N := 20) (ci := 8) (kf := 19) (v := .int x) (ty := .int) inB8 tyX8 tyX8_ok nmX8 rfl (by decide) (by rw [hM]; exact t_995) (WM_get ho (by decide)) rfl (by decide +kernel) rfl rfl (by decide) d ?_
  rw [WM_set (m' := upd (μ o) 19 x) ho rfl, wr_eq]
  exact K
theorem gf_X8_220 (hM : M.1 = RX8) {o : Nat} {x : Int32} (ho : kt o = 14) (hx : μ o 3 = x) (d : decode M.2.1 pc = .ok (.getfield 220, 3)) (K : J g M R Q k n (WM g adr μ) (pc + 3) l (.int x :: st)) : J g M R Q k n (WM g adr μ) pc l (.ref (adr o) :: st) := by
  subst hx
  exact J.getF (C := RX8) (T := TX8) (N := 20) (ci := 8) (kf := 3) inB8 rfl (by decide) (by rw [hM]; exact t_979) (WM_get ho (by decide)) rfl d K
theorem pf_X8_220 (hM : M.1 = RX8) {o : Nat} {x : Int32} (ho : kt o = 14) (hx : x = 0 ∨ x = 1) (d : decode M.2.1 pc = .ok (.putfield 220, 3)) (K : J g M R Q k n (WM g adr (wr μ o 3 x)) (pc + 3) l st) : J g M R Q k n (WM g adr μ) pc l (.int x :: .ref (adr o) :: st) := by
  refine J.putF (C := RX8) (T := TX8) (N := 20) (ci := 8) (kf := 3) (v := .int x) (ty := .boolean) inB8 tyX8 tyX8_ok nmX8 rfl (by decide) (by rw [hM]; exact t_979) (WM_get ho (by decide)) rfl (by decide +kernel) (by rcases hx with rfl | rfl <;> rfl) (by rcases hx with rfl | rfl <;> rfl) (by decide) d ?_
  rw [WM_set (m' := upd (μ o) 3 x) ho rfl, wr_eq]
  exact K
theorem cl_X7_64 (hM : M.1 = RX7) {a0 : Value} {Ry : Room} {k' n' : Nat} {φ : Mem → Prop} (hC : CT g yX7_needRing mX7_needRing Ry (WM g adr μ) [a0] (PM g adr (.inl none) φ)) (hs : (Ry.frames + 1 ≤ R.frames ∧ 8 + (1 + 11) + Ry.locals ≤ R.locals) ∧ (k + Ry.cells = k' ∧ n + Ry.slots = n') ∧ k' ≤ R.cells ∧ n' ≤ R.slots) (hW : Nat.ble ((st.map fun v => v.category).sum) 8 = true) (d : decode M.2.1 pc = .ok (.invokestatic 64, 3)) (K : ∀ μ', φ μ' → J g M R Q k' n' (WM g adr μ') (pc + 3) l st) : J g M R Q k n (WM g adr μ) pc l (a0 :: st) := by
  obtain ⟨r, hr⟩ : ∃ r : Option Value ⊕ String, r = .inl none := ⟨_, rfl⟩
  rw [← hr] at hC
  exact J.callS (y := yX7_needRing) (My := mX7_needRing) (As := [a0]) (na := 1) (idx := 64) (P := PM g adr r φ) hC (by rw [hM]; exact t_336) t_337 (by rw [hM]; exact t_1) t_338 ⟨(by rw [hM]; rfl), by decide +kernel, by decide +kernel, by decide +kernel⟩ rfl hs.1 (Nat.le_of_ble_eq_true hW) d ⟨by rw [hs.2.1.1]; exact hs.2.2.1, by rw [hs.2.1.2]; exact hs.2.2.2⟩ (fun v w' hp => by obtain ⟨μ', rfl, h1, h2⟩ := hp; rw [hr] at h1; cases h1; rw [hs.2.1.1, hs.2.1.2]; exact K μ' h2) (fun E w' hp => by obtain ⟨μ', rfl, h1, h2⟩ := hp; rw [hr] at h1; cases h1)
theorem cx_X7_64 (hM : M.1 = RX7) {a0 : Value} {Ry : Room} {k' n' : Nat} {E : String} {φ : Mem → Prop} (hC : CT g yX7_needRing mX7_needRing Ry (WM g adr μ) [a0] (PM g adr (.inr E) φ)) (hs : (Ry.frames + 1 ≤ R.frames ∧ 8 + (1 + 11) + Ry.locals ≤ R.locals) ∧ (k + Ry.cells = k' ∧ n + Ry.slots = n') ∧ k' ≤ R.cells ∧ n' ≤ R.slots) (hW : Nat.ble ((st.map fun v => v.category).sum) 8 = true) (d : decode M.2.1 pc = .ok (.invokestatic 64, 3)) (K : ∀ μ', φ μ' → JX g M R Q k' n' (WM g adr μ') pc l st E) : J g M R Q k n (WM g adr μ) pc l (a0 :: st) := by
  obtain ⟨r, hr⟩ : ∃ r : Option Value ⊕ String, r = .inr E := ⟨_, rfl⟩
  rw [← hr] at hC
  exact J.callS (y := yX7_needRing) (My := mX7_needRing) (As := [a0]) (na := 1) (idx := 64) (P := PM g adr r φ) hC (by rw [hM]; exact t_336) t_337 (by rw [hM]; exact t_1) t_338 ⟨(by rw [hM]; rfl), by decide +kernel, by decide +kernel, by decide +kernel⟩ rfl hs.1 (Nat.le_of_ble_eq_true hW) d ⟨by rw [hs.2.1.1]; exact hs.2.2.1, by rw [hs.2.1.2]; exact hs.2.2.2⟩ (fun v w' hp => by obtain ⟨μ', rfl, h1, h2⟩ := hp; rw [hr] at h1; cases h1) (fun E w' hp => by obtain ⟨μ', rfl, h1, h2⟩ := hp; rw [hr] at h1; cases h1; rw [hs.2.1.1, hs.2.1.2]; exact K μ' h2)
theorem cl_X7_68 (hM : M.1 = RX7) {a0 a1 a2 : Value} {Ry : Room} {k' n' : Nat} {φ : Mem → Prop} (hC : CT g yX7_needFromTo mX7_needFromTo Ry (WM g adr μ) [a0, a1, a2] (PM g adr (.inl none) φ)) (hs : (Ry.frames + 1 ≤ R.frames ∧ 8 + (3 + 11) + Ry.locals ≤ R.locals) ∧ (k + Ry.cells = k' ∧ n + Ry.slots = n') ∧ k' ≤ R.cells ∧ n' ≤ R.slots) (hW : Nat.ble ((st.map fun v => v.category).sum) 8 = true) (d : decode M.2.1 pc = .ok (.invokestatic 68, 3)) (K : ∀ μ', φ μ' → J g M R Q k' n' (WM g adr μ') (pc + 3) l st) : J g M R Q k n (WM g adr μ) pc l (a2 :: a1 :: a0 :: st) := by
  obtain ⟨r, hr⟩ : ∃ r : Option Value ⊕ String, r = .inl none := ⟨_, rfl⟩
  rw [← hr] at hC
  exact J.callS (y := yX7_needFromTo) (My := mX7_needFromTo) (As := [a0, a1, a2]) (na := 3) (idx := 68) (P := PM g adr r φ) hC (by rw [hM]; exact t_413) t_414 (by rw [hM]; exact t_1) t_415 ⟨(by rw [hM]; rfl), by decide +kernel, by decide +kernel, by decide +kernel⟩ rfl hs.1 (Nat.le_of_ble_eq_true hW) d ⟨by rw [hs.2.1.1]; exact hs.2.2.1, by rw [hs.2.1.2]; exact hs.2.2.2⟩ (fun v w' hp => by obtain ⟨μ', rfl, h1, h2⟩ := hp; rw [hr] at h1; cases h1; rw [hs.2.1.1, hs.2.1.2]; exact K μ' h2) (fun E w' hp => by obtain ⟨μ', rfl, h1, h2⟩ := hp; rw [hr] at h1; cases h1)
theorem cx_X7_68 (hM : M.1 = RX7) {a0 a1 a2 : Value} {Ry : Room} {k' n' : Nat} {E : String} {φ : Mem → Prop} (hC : CT g yX7_needFromTo mX7_needFromTo Ry (WM g adr μ) [a0, a1, a2] (PM g adr (.inr E) φ)) (hs : (Ry.frames + 1 ≤ R.frames ∧ 8 + (3 + 11) + Ry.locals ≤ R.locals) ∧ (k + Ry.cells = k' ∧ n + Ry.slots = n') ∧ k' ≤ R.cells ∧ n' ≤ R.slots) (hW : Nat.ble ((st.map fun v => v.category).sum) 8 = true) (d : decode M.2.1 pc = .ok (.invokestatic 68, 3)) (K : ∀ μ', φ μ' → JX g M R Q k' n' (WM g adr μ') pc l st E) : J g M R Q k n (WM g adr μ) pc l (a2 :: a1 :: a0 :: st) := by
  obtain ⟨r, hr⟩ : ∃ r : Option Value ⊕ String, r = .inr E := ⟨_, rfl⟩
  rw [← hr] at hC
  exact J.callS (y := yX7_needFromTo) (My := mX7_needFromTo) (As := [a0, a1, a2]) (na := 3) (idx := 68) (P := PM g adr r φ) hC (by rw [hM]; exact t_413) t_414 (by rw [hM]; exact t_1) t_415 ⟨(by rw [hM]; rfl), by decide +kernel, by decide +kernel, by decide +kernel⟩ rfl hs.1 (Nat.le_of_ble_eq_true hW) d ⟨by rw [hs.2.1.1]; exact hs.2.2.1, by rw [hs.2.1.2]; exact hs.2.2.2⟩ (fun v w' hp => by obtain ⟨μ', rfl, h1, h2⟩ := hp; rw [hr] at h1; cases h1) (fun E w' hp => by obtain ⟨μ', rfl, h1, h2⟩ := hp; rw [hr] at h1; cases h1; rw [hs.2.1.1, hs.2.1.2]; exact K μ' h2)
theorem cl_X7_72 (hM : M.1 = RX7) {o : Nat} (ho : kt o = 6) {a0 : Value} {Ry : Room} {k' n' : Nat} {φ : Mem → Prop} (hC : CT g yX2_hold mX2_hold Ry (WM g adr μ) (.ref (adr o) :: [a0]) (PM g adr (.inl none) φ)) (hs : (Ry.frames + 1 ≤ R.frames ∧ 8 + (4 + 11) + Ry.locals ≤ R.locals) ∧ (k + Ry.cells = k' ∧ n + Ry.slots = n') ∧ k' ≤ R.cells ∧ n' ≤ R.slots) (hW : Nat.ble ((st.map fun v => v.category).sum) 8 = true) (d : decode M.2.1 pc = .ok (.invokevirtual 72, 3)) (K : ∀ μ', φ μ' → J g M R Q k' n' (WM g adr μ') (pc + 3) l st) : J g M R Q k n (WM g adr μ) pc l (a0 :: .ref (adr o) :: st) := by
  obtain ⟨r, hr⟩ : ∃ r : Option Value ⊕ String, r = .inl none := ⟨_, rfl⟩
  rw [← hr] at hC
  exact J.callV (C := RX2) (y := yX2_hold) (My := mX2_hold) (As := [a0]) (na := 1) (idx := 72) (P := PM g adr r φ) hC (by rw [hM]; exact t_432) t_433 t_434 t_6 t_435 ⟨rfl, by decide +kernel, by decide +kernel, by decide +kernel⟩ rfl hs.1 o (ci := 2) (q := (RX2, TX2, 2)) rfl rfl (WM_get ho (by decide)) (Nat.le_of_ble_eq_true hW) d ⟨by rw [hs.2.1.1]; exact hs.2.2.1, by rw [hs.2.1.2]; exact hs.2.2.2⟩ (fun v w' hp => by obtain ⟨μ', rfl, h1, h2⟩ := hp; rw [hr] at h1; cases h1; rw [hs.2.1.1, hs.2.1.2]; exact K μ' h2) (fun E w' hp => by obtain ⟨μ', rfl, h1, h2⟩ := hp; rw [hr] at h1; cases h1)
theorem cl_X7_76 (hM : M.1 = RX7) {o : Nat} (ho : kt o = 13) {a0 a1 a2 : Value} {Ry : Room} {k' n' : Nat} {φ : Mem → Prop} (hC : CT g yX7_doLoggedMove mX7_doLoggedMove Ry (WM g adr μ) (.ref (adr o) :: [a0, a1, a2]) (PM g adr (.inl none) φ)) (hs : (Ry.frames + 1 ≤ R.frames ∧ 8 + (4 + 11) + Ry.locals ≤ R.locals) ∧ (k + Ry.cells = k' ∧ n + Ry.slots = n') ∧ k' ≤ R.cells ∧ n' ≤ R.slots) (hW : Nat.ble ((st.map fun v => v.category).sum) 8 = true) (d : decode M.2.1 pc = .ok (.invokevirtual 76, 3)) (K : ∀ μ', φ μ' → J g M R Q k' n' (WM g adr μ') (pc + 3) l st) : J g M R Q k n (WM g adr μ) pc l (a2 :: a1 :: a0 :: .ref (adr o) :: st) := by
  obtain ⟨r, hr⟩ : ∃ r : Option Value ⊕ String, r = .inl none := ⟨_, rfl⟩
  rw [← hr] at hC
  exact J.callV (C := RX7) (y := yX7_doLoggedMove) (My := mX7_doLoggedMove) (As := [a0, a1, a2]) (na := 3) (idx := 76) (P := PM g adr r φ) hC (by rw [hM]; exact t_437) t_439 s_2 t_1 t_440 ⟨rfl, by decide +kernel, by decide +kernel, by decide +kernel⟩ rfl hs.1 o (ci := 7) (q := (RX7, TX7, 11)) rfl rfl (WM_get ho (by decide)) (Nat.le_of_ble_eq_true hW) d ⟨by rw [hs.2.1.1]; exact hs.2.2.1, by rw [hs.2.1.2]; exact hs.2.2.2⟩ (fun v w' hp => by obtain ⟨μ', rfl, h1, h2⟩ := hp; rw [hr] at h1; cases h1; rw [hs.2.1.1, hs.2.1.2]; exact K μ' h2) (fun E w' hp => by obtain ⟨μ', rfl, h1, h2⟩ := hp; rw [hr] at h1; cases h1)
theorem cx_X7_76 (hM : M.1 = RX7) {o : Nat} (ho : kt o = 13) {a0 a1 a2 : Value} {Ry : Room} {k' n' : Nat} {E : String} {φ : Mem → Prop} (hC : CT g yX7_doLoggedMove mX7_doLoggedMove Ry (WM g adr μ) (.ref (adr o) :: [a0, a1, a2]) (PM g adr (.inr E) φ)) (hs : (Ry.frames + 1 ≤ R.frames ∧ 8 + (4 + 11) + Ry.locals ≤ R.locals) ∧ (k + Ry.cells = k' ∧ n + Ry.slots = n') ∧ k' ≤ R.cells ∧ n' ≤ R.slots) (hW : Nat.ble ((st.map fun v => v.category).sum) 8 = true) (d : decode M.2.1 pc = .ok (.invokevirtual 76, 3)) (K : ∀ μ', φ μ' → JX g M R Q k' n' (WM g adr μ') pc l st E) : J g M R Q k n (WM g adr μ) pc l (a2 :: a1 :: a0 :: .ref (adr o) :: st) := by
  obtain ⟨r, hr⟩ : ∃ r : Option Value ⊕ String, r = .inr E := ⟨_, rfl⟩
  rw [← hr] at hC
  exact J.callV (C := RX7) (y := yX7_doLoggedMove) (My := mX7_doLoggedMove) (As := [a0, a1, a2]) (na := 3) (idx := 76) (P := PM g adr r φ) hC (by rw [hM]; exact t_437) t_439 s_2 t_1 t_440 ⟨rfl, by decide +kernel, by decide +kernel, by decide +kernel⟩ rfl hs.1 o (ci := 7) (q := (RX7, TX7, 11)) rfl rfl (WM_get ho (by decide)) (Nat.le_of_ble_eq_true hW) d ⟨by rw [hs.2.1.1]; exact hs.2.2.1, by rw [hs.2.1.2]; exact hs.2.2.2⟩ (fun v w' hp => by obtain ⟨μ', rfl, h1, h2⟩ := hp; rw [hr] at h1; cases h1) (fun E w' hp => by obtain ⟨μ', rfl, h1, h2⟩ := hp; rw [hr] at h1; cases h1; rw [hs.2.1.1, hs.2.1.2]; exact K μ' h2)
theorem cl_X7_83 (hM : M.1 = RX7) {o : Nat} (ho : kt o = 2) {Ry : Room} {k' n' : Nat} {x : Value} {φ : Mem → Prop} (hC : CT g yX0_countHome mX0_countHome Ry (WM g adr μ) (.ref (adr o) :: []) (PM g adr (.inl (some x)) φ)) (hs : (Ry.frames + 1 ≤ R.frames ∧ 8 + (3 + 11) + Ry.locals ≤ R.locals) ∧ (k + Ry.cells = k' ∧ n + Ry.slots = n') ∧ k' ≤ R.cells ∧ n' ≤ R.slots) (hW : Nat.ble ((st.map fun v => v.category).sum) 8 = true) (d : decode M.2.1 pc = .ok (.invokevirtual 83, 3)) (K : ∀ μ', φ μ' → J g M R Q k' n' (WM g adr μ') (pc + 3) l (x :: st)) : J g M R Q k n (WM g adr μ) pc l (.ref (adr o) :: st) := by
  obtain ⟨r, hr⟩ : ∃ r : Option Value ⊕ String, r = .inl (some x) := ⟨_, rfl⟩
  rw [← hr] at hC
  exact J.callV (C := RX0) (y := yX0_countHome) (My := mX0_countHome) (As := []) (na := 0) (idx := 83) (P := PM g adr r φ) hC (by rw [hM]; exact t_323) t_324 t_325 t_3 t_326 ⟨rfl, by decide +kernel, by decide +kernel, by decide +kernel⟩ rfl hs.1 o (ci := 0) (q := (RX0, TX0, 3)) rfl rfl (WM_get ho (by decide)) (Nat.le_of_ble_eq_true hW) d ⟨by rw [hs.2.1.1]; exact hs.2.2.1, by rw [hs.2.1.2]; exact hs.2.2.2⟩ (fun v w' hp => by obtain ⟨μ', rfl, h1, h2⟩ := hp; rw [hr] at h1; cases h1; rw [hs.2.1.1, hs.2.1.2]; exact K μ' h2) (fun E w' hp => by obtain ⟨μ', rfl, h1, h2⟩ := hp; rw [hr] at h1; cases h1)
theorem cl_X7_89 (hM : M.1 = RX7) {a0 a1 : Value} {Ry : Room} {k' n' : Nat} {φ : Mem → Prop} (hC : CT g yX7_needIndex mX7_needIndex Ry (WM g adr μ) [a0, a1] (PM g adr (.inl none) φ)) (hs : (Ry.frames + 1 ≤ R.frames ∧ 8 + (2 + 11) + Ry.locals ≤ R.locals) ∧ (k + Ry.cells = k' ∧ n + Ry.slots = n') ∧ k' ≤ R.cells ∧ n' ≤ R.slots) (hW : Nat.ble ((st.map fun v => v.category).sum) 8 = true) (d : decode M.2.1 pc = .ok (.invokestatic 89, 3)) (K : ∀ μ', φ μ' → J g M R Q k' n' (WM g adr μ') (pc + 3) l st) : J g M R Q k n (WM g adr μ) pc l (a1 :: a0 :: st) := by
  obtain ⟨r, hr⟩ : ∃ r : Option Value ⊕ String, r = .inl none := ⟨_, rfl⟩
  rw [← hr] at hC
  exact J.callS (y := yX7_needIndex) (My := mX7_needIndex) (As := [a0, a1]) (na := 2) (idx := 89) (P := PM g adr r φ) hC (by rw [hM]; exact t_339) t_340 (by rw [hM]; exact t_1) t_341 ⟨(by rw [hM]; rfl), by decide +kernel, by decide +kernel, by decide +kernel⟩ rfl hs.1 (Nat.le_of_ble_eq_true hW) d ⟨by rw [hs.2.1.1]; exact hs.2.2.1, by rw [hs.2.1.2]; exact hs.2.2.2⟩ (fun v w' hp => by obtain ⟨μ', rfl, h1, h2⟩ := hp; rw [hr] at h1; cases h1; rw [hs.2.1.1, hs.2.1.2]; exact K μ' h2) (fun E w' hp => by obtain ⟨μ', rfl, h1, h2⟩ := hp; rw [hr] at h1; cases h1)
theorem cx_X7_89 (hM : M.1 = RX7) {a0 a1 : Value} {Ry : Room} {k' n' : Nat} {E : String} {φ : Mem → Prop} (hC : CT g yX7_needIndex mX7_needIndex Ry (WM g adr μ) [a0, a1] (PM g adr (.inr E) φ)) (hs : (Ry.frames + 1 ≤ R.frames ∧ 8 + (2 + 11) + Ry.locals ≤ R.locals) ∧ (k + Ry.cells = k' ∧ n + Ry.slots = n') ∧ k' ≤ R.cells ∧ n' ≤ R.slots) (hW : Nat.ble ((st.map fun v => v.category).sum) 8 = true) (d : decode M.2.1 pc = .ok (.invokestatic 89, 3)) (K : ∀ μ', φ μ' → JX g M R Q k' n' (WM g adr μ') pc l st E) : J g M R Q k n (WM g adr μ) pc l (a1 :: a0 :: st) := by
  obtain ⟨r, hr⟩ : ∃ r : Option Value ⊕ String, r = .inr E := ⟨_, rfl⟩
  rw [← hr] at hC
  exact J.callS (y := yX7_needIndex) (My := mX7_needIndex) (As := [a0, a1]) (na := 2) (idx := 89) (P := PM g adr r φ) hC (by rw [hM]; exact t_339) t_340 (by rw [hM]; exact t_1) t_341 ⟨(by rw [hM]; rfl), by decide +kernel, by decide +kernel, by decide +kernel⟩ rfl hs.1 (Nat.le_of_ble_eq_true hW) d ⟨by rw [hs.2.1.1]; exact hs.2.2.1, by rw [hs.2.1.2]; exact hs.2.2.2⟩ (fun v w' hp => by obtain ⟨μ', rfl, h1, h2⟩ := hp; rw [hr] at h1; cases h1) (fun E w' hp => by obtain ⟨μ', rfl, h1, h2⟩ := hp; rw [hr] at h1; cases h1; rw [hs.2.1.1, hs.2.1.2]; exact K μ' h2)
theorem cl_X7_97 (hM : M.1 = RX7) {o : Nat} (ho : kt o = 3) {Ry : Room} {k' n' : Nat} {x : Value} {φ : Mem → Prop} (hC : CT g yX1_size mX1_size Ry (WM g adr μ) (.ref (adr o) :: []) (PM g adr (.inl (some x)) φ)) (hs : (Ry.frames + 1 ≤ R.frames ∧ 8 + (1 + 11) + Ry.locals ≤ R.locals) ∧ (k + Ry.cells = k' ∧ n + Ry.slots = n') ∧ k' ≤ R.cells ∧ n' ≤ R.slots) (hW : Nat.ble ((st.map fun v => v.category).sum) 8 = true) (d : decode M.2.1 pc = .ok (.invokevirtual 97, 3)) (K : ∀ μ', φ μ' → J g M R Q k' n' (WM g adr μ') (pc + 3) l (x :: st)) : J g M R Q k n (WM g adr μ) pc l (.ref (adr o) :: st) := by
  obtain ⟨r, hr⟩ : ∃ r : Option Value ⊕ String, r = .inl (some x) := ⟨_, rfl⟩
  rw [← hr] at hC
  exact J.callV (C := RX1) (y := yX1_size) (My := mX1_size) (As := []) (na := 0) (idx := 97) (P := PM g adr r φ) hC (by rw [hM]; exact t_226) t_227 t_228 t_4 t_229 ⟨rfl, by decide +kernel, by decide +kernel, by decide +kernel⟩ rfl hs.1 o (ci := 1) (q := (RX1, TX1, 2)) rfl rfl (WM_get ho (by decide)) (Nat.le_of_ble_eq_true hW) d ⟨by rw [hs.2.1.1]; exact hs.2.2.1, by rw [hs.2.1.2]; exact hs.2.2.2⟩ (fun v w' hp => by obtain ⟨μ', rfl, h1, h2⟩ := hp; rw [hr] at h1; cases h1; rw [hs.2.1.1, hs.2.1.2]; exact K μ' h2) (fun E w' hp => by obtain ⟨μ', rfl, h1, h2⟩ := hp; rw [hr] at h1; cases h1)
theorem cl_X7_102 (hM : M.1 = RX7) {o : Nat} (ho : kt o = 13) {a0 a1 : Value} {Ry : Room} {k' n' : Nat} {φ : Mem → Prop} (hC : CT g yX7_refuse mX7_refuse Ry (WM g adr μ) (.ref (adr o) :: [a0, a1]) (PM g adr (.inl none) φ)) (hs : (Ry.frames + 1 ≤ R.frames ∧ 8 + (3 + 11) + Ry.locals ≤ R.locals) ∧ (k + Ry.cells = k' ∧ n + Ry.slots = n') ∧ k' ≤ R.cells ∧ n' ≤ R.slots) (hW : Nat.ble ((st.map fun v => v.category).sum) 8 = true) (d : decode M.2.1 pc = .ok (.invokevirtual 102, 3)) (K : ∀ μ', φ μ' → J g M R Q k' n' (WM g adr μ') (pc + 3) l st) : J g M R Q k n (WM g adr μ) pc l (a1 :: a0 :: .ref (adr o) :: st) := by
  obtain ⟨r, hr⟩ : ∃ r : Option Value ⊕ String, r = .inl none := ⟨_, rfl⟩
  rw [← hr] at hC
  exact J.callV (C := RX7) (y := yX7_refuse) (My := mX7_refuse) (As := [a0, a1]) (na := 2) (idx := 102) (P := PM g adr r φ) hC (by rw [hM]; exact t_485) t_487 s_6 t_1 t_488 ⟨rfl, by decide +kernel, by decide +kernel, by decide +kernel⟩ rfl hs.1 o (ci := 7) (q := (RX7, TX7, 11)) rfl rfl (WM_get ho (by decide)) (Nat.le_of_ble_eq_true hW) d ⟨by rw [hs.2.1.1]; exact hs.2.2.1, by rw [hs.2.1.2]; exact hs.2.2.2⟩ (fun v w' hp => by obtain ⟨μ', rfl, h1, h2⟩ := hp; rw [hr] at h1; cases h1; rw [hs.2.1.1, hs.2.1.2]; exact K μ' h2) (fun E w' hp => by obtain ⟨μ', rfl, h1, h2⟩ := hp; rw [hr] at h1; cases h1)
theorem cx_X7_102 (hM : M.1 = RX7) {o : Nat} (ho : kt o = 13) {a0 a1 : Value} {Ry : Room} {k' n' : Nat} {E : String} {φ : Mem → Prop} (hC : CT g yX7_refuse mX7_refuse Ry (WM g adr μ) (.ref (adr o) :: [a0, a1]) (PM g adr (.inr E) φ)) (hs : (Ry.frames + 1 ≤ R.frames ∧ 8 + (3 + 11) + Ry.locals ≤ R.locals) ∧ (k + Ry.cells = k' ∧ n + Ry.slots = n') ∧ k' ≤ R.cells ∧ n' ≤ R.slots) (hW : Nat.ble ((st.map fun v => v.category).sum) 8 = true) (d : decode M.2.1 pc = .ok (.invokevirtual 102, 3)) (K : ∀ μ', φ μ' → JX g M R Q k' n' (WM g adr μ') pc l st E) : J g M R Q k n (WM g adr μ) pc l (a1 :: a0 :: .ref (adr o) :: st) := by
  obtain ⟨r, hr⟩ : ∃ r : Option Value ⊕ String, r = .inr E := ⟨_, rfl⟩
  rw [← hr] at hC
  exact J.callV (C := RX7) (y := yX7_refuse) (My := mX7_refuse) (As := [a0, a1]) (na := 2) (idx := 102) (P := PM g adr r φ) hC (by rw [hM]; exact t_485) t_487 s_6 t_1 t_488 ⟨rfl, by decide +kernel, by decide +kernel, by decide +kernel⟩ rfl hs.1 o (ci := 7) (q := (RX7, TX7, 11)) rfl rfl (WM_get ho (by decide)) (Nat.le_of_ble_eq_true hW) d ⟨by rw [hs.2.1.1]; exact hs.2.2.1, by rw [hs.2.1.2]; exact hs.2.2.2⟩ (fun v w' hp => by obtain ⟨μ', rfl, h1, h2⟩ := hp; rw [hr] at h1; cases h1) (fun E w' hp => by obtain ⟨μ', rfl, h1, h2⟩ := hp; rw [hr] at h1; cases h1; rw [hs.2.1.1, hs.2.1.2]; exact K μ' h2)
theorem cl_X7_105 (hM : M.1 = RX7) {o : Nat} (ho : kt o = 3) {a0 a1 : Value} {Ry : Room} {k' n' : Nat} {x : Value} {φ : Mem → Prop} (hC : CT g yX1_part mX1_part Ry (WM g adr μ) (.ref (adr o) :: [a0, a1]) (PM g adr (.inl (some x)) φ)) (hs : (Ry.frames + 1 ≤ R.frames ∧ 8 + (3 + 11) + Ry.locals ≤ R.locals) ∧ (k + Ry.cells = k' ∧ n + Ry.slots = n') ∧ k' ≤ R.cells ∧ n' ≤ R.slots) (hW : Nat.ble ((st.map fun v => v.category).sum) 8 = true) (d : decode M.2.1 pc = .ok (.invokevirtual 105, 3)) (K : ∀ μ', φ μ' → J g M R Q k' n' (WM g adr μ') (pc + 3) l (x :: st)) : J g M R Q k n (WM g adr μ) pc l (a1 :: a0 :: .ref (adr o) :: st) := by
  obtain ⟨r, hr⟩ : ∃ r : Option Value ⊕ String, r = .inl (some x) := ⟨_, rfl⟩
  rw [← hr] at hC
  exact J.callV (C := RX1) (y := yX1_part) (My := mX1_part) (As := [a0, a1]) (na := 2) (idx := 105) (P := PM g adr r φ) hC (by rw [hM]; exact t_230) t_231 t_232 t_4 t_233 ⟨rfl, by decide +kernel, by decide +kernel, by decide +kernel⟩ rfl hs.1 o (ci := 1) (q := (RX1, TX1, 2)) rfl rfl (WM_get ho (by decide)) (Nat.le_of_ble_eq_true hW) d ⟨by rw [hs.2.1.1]; exact hs.2.2.1, by rw [hs.2.1.2]; exact hs.2.2.2⟩ (fun v w' hp => by obtain ⟨μ', rfl, h1, h2⟩ := hp; rw [hr] at h1; cases h1; rw [hs.2.1.1, hs.2.1.2]; exact K μ' h2) (fun E w' hp => by obtain ⟨μ', rfl, h1, h2⟩ := hp; rw [hr] at h1; cases h1)
theorem cl_X7_109 (hM : M.1 = RX7) {a0 : Value} {Ry : Room} {k' n' : Nat} {x : Value} {φ : Mem → Prop} (hC : CT g yX7_roundOf mX7_roundOf Ry (WM g adr μ) [a0] (PM g adr (.inl (some x)) φ)) (hs : (Ry.frames + 1 ≤ R.frames ∧ 8 + (1 + 11) + Ry.locals ≤ R.locals) ∧ (k + Ry.cells = k' ∧ n + Ry.slots = n') ∧ k' ≤ R.cells ∧ n' ≤ R.slots) (hW : Nat.ble ((st.map fun v => v.category).sum) 8 = true) (d : decode M.2.1 pc = .ok (.invokestatic 109, 3)) (K : ∀ μ', φ μ' → J g M R Q k' n' (WM g adr μ') (pc + 3) l (x :: st)) : J g M R Q k n (WM g adr μ) pc l (a0 :: st) := by
  obtain ⟨r, hr⟩ : ∃ r : Option Value ⊕ String, r = .inl (some x) := ⟨_, rfl⟩
  rw [← hr] at hC
  exact J.callS (y := yX7_roundOf) (My := mX7_roundOf) (As := [a0]) (na := 1) (idx := 109) (P := PM g adr r φ) hC (by rw [hM]; exact t_505) t_506 (by rw [hM]; exact t_1) t_507 ⟨(by rw [hM]; rfl), by decide +kernel, by decide +kernel, by decide +kernel⟩ rfl hs.1 (Nat.le_of_ble_eq_true hW) d ⟨by rw [hs.2.1.1]; exact hs.2.2.1, by rw [hs.2.1.2]; exact hs.2.2.2⟩ (fun v w' hp => by obtain ⟨μ', rfl, h1, h2⟩ := hp; rw [hr] at h1; cases h1; rw [hs.2.1.1, hs.2.1.2]; exact K μ' h2) (fun E w' hp => by obtain ⟨μ', rfl, h1, h2⟩ := hp; rw [hr] at h1; cases h1)
theorem cx_X7_109 (hM : M.1 = RX7) {a0 : Value} {Ry : Room} {k' n' : Nat} {E : String} {φ : Mem → Prop} (hC : CT g yX7_roundOf mX7_roundOf Ry (WM g adr μ) [a0] (PM g adr (.inr E) φ)) (hs : (Ry.frames + 1 ≤ R.frames ∧ 8 + (1 + 11) + Ry.locals ≤ R.locals) ∧ (k + Ry.cells = k' ∧ n + Ry.slots = n') ∧ k' ≤ R.cells ∧ n' ≤ R.slots) (hW : Nat.ble ((st.map fun v => v.category).sum) 8 = true) (d : decode M.2.1 pc = .ok (.invokestatic 109, 3)) (K : ∀ μ', φ μ' → JX g M R Q k' n' (WM g adr μ') pc l st E) : J g M R Q k n (WM g adr μ) pc l (a0 :: st) := by
  obtain ⟨r, hr⟩ : ∃ r : Option Value ⊕ String, r = .inr E := ⟨_, rfl⟩
  rw [← hr] at hC
  exact J.callS (y := yX7_roundOf) (My := mX7_roundOf) (As := [a0]) (na := 1) (idx := 109) (P := PM g adr r φ) hC (by rw [hM]; exact t_505) t_506 (by rw [hM]; exact t_1) t_507 ⟨(by rw [hM]; rfl), by decide +kernel, by decide +kernel, by decide +kernel⟩ rfl hs.1 (Nat.le_of_ble_eq_true hW) d ⟨by rw [hs.2.1.1]; exact hs.2.2.1, by rw [hs.2.1.2]; exact hs.2.2.2⟩ (fun v w' hp => by obtain ⟨μ', rfl, h1, h2⟩ := hp; rw [hr] at h1; cases h1) (fun E w' hp => by obtain ⟨μ', rfl, h1, h2⟩ := hp; rw [hr] at h1; cases h1; rw [hs.2.1.1, hs.2.1.2]; exact K μ' h2)
theorem cl_X7_113 (hM : M.1 = RX7) {o : Nat} (ho : kt o = 13) {a0 a1 a2 : Value} {Ry : Room} {k' n' : Nat} {φ : Mem → Prop} (hC : CT g yX7_doMove mX7_doMove Ry (WM g adr μ) (.ref (adr o) :: [a0, a1, a2]) (PM g adr (.inl none) φ)) (hs : (Ry.frames + 1 ≤ R.frames ∧ 8 + (4 + 11) + Ry.locals ≤ R.locals) ∧ (k + Ry.cells = k' ∧ n + Ry.slots = n') ∧ k' ≤ R.cells ∧ n' ≤ R.slots) (hW : Nat.ble ((st.map fun v => v.category).sum) 8 = true) (d : decode M.2.1 pc = .ok (.invokevirtual 113, 3)) (K : ∀ μ', φ μ' → J g M R Q k' n' (WM g adr μ') (pc + 3) l st) : J g M R Q k n (WM g adr μ) pc l (a2 :: a1 :: a0 :: .ref (adr o) :: st) := by
  obtain ⟨r, hr⟩ : ∃ r : Option Value ⊕ String, r = .inl none := ⟨_, rfl⟩
  rw [← hr] at hC
  exact J.callV (C := RX7) (y := yX7_doMove) (My := mX7_doMove) (As := [a0, a1, a2]) (na := 3) (idx := 113) (P := PM g adr r φ) hC (by rw [hM]; exact t_441) t_443 s_3 t_1 t_444 ⟨rfl, by decide +kernel, by decide +kernel, by decide +kernel⟩ rfl hs.1 o (ci := 7) (q := (RX7, TX7, 11)) rfl rfl (WM_get ho (by decide)) (Nat.le_of_ble_eq_true hW) d ⟨by rw [hs.2.1.1]; exact hs.2.2.1, by rw [hs.2.1.2]; exact hs.2.2.2⟩ (fun v w' hp => by obtain ⟨μ', rfl, h1, h2⟩ := hp; rw [hr] at h1; cases h1; rw [hs.2.1.1, hs.2.1.2]; exact K μ' h2) (fun E w' hp => by obtain ⟨μ', rfl, h1, h2⟩ := hp; rw [hr] at h1; cases h1)
theorem cx_X7_113 (hM : M.1 = RX7) {o : Nat} (ho : kt o = 13) {a0 a1 a2 : Value} {Ry : Room} {k' n' : Nat} {E : String} {φ : Mem → Prop} (hC : CT g yX7_doMove mX7_doMove Ry (WM g adr μ) (.ref (adr o) :: [a0, a1, a2]) (PM g adr (.inr E) φ)) (hs : (Ry.frames + 1 ≤ R.frames ∧ 8 + (4 + 11) + Ry.locals ≤ R.locals) ∧ (k + Ry.cells = k' ∧ n + Ry.slots = n') ∧ k' ≤ R.cells ∧ n' ≤ R.slots) (hW : Nat.ble ((st.map fun v => v.category).sum) 8 = true) (d : decode M.2.1 pc = .ok (.invokevirtual 113, 3)) (K : ∀ μ', φ μ' → JX g M R Q k' n' (WM g adr μ') pc l st E) : J g M R Q k n (WM g adr μ) pc l (a2 :: a1 :: a0 :: .ref (adr o) :: st) := by
  obtain ⟨r, hr⟩ : ∃ r : Option Value ⊕ String, r = .inr E := ⟨_, rfl⟩
  rw [← hr] at hC
  exact J.callV (C := RX7) (y := yX7_doMove) (My := mX7_doMove) (As := [a0, a1, a2]) (na := 3) (idx := 113) (P := PM g adr r φ) hC (by rw [hM]; exact t_441) t_443 s_3 t_1 t_444 ⟨rfl, by decide +kernel, by decide +kernel, by decide +kernel⟩ rfl hs.1 o (ci := 7) (q := (RX7, TX7, 11)) rfl rfl (WM_get ho (by decide)) (Nat.le_of_ble_eq_true hW) d ⟨by rw [hs.2.1.1]; exact hs.2.2.1, by rw [hs.2.1.2]; exact hs.2.2.2⟩ (fun v w' hp => by obtain ⟨μ', rfl, h1, h2⟩ := hp; rw [hr] at h1; cases h1) (fun E w' hp => by obtain ⟨μ', rfl, h1, h2⟩ := hp; rw [hr] at h1; cases h1; rw [hs.2.1.1, hs.2.1.2]; exact K μ' h2)
theorem cl_X7_116 (hM : M.1 = RX7) {o : Nat} (ho : kt o = 3) {Ry : Room} {k' n' : Nat} {φ : Mem → Prop} (hC : CT g yX1_dropLast mX1_dropLast Ry (WM g adr μ) (.ref (adr o) :: []) (PM g adr (.inl none) φ)) (hs : (Ry.frames + 1 ≤ R.frames ∧ 8 + (1 + 11) + Ry.locals ≤ R.locals) ∧ (k + Ry.cells = k' ∧ n + Ry.slots = n') ∧ k' ≤ R.cells ∧ n' ≤ R.slots) (hW : Nat.ble ((st.map fun v => v.category).sum) 8 = true) (d : decode M.2.1 pc = .ok (.invokevirtual 116, 3)) (K : ∀ μ', φ μ' → J g M R Q k' n' (WM g adr μ') (pc + 3) l st) : J g M R Q k n (WM g adr μ) pc l (.ref (adr o) :: st) := by
  obtain ⟨r, hr⟩ : ∃ r : Option Value ⊕ String, r = .inl none := ⟨_, rfl⟩
  rw [← hr] at hC
  exact J.callV (C := RX1) (y := yX1_dropLast) (My := mX1_dropLast) (As := []) (na := 0) (idx := 116) (P := PM g adr r φ) hC (by rw [hM]; exact t_508) t_509 t_510 t_4 t_511 ⟨rfl, by decide +kernel, by decide +kernel, by decide +kernel⟩ rfl hs.1 o (ci := 1) (q := (RX1, TX1, 2)) rfl rfl (WM_get ho (by decide)) (Nat.le_of_ble_eq_true hW) d ⟨by rw [hs.2.1.1]; exact hs.2.2.1, by rw [hs.2.1.2]; exact hs.2.2.2⟩ (fun v w' hp => by obtain ⟨μ', rfl, h1, h2⟩ := hp; rw [hr] at h1; cases h1; rw [hs.2.1.1, hs.2.1.2]; exact K μ' h2) (fun E w' hp => by obtain ⟨μ', rfl, h1, h2⟩ := hp; rw [hr] at h1; cases h1)
theorem cl_X7_120 (hM : M.1 = RX7) {a0 : Value} {Ry : Room} {k' n' : Nat} {φ : Mem → Prop} (hC : CT g yX7_needSlot mX7_needSlot Ry (WM g adr μ) [a0] (PM g adr (.inl none) φ)) (hs : (Ry.frames + 1 ≤ R.frames ∧ 8 + (1 + 11) + Ry.locals ≤ R.locals) ∧ (k + Ry.cells = k' ∧ n + Ry.slots = n') ∧ k' ≤ R.cells ∧ n' ≤ R.slots) (hW : Nat.ble ((st.map fun v => v.category).sum) 8 = true) (d : decode M.2.1 pc = .ok (.invokestatic 120, 3)) (K : ∀ μ', φ μ' → J g M R Q k' n' (WM g adr μ') (pc + 3) l st) : J g M R Q k n (WM g adr μ) pc l (a0 :: st) := by
  obtain ⟨r, hr⟩ : ∃ r : Option Value ⊕ String, r = .inl none := ⟨_, rfl⟩
  rw [← hr] at hC
  exact J.callS (y := yX7_needSlot) (My := mX7_needSlot) (As := [a0]) (na := 1) (idx := 120) (P := PM g adr r φ) hC (by rw [hM]; exact t_534) t_535 (by rw [hM]; exact t_1) t_536 ⟨(by rw [hM]; rfl), by decide +kernel, by decide +kernel, by decide +kernel⟩ rfl hs.1 (Nat.le_of_ble_eq_true hW) d ⟨by rw [hs.2.1.1]; exact hs.2.2.1, by rw [hs.2.1.2]; exact hs.2.2.2⟩ (fun v w' hp => by obtain ⟨μ', rfl, h1, h2⟩ := hp; rw [hr] at h1; cases h1; rw [hs.2.1.1, hs.2.1.2]; exact K μ' h2) (fun E w' hp => by obtain ⟨μ', rfl, h1, h2⟩ := hp; rw [hr] at h1; cases h1)
theorem cx_X7_120 (hM : M.1 = RX7) {a0 : Value} {Ry : Room} {k' n' : Nat} {E : String} {φ : Mem → Prop} (hC : CT g yX7_needSlot mX7_needSlot Ry (WM g adr μ) [a0] (PM g adr (.inr E) φ)) (hs : (Ry.frames + 1 ≤ R.frames ∧ 8 + (1 + 11) + Ry.locals ≤ R.locals) ∧ (k + Ry.cells = k' ∧ n + Ry.slots = n') ∧ k' ≤ R.cells ∧ n' ≤ R.slots) (hW : Nat.ble ((st.map fun v => v.category).sum) 8 = true) (d : decode M.2.1 pc = .ok (.invokestatic 120, 3)) (K : ∀ μ', φ μ' → JX g M R Q k' n' (WM g adr μ') pc l st E) : J g M R Q k n (WM g adr μ) pc l (a0 :: st) := by
  obtain ⟨r, hr⟩ : ∃ r : Option Value ⊕ String, r = .inr E := ⟨_, rfl⟩
  rw [← hr] at hC
  exact J.callS (y := yX7_needSlot) (My := mX7_needSlot) (As := [a0]) (na := 1) (idx := 120) (P := PM g adr r φ) hC (by rw [hM]; exact t_534) t_535 (by rw [hM]; exact t_1) t_536 ⟨(by rw [hM]; rfl), by decide +kernel, by decide +kernel, by decide +kernel⟩ rfl hs.1 (Nat.le_of_ble_eq_true hW) d ⟨by rw [hs.2.1.1]; exact hs.2.2.1, by rw [hs.2.1.2]; exact hs.2.2.2⟩ (fun v w' hp => by obtain ⟨μ', rfl, h1, h2⟩ := hp; rw [hr] at h1; cases h1) (fun E w' hp => by obtain ⟨μ', rfl, h1, h2⟩ := hp; rw [hr] at h1; cases h1; rw [hs.2.1.1, hs.2.1.2]; exact K μ' h2)
theorem cl_X7_123 (hM : M.1 = RX7) {o : Nat} (ho : kt o = 2) {a0 : Value} {Ry : Room} {k' n' : Nat} {x : Value} {φ : Mem → Prop} (hC : CT g yX0_stickerIn mX0_stickerIn Ry (WM g adr μ) (.ref (adr o) :: [a0]) (PM g adr (.inl (some x)) φ)) (hs : (Ry.frames + 1 ≤ R.frames ∧ 8 + (2 + 11) + Ry.locals ≤ R.locals) ∧ (k + Ry.cells = k' ∧ n + Ry.slots = n') ∧ k' ≤ R.cells ∧ n' ≤ R.slots) (hW : Nat.ble ((st.map fun v => v.category).sum) 8 = true) (d : decode M.2.1 pc = .ok (.invokevirtual 123, 3)) (K : ∀ μ', φ μ' → J g M R Q k' n' (WM g adr μ') (pc + 3) l (x :: st)) : J g M R Q k n (WM g adr μ) pc l (a0 :: .ref (adr o) :: st) := by
  obtain ⟨r, hr⟩ : ∃ r : Option Value ⊕ String, r = .inl (some x) := ⟨_, rfl⟩
  rw [← hr] at hC
  exact J.callV (C := RX0) (y := yX0_stickerIn) (My := mX0_stickerIn) (As := [a0]) (na := 1) (idx := 123) (P := PM g adr r φ) hC (by rw [hM]; exact t_537) t_208 t_209 t_3 t_210 ⟨rfl, by decide +kernel, by decide +kernel, by decide +kernel⟩ rfl hs.1 o (ci := 0) (q := (RX0, TX0, 3)) rfl rfl (WM_get ho (by decide)) (Nat.le_of_ble_eq_true hW) d ⟨by rw [hs.2.1.1]; exact hs.2.2.1, by rw [hs.2.1.2]; exact hs.2.2.2⟩ (fun v w' hp => by obtain ⟨μ', rfl, h1, h2⟩ := hp; rw [hr] at h1; cases h1; rw [hs.2.1.1, hs.2.1.2]; exact K μ' h2) (fun E w' hp => by obtain ⟨μ', rfl, h1, h2⟩ := hp; rw [hr] at h1; cases h1)
theorem cl_X7_126 (hM : M.1 = RX7) {o : Nat} (ho : kt o = 2) {a0 : Value} {Ry : Room} {k' n' : Nat} {x : Value} {φ : Mem → Prop} (hC : CT g yX0_slotOf mX0_slotOf Ry (WM g adr μ) (.ref (adr o) :: [a0]) (PM g adr (.inl (some x)) φ)) (hs : (Ry.frames + 1 ≤ R.frames ∧ 8 + (2 + 11) + Ry.locals ≤ R.locals) ∧ (k + Ry.cells = k' ∧ n + Ry.slots = n') ∧ k' ≤ R.cells ∧ n' ≤ R.slots) (hW : Nat.ble ((st.map fun v => v.category).sum) 8 = true) (d : decode M.2.1 pc = .ok (.invokevirtual 126, 3)) (K : ∀ μ', φ μ' → J g M R Q k' n' (WM g adr μ') (pc + 3) l (x :: st)) : J g M R Q k n (WM g adr μ) pc l (a0 :: .ref (adr o) :: st) := by
  obtain ⟨r, hr⟩ : ∃ r : Option Value ⊕ String, r = .inl (some x) := ⟨_, rfl⟩
  rw [← hr] at hC
  exact J.callV (C := RX0) (y := yX0_slotOf) (My := mX0_slotOf) (As := [a0]) (na := 1) (idx := 126) (P := PM g adr r φ) hC (by rw [hM]; exact t_545) t_546 t_547 t_3 t_548 ⟨rfl, by decide +kernel, by decide +kernel, by decide +kernel⟩ rfl hs.1 o (ci := 0) (q := (RX0, TX0, 3)) rfl rfl (WM_get ho (by decide)) (Nat.le_of_ble_eq_true hW) d ⟨by rw [hs.2.1.1]; exact hs.2.2.1, by rw [hs.2.1.2]; exact hs.2.2.2⟩ (fun v w' hp => by obtain ⟨μ', rfl, h1, h2⟩ := hp; rw [hr] at h1; cases h1; rw [hs.2.1.1, hs.2.1.2]; exact K μ' h2) (fun E w' hp => by obtain ⟨μ', rfl, h1, h2⟩ := hp; rw [hr] at h1; cases h1)
theorem cl_X7_129 (hM : M.1 = RX7) {o : Nat} (ho : kt o = 2) {a0 : Value} {Ry : Room} {k' n' : Nat} {x : Value} {φ : Mem → Prop} (hC : CT g yX0_colourOf mX0_colourOf Ry (WM g adr μ) (.ref (adr o) :: [a0]) (PM g adr (.inl (some x)) φ)) (hs : (Ry.frames + 1 ≤ R.frames ∧ 8 + (2 + 11) + Ry.locals ≤ R.locals) ∧ (k + Ry.cells = k' ∧ n + Ry.slots = n') ∧ k' ≤ R.cells ∧ n' ≤ R.slots) (hW : Nat.ble ((st.map fun v => v.category).sum) 8 = true) (d : decode M.2.1 pc = .ok (.invokevirtual 129, 3)) (K : ∀ μ', φ μ' → J g M R Q k' n' (WM g adr μ') (pc + 3) l (x :: st)) : J g M R Q k n (WM g adr μ) pc l (a0 :: .ref (adr o) :: st) := by
  obtain ⟨r, hr⟩ : ∃ r : Option Value ⊕ String, r = .inl (some x) := ⟨_, rfl⟩
  rw [← hr] at hC
  exact J.callV (C := RX0) (y := yX0_colourOf) (My := mX0_colourOf) (As := [a0]) (na := 1) (idx := 129) (P := PM g adr r φ) hC (by rw [hM]; exact t_556) t_215 t_216 t_3 t_217 ⟨rfl, by decide +kernel, by decide +kernel, by decide +kernel⟩ rfl hs.1 o (ci := 0) (q := (RX0, TX0, 3)) rfl rfl (WM_get ho (by decide)) (Nat.le_of_ble_eq_true hW) d ⟨by rw [hs.2.1.1]; exact hs.2.2.1, by rw [hs.2.1.2]; exact hs.2.2.2⟩ (fun v w' hp => by obtain ⟨μ', rfl, h1, h2⟩ := hp; rw [hr] at h1; cases h1; rw [hs.2.1.1, hs.2.1.2]; exact K μ' h2) (fun E w' hp => by obtain ⟨μ', rfl, h1, h2⟩ := hp; rw [hr] at h1; cases h1)
theorem cl_X7_132 (hM : M.1 = RX7) {o : Nat} (ho : kt o = 2) {a0 a1 : Value} {Ry : Room} {k' n' : Nat} {φ : Mem → Prop} (hC : CT g yX0_giveColour mX0_giveColour Ry (WM g adr μ) (.ref (adr o) :: [a0, a1]) (PM g adr (.inl none) φ)) (hs : (Ry.frames + 1 ≤ R.frames ∧ 8 + (3 + 11) + Ry.locals ≤ R.locals) ∧ (k + Ry.cells = k' ∧ n + Ry.slots = n') ∧ k' ≤ R.cells ∧ n' ≤ R.slots) (hW : Nat.ble ((st.map fun v => v.category).sum) 8 = true) (d : decode M.2.1 pc = .ok (.invokevirtual 132, 3)) (K : ∀ μ', φ μ' → J g M R Q k' n' (WM g adr μ') (pc + 3) l st) : J g M R Q k n (WM g adr μ) pc l (a1 :: a0 :: .ref (adr o) :: st) := by
  obtain ⟨r, hr⟩ : ∃ r : Option Value ⊕ String, r = .inl none := ⟨_, rfl⟩
  rw [← hr] at hC
  exact J.callV (C := RX0) (y := yX0_giveColour) (My := mX0_giveColour) (As := [a0, a1]) (na := 2) (idx := 132) (P := PM g adr r φ) hC (by rw [hM]; exact t_557) t_558 t_559 t_3 t_560 ⟨rfl, by decide +kernel, by decide +kernel, by decide +kernel⟩ rfl hs.1 o (ci := 0) (q := (RX0, TX0, 3)) rfl rfl (WM_get ho (by decide)) (Nat.le_of_ble_eq_true hW) d ⟨by rw [hs.2.1.1]; exact hs.2.2.1, by rw [hs.2.1.2]; exact hs.2.2.2⟩ (fun v w' hp => by obtain ⟨μ', rfl, h1, h2⟩ := hp; rw [hr] at h1; cases h1; rw [hs.2.1.1, hs.2.1.2]; exact K μ' h2) (fun E w' hp => by obtain ⟨μ', rfl, h1, h2⟩ := hp; rw [hr] at h1; cases h1)
theorem cl_X7_135 (hM : M.1 = RX7) {o : Nat} (ho : kt o = 2) {a0 : Value} {Ry : Room} {k' n' : Nat} {x : Value} {φ : Mem → Prop} (hC : CT g yX0_colourIn mX0_colourIn Ry (WM g adr μ) (.ref (adr o) :: [a0]) (PM g adr (.inl (some x)) φ)) (hs : (Ry.frames + 1 ≤ R.frames ∧ 8 + (2 + 11) + Ry.locals ≤ R.locals) ∧ (k + Ry.cells = k' ∧ n + Ry.slots = n') ∧ k' ≤ R.cells ∧ n' ≤ R.slots) (hW : Nat.ble ((st.map fun v => v.category).sum) 8 = true) (d : decode M.2.1 pc = .ok (.invokevirtual 135, 3)) (K : ∀ μ', φ μ' → J g M R Q k' n' (WM g adr μ') (pc + 3) l (x :: st)) : J g M R Q k n (WM g adr μ) pc l (a0 :: .ref (adr o) :: st) := by
  obtain ⟨r, hr⟩ : ∃ r : Option Value ⊕ String, r = .inl (some x) := ⟨_, rfl⟩
  rw [← hr] at hC
  exact J.callV (C := RX0) (y := yX0_colourIn) (My := mX0_colourIn) (As := [a0]) (na := 1) (idx := 135) (P := PM g adr r φ) hC (by rw [hM]; exact t_568) t_204 t_205 t_3 t_206 ⟨rfl, by decide +kernel, by decide +kernel, by decide +kernel⟩ rfl hs.1 o (ci := 0) (q := (RX0, TX0, 3)) rfl rfl (WM_get ho (by decide)) (Nat.le_of_ble_eq_true hW) d ⟨by rw [hs.2.1.1]; exact hs.2.2.1, by rw [hs.2.1.2]; exact hs.2.2.2⟩ (fun v w' hp => by obtain ⟨μ', rfl, h1, h2⟩ := hp; rw [hr] at h1; cases h1; rw [hs.2.1.1, hs.2.1.2]; exact K μ' h2) (fun E w' hp => by obtain ⟨μ', rfl, h1, h2⟩ := hp; rw [hr] at h1; cases h1)
theorem cl_X7_138 (hM : M.1 = RX7) {o : Nat} (ho : kt o = 2) {a0 : Value} {Ry : Room} {k' n' : Nat} {x : Value} {φ : Mem → Prop} (hC : CT g yX0_hasOneColour mX0_hasOneColour Ry (WM g adr μ) (.ref (adr o) :: [a0]) (PM g adr (.inl (some x)) φ)) (hs : (Ry.frames + 1 ≤ R.frames ∧ 8 + (4 + 11) + Ry.locals ≤ R.locals) ∧ (k + Ry.cells = k' ∧ n + Ry.slots = n') ∧ k' ≤ R.cells ∧ n' ≤ R.slots) (hW : Nat.ble ((st.map fun v => v.category).sum) 8 = true) (d : decode M.2.1 pc = .ok (.invokevirtual 138, 3)) (K : ∀ μ', φ μ' → J g M R Q k' n' (WM g adr μ') (pc + 3) l (x :: st)) : J g M R Q k n (WM g adr μ) pc l (a0 :: .ref (adr o) :: st) := by
  obtain ⟨r, hr⟩ : ∃ r : Option Value ⊕ String, r = .inl (some x) := ⟨_, rfl⟩
  rw [← hr] at hC
  exact J.callV (C := RX0) (y := yX0_hasOneColour) (My := mX0_hasOneColour) (As := [a0]) (na := 1) (idx := 138) (P := PM g adr r φ) hC (by rw [hM]; exact t_576) t_577 t_578 t_3 t_579 ⟨rfl, by decide +kernel, by decide +kernel, by decide +kernel⟩ rfl hs.1 o (ci := 0) (q := (RX0, TX0, 3)) rfl rfl (WM_get ho (by decide)) (Nat.le_of_ble_eq_true hW) d ⟨by rw [hs.2.1.1]; exact hs.2.2.1, by rw [hs.2.1.2]; exact hs.2.2.2⟩ (fun v w' hp => by obtain ⟨μ', rfl, h1, h2⟩ := hp; rw [hr] at h1; cases h1; rw [hs.2.1.1, hs.2.1.2]; exact K μ' h2) (fun E w' hp => by obtain ⟨μ', rfl, h1, h2⟩ := hp; rw [hr] at h1; cases h1)
theorem cl_X7_142 (hM : M.1 = RX7) {o : Nat} (ho : kt o = 2) {Ry : Room} {k' n' : Nat} {x : Value} {φ : Mem → Prop} (hC : CT g yX0_countSeams mX0_countSeams Ry (WM g adr μ) (.ref (adr o) :: []) (PM g adr (.inl (some x)) φ)) (hs : (Ry.frames + 1 ≤ R.frames ∧ 8 + (5 + 11) + Ry.locals ≤ R.locals) ∧ (k + Ry.cells = k' ∧ n + Ry.slots = n') ∧ k' ≤ R.cells ∧ n' ≤ R.slots) (hW : Nat.ble ((st.map fun v => v.category).sum) 8 = true) (d : decode M.2.1 pc = .ok (.invokevirtual 142, 3)) (K : ∀ μ', φ μ' → J g M R Q k' n' (WM g adr μ') (pc + 3) l (x :: st)) : J g M R Q k n (WM g adr μ) pc l (.ref (adr o) :: st) := by
  obtain ⟨r, hr⟩ : ∃ r : Option Value ⊕ String, r = .inl (some x) := ⟨_, rfl⟩
  rw [← hr] at hC
  exact J.callV (C := RX0) (y := yX0_countSeams) (My := mX0_countSeams) (As := []) (na := 0) (idx := 142) (P := PM g adr r φ) hC (by rw [hM]; exact t_199) t_200 t_201 t_3 t_202 ⟨rfl, by decide +kernel, by decide +kernel, by decide +kernel⟩ rfl hs.1 o (ci := 0) (q := (RX0, TX0, 3)) rfl rfl (WM_get ho (by decide)) (Nat.le_of_ble_eq_true hW) d ⟨by rw [hs.2.1.1]; exact hs.2.2.1, by rw [hs.2.1.2]; exact hs.2.2.2⟩ (fun v w' hp => by obtain ⟨μ', rfl, h1, h2⟩ := hp; rw [hr] at h1; cases h1; rw [hs.2.1.1, hs.2.1.2]; exact K μ' h2) (fun E w' hp => by obtain ⟨μ', rfl, h1, h2⟩ := hp; rw [hr] at h1; cases h1)
theorem cl_X7_145 (hM : M.1 = RX7) {a0 a1 : Value} {Ry : Room} {k' n' : Nat} {x : Value} {φ : Mem → Prop} (hC : CT g yX7_movesBetween mX7_movesBetween Ry (WM g adr μ) [a0, a1] (PM g adr (.inl (some x)) φ)) (hs : (Ry.frames + 1 ≤ R.frames ∧ 8 + (4 + 11) + Ry.locals ≤ R.locals) ∧ (k + Ry.cells = k' ∧ n + Ry.slots = n') ∧ k' ≤ R.cells ∧ n' ≤ R.slots) (hW : Nat.ble ((st.map fun v => v.category).sum) 8 = true) (d : decode M.2.1 pc = .ok (.invokestatic 145, 3)) (K : ∀ μ', φ μ' → J g M R Q k' n' (WM g adr μ') (pc + 3) l (x :: st)) : J g M R Q k n (WM g adr μ) pc l (a1 :: a0 :: st) := by
  obtain ⟨r, hr⟩ : ∃ r : Option Value ⊕ String, r = .inl (some x) := ⟨_, rfl⟩
  rw [← hr] at hC
  exact J.callS (y := yX7_movesBetween) (My := mX7_movesBetween) (As := [a0, a1]) (na := 2) (idx := 145) (P := PM g adr r φ) hC (by rw [hM]; exact t_587) t_294 (by rw [hM]; exact t_1) t_295 ⟨(by rw [hM]; rfl), by decide +kernel, by decide +kernel, by decide +kernel⟩ rfl hs.1 (Nat.le_of_ble_eq_true hW) d ⟨by rw [hs.2.1.1]; exact hs.2.2.1, by rw [hs.2.1.2]; exact hs.2.2.2⟩ (fun v w' hp => by obtain ⟨μ', rfl, h1, h2⟩ := hp; rw [hr] at h1; cases h1; rw [hs.2.1.1, hs.2.1.2]; exact K μ' h2) (fun E w' hp => by obtain ⟨μ', rfl, h1, h2⟩ := hp; rw [hr] at h1; cases h1)
theorem cx_X7_145 (hM : M.1 = RX7) {a0 a1 : Value} {Ry : Room} {k' n' : Nat} {E : String} {φ : Mem → Prop} (hC : CT g yX7_movesBetween mX7_movesBetween Ry (WM g adr μ) [a0, a1] (PM g adr (.inr E) φ)) (hs : (Ry.frames + 1 ≤ R.frames ∧ 8 + (4 + 11) + Ry.locals ≤ R.locals) ∧ (k + Ry.cells = k' ∧ n + Ry.slots = n') ∧ k' ≤ R.cells ∧ n' ≤ R.slots) (hW : Nat.ble ((st.map fun v => v.category).sum) 8 = true) (d : decode M.2.1 pc = .ok (.invokestatic 145, 3)) (K : ∀ μ', φ μ' → JX g M R Q k' n' (WM g adr μ') pc l st E) : J g M R Q k n (WM g adr μ) pc l (a1 :: a0 :: st) := by
  obtain ⟨r, hr⟩ : ∃ r : Option Value ⊕ String, r = .inr E := ⟨_, rfl⟩
  rw [← hr] at hC
  exact J.callS (y := yX7_movesBetween) (My := mX7_movesBetween) (As := [a0, a1]) (na := 2) (idx := 145) (P := PM g adr r φ) hC (by rw [hM]; exact t_587) t_294 (by rw [hM]; exact t_1) t_295 ⟨(by rw [hM]; rfl), by decide +kernel, by decide +kernel, by decide +kernel⟩ rfl hs.1 (Nat.le_of_ble_eq_true hW) d ⟨by rw [hs.2.1.1]; exact hs.2.2.1, by rw [hs.2.1.2]; exact hs.2.2.2⟩ (fun v w' hp => by obtain ⟨μ', rfl, h1, h2⟩ := hp; rw [hr] at h1; cases h1) (fun E w' hp => by obtain ⟨μ', rfl, h1, h2⟩ := hp; rw [hr] at h1; cases h1; rw [hs.2.1.1, hs.2.1.2]; exact K μ' h2)
theorem cl_X7_148 (hM : M.1 = RX7) {a0 a1 : Value} {Ry : Room} {k' n' : Nat} {x : Value} {φ : Mem → Prop} (hC : CT g yX7_isIndex mX7_isIndex Ry (WM g adr μ) [a0, a1] (PM g adr (.inl (some x)) φ)) (hs : (Ry.frames + 1 ≤ R.frames ∧ 8 + (2 + 11) + Ry.locals ≤ R.locals) ∧ (k + Ry.cells = k' ∧ n + Ry.slots = n') ∧ k' ≤ R.cells ∧ n' ≤ R.slots) (hW : Nat.ble ((st.map fun v => v.category).sum) 8 = true) (d : decode M.2.1 pc = .ok (.invokestatic 148, 3)) (K : ∀ μ', φ μ' → J g M R Q k' n' (WM g adr μ') (pc + 3) l (x :: st)) : J g M R Q k n (WM g adr μ) pc l (a1 :: a0 :: st) := by
  obtain ⟨r, hr⟩ : ∃ r : Option Value ⊕ String, r = .inl (some x) := ⟨_, rfl⟩
  rw [← hr] at hC
  exact J.callS (y := yX7_isIndex) (My := mX7_isIndex) (As := [a0, a1]) (na := 2) (idx := 148) (P := PM g adr r φ) hC (by rw [hM]; exact t_342) t_212 (by rw [hM]; exact t_1) t_213 ⟨(by rw [hM]; rfl), by decide +kernel, by decide +kernel, by decide +kernel⟩ rfl hs.1 (Nat.le_of_ble_eq_true hW) d ⟨by rw [hs.2.1.1]; exact hs.2.2.1, by rw [hs.2.1.2]; exact hs.2.2.2⟩ (fun v w' hp => by obtain ⟨μ', rfl, h1, h2⟩ := hp; rw [hr] at h1; cases h1; rw [hs.2.1.1, hs.2.1.2]; exact K μ' h2) (fun E w' hp => by obtain ⟨μ', rfl, h1, h2⟩ := hp; rw [hr] at h1; cases h1)
theorem cx_X7_148 (hM : M.1 = RX7) {a0 a1 : Value} {Ry : Room} {k' n' : Nat} {E : String} {φ : Mem → Prop} (hC : CT g yX7_isIndex mX7_isIndex Ry (WM g adr μ) [a0, a1] (PM g adr (.inr E) φ)) (hs : (Ry.frames + 1 ≤ R.frames ∧ 8 + (2 + 11) + Ry.locals ≤ R.locals) ∧ (k + Ry.cells = k' ∧ n + Ry.slots = n') ∧ k' ≤ R.cells ∧ n' ≤ R.slots) (hW : Nat.ble ((st.map fun v => v.category).sum) 8 = true) (d : decode M.2.1 pc = .ok (.invokestatic 148, 3)) (K : ∀ μ', φ μ' → JX g M R Q k' n' (WM g adr μ') pc l st E) : J g M R Q k n (WM g adr μ) pc l (a1 :: a0 :: st) := by
  obtain ⟨r, hr⟩ : ∃ r : Option Value ⊕ String, r = .inr E := ⟨_, rfl⟩
  rw [← hr] at hC
  exact J.callS (y := yX7_isIndex) (My := mX7_isIndex) (As := [a0, a1]) (na := 2) (idx := 148) (P := PM g adr r φ) hC (by rw [hM]; exact t_342) t_212 (by rw [hM]; exact t_1) t_213 ⟨(by rw [hM]; rfl), by decide +kernel, by decide +kernel, by decide +kernel⟩ rfl hs.1 (Nat.le_of_ble_eq_true hW) d ⟨by rw [hs.2.1.1]; exact hs.2.2.1, by rw [hs.2.1.2]; exact hs.2.2.2⟩ (fun v w' hp => by obtain ⟨μ', rfl, h1, h2⟩ := hp; rw [hr] at h1; cases h1) (fun E w' hp => by obtain ⟨μ', rfl, h1, h2⟩ := hp; rw [hr] at h1; cases h1; rw [hs.2.1.1, hs.2.1.2]; exact K μ' h2)
theorem cl_X7_155 (hM : M.1 = RX7) {o : Nat} (ho : kt o = 9) {Ry : Room} {k' n' : Nat} {φ : Mem → Prop} (hC : CT g yX5_clear mX5_clear Ry (WM g adr μ) (.ref (adr o) :: []) (PM g adr (.inl none) φ)) (hs : (Ry.frames + 1 ≤ R.frames ∧ 8 + (1 + 11) + Ry.locals ≤ R.locals) ∧ (k + Ry.cells = k' ∧ n + Ry.slots = n') ∧ k' ≤ R.cells ∧ n' ≤ R.slots) (hW : Nat.ble ((st.map fun v => v.category).sum) 8 = true) (d : decode M.2.1 pc = .ok (.invokevirtual 155, 3)) (K : ∀ μ', φ μ' → J g M R Q k' n' (WM g adr μ') (pc + 3) l st) : J g M R Q k n (WM g adr μ) pc l (.ref (adr o) :: st) := by
  obtain ⟨r, hr⟩ : ∃ r : Option Value ⊕ String, r = .inl none := ⟨_, rfl⟩
  rw [← hr] at hC
  exact J.callV (C := RX5) (y := yX5_clear) (My := mX5_clear) (As := []) (na := 0) (idx := 155) (P := PM g adr r φ) hC (by rw [hM]; exact t_222) t_223 t_224 t_8 t_225 ⟨rfl, by decide +kernel, by decide +kernel, by decide +kernel⟩ rfl hs.1 o (ci := 5) (q := (RX5, TX5, 2)) rfl rfl (WM_get ho (by decide)) (Nat.le_of_ble_eq_true hW) d ⟨by rw [hs.2.1.1]; exact hs.2.2.1, by rw [hs.2.1.2]; exact hs.2.2.2⟩ (fun v w' hp => by obtain ⟨μ', rfl, h1, h2⟩ := hp; rw [hr] at h1; cases h1; rw [hs.2.1.1, hs.2.1.2]; exact K μ' h2) (fun E w' hp => by obtain ⟨μ', rfl, h1, h2⟩ := hp; rw [hr] at h1; cases h1)
theorem cl_X7_165 (hM : M.1 = RX7) {o : Nat} (ho : kt o = 13) {Ry : Room} {k' n' : Nat} {x : Value} {φ : Mem → Prop} (hC : CT g yX7_takeSequence mX7_takeSequence Ry (WM g adr μ) (.ref (adr o) :: []) (PM g adr (.inl (some x)) φ)) (hs : (Ry.frames + 1 ≤ R.frames ∧ 8 + (2 + 11) + Ry.locals ≤ R.locals) ∧ (k + Ry.cells = k' ∧ n + Ry.slots = n') ∧ k' ≤ R.cells ∧ n' ≤ R.slots) (hW : Nat.ble ((st.map fun v => v.category).sum) 8 = true) (d : decode M.2.1 pc = .ok (.invokevirtual 165, 3)) (K : ∀ μ', φ μ' → J g M R Q k' n' (WM g adr μ') (pc + 3) l (x :: st)) : J g M R Q k n (WM g adr μ) pc l (.ref (adr o) :: st) := by
  obtain ⟨r, hr⟩ : ∃ r : Option Value ⊕ String, r = .inl (some x) := ⟨_, rfl⟩
  rw [← hr] at hC
  exact J.callV (C := RX7) (y := yX7_takeSequence) (My := mX7_takeSequence) (As := []) (na := 0) (idx := 165) (P := PM g adr r φ) hC (by rw [hM]; exact t_596) t_598 s_7 t_1 t_599 ⟨rfl, by decide +kernel, by decide +kernel, by decide +kernel⟩ rfl hs.1 o (ci := 7) (q := (RX7, TX7, 11)) rfl rfl (WM_get ho (by decide)) (Nat.le_of_ble_eq_true hW) d ⟨by rw [hs.2.1.1]; exact hs.2.2.1, by rw [hs.2.1.2]; exact hs.2.2.2⟩ (fun v w' hp => by obtain ⟨μ', rfl, h1, h2⟩ := hp; rw [hr] at h1; cases h1; rw [hs.2.1.1, hs.2.1.2]; exact K μ' h2) (fun E w' hp => by obtain ⟨μ', rfl, h1, h2⟩ := hp; rw [hr] at h1; cases h1)
theorem cx_X7_165 (hM : M.1 = RX7) {o : Nat} (ho : kt o = 13) {Ry : Room} {k' n' : Nat} {E : String} {φ : Mem → Prop} (hC : CT g yX7_takeSequence mX7_takeSequence Ry (WM g adr μ) (.ref (adr o) :: []) (PM g adr (.inr E) φ)) (hs : (Ry.frames + 1 ≤ R.frames ∧ 8 + (2 + 11) + Ry.locals ≤ R.locals) ∧ (k + Ry.cells = k' ∧ n + Ry.slots = n') ∧ k' ≤ R.cells ∧ n' ≤ R.slots) (hW : Nat.ble ((st.map fun v => v.category).sum) 8 = true) (d : decode M.2.1 pc = .ok (.invokevirtual 165, 3)) (K : ∀ μ', φ μ' → JX g M R Q k' n' (WM g adr μ') pc l st E) : J g M R Q k n (WM g adr μ) pc l (.ref (adr o) :: st) := by
  obtain ⟨r, hr⟩ : ∃ r : Option Value ⊕ String, r = .inr E := ⟨_, rfl⟩
  rw [← hr] at hC
  exact J.callV (C := RX7) (y := yX7_takeSequence) (My := mX7_takeSequence) (As := []) (na := 0) (idx := 165) (P := PM g adr r φ) hC (by rw [hM]; exact t_596) t_598 s_7 t_1 t_599 ⟨rfl, by decide +kernel, by decide +kernel, by decide +kernel⟩ rfl hs.1 o (ci := 7) (q := (RX7, TX7, 11)) rfl rfl (WM_get ho (by decide)) (Nat.le_of_ble_eq_true hW) d ⟨by rw [hs.2.1.1]; exact hs.2.2.1, by rw [hs.2.1.2]; exact hs.2.2.2⟩ (fun v w' hp => by obtain ⟨μ', rfl, h1, h2⟩ := hp; rw [hr] at h1; cases h1) (fun E w' hp => by obtain ⟨μ', rfl, h1, h2⟩ := hp; rw [hr] at h1; cases h1; rw [hs.2.1.1, hs.2.1.2]; exact K μ' h2)
theorem cl_X7_168 (hM : M.1 = RX7) {o : Nat} (ho : kt o = 8) {Ry : Room} {k' n' : Nat} {x : Value} {φ : Mem → Prop} (hC : CT g yX4_result mX4_result Ry (WM g adr μ) (.ref (adr o) :: []) (PM g adr (.inl (some x)) φ)) (hs : (Ry.frames + 1 ≤ R.frames ∧ 8 + (1 + 11) + Ry.locals ≤ R.locals) ∧ (k + Ry.cells = k' ∧ n + Ry.slots = n') ∧ k' ≤ R.cells ∧ n' ≤ R.slots) (hW : Nat.ble ((st.map fun v => v.category).sum) 8 = true) (d : decode M.2.1 pc = .ok (.invokevirtual 168, 3)) (K : ∀ μ', φ μ' → J g M R Q k' n' (WM g adr μ') (pc + 3) l (x :: st)) : J g M R Q k n (WM g adr μ) pc l (.ref (adr o) :: st) := by
  obtain ⟨r, hr⟩ : ∃ r : Option Value ⊕ String, r = .inl (some x) := ⟨_, rfl⟩
  rw [← hr] at hC
  exact J.callV (C := RX4) (y := yX4_result) (My := mX4_result) (As := []) (na := 0) (idx := 168) (P := PM g adr r φ) hC (by rw [hM]; exact t_670) t_671 t_672 t_7 t_673 ⟨rfl, by decide +kernel, by decide +kernel, by decide +kernel⟩ rfl hs.1 o (ci := 4) (q := (RX4, TX4, 6)) rfl rfl (WM_get ho (by decide)) (Nat.le_of_ble_eq_true hW) d ⟨by rw [hs.2.1.1]; exact hs.2.2.1, by rw [hs.2.1.2]; exact hs.2.2.2⟩ (fun v w' hp => by obtain ⟨μ', rfl, h1, h2⟩ := hp; rw [hr] at h1; cases h1; rw [hs.2.1.1, hs.2.1.2]; exact K μ' h2) (fun E w' hp => by obtain ⟨μ', rfl, h1, h2⟩ := hp; rw [hr] at h1; cases h1)
theorem cl_X7_172 (hM : M.1 = RX7) {o : Nat} (ho : kt o = 5) {a0 a1 : Value} {Ry : Room} {k' n' : Nat} {φ : Mem → Prop} (hC : CT g yX6_putOn mX6_putOn Ry (WM g adr μ) (.ref (adr o) :: [a0, a1]) (PM g adr (.inl none) φ)) (hs : (Ry.frames + 1 ≤ R.frames ∧ 8 + (3 + 11) + Ry.locals ≤ R.locals) ∧ (k + Ry.cells = k' ∧ n + Ry.slots = n') ∧ k' ≤ R.cells ∧ n' ≤ R.slots) (hW : Nat.ble ((st.map fun v => v.category).sum) 8 = true) (d : decode M.2.1 pc = .ok (.invokevirtual 172, 3)) (K : ∀ μ', φ μ' → J g M R Q k' n' (WM g adr μ') (pc + 3) l st) : J g M R Q k n (WM g adr μ) pc l (a1 :: a0 :: .ref (adr o) :: st) := by
  obtain ⟨r, hr⟩ : ∃ r : Option Value ⊕ String, r = .inl none := ⟨_, rfl⟩
  rw [← hr] at hC
  exact J.callV (C := RX6) (y := yX6_putOn) (My := mX6_putOn) (As := [a0, a1]) (na := 2) (idx := 172) (P := PM g adr r φ) hC (by rw [hM]; exact t_674) t_675 t_676 t_2 t_677 ⟨rfl, by decide +kernel, by decide +kernel, by decide +kernel⟩ rfl hs.1 o (ci := 6) (q := (RX6, TX6, 6)) rfl rfl (WM_get ho (by decide)) (Nat.le_of_ble_eq_true hW) d ⟨by rw [hs.2.1.1]; exact hs.2.2.1, by rw [hs.2.1.2]; exact hs.2.2.2⟩ (fun v w' hp => by obtain ⟨μ', rfl, h1, h2⟩ := hp; rw [hr] at h1; cases h1; rw [hs.2.1.1, hs.2.1.2]; exact K μ' h2) (fun E w' hp => by obtain ⟨μ', rfl, h1, h2⟩ := hp; rw [hr] at h1; cases h1)
theorem cl_X7_176 (hM : M.1 = RX7) {a0 : Value} {Ry : Room} {k' n' : Nat} {φ : Mem → Prop} (hC : CT g yX7_needShelf mX7_needShelf Ry (WM g adr μ) [a0] (PM g adr (.inl none) φ)) (hs : (Ry.frames + 1 ≤ R.frames ∧ 8 + (1 + 11) + Ry.locals ≤ R.locals) ∧ (k + Ry.cells = k' ∧ n + Ry.slots = n') ∧ k' ≤ R.cells ∧ n' ≤ R.slots) (hW : Nat.ble ((st.map fun v => v.category).sum) 8 = true) (d : decode M.2.1 pc = .ok (.invokestatic 176, 3)) (K : ∀ μ', φ μ' → J g M R Q k' n' (WM g adr μ') (pc + 3) l st) : J g M R Q k n (WM g adr μ) pc l (a0 :: st) := by
  obtain ⟨r, hr⟩ : ∃ r : Option Value ⊕ String, r = .inl none := ⟨_, rfl⟩
  rw [← hr] at hC
  exact J.callS (y := yX7_needShelf) (My := mX7_needShelf) (As := [a0]) (na := 1) (idx := 176) (P := PM g adr r φ) hC (by rw [hM]; exact t_685) t_686 (by rw [hM]; exact t_1) t_687 ⟨(by rw [hM]; rfl), by decide +kernel, by decide +kernel, by decide +kernel⟩ rfl hs.1 (Nat.le_of_ble_eq_true hW) d ⟨by rw [hs.2.1.1]; exact hs.2.2.1, by rw [hs.2.1.2]; exact hs.2.2.2⟩ (fun v w' hp => by obtain ⟨μ', rfl, h1, h2⟩ := hp; rw [hr] at h1; cases h1; rw [hs.2.1.1, hs.2.1.2]; exact K μ' h2) (fun E w' hp => by obtain ⟨μ', rfl, h1, h2⟩ := hp; rw [hr] at h1; cases h1)
theorem cx_X7_176 (hM : M.1 = RX7) {a0 : Value} {Ry : Room} {k' n' : Nat} {E : String} {φ : Mem → Prop} (hC : CT g yX7_needShelf mX7_needShelf Ry (WM g adr μ) [a0] (PM g adr (.inr E) φ)) (hs : (Ry.frames + 1 ≤ R.frames ∧ 8 + (1 + 11) + Ry.locals ≤ R.locals) ∧ (k + Ry.cells = k' ∧ n + Ry.slots = n') ∧ k' ≤ R.cells ∧ n' ≤ R.slots) (hW : Nat.ble ((st.map fun v => v.category).sum) 8 = true) (d : decode M.2.1 pc = .ok (.invokestatic 176, 3)) (K : ∀ μ', φ μ' → JX g M R Q k' n' (WM g adr μ') pc l st E) : J g M R Q k n (WM g adr μ) pc l (a0 :: st) := by
  obtain ⟨r, hr⟩ : ∃ r : Option Value ⊕ String, r = .inr E := ⟨_, rfl⟩
  rw [← hr] at hC
  exact J.callS (y := yX7_needShelf) (My := mX7_needShelf) (As := [a0]) (na := 1) (idx := 176) (P := PM g adr r φ) hC (by rw [hM]; exact t_685) t_686 (by rw [hM]; exact t_1) t_687 ⟨(by rw [hM]; rfl), by decide +kernel, by decide +kernel, by decide +kernel⟩ rfl hs.1 (Nat.le_of_ble_eq_true hW) d ⟨by rw [hs.2.1.1]; exact hs.2.2.1, by rw [hs.2.1.2]; exact hs.2.2.2⟩ (fun v w' hp => by obtain ⟨μ', rfl, h1, h2⟩ := hp; rw [hr] at h1; cases h1) (fun E w' hp => by obtain ⟨μ', rfl, h1, h2⟩ := hp; rw [hr] at h1; cases h1; rw [hs.2.1.1, hs.2.1.2]; exact K μ' h2)
theorem cl_X7_179 (hM : M.1 = RX7) {o : Nat} (ho : kt o = 13) {a0 : Value} {Ry : Room} {k' n' : Nat} {φ : Mem → Prop} (hC : CT g yX7_needFilled mX7_needFilled Ry (WM g adr μ) (.ref (adr o) :: [a0]) (PM g adr (.inl none) φ)) (hs : (Ry.frames + 1 ≤ R.frames ∧ 8 + (2 + 11) + Ry.locals ≤ R.locals) ∧ (k + Ry.cells = k' ∧ n + Ry.slots = n') ∧ k' ≤ R.cells ∧ n' ≤ R.slots) (hW : Nat.ble ((st.map fun v => v.category).sum) 8 = true) (d : decode M.2.1 pc = .ok (.invokevirtual 179, 3)) (K : ∀ μ', φ μ' → J g M R Q k' n' (WM g adr μ') (pc + 3) l st) : J g M R Q k n (WM g adr μ) pc l (a0 :: .ref (adr o) :: st) := by
  obtain ⟨r, hr⟩ : ∃ r : Option Value ⊕ String, r = .inl none := ⟨_, rfl⟩
  rw [← hr] at hC
  exact J.callV (C := RX7) (y := yX7_needFilled) (My := mX7_needFilled) (As := [a0]) (na := 1) (idx := 179) (P := PM g adr r φ) hC (by rw [hM]; exact t_688) t_690 s_16 t_1 t_691 ⟨rfl, by decide +kernel, by decide +kernel, by decide +kernel⟩ rfl hs.1 o (ci := 7) (q := (RX7, TX7, 11)) rfl rfl (WM_get ho (by decide)) (Nat.le_of_ble_eq_true hW) d ⟨by rw [hs.2.1.1]; exact hs.2.2.1, by rw [hs.2.1.2]; exact hs.2.2.2⟩ (fun v w' hp => by obtain ⟨μ', rfl, h1, h2⟩ := hp; rw [hr] at h1; cases h1; rw [hs.2.1.1, hs.2.1.2]; exact K μ' h2) (fun E w' hp => by obtain ⟨μ', rfl, h1, h2⟩ := hp; rw [hr] at h1; cases h1)
theorem cx_X7_179 (hM : M.1 = RX7) {o : Nat} (ho : kt o = 13) {a0 : Value} {Ry : Room} {k' n' : Nat} {E : String} {φ : Mem → Prop} (hC : CT g yX7_needFilled mX7_needFilled Ry (WM g adr μ) (.ref (adr o) :: [a0]) (PM g adr (.inr E) φ)) (hs : (Ry.frames + 1 ≤ R.frames ∧ 8 + (2 + 11) + Ry.locals ≤ R.locals) ∧ (k + Ry.cells = k' ∧ n + Ry.slots = n') ∧ k' ≤ R.cells ∧ n' ≤ R.slots) (hW : Nat.ble ((st.map fun v => v.category).sum) 8 = true) (d : decode M.2.1 pc = .ok (.invokevirtual 179, 3)) (K : ∀ μ', φ μ' → JX g M R Q k' n' (WM g adr μ') pc l st E) : J g M R Q k n (WM g adr μ) pc l (a0 :: .ref (adr o) :: st) := by
  obtain ⟨r, hr⟩ : ∃ r : Option Value ⊕ String, r = .inr E := ⟨_, rfl⟩
  rw [← hr] at hC
  exact J.callV (C := RX7) (y := yX7_needFilled) (My := mX7_needFilled) (As := [a0]) (na := 1) (idx := 179) (P := PM g adr r φ) hC (by rw [hM]; exact t_688) t_690 s_16 t_1 t_691 ⟨rfl, by decide +kernel, by decide +kernel, by decide +kernel⟩ rfl hs.1 o (ci := 7) (q := (RX7, TX7, 11)) rfl rfl (WM_get ho (by decide)) (Nat.le_of_ble_eq_true hW) d ⟨by rw [hs.2.1.1]; exact hs.2.2.1, by rw [hs.2.1.2]; exact hs.2.2.2⟩ (fun v w' hp => by obtain ⟨μ', rfl, h1, h2⟩ := hp; rw [hr] at h1; cases h1) (fun E w' hp => by obtain ⟨μ', rfl, h1, h2⟩ := hp; rw [hr] at h1; cases h1; rw [hs.2.1.1, hs.2.1.2]; exact K μ' h2)
theorem cl_X7_182 (hM : M.1 = RX7) {o : Nat} (ho : kt o = 5) {a0 : Value} {Ry : Room} {k' n' : Nat} {x : Value} {φ : Mem → Prop} (hC : CT g yX6_onShelf mX6_onShelf Ry (WM g adr μ) (.ref (adr o) :: [a0]) (PM g adr (.inl (some x)) φ)) (hs : (Ry.frames + 1 ≤ R.frames ∧ 8 + (2 + 11) + Ry.locals ≤ R.locals) ∧ (k + Ry.cells = k' ∧ n + Ry.slots = n') ∧ k' ≤ R.cells ∧ n' ≤ R.slots) (hW : Nat.ble ((st.map fun v => v.category).sum) 8 = true) (d : decode M.2.1 pc = .ok (.invokevirtual 182, 3)) (K : ∀ μ', φ μ' → J g M R Q k' n' (WM g adr μ') (pc + 3) l (x :: st)) : J g M R Q k n (WM g adr μ) pc l (a0 :: .ref (adr o) :: st) := by
  obtain ⟨r, hr⟩ : ∃ r : Option Value ⊕ String, r = .inl (some x) := ⟨_, rfl⟩
  rw [← hr] at hC
  exact J.callV (C := RX6) (y := yX6_onShelf) (My := mX6_onShelf) (As := [a0]) (na := 1) (idx := 182) (P := PM g adr r φ) hC (by rw [hM]; exact t_261) t_262 t_263 t_2 t_264 ⟨rfl, by decide +kernel, by decide +kernel, by decide +kernel⟩ rfl hs.1 o (ci := 6) (q := (RX6, TX6, 6)) rfl rfl (WM_get ho (by decide)) (Nat.le_of_ble_eq_true hW) d ⟨by rw [hs.2.1.1]; exact hs.2.2.1, by rw [hs.2.1.2]; exact hs.2.2.2⟩ (fun v w' hp => by obtain ⟨μ', rfl, h1, h2⟩ := hp; rw [hr] at h1; cases h1; rw [hs.2.1.1, hs.2.1.2]; exact K μ' h2) (fun E w' hp => by obtain ⟨μ', rfl, h1, h2⟩ := hp; rw [hr] at h1; cases h1)
theorem cl_X7_186 (hM : M.1 = RX7) {o : Nat} (ho : kt o = 1) {a0 : Value} {Ry : Room} {k' n' : Nat} {φ : Mem → Prop} (hC : CT g yX3_toInverse mX3_toInverse Ry (WM g adr μ) (.ref (adr o) :: [a0]) (PM g adr (.inl none) φ)) (hs : (Ry.frames + 1 ≤ R.frames ∧ 8 + (4 + 11) + Ry.locals ≤ R.locals) ∧ (k + Ry.cells = k' ∧ n + Ry.slots = n') ∧ k' ≤ R.cells ∧ n' ≤ R.slots) (hW : Nat.ble ((st.map fun v => v.category).sum) 8 = true) (d : decode M.2.1 pc = .ok (.invokevirtual 186, 3)) (K : ∀ μ', φ μ' → J g M R Q k' n' (WM g adr μ') (pc + 3) l st) : J g M R Q k n (WM g adr μ) pc l (a0 :: .ref (adr o) :: st) := by
  obtain ⟨r, hr⟩ : ∃ r : Option Value ⊕ String, r = .inl none := ⟨_, rfl⟩
  rw [← hr] at hC
  exact J.callV (C := RX3) (y := yX3_toInverse) (My := mX3_toInverse) (As := [a0]) (na := 1) (idx := 186) (P := PM g adr r φ) hC (by rw [hM]; exact t_273) t_274 t_275 t_5 t_276 ⟨rfl, by decide +kernel, by decide +kernel, by decide +kernel⟩ rfl hs.1 o (ci := 3) (q := (RX3, TX3, 1)) rfl rfl (WM_get ho (by decide)) (Nat.le_of_ble_eq_true hW) d ⟨by rw [hs.2.1.1]; exact hs.2.2.1, by rw [hs.2.1.2]; exact hs.2.2.2⟩ (fun v w' hp => by obtain ⟨μ', rfl, h1, h2⟩ := hp; rw [hr] at h1; cases h1; rw [hs.2.1.1, hs.2.1.2]; exact K μ' h2) (fun E w' hp => by obtain ⟨μ', rfl, h1, h2⟩ := hp; rw [hr] at h1; cases h1)
theorem cl_X7_190 (hM : M.1 = RX7) {o : Nat} (ho : kt o = 1) {a0 : Value} {Ry : Room} {k' n' : Nat} {φ : Mem → Prop} (hC : CT g yX3_toCopy mX3_toCopy Ry (WM g adr μ) (.ref (adr o) :: [a0]) (PM g adr (.inl none) φ)) (hs : (Ry.frames + 1 ≤ R.frames ∧ 8 + (3 + 11) + Ry.locals ≤ R.locals) ∧ (k + Ry.cells = k' ∧ n + Ry.slots = n') ∧ k' ≤ R.cells ∧ n' ≤ R.slots) (hW : Nat.ble ((st.map fun v => v.category).sum) 8 = true) (d : decode M.2.1 pc = .ok (.invokevirtual 190, 3)) (K : ∀ μ', φ μ' → J g M R Q k' n' (WM g adr μ') (pc + 3) l st) : J g M R Q k n (WM g adr μ) pc l (a0 :: .ref (adr o) :: st) := by
  obtain ⟨r, hr⟩ : ∃ r : Option Value ⊕ String, r = .inl none := ⟨_, rfl⟩
  rw [← hr] at hC
  exact J.callV (C := RX3) (y := yX3_toCopy) (My := mX3_toCopy) (As := [a0]) (na := 1) (idx := 190) (P := PM g adr r φ) hC (by rw [hM]; exact t_269) t_270 t_271 t_5 t_272 ⟨rfl, by decide +kernel, by decide +kernel, by decide +kernel⟩ rfl hs.1 o (ci := 3) (q := (RX3, TX3, 1)) rfl rfl (WM_get ho (by decide)) (Nat.le_of_ble_eq_true hW) d ⟨by rw [hs.2.1.1]; exact hs.2.2.1, by rw [hs.2.1.2]; exact hs.2.2.2⟩ (fun v w' hp => by obtain ⟨μ', rfl, h1, h2⟩ := hp; rw [hr] at h1; cases h1; rw [hs.2.1.1, hs.2.1.2]; exact K μ' h2) (fun E w' hp => by obtain ⟨μ', rfl, h1, h2⟩ := hp; rw [hr] at h1; cases h1)
theorem cl_X7_193 (hM : M.1 = RX7) {o : Nat} (ho : kt o = 1) {a0 a1 : Value} {Ry : Room} {k' n' : Nat} {φ : Mem → Prop} (hC : CT g yX3_toPower mX3_toPower Ry (WM g adr μ) (.ref (adr o) :: [a0, a1]) (PM g adr (.inl none) φ)) (hs : (Ry.frames + 1 ≤ R.frames ∧ 8 + (4 + 11) + Ry.locals ≤ R.locals) ∧ (k + Ry.cells = k' ∧ n + Ry.slots = n') ∧ k' ≤ R.cells ∧ n' ≤ R.slots) (hW : Nat.ble ((st.map fun v => v.category).sum) 8 = true) (d : decode M.2.1 pc = .ok (.invokevirtual 193, 3)) (K : ∀ μ', φ μ' → J g M R Q k' n' (WM g adr μ') (pc + 3) l st) : J g M R Q k n (WM g adr μ) pc l (a1 :: a0 :: .ref (adr o) :: st) := by
  obtain ⟨r, hr⟩ : ∃ r : Option Value ⊕ String, r = .inl none := ⟨_, rfl⟩
  rw [← hr] at hC
  exact J.callV (C := RX3) (y := yX3_toPower) (My := mX3_toPower) (As := [a0, a1]) (na := 2) (idx := 193) (P := PM g adr r φ) hC (by rw [hM]; exact t_692) t_647 t_648 t_5 t_649 ⟨rfl, by decide +kernel, by decide +kernel, by decide +kernel⟩ rfl hs.1 o (ci := 3) (q := (RX3, TX3, 1)) rfl rfl (WM_get ho (by decide)) (Nat.le_of_ble_eq_true hW) d ⟨by rw [hs.2.1.1]; exact hs.2.2.1, by rw [hs.2.1.2]; exact hs.2.2.2⟩ (fun v w' hp => by obtain ⟨μ', rfl, h1, h2⟩ := hp; rw [hr] at h1; cases h1; rw [hs.2.1.1, hs.2.1.2]; exact K μ' h2) (fun E w' hp => by obtain ⟨μ', rfl, h1, h2⟩ := hp; rw [hr] at h1; cases h1)
theorem cl_X7_197 (hM : M.1 = RX7) {o : Nat} (ho : kt o = 2) {a0 : Value} {Ry : Room} {k' n' : Nat} {φ : Mem → Prop} (hC : CT g yX0_follow mX0_follow Ry (WM g adr μ) (.ref (adr o) :: [a0]) (PM g adr (.inl none) φ)) (hs : (Ry.frames + 1 ≤ R.frames ∧ 8 + (4 + 11) + Ry.locals ≤ R.locals) ∧ (k + Ry.cells = k' ∧ n + Ry.slots = n') ∧ k' ≤ R.cells ∧ n' ≤ R.slots) (hW : Nat.ble ((st.map fun v => v.category).sum) 8 = true) (d : decode M.2.1 pc = .ok (.invokevirtual 197, 3)) (K : ∀ μ', φ μ' → J g M R Q k' n' (WM g adr μ') (pc + 3) l st) : J g M R Q k n (WM g adr μ) pc l (a0 :: .ref (adr o) :: st) := by
  obtain ⟨r, hr⟩ : ∃ r : Option Value ⊕ String, r = .inl none := ⟨_, rfl⟩
  rw [← hr] at hC
  exact J.callV (C := RX0) (y := yX0_follow) (My := mX0_follow) (As := [a0]) (na := 1) (idx := 197) (P := PM g adr r φ) hC (by rw [hM]; exact t_457) t_458 t_459 t_3 t_460 ⟨rfl, by decide +kernel, by decide +kernel, by decide +kernel⟩ rfl hs.1 o (ci := 0) (q := (RX0, TX0, 3)) rfl rfl (WM_get ho (by decide)) (Nat.le_of_ble_eq_true hW) d ⟨by rw [hs.2.1.1]; exact hs.2.2.1, by rw [hs.2.1.2]; exact hs.2.2.2⟩ (fun v w' hp => by obtain ⟨μ', rfl, h1, h2⟩ := hp; rw [hr] at h1; cases h1; rw [hs.2.1.1, hs.2.1.2]; exact K μ' h2) (fun E w' hp => by obtain ⟨μ', rfl, h1, h2⟩ := hp; rw [hr] at h1; cases h1)
theorem cl_X7_200 (hM : M.1 = RX7) {o : Nat} (ho : kt o = 3) {Ry : Room} {k' n' : Nat} {φ : Mem → Prop} (hC : CT g yX1_clear mX1_clear Ry (WM g adr μ) (.ref (adr o) :: []) (PM g adr (.inl none) φ)) (hs : (Ry.frames + 1 ≤ R.frames ∧ 8 + (1 + 11) + Ry.locals ≤ R.locals) ∧ (k + Ry.cells = k' ∧ n + Ry.slots = n') ∧ k' ≤ R.cells ∧ n' ≤ R.slots) (hW : Nat.ble ((st.map fun v => v.category).sum) 8 = true) (d : decode M.2.1 pc = .ok (.invokevirtual 200, 3)) (K : ∀ μ', φ μ' → J g M R Q k' n' (WM g adr μ') (pc + 3) l st) : J g M R Q k n (WM g adr μ) pc l (.ref (adr o) :: st) := by
  obtain ⟨r, hr⟩ : ∃ r : Option Value ⊕ String, r = .inl none := ⟨_, rfl⟩
  rw [← hr] at hC
  exact J.callV (C := RX1) (y := yX1_clear) (My := mX1_clear) (As := []) (na := 0) (idx := 200) (P := PM g adr r φ) hC (by rw [hM]; exact t_693) t_694 t_695 t_4 t_696 ⟨rfl, by decide +kernel, by decide +kernel, by decide +kernel⟩ rfl hs.1 o (ci := 1) (q := (RX1, TX1, 2)) rfl rfl (WM_get ho (by decide)) (Nat.le_of_ble_eq_true hW) d ⟨by rw [hs.2.1.1]; exact hs.2.2.1, by rw [hs.2.1.2]; exact hs.2.2.2⟩ (fun v w' hp => by obtain ⟨μ', rfl, h1, h2⟩ := hp; rw [hr] at h1; cases h1; rw [hs.2.1.1, hs.2.1.2]; exact K μ' h2) (fun E w' hp => by obtain ⟨μ', rfl, h1, h2⟩ := hp; rw [hr] at h1; cases h1)
theorem cl_X7_201 (hM : M.1 = RX7) {o : Nat} (ho : kt o = 1) {a0 : Value} {Ry : Room} {k' n' : Nat} {φ : Mem → Prop} (hC : CT g yX3_then mX3_then Ry (WM g adr μ) (.ref (adr o) :: [a0]) (PM g adr (.inl none) φ)) (hs : (Ry.frames + 1 ≤ R.frames ∧ 8 + (4 + 11) + Ry.locals ≤ R.locals) ∧ (k + Ry.cells = k' ∧ n + Ry.slots = n') ∧ k' ≤ R.cells ∧ n' ≤ R.slots) (hW : Nat.ble ((st.map fun v => v.category).sum) 8 = true) (d : decode M.2.1 pc = .ok (.invokevirtual 201, 3)) (K : ∀ μ', φ μ' → J g M R Q k' n' (WM g adr μ') (pc + 3) l st) : J g M R Q k n (WM g adr μ) pc l (a0 :: .ref (adr o) :: st) := by
  obtain ⟨r, hr⟩ : ∃ r : Option Value ⊕ String, r = .inl none := ⟨_, rfl⟩
  rw [← hr] at hC
  exact J.callV (C := RX3) (y := yX3_then) (My := mX3_then) (As := [a0]) (na := 1) (idx := 201) (P := PM g adr r φ) hC (by rw [hM]; exact t_277) t_278 t_279 t_5 t_280 ⟨rfl, by decide +kernel, by decide +kernel, by decide +kernel⟩ rfl hs.1 o (ci := 3) (q := (RX3, TX3, 1)) rfl rfl (WM_get ho (by decide)) (Nat.le_of_ble_eq_true hW) d ⟨by rw [hs.2.1.1]; exact hs.2.2.1, by rw [hs.2.1.2]; exact hs.2.2.2⟩ (fun v w' hp => by obtain ⟨μ', rfl, h1, h2⟩ := hp; rw [hr] at h1; cases h1; rw [hs.2.1.1, hs.2.1.2]; exact K μ' h2) (fun E w' hp => by obtain ⟨μ', rfl, h1, h2⟩ := hp; rw [hr] at h1; cases h1)
theorem cl_X7_204 (hM : M.1 = RX7) {o : Nat} (ho : kt o = 13) {a0 : Value} {Ry : Room} {k' n' : Nat} {x : Value} {φ : Mem → Prop} (hC : CT g yX7_putMade mX7_putMade Ry (WM g adr μ) (.ref (adr o) :: [a0]) (PM g adr (.inl (some x)) φ)) (hs : (Ry.frames + 1 ≤ R.frames ∧ 8 + (2 + 11) + Ry.locals ≤ R.locals) ∧ (k + Ry.cells = k' ∧ n + Ry.slots = n') ∧ k' ≤ R.cells ∧ n' ≤ R.slots) (hW : Nat.ble ((st.map fun v => v.category).sum) 8 = true) (d : decode M.2.1 pc = .ok (.invokevirtual 204, 3)) (K : ∀ μ', φ μ' → J g M R Q k' n' (WM g adr μ') (pc + 3) l (x :: st)) : J g M R Q k n (WM g adr μ) pc l (a0 :: .ref (adr o) :: st) := by
  obtain ⟨r, hr⟩ : ∃ r : Option Value ⊕ String, r = .inl (some x) := ⟨_, rfl⟩
  rw [← hr] at hC
  exact J.callV (C := RX7) (y := yX7_putMade) (My := mX7_putMade) (As := [a0]) (na := 1) (idx := 204) (P := PM g adr r φ) hC (by rw [hM]; exact t_704) t_706 s_17 t_1 t_707 ⟨rfl, by decide +kernel, by decide +kernel, by decide +kernel⟩ rfl hs.1 o (ci := 7) (q := (RX7, TX7, 11)) rfl rfl (WM_get ho (by decide)) (Nat.le_of_ble_eq_true hW) d ⟨by rw [hs.2.1.1]; exact hs.2.2.1, by rw [hs.2.1.2]; exact hs.2.2.2⟩ (fun v w' hp => by obtain ⟨μ', rfl, h1, h2⟩ := hp; rw [hr] at h1; cases h1; rw [hs.2.1.1, hs.2.1.2]; exact K μ' h2) (fun E w' hp => by obtain ⟨μ', rfl, h1, h2⟩ := hp; rw [hr] at h1; cases h1)
theorem cx_X7_204 (hM : M.1 = RX7) {o : Nat} (ho : kt o = 13) {a0 : Value} {Ry : Room} {k' n' : Nat} {E : String} {φ : Mem → Prop} (hC : CT g yX7_putMade mX7_putMade Ry (WM g adr μ) (.ref (adr o) :: [a0]) (PM g adr (.inr E) φ)) (hs : (Ry.frames + 1 ≤ R.frames ∧ 8 + (2 + 11) + Ry.locals ≤ R.locals) ∧ (k + Ry.cells = k' ∧ n + Ry.slots = n') ∧ k' ≤ R.cells ∧ n' ≤ R.slots) (hW : Nat.ble ((st.map fun v => v.category).sum) 8 = true) (d : decode M.2.1 pc = .ok (.invokevirtual 204, 3)) (K : ∀ μ', φ μ' → JX g M R Q k' n' (WM g adr μ') pc l st E) : J g M R Q k n (WM g adr μ) pc l (a0 :: .ref (adr o) :: st) := by
  obtain ⟨r, hr⟩ : ∃ r : Option Value ⊕ String, r = .inr E := ⟨_, rfl⟩
  rw [← hr] at hC
  exact J.callV (C := RX7) (y := yX7_putMade) (My := mX7_putMade) (As := [a0]) (na := 1) (idx := 204) (P := PM g adr r φ) hC (by rw [hM]; exact t_704) t_706 s_17 t_1 t_707 ⟨rfl, by decide +kernel, by decide +kernel, by decide +kernel⟩ rfl hs.1 o (ci := 7) (q := (RX7, TX7, 11)) rfl rfl (WM_get ho (by decide)) (Nat.le_of_ble_eq_true hW) d ⟨by rw [hs.2.1.1]; exact hs.2.2.1, by rw [hs.2.1.2]; exact hs.2.2.2⟩ (fun v w' hp => by obtain ⟨μ', rfl, h1, h2⟩ := hp; rw [hr] at h1; cases h1) (fun E w' hp => by obtain ⟨μ', rfl, h1, h2⟩ := hp; rw [hr] at h1; cases h1; rw [hs.2.1.1, hs.2.1.2]; exact K μ' h2)
theorem cl_X7_207 (hM : M.1 = RX7) {o : Nat} (ho : kt o = 1) {a0 a1 a2 : Value} {Ry : Room} {k' n' : Nat} {φ : Mem → Prop} (hC : CT g yX3_toCommuted mX3_toCommuted Ry (WM g adr μ) (.ref (adr o) :: [a0, a1, a2]) (PM g adr (.inl none) φ)) (hs : (Ry.frames + 1 ≤ R.frames ∧ 8 + (4 + 11) + Ry.locals ≤ R.locals) ∧ (k + Ry.cells = k' ∧ n + Ry.slots = n') ∧ k' ≤ R.cells ∧ n' ≤ R.slots) (hW : Nat.ble ((st.map fun v => v.category).sum) 8 = true) (d : decode M.2.1 pc = .ok (.invokevirtual 207, 3)) (K : ∀ μ', φ μ' → J g M R Q k' n' (WM g adr μ') (pc + 3) l st) : J g M R Q k n (WM g adr μ) pc l (a2 :: a1 :: a0 :: .ref (adr o) :: st) := by
  obtain ⟨r, hr⟩ : ∃ r : Option Value ⊕ String, r = .inl none := ⟨_, rfl⟩
  rw [← hr] at hC
  exact J.callV (C := RX3) (y := yX3_toCommuted) (My := mX3_toCommuted) (As := [a0, a1, a2]) (na := 3) (idx := 207) (P := PM g adr r φ) hC (by rw [hM]; exact t_726) t_657 t_658 t_5 t_659 ⟨rfl, by decide +kernel, by decide +kernel, by decide +kernel⟩ rfl hs.1 o (ci := 3) (q := (RX3, TX3, 1)) rfl rfl (WM_get ho (by decide)) (Nat.le_of_ble_eq_true hW) d ⟨by rw [hs.2.1.1]; exact hs.2.2.1, by rw [hs.2.1.2]; exact hs.2.2.2⟩ (fun v w' hp => by obtain ⟨μ', rfl, h1, h2⟩ := hp; rw [hr] at h1; cases h1; rw [hs.2.1.1, hs.2.1.2]; exact K μ' h2) (fun E w' hp => by obtain ⟨μ', rfl, h1, h2⟩ := hp; rw [hr] at h1; cases h1)
theorem cl_X7_211 (hM : M.1 = RX7) {o : Nat} (ho : kt o = 5) {a0 : Value} {Ry : Room} {k' n' : Nat} {φ : Mem → Prop} (hC : CT g yX6_takeFrom mX6_takeFrom Ry (WM g adr μ) (.ref (adr o) :: [a0]) (PM g adr (.inl none) φ)) (hs : (Ry.frames + 1 ≤ R.frames ∧ 8 + (2 + 11) + Ry.locals ≤ R.locals) ∧ (k + Ry.cells = k' ∧ n + Ry.slots = n') ∧ k' ≤ R.cells ∧ n' ≤ R.slots) (hW : Nat.ble ((st.map fun v => v.category).sum) 8 = true) (d : decode M.2.1 pc = .ok (.invokevirtual 211, 3)) (K : ∀ μ', φ μ' → J g M R Q k' n' (WM g adr μ') (pc + 3) l st) : J g M R Q k n (WM g adr μ) pc l (a0 :: .ref (adr o) :: st) := by
  obtain ⟨r, hr⟩ : ∃ r : Option Value ⊕ String, r = .inl none := ⟨_, rfl⟩
  rw [← hr] at hC
  exact J.callV (C := RX6) (y := yX6_takeFrom) (My := mX6_takeFrom) (As := [a0]) (na := 1) (idx := 211) (P := PM g adr r φ) hC (by rw [hM]; exact t_734) t_735 t_736 t_2 t_737 ⟨rfl, by decide +kernel, by decide +kernel, by decide +kernel⟩ rfl hs.1 o (ci := 6) (q := (RX6, TX6, 6)) rfl rfl (WM_get ho (by decide)) (Nat.le_of_ble_eq_true hW) d ⟨by rw [hs.2.1.1]; exact hs.2.2.1, by rw [hs.2.1.2]; exact hs.2.2.2⟩ (fun v w' hp => by obtain ⟨μ', rfl, h1, h2⟩ := hp; rw [hr] at h1; cases h1; rw [hs.2.1.1, hs.2.1.2]; exact K μ' h2) (fun E w' hp => by obtain ⟨μ', rfl, h1, h2⟩ := hp; rw [hr] at h1; cases h1)
theorem cl_X7_214 (hM : M.1 = RX7) {o : Nat} (ho : kt o = 5) {Ry : Room} {k' n' : Nat} {x : Value} {φ : Mem → Prop} (hC : CT g yX6_countFilled mX6_countFilled Ry (WM g adr μ) (.ref (adr o) :: []) (PM g adr (.inl (some x)) φ)) (hs : (Ry.frames + 1 ≤ R.frames ∧ 8 + (3 + 11) + Ry.locals ≤ R.locals) ∧ (k + Ry.cells = k' ∧ n + Ry.slots = n') ∧ k' ≤ R.cells ∧ n' ≤ R.slots) (hW : Nat.ble ((st.map fun v => v.category).sum) 8 = true) (d : decode M.2.1 pc = .ok (.invokevirtual 214, 3)) (K : ∀ μ', φ μ' → J g M R Q k' n' (WM g adr μ') (pc + 3) l (x :: st)) : J g M R Q k n (WM g adr μ) pc l (.ref (adr o) :: st) := by
  obtain ⟨r, hr⟩ : ∃ r : Option Value ⊕ String, r = .inl (some x) := ⟨_, rfl⟩
  rw [← hr] at hC
  exact J.callV (C := RX6) (y := yX6_countFilled) (My := mX6_countFilled) (As := []) (na := 0) (idx := 214) (P := PM g adr r φ) hC (by rw [hM]; exact t_738) t_739 t_740 t_2 t_741 ⟨rfl, by decide +kernel, by decide +kernel, by decide +kernel⟩ rfl hs.1 o (ci := 6) (q := (RX6, TX6, 6)) rfl rfl (WM_get ho (by decide)) (Nat.le_of_ble_eq_true hW) d ⟨by rw [hs.2.1.1]; exact hs.2.2.1, by rw [hs.2.1.2]; exact hs.2.2.2⟩ (fun v w' hp => by obtain ⟨μ', rfl, h1, h2⟩ := hp; rw [hr] at h1; cases h1; rw [hs.2.1.1, hs.2.1.2]; exact K μ' h2) (fun E w' hp => by obtain ⟨μ', rfl, h1, h2⟩ := hp; rw [hr] at h1; cases h1)
theorem cl_X7_217 (hM : M.1 = RX7) {o : Nat} (ho : kt o = 13) {a0 : Value} {Ry : Room} {k' n' : Nat} {φ : Mem → Prop} (hC : CT g yX7_needLearnt mX7_needLearnt Ry (WM g adr μ) (.ref (adr o) :: [a0]) (PM g adr (.inl none) φ)) (hs : (Ry.frames + 1 ≤ R.frames ∧ 8 + (2 + 11) + Ry.locals ≤ R.locals) ∧ (k + Ry.cells = k' ∧ n + Ry.slots = n') ∧ k' ≤ R.cells ∧ n' ≤ R.slots) (hW : Nat.ble ((st.map fun v => v.category).sum) 8 = true) (d : decode M.2.1 pc = .ok (.invokevirtual 217, 3)) (K : ∀ μ', φ μ' → J g M R Q k' n' (WM g adr μ') (pc + 3) l st) : J g M R Q k n (WM g adr μ) pc l (a0 :: .ref (adr o) :: st) := by
  obtain ⟨r, hr⟩ : ∃ r : Option Value ⊕ String, r = .inl none := ⟨_, rfl⟩
  rw [← hr] at hC
  exact J.callV (C := RX7) (y := yX7_needLearnt) (My := mX7_needLearnt) (As := [a0]) (na := 1) (idx := 217) (P := PM g adr r φ) hC (by rw [hM]; exact t_750) t_752 s_18 t_1 t_753 ⟨rfl, by decide +kernel, by decide +kernel, by decide +kernel⟩ rfl hs.1 o (ci := 7) (q := (RX7, TX7, 11)) rfl rfl (WM_get ho (by decide)) (Nat.le_of_ble_eq_true hW) d ⟨by rw [hs.2.1.1]; exact hs.2.2.1, by rw [hs.2.1.2]; exact hs.2.2.2⟩ (fun v w' hp => by obtain ⟨μ', rfl, h1, h2⟩ := hp; rw [hr] at h1; cases h1; rw [hs.2.1.1, hs.2.1.2]; exact K μ' h2) (fun E w' hp => by obtain ⟨μ', rfl, h1, h2⟩ := hp; rw [hr] at h1; cases h1)
theorem cx_X7_217 (hM : M.1 = RX7) {o : Nat} (ho : kt o = 13) {a0 : Value} {Ry : Room} {k' n' : Nat} {E : String} {φ : Mem → Prop} (hC : CT g yX7_needLearnt mX7_needLearnt Ry (WM g adr μ) (.ref (adr o) :: [a0]) (PM g adr (.inr E) φ)) (hs : (Ry.frames + 1 ≤ R.frames ∧ 8 + (2 + 11) + Ry.locals ≤ R.locals) ∧ (k + Ry.cells = k' ∧ n + Ry.slots = n') ∧ k' ≤ R.cells ∧ n' ≤ R.slots) (hW : Nat.ble ((st.map fun v => v.category).sum) 8 = true) (d : decode M.2.1 pc = .ok (.invokevirtual 217, 3)) (K : ∀ μ', φ μ' → JX g M R Q k' n' (WM g adr μ') pc l st E) : J g M R Q k n (WM g adr μ) pc l (a0 :: .ref (adr o) :: st) := by
  obtain ⟨r, hr⟩ : ∃ r : Option Value ⊕ String, r = .inr E := ⟨_, rfl⟩
  rw [← hr] at hC
  exact J.callV (C := RX7) (y := yX7_needLearnt) (My := mX7_needLearnt) (As := [a0]) (na := 1) (idx := 217) (P := PM g adr r φ) hC (by rw [hM]; exact t_750) t_752 s_18 t_1 t_753 ⟨rfl, by decide +kernel, by decide +kernel, by decide +kernel⟩ rfl hs.1 o (ci := 7) (q := (RX7, TX7, 11)) rfl rfl (WM_get ho (by decide)) (Nat.le_of_ble_eq_true hW) d ⟨by rw [hs.2.1.1]; exact hs.2.2.1, by rw [hs.2.1.2]; exact hs.2.2.2⟩ (fun v w' hp => by obtain ⟨μ', rfl, h1, h2⟩ := hp; rw [hr] at h1; cases h1) (fun E w' hp => by obtain ⟨μ', rfl, h1, h2⟩ := hp; rw [hr] at h1; cases h1; rw [hs.2.1.1, hs.2.1.2]; exact K μ' h2)
theorem cl_X7_220 (hM : M.1 = RX7) {o : Nat} (ho : kt o = 1) {a0 : Value} {Ry : Room} {k' n' : Nat} {x : Value} {φ : Mem → Prop} (hC : CT g yX3_of mX3_of Ry (WM g adr μ) (.ref (adr o) :: [a0]) (PM g adr (.inl (some x)) φ)) (hs : (Ry.frames + 1 ≤ R.frames ∧ 8 + (2 + 11) + Ry.locals ≤ R.locals) ∧ (k + Ry.cells = k' ∧ n + Ry.slots = n') ∧ k' ≤ R.cells ∧ n' ≤ R.slots) (hW : Nat.ble ((st.map fun v => v.category).sum) 8 = true) (d : decode M.2.1 pc = .ok (.invokevirtual 220, 3)) (K : ∀ μ', φ μ' → J g M R Q k' n' (WM g adr μ') (pc + 3) l (x :: st)) : J g M R Q k n (WM g adr μ) pc l (a0 :: .ref (adr o) :: st) := by
  obtain ⟨r, hr⟩ : ∃ r : Option Value ⊕ String, r = .inl (some x) := ⟨_, rfl⟩
  rw [← hr] at hC
  exact J.callV (C := RX3) (y := yX3_of) (My := mX3_of) (As := [a0]) (na := 1) (idx := 220) (P := PM g adr r φ) hC (by rw [hM]; exact t_770) t_462 t_463 t_5 t_464 ⟨rfl, by decide +kernel, by decide +kernel, by decide +kernel⟩ rfl hs.1 o (ci := 3) (q := (RX3, TX3, 1)) rfl rfl (WM_get ho (by decide)) (Nat.le_of_ble_eq_true hW) d ⟨by rw [hs.2.1.1]; exact hs.2.2.1, by rw [hs.2.1.2]; exact hs.2.2.2⟩ (fun v w' hp => by obtain ⟨μ', rfl, h1, h2⟩ := hp; rw [hr] at h1; cases h1; rw [hs.2.1.1, hs.2.1.2]; exact K μ' h2) (fun E w' hp => by obtain ⟨μ', rfl, h1, h2⟩ := hp; rw [hr] at h1; cases h1)
theorem cl_X7_223 (hM : M.1 = RX7) {o : Nat} (ho : kt o = 1) {Ry : Room} {k' n' : Nat} {x : Value} {φ : Mem → Prop} (hC : CT g yX3_countMoved mX3_countMoved Ry (WM g adr μ) (.ref (adr o) :: []) (PM g adr (.inl (some x)) φ)) (hs : (Ry.frames + 1 ≤ R.frames ∧ 8 + (3 + 11) + Ry.locals ≤ R.locals) ∧ (k + Ry.cells = k' ∧ n + Ry.slots = n') ∧ k' ≤ R.cells ∧ n' ≤ R.slots) (hW : Nat.ble ((st.map fun v => v.category).sum) 8 = true) (d : decode M.2.1 pc = .ok (.invokevirtual 223, 3)) (K : ∀ μ', φ μ' → J g M R Q k' n' (WM g adr μ') (pc + 3) l (x :: st)) : J g M R Q k n (WM g adr μ) pc l (.ref (adr o) :: st) := by
  obtain ⟨r, hr⟩ : ∃ r : Option Value ⊕ String, r = .inl (some x) := ⟨_, rfl⟩
  rw [← hr] at hC
  exact J.callV (C := RX3) (y := yX3_countMoved) (My := mX3_countMoved) (As := []) (na := 0) (idx := 223) (P := PM g adr r φ) hC (by rw [hM]; exact t_708) t_709 t_710 t_5 t_711 ⟨rfl, by decide +kernel, by decide +kernel, by decide +kernel⟩ rfl hs.1 o (ci := 3) (q := (RX3, TX3, 1)) rfl rfl (WM_get ho (by decide)) (Nat.le_of_ble_eq_true hW) d ⟨by rw [hs.2.1.1]; exact hs.2.2.1, by rw [hs.2.1.2]; exact hs.2.2.2⟩ (fun v w' hp => by obtain ⟨μ', rfl, h1, h2⟩ := hp; rw [hr] at h1; cases h1; rw [hs.2.1.1, hs.2.1.2]; exact K μ' h2) (fun E w' hp => by obtain ⟨μ', rfl, h1, h2⟩ := hp; rw [hr] at h1; cases h1)
theorem cl_X7_226 (hM : M.1 = RX7) {o : Nat} (ho : kt o = 1) {a0 : Value} {Ry : Room} {k' n' : Nat} {x : Value} {φ : Mem → Prop} (hC : CT g yX3_countCycles mX3_countCycles Ry (WM g adr μ) (.ref (adr o) :: [a0]) (PM g adr (.inl (some x)) φ)) (hs : (Ry.frames + 1 ≤ R.frames ∧ 8 + (4 + 11) + Ry.locals ≤ R.locals) ∧ (k + Ry.cells = k' ∧ n + Ry.slots = n') ∧ k' ≤ R.cells ∧ n' ≤ R.slots) (hW : Nat.ble ((st.map fun v => v.category).sum) 8 = true) (d : decode M.2.1 pc = .ok (.invokevirtual 226, 3)) (K : ∀ μ', φ μ' → J g M R Q k' n' (WM g adr μ') (pc + 3) l (x :: st)) : J g M R Q k n (WM g adr μ) pc l (a0 :: .ref (adr o) :: st) := by
  obtain ⟨r, hr⟩ : ∃ r : Option Value ⊕ String, r = .inl (some x) := ⟨_, rfl⟩
  rw [← hr] at hC
  exact J.callV (C := RX3) (y := yX3_countCycles) (My := mX3_countCycles) (As := [a0]) (na := 1) (idx := 226) (P := PM g adr r φ) hC (by rw [hM]; exact t_778) t_779 t_780 t_5 t_781 ⟨rfl, by decide +kernel, by decide +kernel, by decide +kernel⟩ rfl hs.1 o (ci := 3) (q := (RX3, TX3, 1)) rfl rfl (WM_get ho (by decide)) (Nat.le_of_ble_eq_true hW) d ⟨by rw [hs.2.1.1]; exact hs.2.2.1, by rw [hs.2.1.2]; exact hs.2.2.2⟩ (fun v w' hp => by obtain ⟨μ', rfl, h1, h2⟩ := hp; rw [hr] at h1; cases h1; rw [hs.2.1.1, hs.2.1.2]; exact K μ' h2) (fun E w' hp => by obtain ⟨μ', rfl, h1, h2⟩ := hp; rw [hr] at h1; cases h1)
theorem cl_X7_229 (hM : M.1 = RX7) {o : Nat} (ho : kt o = 1) {Ry : Room} {k' n' : Nat} {x : Value} {φ : Mem → Prop} (hC : CT g yX3_longestCycle mX3_longestCycle Ry (WM g adr μ) (.ref (adr o) :: []) (PM g adr (.inl (some x)) φ)) (hs : (Ry.frames + 1 ≤ R.frames ∧ 8 + (3 + 11) + Ry.locals ≤ R.locals) ∧ (k + Ry.cells = k' ∧ n + Ry.slots = n') ∧ k' ≤ R.cells ∧ n' ≤ R.slots) (hW : Nat.ble ((st.map fun v => v.category).sum) 8 = true) (d : decode M.2.1 pc = .ok (.invokevirtual 229, 3)) (K : ∀ μ', φ μ' → J g M R Q k' n' (WM g adr μ') (pc + 3) l (x :: st)) : J g M R Q k n (WM g adr μ) pc l (.ref (adr o) :: st) := by
  obtain ⟨r, hr⟩ : ∃ r : Option Value ⊕ String, r = .inl (some x) := ⟨_, rfl⟩
  rw [← hr] at hC
  exact J.callV (C := RX3) (y := yX3_longestCycle) (My := mX3_longestCycle) (As := []) (na := 0) (idx := 229) (P := PM g adr r φ) hC (by rw [hM]; exact t_791) t_792 t_793 t_5 t_794 ⟨rfl, by decide +kernel, by decide +kernel, by decide +kernel⟩ rfl hs.1 o (ci := 3) (q := (RX3, TX3, 1)) rfl rfl (WM_get ho (by decide)) (Nat.le_of_ble_eq_true hW) d ⟨by rw [hs.2.1.1]; exact hs.2.2.1, by rw [hs.2.1.2]; exact hs.2.2.2⟩ (fun v w' hp => by obtain ⟨μ', rfl, h1, h2⟩ := hp; rw [hr] at h1; cases h1; rw [hs.2.1.1, hs.2.1.2]; exact K μ' h2) (fun E w' hp => by obtain ⟨μ', rfl, h1, h2⟩ := hp; rw [hr] at h1; cases h1)
theorem cl_X7_232 (hM : M.1 = RX7) {o : Nat} (ho : kt o = 1) {Ry : Room} {k' n' : Nat} {x : Value} {φ : Mem → Prop} (hC : CT g yX3_orderByCycles mX3_orderByCycles Ry (WM g adr μ) (.ref (adr o) :: []) (PM g adr (.inl (some x)) φ)) (hs : (Ry.frames + 1 ≤ R.frames ∧ 8 + (3 + 11) + Ry.locals ≤ R.locals) ∧ (k + Ry.cells = k' ∧ n + Ry.slots = n') ∧ k' ≤ R.cells ∧ n' ≤ R.slots) (hW : Nat.ble ((st.map fun v => v.category).sum) 8 = true) (d : decode M.2.1 pc = .ok (.invokevirtual 232, 3)) (K : ∀ μ', φ μ' → J g M R Q k' n' (WM g adr μ') (pc + 3) l (x :: st)) : J g M R Q k n (WM g adr μ) pc l (.ref (adr o) :: st) := by
  obtain ⟨r, hr⟩ : ∃ r : Option Value ⊕ String, r = .inl (some x) := ⟨_, rfl⟩
  rw [← hr] at hC
  exact J.callV (C := RX3) (y := yX3_orderByCycles) (My := mX3_orderByCycles) (As := []) (na := 0) (idx := 232) (P := PM g adr r φ) hC (by rw [hM]; exact t_798) t_799 t_800 t_5 t_801 ⟨rfl, by decide +kernel, by decide +kernel, by decide +kernel⟩ rfl hs.1 o (ci := 3) (q := (RX3, TX3, 1)) rfl rfl (WM_get ho (by decide)) (Nat.le_of_ble_eq_true hW) d ⟨by rw [hs.2.1.1]; exact hs.2.2.1, by rw [hs.2.1.2]; exact hs.2.2.2⟩ (fun v w' hp => by obtain ⟨μ', rfl, h1, h2⟩ := hp; rw [hr] at h1; cases h1; rw [hs.2.1.1, hs.2.1.2]; exact K μ' h2) (fun E w' hp => by obtain ⟨μ', rfl, h1, h2⟩ := hp; rw [hr] at h1; cases h1)
theorem cl_X7_235 (hM : M.1 = RX7) {o : Nat} (ho : kt o = 1) {a0 : Value} {Ry : Room} {k' n' : Nat} {x : Value} {φ : Mem → Prop} (hC : CT g yX3_orderByDoing mX3_orderByDoing Ry (WM g adr μ) (.ref (adr o) :: [a0]) (PM g adr (.inl (some x)) φ)) (hs : (Ry.frames + 1 ≤ R.frames ∧ 8 + (3 + 11) + Ry.locals ≤ R.locals) ∧ (k + Ry.cells = k' ∧ n + Ry.slots = n') ∧ k' ≤ R.cells ∧ n' ≤ R.slots) (hW : Nat.ble ((st.map fun v => v.category).sum) 8 = true) (d : decode M.2.1 pc = .ok (.invokevirtual 235, 3)) (K : ∀ μ', φ μ' → J g M R Q k' n' (WM g adr μ') (pc + 3) l (x :: st)) : J g M R Q k n (WM g adr μ) pc l (a0 :: .ref (adr o) :: st) := by
  obtain ⟨r, hr⟩ : ∃ r : Option Value ⊕ String, r = .inl (some x) := ⟨_, rfl⟩
  rw [← hr] at hC
  exact J.callV (C := RX3) (y := yX3_orderByDoing) (My := mX3_orderByDoing) (As := [a0]) (na := 1) (idx := 235) (P := PM g adr r φ) hC (by rw [hM]; exact t_812) t_813 t_814 t_5 t_815 ⟨rfl, by decide +kernel, by decide +kernel, by decide +kernel⟩ rfl hs.1 o (ci := 3) (q := (RX3, TX3, 1)) rfl rfl (WM_get ho (by decide)) (Nat.le_of_ble_eq_true hW) d ⟨by rw [hs.2.1.1]; exact hs.2.2.1, by rw [hs.2.1.2]; exact hs.2.2.2⟩ (fun v w' hp => by obtain ⟨μ', rfl, h1, h2⟩ := hp; rw [hr] at h1; cases h1; rw [hs.2.1.1, hs.2.1.2]; exact K μ' h2) (fun E w' hp => by obtain ⟨μ', rfl, h1, h2⟩ := hp; rw [hr] at h1; cases h1)
theorem cl_X7_239 (hM : M.1 = RX7) {o : Nat} (ho : kt o = 1) {Ry : Room} {k' n' : Nat} {x : Value} {φ : Mem → Prop} (hC : CT g yX3_isEvenByPairs mX3_isEvenByPairs Ry (WM g adr μ) (.ref (adr o) :: []) (PM g adr (.inl (some x)) φ)) (hs : (Ry.frames + 1 ≤ R.frames ∧ 8 + (4 + 11) + Ry.locals ≤ R.locals) ∧ (k + Ry.cells = k' ∧ n + Ry.slots = n') ∧ k' ≤ R.cells ∧ n' ≤ R.slots) (hW : Nat.ble ((st.map fun v => v.category).sum) 8 = true) (d : decode M.2.1 pc = .ok (.invokevirtual 239, 3)) (K : ∀ μ', φ μ' → J g M R Q k' n' (WM g adr μ') (pc + 3) l (x :: st)) : J g M R Q k n (WM g adr μ) pc l (.ref (adr o) :: st) := by
  obtain ⟨r, hr⟩ : ∃ r : Option Value ⊕ String, r = .inl (some x) := ⟨_, rfl⟩
  rw [← hr] at hC
  exact J.callV (C := RX3) (y := yX3_isEvenByPairs) (My := mX3_isEvenByPairs) (As := []) (na := 0) (idx := 239) (P := PM g adr r φ) hC (by rw [hM]; exact t_825) t_826 t_827 t_5 t_828 ⟨rfl, by decide +kernel, by decide +kernel, by decide +kernel⟩ rfl hs.1 o (ci := 3) (q := (RX3, TX3, 1)) rfl rfl (WM_get ho (by decide)) (Nat.le_of_ble_eq_true hW) d ⟨by rw [hs.2.1.1]; exact hs.2.2.1, by rw [hs.2.1.2]; exact hs.2.2.2⟩ (fun v w' hp => by obtain ⟨μ', rfl, h1, h2⟩ := hp; rw [hr] at h1; cases h1; rw [hs.2.1.1, hs.2.1.2]; exact K μ' h2) (fun E w' hp => by obtain ⟨μ', rfl, h1, h2⟩ := hp; rw [hr] at h1; cases h1)
theorem cl_X7_243 (hM : M.1 = RX7) {o : Nat} (ho : kt o = 1) {Ry : Room} {k' n' : Nat} {x : Value} {φ : Mem → Prop} (hC : CT g yX3_isEvenByCycles mX3_isEvenByCycles Ry (WM g adr μ) (.ref (adr o) :: []) (PM g adr (.inl (some x)) φ)) (hs : (Ry.frames + 1 ≤ R.frames ∧ 8 + (1 + 11) + Ry.locals ≤ R.locals) ∧ (k + Ry.cells = k' ∧ n + Ry.slots = n') ∧ k' ≤ R.cells ∧ n' ≤ R.slots) (hW : Nat.ble ((st.map fun v => v.category).sum) 8 = true) (d : decode M.2.1 pc = .ok (.invokevirtual 243, 3)) (K : ∀ μ', φ μ' → J g M R Q k' n' (WM g adr μ') (pc + 3) l (x :: st)) : J g M R Q k n (WM g adr μ) pc l (.ref (adr o) :: st) := by
  obtain ⟨r, hr⟩ : ∃ r : Option Value ⊕ String, r = .inl (some x) := ⟨_, rfl⟩
  rw [← hr] at hC
  exact J.callV (C := RX3) (y := yX3_isEvenByCycles) (My := mX3_isEvenByCycles) (As := []) (na := 0) (idx := 243) (P := PM g adr r φ) hC (by rw [hM]; exact t_829) t_830 t_831 t_5 t_832 ⟨rfl, by decide +kernel, by decide +kernel, by decide +kernel⟩ rfl hs.1 o (ci := 3) (q := (RX3, TX3, 1)) rfl rfl (WM_get ho (by decide)) (Nat.le_of_ble_eq_true hW) d ⟨by rw [hs.2.1.1]; exact hs.2.2.1, by rw [hs.2.1.2]; exact hs.2.2.2⟩ (fun v w' hp => by obtain ⟨μ', rfl, h1, h2⟩ := hp; rw [hr] at h1; cases h1; rw [hs.2.1.1, hs.2.1.2]; exact K μ' h2) (fun E w' hp => by obtain ⟨μ', rfl, h1, h2⟩ := hp; rw [hr] at h1; cases h1)
theorem cl_X7_246 (hM : M.1 = RX7) {o : Nat} (ho : kt o = 1) {a0 : Value} {Ry : Room} {k' n' : Nat} {x : Value} {φ : Mem → Prop} (hC : CT g yX3_cycleLength mX3_cycleLength Ry (WM g adr μ) (.ref (adr o) :: [a0]) (PM g adr (.inl (some x)) φ)) (hs : (Ry.frames + 1 ≤ R.frames ∧ 8 + (4 + 11) + Ry.locals ≤ R.locals) ∧ (k + Ry.cells = k' ∧ n + Ry.slots = n') ∧ k' ≤ R.cells ∧ n' ≤ R.slots) (hW : Nat.ble ((st.map fun v => v.category).sum) 8 = true) (d : decode M.2.1 pc = .ok (.invokevirtual 246, 3)) (K : ∀ μ', φ μ' → J g M R Q k' n' (WM g adr μ') (pc + 3) l (x :: st)) : J g M R Q k n (WM g adr μ) pc l (a0 :: .ref (adr o) :: st) := by
  obtain ⟨r, hr⟩ : ∃ r : Option Value ⊕ String, r = .inl (some x) := ⟨_, rfl⟩
  rw [← hr] at hC
  exact J.callV (C := RX3) (y := yX3_cycleLength) (My := mX3_cycleLength) (As := [a0]) (na := 1) (idx := 246) (P := PM g adr r φ) hC (by rw [hM]; exact t_841) t_788 t_789 t_5 t_790 ⟨rfl, by decide +kernel, by decide +kernel, by decide +kernel⟩ rfl hs.1 o (ci := 3) (q := (RX3, TX3, 1)) rfl rfl (WM_get ho (by decide)) (Nat.le_of_ble_eq_true hW) d ⟨by rw [hs.2.1.1]; exact hs.2.2.1, by rw [hs.2.1.2]; exact hs.2.2.2⟩ (fun v w' hp => by obtain ⟨μ', rfl, h1, h2⟩ := hp; rw [hr] at h1; cases h1; rw [hs.2.1.1, hs.2.1.2]; exact K μ' h2) (fun E w' hp => by obtain ⟨μ', rfl, h1, h2⟩ := hp; rw [hr] at h1; cases h1)
theorem cl_X7_249 (hM : M.1 = RX7) {o : Nat} (ho : kt o = 1) {a0 : Value} {Ry : Room} {k' n' : Nat} {x : Value} {φ : Mem → Prop} (hC : CT g yX3_isInEitherOrder mX3_isInEitherOrder Ry (WM g adr μ) (.ref (adr o) :: [a0]) (PM g adr (.inl (some x)) φ)) (hs : (Ry.frames + 1 ≤ R.frames ∧ 8 + (3 + 11) + Ry.locals ≤ R.locals) ∧ (k + Ry.cells = k' ∧ n + Ry.slots = n') ∧ k' ≤ R.cells ∧ n' ≤ R.slots) (hW : Nat.ble ((st.map fun v => v.category).sum) 8 = true) (d : decode M.2.1 pc = .ok (.invokevirtual 249, 3)) (K : ∀ μ', φ μ' → J g M R Q k' n' (WM g adr μ') (pc + 3) l (x :: st)) : J g M R Q k n (WM g adr μ) pc l (a0 :: .ref (adr o) :: st) := by
  obtain ⟨r, hr⟩ : ∃ r : Option Value ⊕ String, r = .inl (some x) := ⟨_, rfl⟩
  rw [← hr] at hC
  exact J.callV (C := RX3) (y := yX3_isInEitherOrder) (My := mX3_isInEitherOrder) (As := [a0]) (na := 1) (idx := 249) (P := PM g adr r φ) hC (by rw [hM]; exact t_849) t_850 t_851 t_5 t_852 ⟨rfl, by decide +kernel, by decide +kernel, by decide +kernel⟩ rfl hs.1 o (ci := 3) (q := (RX3, TX3, 1)) rfl rfl (WM_get ho (by decide)) (Nat.le_of_ble_eq_true hW) d ⟨by rw [hs.2.1.1]; exact hs.2.2.1, by rw [hs.2.1.2]; exact hs.2.2.2⟩ (fun v w' hp => by obtain ⟨μ', rfl, h1, h2⟩ := hp; rw [hr] at h1; cases h1; rw [hs.2.1.1, hs.2.1.2]; exact K μ' h2) (fun E w' hp => by obtain ⟨μ', rfl, h1, h2⟩ := hp; rw [hr] at h1; cases h1)
theorem cl_X7_253 (hM : M.1 = RX7) {o : Nat} (ho : kt o = 9) {a0 : Value} {Ry : Room} {k' n' : Nat} {φ : Mem → Prop} (hC : CT g yX5_addNumber mX5_addNumber Ry (WM g adr μ) (.ref (adr o) :: [a0]) (PM g adr (.inl none) φ)) (hs : (Ry.frames + 1 ≤ R.frames ∧ 8 + (2 + 11) + Ry.locals ≤ R.locals) ∧ (k + Ry.cells = k' ∧ n + Ry.slots = n') ∧ k' ≤ R.cells ∧ n' ≤ R.slots) (hW : Nat.ble ((st.map fun v => v.category).sum) 8 = true) (d : decode M.2.1 pc = .ok (.invokevirtual 253, 3)) (K : ∀ μ', φ μ' → J g M R Q k' n' (WM g adr μ') (pc + 3) l st) : J g M R Q k n (WM g adr μ) pc l (a0 :: .ref (adr o) :: st) := by
  obtain ⟨r, hr⟩ : ∃ r : Option Value ⊕ String, r = .inl none := ⟨_, rfl⟩
  rw [← hr] at hC
  exact J.callV (C := RX5) (y := yX5_addNumber) (My := mX5_addNumber) (As := [a0]) (na := 1) (idx := 253) (P := PM g adr r φ) hC (by rw [hM]; exact t_239) t_240 t_241 t_8 t_242 ⟨rfl, by decide +kernel, by decide +kernel, by decide +kernel⟩ rfl hs.1 o (ci := 5) (q := (RX5, TX5, 2)) rfl rfl (WM_get ho (by decide)) (Nat.le_of_ble_eq_true hW) d ⟨by rw [hs.2.1.1]; exact hs.2.2.1, by rw [hs.2.1.2]; exact hs.2.2.2⟩ (fun v w' hp => by obtain ⟨μ', rfl, h1, h2⟩ := hp; rw [hr] at h1; cases h1; rw [hs.2.1.1, hs.2.1.2]; exact K μ' h2) (fun E w' hp => by obtain ⟨μ', rfl, h1, h2⟩ := hp; rw [hr] at h1; cases h1)
theorem cl_X7_256 (hM : M.1 = RX7) {o : Nat} (ho : kt o = 9) {Ry : Room} {k' n' : Nat} {x : Value} {φ : Mem → Prop} (hC : CT g yX5_size mX5_size Ry (WM g adr μ) (.ref (adr o) :: []) (PM g adr (.inl (some x)) φ)) (hs : (Ry.frames + 1 ≤ R.frames ∧ 8 + (1 + 11) + Ry.locals ≤ R.locals) ∧ (k + Ry.cells = k' ∧ n + Ry.slots = n') ∧ k' ≤ R.cells ∧ n' ≤ R.slots) (hW : Nat.ble ((st.map fun v => v.category).sum) 8 = true) (d : decode M.2.1 pc = .ok (.invokevirtual 256, 3)) (K : ∀ μ', φ μ' → J g M R Q k' n' (WM g adr μ') (pc + 3) l (x :: st)) : J g M R Q k n (WM g adr μ) pc l (.ref (adr o) :: st) := by
  obtain ⟨r, hr⟩ : ∃ r : Option Value ⊕ String, r = .inl (some x) := ⟨_, rfl⟩
  rw [← hr] at hC
  exact J.callV (C := RX5) (y := yX5_size) (My := mX5_size) (As := []) (na := 0) (idx := 256) (P := PM g adr r φ) hC (by rw [hM]; exact t_244) t_245 t_246 t_8 t_247 ⟨rfl, by decide +kernel, by decide +kernel, by decide +kernel⟩ rfl hs.1 o (ci := 5) (q := (RX5, TX5, 2)) rfl rfl (WM_get ho (by decide)) (Nat.le_of_ble_eq_true hW) d ⟨by rw [hs.2.1.1]; exact hs.2.2.1, by rw [hs.2.1.2]; exact hs.2.2.2⟩ (fun v w' hp => by obtain ⟨μ', rfl, h1, h2⟩ := hp; rw [hr] at h1; cases h1; rw [hs.2.1.1, hs.2.1.2]; exact K μ' h2) (fun E w' hp => by obtain ⟨μ', rfl, h1, h2⟩ := hp; rw [hr] at h1; cases h1)
theorem cl_X7_257 (hM : M.1 = RX7) {o : Nat} (ho : kt o = 9) {a0 : Value} {Ry : Room} {k' n' : Nat} {φ : Mem → Prop} (hC : CT g yX5_addSign mX5_addSign Ry (WM g adr μ) (.ref (adr o) :: [a0]) (PM g adr (.inl none) φ)) (hs : (Ry.frames + 1 ≤ R.frames ∧ 8 + (2 + 11) + Ry.locals ≤ R.locals) ∧ (k + Ry.cells = k' ∧ n + Ry.slots = n') ∧ k' ≤ R.cells ∧ n' ≤ R.slots) (hW : Nat.ble ((st.map fun v => v.category).sum) 8 = true) (d : decode M.2.1 pc = .ok (.invokevirtual 257, 3)) (K : ∀ μ', φ μ' → J g M R Q k' n' (WM g adr μ') (pc + 3) l st) : J g M R Q k n (WM g adr μ) pc l (a0 :: .ref (adr o) :: st) := by
  obtain ⟨r, hr⟩ : ∃ r : Option Value ⊕ String, r = .inl none := ⟨_, rfl⟩
  rw [← hr] at hC
  exact J.callV (C := RX5) (y := yX5_addSign) (My := mX5_addSign) (As := [a0]) (na := 1) (idx := 257) (P := PM g adr r φ) hC (by rw [hM]; exact t_235) t_236 t_237 t_8 t_238 ⟨rfl, by decide +kernel, by decide +kernel, by decide +kernel⟩ rfl hs.1 o (ci := 5) (q := (RX5, TX5, 2)) rfl rfl (WM_get ho (by decide)) (Nat.le_of_ble_eq_true hW) d ⟨by rw [hs.2.1.1]; exact hs.2.2.1, by rw [hs.2.1.2]; exact hs.2.2.2⟩ (fun v w' hp => by obtain ⟨μ', rfl, h1, h2⟩ := hp; rw [hr] at h1; cases h1; rw [hs.2.1.1, hs.2.1.2]; exact K μ' h2) (fun E w' hp => by obtain ⟨μ', rfl, h1, h2⟩ := hp; rw [hr] at h1; cases h1)
theorem cl_X7_261 (hM : M.1 = RX7) {o : Nat} (ho : kt o = 1) {a0 : Value} {Ry : Room} {k' n' : Nat} {x : Value} {φ : Mem → Prop} (hC : CT g yX3_isLowestOfCycle mX3_isLowestOfCycle Ry (WM g adr μ) (.ref (adr o) :: [a0]) (PM g adr (.inl (some x)) φ)) (hs : (Ry.frames + 1 ≤ R.frames ∧ 8 + (4 + 11) + Ry.locals ≤ R.locals) ∧ (k + Ry.cells = k' ∧ n + Ry.slots = n') ∧ k' ≤ R.cells ∧ n' ≤ R.slots) (hW : Nat.ble ((st.map fun v => v.category).sum) 8 = true) (d : decode M.2.1 pc = .ok (.invokevirtual 261, 3)) (K : ∀ μ', φ μ' → J g M R Q k' n' (WM g adr μ') (pc + 3) l (x :: st)) : J g M R Q k n (WM g adr μ) pc l (a0 :: .ref (adr o) :: st) := by
  obtain ⟨r, hr⟩ : ∃ r : Option Value ⊕ String, r = .inl (some x) := ⟨_, rfl⟩
  rw [← hr] at hC
  exact J.callV (C := RX3) (y := yX3_isLowestOfCycle) (My := mX3_isLowestOfCycle) (As := [a0]) (na := 1) (idx := 261) (P := PM g adr r φ) hC (by rw [hM]; exact t_867) t_783 t_784 t_5 t_785 ⟨rfl, by decide +kernel, by decide +kernel, by decide +kernel⟩ rfl hs.1 o (ci := 3) (q := (RX3, TX3, 1)) rfl rfl (WM_get ho (by decide)) (Nat.le_of_ble_eq_true hW) d ⟨by rw [hs.2.1.1]; exact hs.2.2.1, by rw [hs.2.1.2]; exact hs.2.2.2⟩ (fun v w' hp => by obtain ⟨μ', rfl, h1, h2⟩ := hp; rw [hr] at h1; cases h1; rw [hs.2.1.1, hs.2.1.2]; exact K μ' h2) (fun E w' hp => by obtain ⟨μ', rfl, h1, h2⟩ := hp; rw [hr] at h1; cases h1)
theorem cl_X7_264 (hM : M.1 = RX7) {o : Nat} (ho : kt o = 9) {a0 a1 : Value} {Ry : Room} {k' n' : Nat} {φ : Mem → Prop} (hC : CT g yX5_addCycle mX5_addCycle Ry (WM g adr μ) (.ref (adr o) :: [a0, a1]) (PM g adr (.inl none) φ)) (hs : (Ry.frames + 1 ≤ R.frames ∧ 8 + (5 + 11) + Ry.locals ≤ R.locals) ∧ (k + Ry.cells = k' ∧ n + Ry.slots = n') ∧ k' ≤ R.cells ∧ n' ≤ R.slots) (hW : Nat.ble ((st.map fun v => v.category).sum) 8 = true) (d : decode M.2.1 pc = .ok (.invokevirtual 264, 3)) (K : ∀ μ', φ μ' → J g M R Q k' n' (WM g adr μ') (pc + 3) l st) : J g M R Q k n (WM g adr μ) pc l (a1 :: a0 :: .ref (adr o) :: st) := by
  obtain ⟨r, hr⟩ : ∃ r : Option Value ⊕ String, r = .inl none := ⟨_, rfl⟩
  rw [← hr] at hC
  exact J.callV (C := RX5) (y := yX5_addCycle) (My := mX5_addCycle) (As := [a0, a1]) (na := 2) (idx := 264) (P := PM g adr r φ) hC (by rw [hM]; exact t_868) t_869 t_870 t_8 t_871 ⟨rfl, by decide +kernel, by decide +kernel, by decide +kernel⟩ rfl hs.1 o (ci := 5) (q := (RX5, TX5, 2)) rfl rfl (WM_get ho (by decide)) (Nat.le_of_ble_eq_true hW) d ⟨by rw [hs.2.1.1]; exact hs.2.2.1, by rw [hs.2.1.2]; exact hs.2.2.2⟩ (fun v w' hp => by obtain ⟨μ', rfl, h1, h2⟩ := hp; rw [hr] at h1; cases h1; rw [hs.2.1.1, hs.2.1.2]; exact K μ' h2) (fun E w' hp => by obtain ⟨μ', rfl, h1, h2⟩ := hp; rw [hr] at h1; cases h1)
theorem cl_X7_267 (hM : M.1 = RX7) {o : Nat} (ho : kt o = 9) {a0 : Value} {Ry : Room} {k' n' : Nat} {x : Value} {φ : Mem → Prop} (hC : CT g yX5_signAt mX5_signAt Ry (WM g adr μ) (.ref (adr o) :: [a0]) (PM g adr (.inl (some x)) φ)) (hs : (Ry.frames + 1 ≤ R.frames ∧ 8 + (2 + 11) + Ry.locals ≤ R.locals) ∧ (k + Ry.cells = k' ∧ n + Ry.slots = n') ∧ k' ≤ R.cells ∧ n' ≤ R.slots) (hW : Nat.ble ((st.map fun v => v.category).sum) 8 = true) (d : decode M.2.1 pc = .ok (.invokevirtual 267, 3)) (K : ∀ μ', φ μ' → J g M R Q k' n' (WM g adr μ') (pc + 3) l (x :: st)) : J g M R Q k n (WM g adr μ) pc l (a0 :: .ref (adr o) :: st) := by
  obtain ⟨r, hr⟩ : ∃ r : Option Value ⊕ String, r = .inl (some x) := ⟨_, rfl⟩
  rw [← hr] at hC
  exact J.callV (C := RX5) (y := yX5_signAt) (My := mX5_signAt) (As := [a0]) (na := 1) (idx := 267) (P := PM g adr r φ) hC (by rw [hM]; exact t_881) t_618 t_619 t_8 t_620 ⟨rfl, by decide +kernel, by decide +kernel, by decide +kernel⟩ rfl hs.1 o (ci := 5) (q := (RX5, TX5, 2)) rfl rfl (WM_get ho (by decide)) (Nat.le_of_ble_eq_true hW) d ⟨by rw [hs.2.1.1]; exact hs.2.2.1, by rw [hs.2.1.2]; exact hs.2.2.2⟩ (fun v w' hp => by obtain ⟨μ', rfl, h1, h2⟩ := hp; rw [hr] at h1; cases h1; rw [hs.2.1.1, hs.2.1.2]; exact K μ' h2) (fun E w' hp => by obtain ⟨μ', rfl, h1, h2⟩ := hp; rw [hr] at h1; cases h1)
theorem cl_X7_285 (hM : M.1 = RX7) {o : Nat} (ho : kt o = 2) {Ry : Room} {k' n' : Nat} {x : Value} {φ : Mem → Prop} (hC : CT g yX0_countDone mX0_countDone Ry (WM g adr μ) (.ref (adr o) :: []) (PM g adr (.inl (some x)) φ)) (hs : (Ry.frames + 1 ≤ R.frames ∧ 8 + (3 + 11) + Ry.locals ≤ R.locals) ∧ (k + Ry.cells = k' ∧ n + Ry.slots = n') ∧ k' ≤ R.cells ∧ n' ≤ R.slots) (hW : Nat.ble ((st.map fun v => v.category).sum) 8 = true) (d : decode M.2.1 pc = .ok (.invokevirtual 285, 3)) (K : ∀ μ', φ μ' → J g M R Q k' n' (WM g adr μ') (pc + 3) l (x :: st)) : J g M R Q k n (WM g adr μ) pc l (.ref (adr o) :: st) := by
  obtain ⟨r, hr⟩ : ∃ r : Option Value ⊕ String, r = .inl (some x) := ⟨_, rfl⟩
  rw [← hr] at hC
  exact J.callV (C := RX0) (y := yX0_countDone) (My := mX0_countDone) (As := []) (na := 0) (idx := 285) (P := PM g adr r φ) hC (by rw [hM]; exact t_936) t_937 t_938 t_3 t_939 ⟨rfl, by decide +kernel, by decide +kernel, by decide +kernel⟩ rfl hs.1 o (ci := 0) (q := (RX0, TX0, 3)) rfl rfl (WM_get ho (by decide)) (Nat.le_of_ble_eq_true hW) d ⟨by rw [hs.2.1.1]; exact hs.2.2.1, by rw [hs.2.1.2]; exact hs.2.2.2⟩ (fun v w' hp => by obtain ⟨μ', rfl, h1, h2⟩ := hp; rw [hr] at h1; cases h1; rw [hs.2.1.1, hs.2.1.2]; exact K μ' h2) (fun E w' hp => by obtain ⟨μ', rfl, h1, h2⟩ := hp; rw [hr] at h1; cases h1)
theorem cl_X7_291 (hM : M.1 = RX7) {o : Nat} (ho : kt o = 6) {Ry : Room} {k' n' : Nat} {x : Value} {φ : Mem → Prop} (hC : CT g yX2_size mX2_size Ry (WM g adr μ) (.ref (adr o) :: []) (PM g adr (.inl (some x)) φ)) (hs : (Ry.frames + 1 ≤ R.frames ∧ 8 + (1 + 11) + Ry.locals ≤ R.locals) ∧ (k + Ry.cells = k' ∧ n + Ry.slots = n') ∧ k' ≤ R.cells ∧ n' ≤ R.slots) (hW : Nat.ble ((st.map fun v => v.category).sum) 8 = true) (d : decode M.2.1 pc = .ok (.invokevirtual 291, 3)) (K : ∀ μ', φ μ' → J g M R Q k' n' (WM g adr μ') (pc + 3) l (x :: st)) : J g M R Q k n (WM g adr μ) pc l (.ref (adr o) :: st) := by
  obtain ⟨r, hr⟩ : ∃ r : Option Value ⊕ String, r = .inl (some x) := ⟨_, rfl⟩
  rw [← hr] at hC
  exact J.callV (C := RX2) (y := yX2_size) (My := mX2_size) (As := []) (na := 0) (idx := 291) (P := PM g adr r φ) hC (by rw [hM]; exact t_941) t_942 t_943 t_6 t_944 ⟨rfl, by decide +kernel, by decide +kernel, by decide +kernel⟩ rfl hs.1 o (ci := 2) (q := (RX2, TX2, 2)) rfl rfl (WM_get ho (by decide)) (Nat.le_of_ble_eq_true hW) d ⟨by rw [hs.2.1.1]; exact hs.2.2.1, by rw [hs.2.1.2]; exact hs.2.2.2⟩ (fun v w' hp => by obtain ⟨μ', rfl, h1, h2⟩ := hp; rw [hr] at h1; cases h1; rw [hs.2.1.1, hs.2.1.2]; exact K μ' h2) (fun E w' hp => by obtain ⟨μ', rfl, h1, h2⟩ := hp; rw [hr] at h1; cases h1)
theorem cl_X7_297 (hM : M.1 = RX7) {o : Nat} (ho : kt o = 2) {Ry : Room} {k' n' : Nat} {x : Value} {φ : Mem → Prop} (hC : CT g yX0_isEachWhereTold mX0_isEachWhereTold Ry (WM g adr μ) (.ref (adr o) :: []) (PM g adr (.inl (some x)) φ)) (hs : (Ry.frames + 1 ≤ R.frames ∧ 8 + (4 + 11) + Ry.locals ≤ R.locals) ∧ (k + Ry.cells = k' ∧ n + Ry.slots = n') ∧ k' ≤ R.cells ∧ n' ≤ R.slots) (hW : Nat.ble ((st.map fun v => v.category).sum) 8 = true) (d : decode M.2.1 pc = .ok (.invokevirtual 297, 3)) (K : ∀ μ', φ μ' → J g M R Q k' n' (WM g adr μ') (pc + 3) l (x :: st)) : J g M R Q k n (WM g adr μ) pc l (.ref (adr o) :: st) := by
  obtain ⟨r, hr⟩ : ∃ r : Option Value ⊕ String, r = .inl (some x) := ⟨_, rfl⟩
  rw [← hr] at hC
  exact J.callV (C := RX0) (y := yX0_isEachWhereTold) (My := mX0_isEachWhereTold) (As := []) (na := 0) (idx := 297) (P := PM g adr r φ) hC (by rw [hM]; exact t_252) t_253 t_254 t_3 t_255 ⟨rfl, by decide +kernel, by decide +kernel, by decide +kernel⟩ rfl hs.1 o (ci := 0) (q := (RX0, TX0, 3)) rfl rfl (WM_get ho (by decide)) (Nat.le_of_ble_eq_true hW) d ⟨by rw [hs.2.1.1]; exact hs.2.2.1, by rw [hs.2.1.2]; exact hs.2.2.2⟩ (fun v w' hp => by obtain ⟨μ', rfl, h1, h2⟩ := hp; rw [hr] at h1; cases h1; rw [hs.2.1.1, hs.2.1.2]; exact K μ' h2) (fun E w' hp => by obtain ⟨μ', rfl, h1, h2⟩ := hp; rw [hr] at h1; cases h1)
theorem cl_X7_300 (hM : M.1 = RX7) {o : Nat} (ho : kt o = 5) {a0 : Value} {Ry : Room} {k' n' : Nat} {x : Value} {φ : Mem → Prop} (hC : CT g yX6_isFilled mX6_isFilled Ry (WM g adr μ) (.ref (adr o) :: [a0]) (PM g adr (.inl (some x)) φ)) (hs : (Ry.frames + 1 ≤ R.frames ∧ 8 + (2 + 11) + Ry.locals ≤ R.locals) ∧ (k + Ry.cells = k' ∧ n + Ry.slots = n') ∧ k' ≤ R.cells ∧ n' ≤ R.slots) (hW : Nat.ble ((st.map fun v => v.category).sum) 8 = true) (d : decode M.2.1 pc = .ok (.invokevirtual 300, 3)) (K : ∀ μ', φ μ' → J g M R Q k' n' (WM g adr μ') (pc + 3) l (x :: st)) : J g M R Q k n (WM g adr μ) pc l (a0 :: .ref (adr o) :: st) := by
  obtain ⟨r, hr⟩ : ∃ r : Option Value ⊕ String, r = .inl (some x) := ⟨_, rfl⟩
  rw [← hr] at hC
  exact J.callV (C := RX6) (y := yX6_isFilled) (My := mX6_isFilled) (As := [a0]) (na := 1) (idx := 300) (P := PM g adr r φ) hC (by rw [hM]; exact t_256) t_257 t_258 t_2 t_259 ⟨rfl, by decide +kernel, by decide +kernel, by decide +kernel⟩ rfl hs.1 o (ci := 6) (q := (RX6, TX6, 6)) rfl rfl (WM_get ho (by decide)) (Nat.le_of_ble_eq_true hW) d ⟨by rw [hs.2.1.1]; exact hs.2.2.1, by rw [hs.2.1.2]; exact hs.2.2.2⟩ (fun v w' hp => by obtain ⟨μ', rfl, h1, h2⟩ := hp; rw [hr] at h1; cases h1; rw [hs.2.1.1, hs.2.1.2]; exact K μ' h2) (fun E w' hp => by obtain ⟨μ', rfl, h1, h2⟩ := hp; rw [hr] at h1; cases h1)
theorem cl_X7_303 (hM : M.1 = RX7) {o : Nat} (ho : kt o = 13) {a0 : Value} {Ry : Room} {k' n' : Nat} {x : Value} {φ : Mem → Prop} (hC : CT g yX7_isUndoneByInverse mX7_isUndoneByInverse Ry (WM g adr μ) (.ref (adr o) :: [a0]) (PM g adr (.inl (some x)) φ)) (hs : (Ry.frames + 1 ≤ R.frames ∧ 8 + (2 + 11) + Ry.locals ≤ R.locals) ∧ (k + Ry.cells = k' ∧ n + Ry.slots = n') ∧ k' ≤ R.cells ∧ n' ≤ R.slots) (hW : Nat.ble ((st.map fun v => v.category).sum) 8 = true) (d : decode M.2.1 pc = .ok (.invokevirtual 303, 3)) (K : ∀ μ', φ μ' → J g M R Q k' n' (WM g adr μ') (pc + 3) l (x :: st)) : J g M R Q k n (WM g adr μ) pc l (a0 :: .ref (adr o) :: st) := by
  obtain ⟨r, hr⟩ : ∃ r : Option Value ⊕ String, r = .inl (some x) := ⟨_, rfl⟩
  rw [← hr] at hC
  exact J.callV (C := RX7) (y := yX7_isUndoneByInverse) (My := mX7_isUndoneByInverse) (As := [a0]) (na := 1) (idx := 303) (P := PM g adr r φ) hC (by rw [hM]; exact t_265) t_267 s_0 t_1 t_268 ⟨rfl, by decide +kernel, by decide +kernel, by decide +kernel⟩ rfl hs.1 o (ci := 7) (q := (RX7, TX7, 11)) rfl rfl (WM_get ho (by decide)) (Nat.le_of_ble_eq_true hW) d ⟨by rw [hs.2.1.1]; exact hs.2.2.1, by rw [hs.2.1.2]; exact hs.2.2.2⟩ (fun v w' hp => by obtain ⟨μ', rfl, h1, h2⟩ := hp; rw [hr] at h1; cases h1; rw [hs.2.1.1, hs.2.1.2]; exact K μ' h2) (fun E w' hp => by obtain ⟨μ', rfl, h1, h2⟩ := hp; rw [hr] at h1; cases h1)
theorem cx_X7_303 (hM : M.1 = RX7) {o : Nat} (ho : kt o = 13) {a0 : Value} {Ry : Room} {k' n' : Nat} {E : String} {φ : Mem → Prop} (hC : CT g yX7_isUndoneByInverse mX7_isUndoneByInverse Ry (WM g adr μ) (.ref (adr o) :: [a0]) (PM g adr (.inr E) φ)) (hs : (Ry.frames + 1 ≤ R.frames ∧ 8 + (2 + 11) + Ry.locals ≤ R.locals) ∧ (k + Ry.cells = k' ∧ n + Ry.slots = n') ∧ k' ≤ R.cells ∧ n' ≤ R.slots) (hW : Nat.ble ((st.map fun v => v.category).sum) 8 = true) (d : decode M.2.1 pc = .ok (.invokevirtual 303, 3)) (K : ∀ μ', φ μ' → JX g M R Q k' n' (WM g adr μ') pc l st E) : J g M R Q k n (WM g adr μ) pc l (a0 :: .ref (adr o) :: st) := by
  obtain ⟨r, hr⟩ : ∃ r : Option Value ⊕ String, r = .inr E := ⟨_, rfl⟩
  rw [← hr] at hC
  exact J.callV (C := RX7) (y := yX7_isUndoneByInverse) (My := mX7_isUndoneByInverse) (As := [a0]) (na := 1) (idx := 303) (P := PM g adr r φ) hC (by rw [hM]; exact t_265) t_267 s_0 t_1 t_268 ⟨rfl, by decide +kernel, by decide +kernel, by decide +kernel⟩ rfl hs.1 o (ci := 7) (q := (RX7, TX7, 11)) rfl rfl (WM_get ho (by decide)) (Nat.le_of_ble_eq_true hW) d ⟨by rw [hs.2.1.1]; exact hs.2.2.1, by rw [hs.2.1.2]; exact hs.2.2.2⟩ (fun v w' hp => by obtain ⟨μ', rfl, h1, h2⟩ := hp; rw [hr] at h1; cases h1) (fun E w' hp => by obtain ⟨μ', rfl, h1, h2⟩ := hp; rw [hr] at h1; cases h1; rw [hs.2.1.1, hs.2.1.2]; exact K μ' h2)
theorem cl_X7_306 (hM : M.1 = RX7) {o : Nat} (ho : kt o = 2) {Ry : Room} {k' n' : Nat} {x : Value} {φ : Mem → Prop} (hC : CT g yX0_movesToHomes mX0_movesToHomes Ry (WM g adr μ) (.ref (adr o) :: []) (PM g adr (.inl (some x)) φ)) (hs : (Ry.frames + 1 ≤ R.frames ∧ 8 + (3 + 11) + Ry.locals ≤ R.locals) ∧ (k + Ry.cells = k' ∧ n + Ry.slots = n') ∧ k' ≤ R.cells ∧ n' ≤ R.slots) (hW : Nat.ble ((st.map fun v => v.category).sum) 8 = true) (d : decode M.2.1 pc = .ok (.invokevirtual 306, 3)) (K : ∀ μ', φ μ' → J g M R Q k' n' (WM g adr μ') (pc + 3) l (x :: st)) : J g M R Q k n (WM g adr μ) pc l (.ref (adr o) :: st) := by
  obtain ⟨r, hr⟩ : ∃ r : Option Value ⊕ String, r = .inl (some x) := ⟨_, rfl⟩
  rw [← hr] at hC
  exact J.callV (C := RX0) (y := yX0_movesToHomes) (My := mX0_movesToHomes) (As := []) (na := 0) (idx := 306) (P := PM g adr r φ) hC (by rw [hM]; exact t_289) t_290 t_291 t_3 t_292 ⟨rfl, by decide +kernel, by decide +kernel, by decide +kernel⟩ rfl hs.1 o (ci := 0) (q := (RX0, TX0, 3)) rfl rfl (WM_get ho (by decide)) (Nat.le_of_ble_eq_true hW) d ⟨by rw [hs.2.1.1]; exact hs.2.2.1, by rw [hs.2.1.2]; exact hs.2.2.2⟩ (fun v w' hp => by obtain ⟨μ', rfl, h1, h2⟩ := hp; rw [hr] at h1; cases h1; rw [hs.2.1.1, hs.2.1.2]; exact K μ' h2) (fun E w' hp => by obtain ⟨μ', rfl, h1, h2⟩ := hp; rw [hr] at h1; cases h1)
theorem cl_X7_314 (hM : M.1 = RX7) {o : Nat} (ho : kt o = 6) {a0 : Value} {Ry : Room} {k' n' : Nat} {φ : Mem → Prop} (hC : CT g yX2_giveBack mX2_giveBack Ry (WM g adr μ) (.ref (adr o) :: [a0]) (PM g adr (.inl none) φ)) (hs : (Ry.frames + 1 ≤ R.frames ∧ 8 + (2 + 11) + Ry.locals ≤ R.locals) ∧ (k + Ry.cells = k' ∧ n + Ry.slots = n') ∧ k' ≤ R.cells ∧ n' ≤ R.slots) (hW : Nat.ble ((st.map fun v => v.category).sum) 8 = true) (d : decode M.2.1 pc = .ok (.invokevirtual 314, 3)) (K : ∀ μ', φ μ' → J g M R Q k' n' (WM g adr μ') (pc + 3) l st) : J g M R Q k n (WM g adr μ) pc l (a0 :: .ref (adr o) :: st) := by
  obtain ⟨r, hr⟩ : ∃ r : Option Value ⊕ String, r = .inl none := ⟨_, rfl⟩
  rw [← hr] at hC
  exact J.callV (C := RX2) (y := yX2_giveBack) (My := mX2_giveBack) (As := [a0]) (na := 1) (idx := 314) (P := PM g adr r φ) hC (by rw [hM]; exact t_954) t_955 t_956 t_6 t_957 ⟨rfl, by decide +kernel, by decide +kernel, by decide +kernel⟩ rfl hs.1 o (ci := 2) (q := (RX2, TX2, 2)) rfl rfl (WM_get ho (by decide)) (Nat.le_of_ble_eq_true hW) d ⟨by rw [hs.2.1.1]; exact hs.2.2.1, by rw [hs.2.1.2]; exact hs.2.2.2⟩ (fun v w' hp => by obtain ⟨μ', rfl, h1, h2⟩ := hp; rw [hr] at h1; cases h1; rw [hs.2.1.1, hs.2.1.2]; exact K μ' h2) (fun E w' hp => by obtain ⟨μ', rfl, h1, h2⟩ := hp; rw [hr] at h1; cases h1)
theorem cl_X7_317 (hM : M.1 = RX7) {o : Nat} (ho : kt o = 5) {a0 : Value} {Ry : Room} {k' n' : Nat} {φ : Mem → Prop} (hC : CT g yX6_copyFrom mX6_copyFrom Ry (WM g adr μ) (.ref (adr o) :: [a0]) (PM g adr (.inl none) φ)) (hs : (Ry.frames + 1 ≤ R.frames ∧ 8 + (3 + 11) + Ry.locals ≤ R.locals) ∧ (k + Ry.cells = k' ∧ n + Ry.slots = n') ∧ k' ≤ R.cells ∧ n' ≤ R.slots) (hW : Nat.ble ((st.map fun v => v.category).sum) 8 = true) (d : decode M.2.1 pc = .ok (.invokevirtual 317, 3)) (K : ∀ μ', φ μ' → J g M R Q k' n' (WM g adr μ') (pc + 3) l st) : J g M R Q k n (WM g adr μ) pc l (a0 :: .ref (adr o) :: st) := by
  obtain ⟨r, hr⟩ : ∃ r : Option Value ⊕ String, r = .inl none := ⟨_, rfl⟩
  rw [← hr] at hC
  exact J.callV (C := RX6) (y := yX6_copyFrom) (My := mX6_copyFrom) (As := [a0]) (na := 1) (idx := 317) (P := PM g adr r φ) hC (by rw [hM]; exact t_306) t_307 t_308 t_2 t_309 ⟨rfl, by decide +kernel, by decide +kernel, by decide +kernel⟩ rfl hs.1 o (ci := 6) (q := (RX6, TX6, 6)) rfl rfl (WM_get ho (by decide)) (Nat.le_of_ble_eq_true hW) d ⟨by rw [hs.2.1.1]; exact hs.2.2.1, by rw [hs.2.1.2]; exact hs.2.2.2⟩ (fun v w' hp => by obtain ⟨μ', rfl, h1, h2⟩ := hp; rw [hr] at h1; cases h1; rw [hs.2.1.1, hs.2.1.2]; exact K μ' h2) (fun E w' hp => by obtain ⟨μ', rfl, h1, h2⟩ := hp; rw [hr] at h1; cases h1)
theorem cl_X7_322 (hM : M.1 = RX7) {o : Nat} (ho : kt o = 6) {Ry : Room} {k' n' : Nat} {φ : Mem → Prop} (hC : CT g yX2_clear mX2_clear Ry (WM g adr μ) (.ref (adr o) :: []) (PM g adr (.inl none) φ)) (hs : (Ry.frames + 1 ≤ R.frames ∧ 8 + (1 + 11) + Ry.locals ≤ R.locals) ∧ (k + Ry.cells = k' ∧ n + Ry.slots = n') ∧ k' ≤ R.cells ∧ n' ≤ R.slots) (hW : Nat.ble ((st.map fun v => v.category).sum) 8 = true) (d : decode M.2.1 pc = .ok (.invokevirtual 322, 3)) (K : ∀ μ', φ μ' → J g M R Q k' n' (WM g adr μ') (pc + 3) l st) : J g M R Q k n (WM g adr μ) pc l (.ref (adr o) :: st) := by
  obtain ⟨r, hr⟩ : ∃ r : Option Value ⊕ String, r = .inl none := ⟨_, rfl⟩
  rw [← hr] at hC
  exact J.callV (C := RX2) (y := yX2_clear) (My := mX2_clear) (As := []) (na := 0) (idx := 322) (P := PM g adr r φ) hC (by rw [hM]; exact t_966) t_967 t_968 t_6 t_969 ⟨rfl, by decide +kernel, by decide +kernel, by decide +kernel⟩ rfl hs.1 o (ci := 2) (q := (RX2, TX2, 2)) rfl rfl (WM_get ho (by decide)) (Nat.le_of_ble_eq_true hW) d ⟨by rw [hs.2.1.1]; exact hs.2.2.1, by rw [hs.2.1.2]; exact hs.2.2.2⟩ (fun v w' hp => by obtain ⟨μ', rfl, h1, h2⟩ := hp; rw [hr] at h1; cases h1; rw [hs.2.1.1, hs.2.1.2]; exact K μ' h2) (fun E w' hp => by obtain ⟨μ', rfl, h1, h2⟩ := hp; rw [hr] at h1; cases h1)
theorem cl_X7_334 (hM : M.1 = RX7) {o : Nat} (ho : kt o = 1) {a0 a1 a2 : Value} {Ry : Room} {k' n' : Nat} {φ : Mem → Prop} (hC : CT g yX3_toMove mX3_toMove Ry (WM g adr μ) (.ref (adr o) :: [a0, a1, a2]) (PM g adr (.inl none) φ)) (hs : (Ry.frames + 1 ≤ R.frames ∧ 8 + (4 + 11) + Ry.locals ≤ R.locals) ∧ (k + Ry.cells = k' ∧ n + Ry.slots = n') ∧ k' ≤ R.cells ∧ n' ≤ R.slots) (hW : Nat.ble ((st.map fun v => v.category).sum) 8 = true) (d : decode M.2.1 pc = .ok (.invokevirtual 334, 3)) (K : ∀ μ', φ μ' → J g M R Q k' n' (WM g adr μ') (pc + 3) l st) : J g M R Q k n (WM g adr μ) pc l (a2 :: a1 :: a0 :: .ref (adr o) :: st) := by
  obtain ⟨r, hr⟩ : ∃ r : Option Value ⊕ String, r = .inl none := ⟨_, rfl⟩
  rw [← hr] at hC
  exact J.callV (C := RX3) (y := yX3_toMove) (My := mX3_toMove) (As := [a0, a1, a2]) (na := 3) (idx := 334) (P := PM g adr r φ) hC (by rw [hM]; exact t_445) t_446 t_447 t_5 t_448 ⟨rfl, by decide +kernel, by decide +kernel, by decide +kernel⟩ rfl hs.1 o (ci := 3) (q := (RX3, TX3, 1)) rfl rfl (WM_get ho (by decide)) (Nat.le_of_ble_eq_true hW) d ⟨by rw [hs.2.1.1]; exact hs.2.2.1, by rw [hs.2.1.2]; exact hs.2.2.2⟩ (fun v w' hp => by obtain ⟨μ', rfl, h1, h2⟩ := hp; rw [hr] at h1; cases h1; rw [hs.2.1.1, hs.2.1.2]; exact K μ' h2) (fun E w' hp => by obtain ⟨μ', rfl, h1, h2⟩ := hp; rw [hr] at h1; cases h1)
theorem cl_X7_337 (hM : M.1 = RX7) {o : Nat} (ho : kt o = 3) {a0 a1 a2 : Value} {Ry : Room} {k' n' : Nat} {φ : Mem → Prop} (hC : CT g yX1_add mX1_add Ry (WM g adr μ) (.ref (adr o) :: [a0, a1, a2]) (PM g adr (.inl none) φ)) (hs : (Ry.frames + 1 ≤ R.frames ∧ 8 + (4 + 11) + Ry.locals ≤ R.locals) ∧ (k + Ry.cells = k' ∧ n + Ry.slots = n') ∧ k' ≤ R.cells ∧ n' ≤ R.slots) (hW : Nat.ble ((st.map fun v => v.category).sum) 8 = true) (d : decode M.2.1 pc = .ok (.invokevirtual 337, 3)) (K : ∀ μ', φ μ' → J g M R Q k' n' (WM g adr μ') (pc + 3) l st) : J g M R Q k n (WM g adr μ) pc l (a2 :: a1 :: a0 :: .ref (adr o) :: st) := by
  obtain ⟨r, hr⟩ : ∃ r : Option Value ⊕ String, r = .inl none := ⟨_, rfl⟩
  rw [← hr] at hC
  exact J.callV (C := RX1) (y := yX1_add) (My := mX1_add) (As := [a0, a1, a2]) (na := 3) (idx := 337) (P := PM g adr r φ) hC (by rw [hM]; exact t_466) t_467 t_468 t_4 t_469 ⟨rfl, by decide +kernel, by decide +kernel, by decide +kernel⟩ rfl hs.1 o (ci := 1) (q := (RX1, TX1, 2)) rfl rfl (WM_get ho (by decide)) (Nat.le_of_ble_eq_true hW) d ⟨by rw [hs.2.1.1]; exact hs.2.2.1, by rw [hs.2.1.2]; exact hs.2.2.2⟩ (fun v w' hp => by obtain ⟨μ', rfl, h1, h2⟩ := hp; rw [hr] at h1; cases h1; rw [hs.2.1.1, hs.2.1.2]; exact K μ' h2) (fun E w' hp => by obtain ⟨μ', rfl, h1, h2⟩ := hp; rw [hr] at h1; cases h1)
theorem cl_X7_340 (hM : M.1 = RX7) {o : Nat} (ho : kt o = 1) {Ry : Room} {k' n' : Nat} {x : Value} {φ : Mem → Prop} (hC : CT g yX3_movesNothing mX3_movesNothing Ry (WM g adr μ) (.ref (adr o) :: []) (PM g adr (.inl (some x)) φ)) (hs : (Ry.frames + 1 ≤ R.frames ∧ 8 + (2 + 11) + Ry.locals ≤ R.locals) ∧ (k + Ry.cells = k' ∧ n + Ry.slots = n') ∧ k' ≤ R.cells ∧ n' ≤ R.slots) (hW : Nat.ble ((st.map fun v => v.category).sum) 8 = true) (d : decode M.2.1 pc = .ok (.invokevirtual 340, 3)) (K : ∀ μ', φ μ' → J g M R Q k' n' (WM g adr μ') (pc + 3) l (x :: st)) : J g M R Q k n (WM g adr μ) pc l (.ref (adr o) :: st) := by
  obtain ⟨r, hr⟩ : ∃ r : Option Value ⊕ String, r = .inl (some x) := ⟨_, rfl⟩
  rw [← hr] at hC
  exact J.callV (C := RX3) (y := yX3_movesNothing) (My := mX3_movesNothing) (As := []) (na := 0) (idx := 340) (P := PM g adr r φ) hC (by rw [hM]; exact t_281) t_282 t_283 t_5 t_284 ⟨rfl, by decide +kernel, by decide +kernel, by decide +kernel⟩ rfl hs.1 o (ci := 3) (q := (RX3, TX3, 1)) rfl rfl (WM_get ho (by decide)) (Nat.le_of_ble_eq_true hW) d ⟨by rw [hs.2.1.1]; exact hs.2.2.1, by rw [hs.2.1.2]; exact hs.2.2.2⟩ (fun v w' hp => by obtain ⟨μ', rfl, h1, h2⟩ := hp; rw [hr] at h1; cases h1; rw [hs.2.1.1, hs.2.1.2]; exact K μ' h2) (fun E w' hp => by obtain ⟨μ', rfl, h1, h2⟩ := hp; rw [hr] at h1; cases h1)
theorem cl_X7_343 (hM : M.1 = RX7) {o : Nat} (ho : kt o = 8) {a0 : Value} {Ry : Room} {k' n' : Nat} {x : Value} {φ : Mem → Prop} (hC : CT g yX4_understand mX4_understand Ry (WM g adr μ) (.ref (adr o) :: [a0]) (PM g adr (.inl (some x)) φ)) (hs : (Ry.frames + 1 ≤ R.frames ∧ 8 + (3 + 11) + Ry.locals ≤ R.locals) ∧ (k + Ry.cells = k' ∧ n + Ry.slots = n') ∧ k' ≤ R.cells ∧ n' ≤ R.slots) (hW : Nat.ble ((st.map fun v => v.category).sum) 8 = true) (d : decode M.2.1 pc = .ok (.invokevirtual 343, 3)) (K : ∀ μ', φ μ' → J g M R Q k' n' (WM g adr μ') (pc + 3) l (x :: st)) : J g M R Q k n (WM g adr μ) pc l (a0 :: .ref (adr o) :: st) := by
  obtain ⟨r, hr⟩ : ∃ r : Option Value ⊕ String, r = .inl (some x) := ⟨_, rfl⟩
  rw [← hr] at hC
  exact J.callV (C := RX4) (y := yX4_understand) (My := mX4_understand) (As := [a0]) (na := 1) (idx := 343) (P := PM g adr r φ) hC (by rw [hM]; exact t_600) t_601 t_602 t_7 t_603 ⟨rfl, by decide +kernel, by decide +kernel, by decide +kernel⟩ rfl hs.1 o (ci := 4) (q := (RX4, TX4, 6)) rfl rfl (WM_get ho (by decide)) (Nat.le_of_ble_eq_true hW) d ⟨by rw [hs.2.1.1]; exact hs.2.2.1, by rw [hs.2.1.2]; exact hs.2.2.2⟩ (fun v w' hp => by obtain ⟨μ', rfl, h1, h2⟩ := hp; rw [hr] at h1; cases h1; rw [hs.2.1.1, hs.2.1.2]; exact K μ' h2) (fun E w' hp => by obtain ⟨μ', rfl, h1, h2⟩ := hp; rw [hr] at h1; cases h1)
theorem cl_X7_347 (hM : M.1 = RX7) {o : Nat} (ho : kt o = 8) {Ry : Room} {k' n' : Nat} {x : Value} {φ : Mem → Prop} (hC : CT g yX4_place mX4_place Ry (WM g adr μ) (.ref (adr o) :: []) (PM g adr (.inl (some x)) φ)) (hs : (Ry.frames + 1 ≤ R.frames ∧ 8 + (1 + 11) + Ry.locals ≤ R.locals) ∧ (k + Ry.cells = k' ∧ n + Ry.slots = n') ∧ k' ≤ R.cells ∧ n' ≤ R.slots) (hW : Nat.ble ((st.map fun v => v.category).sum) 8 = true) (d : decode M.2.1 pc = .ok (.invokevirtual 347, 3)) (K : ∀ μ', φ μ' → J g M R Q k' n' (WM g adr μ') (pc + 3) l (x :: st)) : J g M R Q k n (WM g adr μ) pc l (.ref (adr o) :: st) := by
  obtain ⟨r, hr⟩ : ∃ r : Option Value ⊕ String, r = .inl (some x) := ⟨_, rfl⟩
  rw [← hr] at hC
  exact J.callV (C := RX4) (y := yX4_place) (My := mX4_place) (As := []) (na := 0) (idx := 347) (P := PM g adr r φ) hC (by rw [hM]; exact t_665) t_666 t_667 t_7 t_668 ⟨rfl, by decide +kernel, by decide +kernel, by decide +kernel⟩ rfl hs.1 o (ci := 4) (q := (RX4, TX4, 6)) rfl rfl (WM_get ho (by decide)) (Nat.le_of_ble_eq_true hW) d ⟨by rw [hs.2.1.1]; exact hs.2.2.1, by rw [hs.2.1.2]; exact hs.2.2.2⟩ (fun v w' hp => by obtain ⟨μ', rfl, h1, h2⟩ := hp; rw [hr] at h1; cases h1; rw [hs.2.1.1, hs.2.1.2]; exact K μ' h2) (fun E w' hp => by obtain ⟨μ', rfl, h1, h2⟩ := hp; rw [hr] at h1; cases h1)
theorem cl_X0_27 (hM : M.1 = RX0) {a0 a1 : Value} {Ry : Room} {k' n' : Nat} {x : Value} {φ : Mem → Prop} (hC : CT g yX7_isIndex mX7_isIndex Ry (WM g adr μ) [a0, a1] (PM g adr (.inl (some x)) φ)) (hs : (Ry.frames + 1 ≤ R.frames ∧ 8 + (2 + 11) + Ry.locals ≤ R.locals) ∧ (k + Ry.cells = k' ∧ n + Ry.slots = n') ∧ k' ≤ R.cells ∧ n' ≤ R.slots) (hW : Nat.ble ((st.map fun v => v.category).sum) 8 = true) (d : decode M.2.1 pc = .ok (.invokestatic 27, 3)) (K : ∀ μ', φ μ' → J g M R Q k' n' (WM g adr μ') (pc + 3) l (x :: st)) : J g M R Q k n (WM g adr μ) pc l (a1 :: a0 :: st) := by
  obtain ⟨r, hr⟩ : ∃ r : Option Value ⊕ String, r = .inl (some x) := ⟨_, rfl⟩
  rw [← hr] at hC
  exact J.callSN (y := yX7_isIndex) (My := mX7_isIndex) (As := [a0, a1]) (na := 2) (idx := 27) (host := RX7) (P := PM g adr r φ) hC (by rw [hM]; exact t_211) t_212 t_1 t_213 ⟨by decide +kernel, by decide +kernel, by decide +kernel⟩ rfl hs.1 (Nat.le_of_ble_eq_true hW) d ⟨by rw [hs.2.1.1]; exact hs.2.2.1, by rw [hs.2.1.2]; exact hs.2.2.2⟩ (fun v w' hp => by obtain ⟨μ', rfl, h1, h2⟩ := hp; rw [hr] at h1; cases h1; rw [hs.2.1.1, hs.2.1.2]; exact K μ' h2) (fun E w' hp => by obtain ⟨μ', rfl, h1, h2⟩ := hp; rw [hr] at h1; cases h1)
theorem cx_X0_27 (hM : M.1 = RX0) {a0 a1 : Value} {Ry : Room} {k' n' : Nat} {E : String} {φ : Mem → Prop} (hC : CT g yX7_isIndex mX7_isIndex Ry (WM g adr μ) [a0, a1] (PM g adr (.inr E) φ)) (hs : (Ry.frames + 1 ≤ R.frames ∧ 8 + (2 + 11) + Ry.locals ≤ R.locals) ∧ (k + Ry.cells = k' ∧ n + Ry.slots = n') ∧ k' ≤ R.cells ∧ n' ≤ R.slots) (hW : Nat.ble ((st.map fun v => v.category).sum) 8 = true) (d : decode M.2.1 pc = .ok (.invokestatic 27, 3)) (K : ∀ μ', φ μ' → JX g M R Q k' n' (WM g adr μ') pc l st E) : J g M R Q k n (WM g adr μ) pc l (a1 :: a0 :: st) := by
  obtain ⟨r, hr⟩ : ∃ r : Option Value ⊕ String, r = .inr E := ⟨_, rfl⟩
  rw [← hr] at hC
  exact J.callSN (y := yX7_isIndex) (My := mX7_isIndex) (As := [a0, a1]) (na := 2) (idx := 27) (host := RX7) (P := PM g adr r φ) hC (by rw [hM]; exact t_211) t_212 t_1 t_213 ⟨by decide +kernel, by decide +kernel, by decide +kernel⟩ rfl hs.1 (Nat.le_of_ble_eq_true hW) d ⟨by rw [hs.2.1.1]; exact hs.2.2.1, by rw [hs.2.1.2]; exact hs.2.2.2⟩ (fun v w' hp => by obtain ⟨μ', rfl, h1, h2⟩ := hp; rw [hr] at h1; cases h1) (fun E w' hp => by obtain ⟨μ', rfl, h1, h2⟩ := hp; rw [hr] at h1; cases h1; rw [hs.2.1.1, hs.2.1.2]; exact K μ' h2)
theorem cl_X0_31 (hM : M.1 = RX0) {o : Nat} (ho : kt o = 2) {a0 : Value} {Ry : Room} {k' n' : Nat} {x : Value} {φ : Mem → Prop} (hC : CT g yX0_stickerIn mX0_stickerIn Ry (WM g adr μ) (.ref (adr o) :: [a0]) (PM g adr (.inl (some x)) φ)) (hs : (Ry.frames + 1 ≤ R.frames ∧ 8 + (2 + 11) + Ry.locals ≤ R.locals) ∧ (k + Ry.cells = k' ∧ n + Ry.slots = n') ∧ k' ≤ R.cells ∧ n' ≤ R.slots) (hW : Nat.ble ((st.map fun v => v.category).sum) 8 = true) (d : decode M.2.1 pc = .ok (.invokevirtual 31, 3)) (K : ∀ μ', φ μ' → J g M R Q k' n' (WM g adr μ') (pc + 3) l (x :: st)) : J g M R Q k n (WM g adr μ) pc l (a0 :: .ref (adr o) :: st) := by
  obtain ⟨r, hr⟩ : ∃ r : Option Value ⊕ String, r = .inl (some x) := ⟨_, rfl⟩
  rw [← hr] at hC
  exact J.callV (C := RX0) (y := yX0_stickerIn) (My := mX0_stickerIn) (As := [a0]) (na := 1) (idx := 31) (P := PM g adr r φ) hC (by rw [hM]; exact t_207) t_208 t_209 t_3 t_210 ⟨rfl, by decide +kernel, by decide +kernel, by decide +kernel⟩ rfl hs.1 o (ci := 0) (q := (RX0, TX0, 3)) rfl rfl (WM_get ho (by decide)) (Nat.le_of_ble_eq_true hW) d ⟨by rw [hs.2.1.1]; exact hs.2.2.1, by rw [hs.2.1.2]; exact hs.2.2.2⟩ (fun v w' hp => by obtain ⟨μ', rfl, h1, h2⟩ := hp; rw [hr] at h1; cases h1; rw [hs.2.1.1, hs.2.1.2]; exact K μ' h2) (fun E w' hp => by obtain ⟨μ', rfl, h1, h2⟩ := hp; rw [hr] at h1; cases h1)
theorem cl_X0_35 (hM : M.1 = RX0) {o : Nat} (ho : kt o = 2) {a0 : Value} {Ry : Room} {k' n' : Nat} {x : Value} {φ : Mem → Prop} (hC : CT g yX0_colourOf mX0_colourOf Ry (WM g adr μ) (.ref (adr o) :: [a0]) (PM g adr (.inl (some x)) φ)) (hs : (Ry.frames + 1 ≤ R.frames ∧ 8 + (2 + 11) + Ry.locals ≤ R.locals) ∧ (k + Ry.cells = k' ∧ n + Ry.slots = n') ∧ k' ≤ R.cells ∧ n' ≤ R.slots) (hW : Nat.ble ((st.map fun v => v.category).sum) 8 = true) (d : decode M.2.1 pc = .ok (.invokevirtual 35, 3)) (K : ∀ μ', φ μ' → J g M R Q k' n' (WM g adr μ') (pc + 3) l (x :: st)) : J g M R Q k n (WM g adr μ) pc l (a0 :: .ref (adr o) :: st) := by
  obtain ⟨r, hr⟩ : ∃ r : Option Value ⊕ String, r = .inl (some x) := ⟨_, rfl⟩
  rw [← hr] at hC
  exact J.callV (C := RX0) (y := yX0_colourOf) (My := mX0_colourOf) (As := [a0]) (na := 1) (idx := 35) (P := PM g adr r φ) hC (by rw [hM]; exact t_214) t_215 t_216 t_3 t_217 ⟨rfl, by decide +kernel, by decide +kernel, by decide +kernel⟩ rfl hs.1 o (ci := 0) (q := (RX0, TX0, 3)) rfl rfl (WM_get ho (by decide)) (Nat.le_of_ble_eq_true hW) d ⟨by rw [hs.2.1.1]; exact hs.2.2.1, by rw [hs.2.1.2]; exact hs.2.2.2⟩ (fun v w' hp => by obtain ⟨μ', rfl, h1, h2⟩ := hp; rw [hr] at h1; cases h1; rw [hs.2.1.1, hs.2.1.2]; exact K μ' h2) (fun E w' hp => by obtain ⟨μ', rfl, h1, h2⟩ := hp; rw [hr] at h1; cases h1)
theorem cl_X0_38 (hM : M.1 = RX0) {o : Nat} (ho : kt o = 1) {a0 : Value} {Ry : Room} {k' n' : Nat} {x : Value} {φ : Mem → Prop} (hC : CT g yX3_of mX3_of Ry (WM g adr μ) (.ref (adr o) :: [a0]) (PM g adr (.inl (some x)) φ)) (hs : (Ry.frames + 1 ≤ R.frames ∧ 8 + (2 + 11) + Ry.locals ≤ R.locals) ∧ (k + Ry.cells = k' ∧ n + Ry.slots = n') ∧ k' ≤ R.cells ∧ n' ≤ R.slots) (hW : Nat.ble ((st.map fun v => v.category).sum) 8 = true) (d : decode M.2.1 pc = .ok (.invokevirtual 38, 3)) (K : ∀ μ', φ μ' → J g M R Q k' n' (WM g adr μ') (pc + 3) l (x :: st)) : J g M R Q k n (WM g adr μ) pc l (a0 :: .ref (adr o) :: st) := by
  obtain ⟨r, hr⟩ : ∃ r : Option Value ⊕ String, r = .inl (some x) := ⟨_, rfl⟩
  rw [← hr] at hC
  exact J.callV (C := RX3) (y := yX3_of) (My := mX3_of) (As := [a0]) (na := 1) (idx := 38) (P := PM g adr r φ) hC (by rw [hM]; exact t_461) t_462 t_463 t_5 t_464 ⟨rfl, by decide +kernel, by decide +kernel, by decide +kernel⟩ rfl hs.1 o (ci := 3) (q := (RX3, TX3, 1)) rfl rfl (WM_get ho (by decide)) (Nat.le_of_ble_eq_true hW) d ⟨by rw [hs.2.1.1]; exact hs.2.2.1, by rw [hs.2.1.2]; exact hs.2.2.2⟩ (fun v w' hp => by obtain ⟨μ', rfl, h1, h2⟩ := hp; rw [hr] at h1; cases h1; rw [hs.2.1.1, hs.2.1.2]; exact K μ' h2) (fun E w' hp => by obtain ⟨μ', rfl, h1, h2⟩ := hp; rw [hr] at h1; cases h1)
theorem cl_X0_43 (hM : M.1 = RX0) {o : Nat} (ho : kt o = 2) {a0 : Value} {Ry : Room} {k' n' : Nat} {x : Value} {φ : Mem → Prop} (hC : CT g yX0_colourIn mX0_colourIn Ry (WM g adr μ) (.ref (adr o) :: [a0]) (PM g adr (.inl (some x)) φ)) (hs : (Ry.frames + 1 ≤ R.frames ∧ 8 + (2 + 11) + Ry.locals ≤ R.locals) ∧ (k + Ry.cells = k' ∧ n + Ry.slots = n') ∧ k' ≤ R.cells ∧ n' ≤ R.slots) (hW : Nat.ble ((st.map fun v => v.category).sum) 8 = true) (d : decode M.2.1 pc = .ok (.invokevirtual 43, 3)) (K : ∀ μ', φ μ' → J g M R Q k' n' (WM g adr μ') (pc + 3) l (x :: st)) : J g M R Q k n (WM g adr μ) pc l (a0 :: .ref (adr o) :: st) := by
  obtain ⟨r, hr⟩ : ∃ r : Option Value ⊕ String, r = .inl (some x) := ⟨_, rfl⟩
  rw [← hr] at hC
  exact J.callV (C := RX0) (y := yX0_colourIn) (My := mX0_colourIn) (As := [a0]) (na := 1) (idx := 43) (P := PM g adr r φ) hC (by rw [hM]; exact t_203) t_204 t_205 t_3 t_206 ⟨rfl, by decide +kernel, by decide +kernel, by decide +kernel⟩ rfl hs.1 o (ci := 0) (q := (RX0, TX0, 3)) rfl rfl (WM_get ho (by decide)) (Nat.le_of_ble_eq_true hW) d ⟨by rw [hs.2.1.1]; exact hs.2.2.1, by rw [hs.2.1.2]; exact hs.2.2.2⟩ (fun v w' hp => by obtain ⟨μ', rfl, h1, h2⟩ := hp; rw [hr] at h1; cases h1; rw [hs.2.1.1, hs.2.1.2]; exact K μ' h2) (fun E w' hp => by obtain ⟨μ', rfl, h1, h2⟩ := hp; rw [hr] at h1; cases h1)
theorem cl_X0_46 (hM : M.1 = RX0) {o : Nat} (ho : kt o = 2) {a0 : Value} {Ry : Room} {k' n' : Nat} {x : Value} {φ : Mem → Prop} (hC : CT g yX0_hasOneColour mX0_hasOneColour Ry (WM g adr μ) (.ref (adr o) :: [a0]) (PM g adr (.inl (some x)) φ)) (hs : (Ry.frames + 1 ≤ R.frames ∧ 8 + (4 + 11) + Ry.locals ≤ R.locals) ∧ (k + Ry.cells = k' ∧ n + Ry.slots = n') ∧ k' ≤ R.cells ∧ n' ≤ R.slots) (hW : Nat.ble ((st.map fun v => v.category).sum) 8 = true) (d : decode M.2.1 pc = .ok (.invokevirtual 46, 3)) (K : ∀ μ', φ μ' → J g M R Q k' n' (WM g adr μ') (pc + 3) l (x :: st)) : J g M R Q k n (WM g adr μ) pc l (a0 :: .ref (adr o) :: st) := by
  obtain ⟨r, hr⟩ : ∃ r : Option Value ⊕ String, r = .inl (some x) := ⟨_, rfl⟩
  rw [← hr] at hC
  exact J.callV (C := RX0) (y := yX0_hasOneColour) (My := mX0_hasOneColour) (As := [a0]) (na := 1) (idx := 46) (P := PM g adr r φ) hC (by rw [hM]; exact t_940) t_577 t_578 t_3 t_579 ⟨rfl, by decide +kernel, by decide +kernel, by decide +kernel⟩ rfl hs.1 o (ci := 0) (q := (RX0, TX0, 3)) rfl rfl (WM_get ho (by decide)) (Nat.le_of_ble_eq_true hW) d ⟨by rw [hs.2.1.1]; exact hs.2.2.1, by rw [hs.2.1.2]; exact hs.2.2.2⟩ (fun v w' hp => by obtain ⟨μ', rfl, h1, h2⟩ := hp; rw [hr] at h1; cases h1; rw [hs.2.1.1, hs.2.1.2]; exact K μ' h2) (fun E w' hp => by obtain ⟨μ', rfl, h1, h2⟩ := hp; rw [hr] at h1; cases h1)
theorem cl_X0_50 (hM : M.1 = RX0) {a0 a1 : Value} {Ry : Room} {k' n' : Nat} {x : Value} {φ : Mem → Prop} (hC : CT g yX7_movesBetween mX7_movesBetween Ry (WM g adr μ) [a0, a1] (PM g adr (.inl (some x)) φ)) (hs : (Ry.frames + 1 ≤ R.frames ∧ 8 + (4 + 11) + Ry.locals ≤ R.locals) ∧ (k + Ry.cells = k' ∧ n + Ry.slots = n') ∧ k' ≤ R.cells ∧ n' ≤ R.slots) (hW : Nat.ble ((st.map fun v => v.category).sum) 8 = true) (d : decode M.2.1 pc = .ok (.invokestatic 50, 3)) (K : ∀ μ', φ μ' → J g M R Q k' n' (WM g adr μ') (pc + 3) l (x :: st)) : J g M R Q k n (WM g adr μ) pc l (a1 :: a0 :: st) := by
  obtain ⟨r, hr⟩ : ∃ r : Option Value ⊕ String, r = .inl (some x) := ⟨_, rfl⟩
  rw [← hr] at hC
  exact J.callSN (y := yX7_movesBetween) (My := mX7_movesBetween) (As := [a0, a1]) (na := 2) (idx := 50) (host := RX7) (P := PM g adr r φ) hC (by rw [hM]; exact t_293) t_294 t_1 t_295 ⟨by decide +kernel, by decide +kernel, by decide +kernel⟩ rfl hs.1 (Nat.le_of_ble_eq_true hW) d ⟨by rw [hs.2.1.1]; exact hs.2.2.1, by rw [hs.2.1.2]; exact hs.2.2.2⟩ (fun v w' hp => by obtain ⟨μ', rfl, h1, h2⟩ := hp; rw [hr] at h1; cases h1; rw [hs.2.1.1, hs.2.1.2]; exact K μ' h2) (fun E w' hp => by obtain ⟨μ', rfl, h1, h2⟩ := hp; rw [hr] at h1; cases h1)
theorem cx_X0_50 (hM : M.1 = RX0) {a0 a1 : Value} {Ry : Room} {k' n' : Nat} {E : String} {φ : Mem → Prop} (hC : CT g yX7_movesBetween mX7_movesBetween Ry (WM g adr μ) [a0, a1] (PM g adr (.inr E) φ)) (hs : (Ry.frames + 1 ≤ R.frames ∧ 8 + (4 + 11) + Ry.locals ≤ R.locals) ∧ (k + Ry.cells = k' ∧ n + Ry.slots = n') ∧ k' ≤ R.cells ∧ n' ≤ R.slots) (hW : Nat.ble ((st.map fun v => v.category).sum) 8 = true) (d : decode M.2.1 pc = .ok (.invokestatic 50, 3)) (K : ∀ μ', φ μ' → JX g M R Q k' n' (WM g adr μ') pc l st E) : J g M R Q k n (WM g adr μ) pc l (a1 :: a0 :: st) := by
  obtain ⟨r, hr⟩ : ∃ r : Option Value ⊕ String, r = .inr E := ⟨_, rfl⟩
  rw [← hr] at hC
  exact J.callSN (y := yX7_movesBetween) (My := mX7_movesBetween) (As := [a0, a1]) (na := 2) (idx := 50) (host := RX7) (P := PM g adr r φ) hC (by rw [hM]; exact t_293) t_294 t_1 t_295 ⟨by decide +kernel, by decide +kernel, by decide +kernel⟩ rfl hs.1 (Nat.le_of_ble_eq_true hW) d ⟨by rw [hs.2.1.1]; exact hs.2.2.1, by rw [hs.2.1.2]; exact hs.2.2.2⟩ (fun v w' hp => by obtain ⟨μ', rfl, h1, h2⟩ := hp; rw [hr] at h1; cases h1) (fun E w' hp => by obtain ⟨μ', rfl, h1, h2⟩ := hp; rw [hr] at h1; cases h1; rw [hs.2.1.1, hs.2.1.2]; exact K μ' h2)
theorem cl_X1_25 (hM : M.1 = RX1) {a0 a1 : Value} {Ry : Room} {k' n' : Nat} {x : Value} {φ : Mem → Prop} (hC : CT g yX7_isIndex mX7_isIndex Ry (WM g adr μ) [a0, a1] (PM g adr (.inl (some x)) φ)) (hs : (Ry.frames + 1 ≤ R.frames ∧ 8 + (2 + 11) + Ry.locals ≤ R.locals) ∧ (k + Ry.cells = k' ∧ n + Ry.slots = n') ∧ k' ≤ R.cells ∧ n' ≤ R.slots) (hW : Nat.ble ((st.map fun v => v.category).sum) 8 = true) (d : decode M.2.1 pc = .ok (.invokestatic 25, 3)) (K : ∀ μ', φ μ' → J g M R Q k' n' (WM g adr μ') (pc + 3) l (x :: st)) : J g M R Q k n (WM g adr μ) pc l (a1 :: a0 :: st) := by
  obtain ⟨r, hr⟩ : ∃ r : Option Value ⊕ String, r = .inl (some x) := ⟨_, rfl⟩
  rw [← hr] at hC
  exact J.callSN (y := yX7_isIndex) (My := mX7_isIndex) (As := [a0, a1]) (na := 2) (idx := 25) (host := RX7) (P := PM g adr r φ) hC (by rw [hM]; exact t_234) t_212 t_1 t_213 ⟨by decide +kernel, by decide +kernel, by decide +kernel⟩ rfl hs.1 (Nat.le_of_ble_eq_true hW) d ⟨by rw [hs.2.1.1]; exact hs.2.2.1, by rw [hs.2.1.2]; exact hs.2.2.2⟩ (fun v w' hp => by obtain ⟨μ', rfl, h1, h2⟩ := hp; rw [hr] at h1; cases h1; rw [hs.2.1.1, hs.2.1.2]; exact K μ' h2) (fun E w' hp => by obtain ⟨μ', rfl, h1, h2⟩ := hp; rw [hr] at h1; cases h1)
theorem cx_X1_25 (hM : M.1 = RX1) {a0 a1 : Value} {Ry : Room} {k' n' : Nat} {E : String} {φ : Mem → Prop} (hC : CT g yX7_isIndex mX7_isIndex Ry (WM g adr μ) [a0, a1] (PM g adr (.inr E) φ)) (hs : (Ry.frames + 1 ≤ R.frames ∧ 8 + (2 + 11) + Ry.locals ≤ R.locals) ∧ (k + Ry.cells = k' ∧ n + Ry.slots = n') ∧ k' ≤ R.cells ∧ n' ≤ R.slots) (hW : Nat.ble ((st.map fun v => v.category).sum) 8 = true) (d : decode M.2.1 pc = .ok (.invokestatic 25, 3)) (K : ∀ μ', φ μ' → JX g M R Q k' n' (WM g adr μ') pc l st E) : J g M R Q k n (WM g adr μ) pc l (a1 :: a0 :: st) := by
  obtain ⟨r, hr⟩ : ∃ r : Option Value ⊕ String, r = .inr E := ⟨_, rfl⟩
  rw [← hr] at hC
  exact J.callSN (y := yX7_isIndex) (My := mX7_isIndex) (As := [a0, a1]) (na := 2) (idx := 25) (host := RX7) (P := PM g adr r φ) hC (by rw [hM]; exact t_234) t_212 t_1 t_213 ⟨by decide +kernel, by decide +kernel, by decide +kernel⟩ rfl hs.1 (Nat.le_of_ble_eq_true hW) d ⟨by rw [hs.2.1.1]; exact hs.2.2.1, by rw [hs.2.1.2]; exact hs.2.2.2⟩ (fun v w' hp => by obtain ⟨μ', rfl, h1, h2⟩ := hp; rw [hr] at h1; cases h1) (fun E w' hp => by obtain ⟨μ', rfl, h1, h2⟩ := hp; rw [hr] at h1; cases h1; rw [hs.2.1.1, hs.2.1.2]; exact K μ' h2)
theorem cl_X2_22 (hM : M.1 = RX2) {o : Nat} (ho : kt o = 5) {a0 : Value} {Ry : Room} {k' n' : Nat} {φ : Mem → Prop} (hC : CT g yX6_copyFrom mX6_copyFrom Ry (WM g adr μ) (.ref (adr o) :: [a0]) (PM g adr (.inl none) φ)) (hs : (Ry.frames + 1 ≤ R.frames ∧ 8 + (3 + 11) + Ry.locals ≤ R.locals) ∧ (k + Ry.cells = k' ∧ n + Ry.slots = n') ∧ k' ≤ R.cells ∧ n' ≤ R.slots) (hW : Nat.ble ((st.map fun v => v.category).sum) 8 = true) (d : decode M.2.1 pc = .ok (.invokevirtual 22, 3)) (K : ∀ μ', φ μ' → J g M R Q k' n' (WM g adr μ') (pc + 3) l st) : J g M R Q k n (WM g adr μ) pc l (a0 :: .ref (adr o) :: st) := by
  obtain ⟨r, hr⟩ : ∃ r : Option Value ⊕ String, r = .inl none := ⟨_, rfl⟩
  rw [← hr] at hC
  exact J.callV (C := RX6) (y := yX6_copyFrom) (My := mX6_copyFrom) (As := [a0]) (na := 1) (idx := 22) (P := PM g adr r φ) hC (by rw [hM]; exact t_436) t_307 t_308 t_2 t_309 ⟨rfl, by decide +kernel, by decide +kernel, by decide +kernel⟩ rfl hs.1 o (ci := 6) (q := (RX6, TX6, 6)) rfl rfl (WM_get ho (by decide)) (Nat.le_of_ble_eq_true hW) d ⟨by rw [hs.2.1.1]; exact hs.2.2.1, by rw [hs.2.1.2]; exact hs.2.2.2⟩ (fun v w' hp => by obtain ⟨μ', rfl, h1, h2⟩ := hp; rw [hr] at h1; cases h1; rw [hs.2.1.1, hs.2.1.2]; exact K μ' h2) (fun E w' hp => by obtain ⟨μ', rfl, h1, h2⟩ := hp; rw [hr] at h1; cases h1)
theorem cl_X3_15 (hM : M.1 = RX3) {a0 a1 : Value} {Ry : Room} {k' n' : Nat} {x : Value} {φ : Mem → Prop} (hC : CT g yX7_isIndex mX7_isIndex Ry (WM g adr μ) [a0, a1] (PM g adr (.inl (some x)) φ)) (hs : (Ry.frames + 1 ≤ R.frames ∧ 8 + (2 + 11) + Ry.locals ≤ R.locals) ∧ (k + Ry.cells = k' ∧ n + Ry.slots = n') ∧ k' ≤ R.cells ∧ n' ≤ R.slots) (hW : Nat.ble ((st.map fun v => v.category).sum) 8 = true) (d : decode M.2.1 pc = .ok (.invokestatic 15, 3)) (K : ∀ μ', φ μ' → J g M R Q k' n' (WM g adr μ') (pc + 3) l (x :: st)) : J g M R Q k n (WM g adr μ) pc l (a1 :: a0 :: st) := by
  obtain ⟨r, hr⟩ : ∃ r : Option Value ⊕ String, r = .inl (some x) := ⟨_, rfl⟩
  rw [← hr] at hC
  exact J.callSN (y := yX7_isIndex) (My := mX7_isIndex) (As := [a0, a1]) (na := 2) (idx := 15) (host := RX7) (P := PM g adr r φ) hC (by rw [hM]; exact t_465) t_212 t_1 t_213 ⟨by decide +kernel, by decide +kernel, by decide +kernel⟩ rfl hs.1 (Nat.le_of_ble_eq_true hW) d ⟨by rw [hs.2.1.1]; exact hs.2.2.1, by rw [hs.2.1.2]; exact hs.2.2.2⟩ (fun v w' hp => by obtain ⟨μ', rfl, h1, h2⟩ := hp; rw [hr] at h1; cases h1; rw [hs.2.1.1, hs.2.1.2]; exact K μ' h2) (fun E w' hp => by obtain ⟨μ', rfl, h1, h2⟩ := hp; rw [hr] at h1; cases h1)
theorem cx_X3_15 (hM : M.1 = RX3) {a0 a1 : Value} {Ry : Room} {k' n' : Nat} {E : String} {φ : Mem → Prop} (hC : CT g yX7_isIndex mX7_isIndex Ry (WM g adr μ) [a0, a1] (PM g adr (.inr E) φ)) (hs : (Ry.frames + 1 ≤ R.frames ∧ 8 + (2 + 11) + Ry.locals ≤ R.locals) ∧ (k + Ry.cells = k' ∧ n + Ry.slots = n') ∧ k' ≤ R.cells ∧ n' ≤ R.slots) (hW : Nat.ble ((st.map fun v => v.category).sum) 8 = true) (d : decode M.2.1 pc = .ok (.invokestatic 15, 3)) (K : ∀ μ', φ μ' → JX g M R Q k' n' (WM g adr μ') pc l st E) : J g M R Q k n (WM g adr μ) pc l (a1 :: a0 :: st) := by
  obtain ⟨r, hr⟩ : ∃ r : Option Value ⊕ String, r = .inr E := ⟨_, rfl⟩
  rw [← hr] at hC
  exact J.callSN (y := yX7_isIndex) (My := mX7_isIndex) (As := [a0, a1]) (na := 2) (idx := 15) (host := RX7) (P := PM g adr r φ) hC (by rw [hM]; exact t_465) t_212 t_1 t_213 ⟨by decide +kernel, by decide +kernel, by decide +kernel⟩ rfl hs.1 (Nat.le_of_ble_eq_true hW) d ⟨by rw [hs.2.1.1]; exact hs.2.2.1, by rw [hs.2.1.2]; exact hs.2.2.2⟩ (fun v w' hp => by obtain ⟨μ', rfl, h1, h2⟩ := hp; rw [hr] at h1; cases h1) (fun E w' hp => by obtain ⟨μ', rfl, h1, h2⟩ := hp; rw [hr] at h1; cases h1; rw [hs.2.1.1, hs.2.1.2]; exact K μ' h2)
theorem cl_X3_19 (hM : M.1 = RX3) {o : Nat} (ho : kt o = 1) {a0 a1 : Value} {Ry : Room} {k' n' : Nat} {φ : Mem → Prop} (hC : CT g yX3_toTurn mX3_toTurn Ry (WM g adr μ) (.ref (adr o) :: [a0, a1]) (PM g adr (.inl none) φ)) (hs : (Ry.frames + 1 ≤ R.frames ∧ 8 + (5 + 11) + Ry.locals ≤ R.locals) ∧ (k + Ry.cells = k' ∧ n + Ry.slots = n') ∧ k' ≤ R.cells ∧ n' ≤ R.slots) (hW : Nat.ble ((st.map fun v => v.category).sum) 8 = true) (d : decode M.2.1 pc = .ok (.invokevirtual 19, 3)) (K : ∀ μ', φ μ' → J g M R Q k' n' (WM g adr μ') (pc + 3) l st) : J g M R Q k n (WM g adr μ) pc l (a1 :: a0 :: .ref (adr o) :: st) := by
  obtain ⟨r, hr⟩ : ∃ r : Option Value ⊕ String, r = .inl none := ⟨_, rfl⟩
  rw [← hr] at hC
  exact J.callV (C := RX3) (y := yX3_toTurn) (My := mX3_toTurn) (As := [a0, a1]) (na := 2) (idx := 19) (P := PM g adr r φ) hC (by rw [hM]; exact t_449) t_451 s_4 t_5 t_452 ⟨rfl, by decide +kernel, by decide +kernel, by decide +kernel⟩ rfl hs.1 o (ci := 3) (q := (RX3, TX3, 1)) rfl rfl (WM_get ho (by decide)) (Nat.le_of_ble_eq_true hW) d ⟨by rw [hs.2.1.1]; exact hs.2.2.1, by rw [hs.2.1.2]; exact hs.2.2.2⟩ (fun v w' hp => by obtain ⟨μ', rfl, h1, h2⟩ := hp; rw [hr] at h1; cases h1; rw [hs.2.1.1, hs.2.1.2]; exact K μ' h2) (fun E w' hp => by obtain ⟨μ', rfl, h1, h2⟩ := hp; rw [hr] at h1; cases h1)
theorem cl_X3_23 (hM : M.1 = RX3) {o : Nat} (ho : kt o = 1) {a0 a1 : Value} {Ry : Room} {k' n' : Nat} {φ : Mem → Prop} (hC : CT g yX3_toShift mX3_toShift Ry (WM g adr μ) (.ref (adr o) :: [a0, a1]) (PM g adr (.inl none) φ)) (hs : (Ry.frames + 1 ≤ R.frames ∧ 8 + (5 + 11) + Ry.locals ≤ R.locals) ∧ (k + Ry.cells = k' ∧ n + Ry.slots = n') ∧ k' ≤ R.cells ∧ n' ≤ R.slots) (hW : Nat.ble ((st.map fun v => v.category).sum) 8 = true) (d : decode M.2.1 pc = .ok (.invokevirtual 23, 3)) (K : ∀ μ', φ μ' → J g M R Q k' n' (WM g adr μ') (pc + 3) l st) : J g M R Q k n (WM g adr μ) pc l (a1 :: a0 :: .ref (adr o) :: st) := by
  obtain ⟨r, hr⟩ : ∃ r : Option Value ⊕ String, r = .inl none := ⟨_, rfl⟩
  rw [← hr] at hC
  exact J.callV (C := RX3) (y := yX3_toShift) (My := mX3_toShift) (As := [a0, a1]) (na := 2) (idx := 23) (P := PM g adr r φ) hC (by rw [hM]; exact t_453) t_455 s_5 t_5 t_456 ⟨rfl, by decide +kernel, by decide +kernel, by decide +kernel⟩ rfl hs.1 o (ci := 3) (q := (RX3, TX3, 1)) rfl rfl (WM_get ho (by decide)) (Nat.le_of_ble_eq_true hW) d ⟨by rw [hs.2.1.1]; exact hs.2.2.1, by rw [hs.2.1.2]; exact hs.2.2.2⟩ (fun v w' hp => by obtain ⟨μ', rfl, h1, h2⟩ := hp; rw [hr] at h1; cases h1; rw [hs.2.1.1, hs.2.1.2]; exact K μ' h2) (fun E w' hp => by obtain ⟨μ', rfl, h1, h2⟩ := hp; rw [hr] at h1; cases h1)
theorem cl_X3_26 (hM : M.1 = RX3) {o : Nat} (ho : kt o = 1) {Ry : Room} {k' n' : Nat} {φ : Mem → Prop} (hC : CT g yX3_toNothing mX3_toNothing Ry (WM g adr μ) (.ref (adr o) :: []) (PM g adr (.inl none) φ)) (hs : (Ry.frames + 1 ≤ R.frames ∧ 8 + (2 + 11) + Ry.locals ≤ R.locals) ∧ (k + Ry.cells = k' ∧ n + Ry.slots = n') ∧ k' ≤ R.cells ∧ n' ≤ R.slots) (hW : Nat.ble ((st.map fun v => v.category).sum) 8 = true) (d : decode M.2.1 pc = .ok (.invokevirtual 26, 3)) (K : ∀ μ', φ μ' → J g M R Q k' n' (WM g adr μ') (pc + 3) l st) : J g M R Q k n (WM g adr μ) pc l (.ref (adr o) :: st) := by
  obtain ⟨r, hr⟩ : ∃ r : Option Value ⊕ String, r = .inl none := ⟨_, rfl⟩
  rw [← hr] at hC
  exact J.callV (C := RX3) (y := yX3_toNothing) (My := mX3_toNothing) (As := []) (na := 0) (idx := 26) (P := PM g adr r φ) hC (by rw [hM]; exact t_650) t_610 t_611 t_5 t_612 ⟨rfl, by decide +kernel, by decide +kernel, by decide +kernel⟩ rfl hs.1 o (ci := 3) (q := (RX3, TX3, 1)) rfl rfl (WM_get ho (by decide)) (Nat.le_of_ble_eq_true hW) d ⟨by rw [hs.2.1.1]; exact hs.2.2.1, by rw [hs.2.1.2]; exact hs.2.2.2⟩ (fun v w' hp => by obtain ⟨μ', rfl, h1, h2⟩ := hp; rw [hr] at h1; cases h1; rw [hs.2.1.1, hs.2.1.2]; exact K μ' h2) (fun E w' hp => by obtain ⟨μ', rfl, h1, h2⟩ := hp; rw [hr] at h1; cases h1)
theorem cl_X3_29 (hM : M.1 = RX3) {o : Nat} (ho : kt o = 1) {a0 : Value} {Ry : Room} {k' n' : Nat} {φ : Mem → Prop} (hC : CT g yX3_then mX3_then Ry (WM g adr μ) (.ref (adr o) :: [a0]) (PM g adr (.inl none) φ)) (hs : (Ry.frames + 1 ≤ R.frames ∧ 8 + (4 + 11) + Ry.locals ≤ R.locals) ∧ (k + Ry.cells = k' ∧ n + Ry.slots = n') ∧ k' ≤ R.cells ∧ n' ≤ R.slots) (hW : Nat.ble ((st.map fun v => v.category).sum) 8 = true) (d : decode M.2.1 pc = .ok (.invokevirtual 29, 3)) (K : ∀ μ', φ μ' → J g M R Q k' n' (WM g adr μ') (pc + 3) l st) : J g M R Q k n (WM g adr μ) pc l (a0 :: .ref (adr o) :: st) := by
  obtain ⟨r, hr⟩ : ∃ r : Option Value ⊕ String, r = .inl none := ⟨_, rfl⟩
  rw [← hr] at hC
  exact J.callV (C := RX3) (y := yX3_then) (My := mX3_then) (As := [a0]) (na := 1) (idx := 29) (P := PM g adr r φ) hC (by rw [hM]; exact t_651) t_278 t_279 t_5 t_280 ⟨rfl, by decide +kernel, by decide +kernel, by decide +kernel⟩ rfl hs.1 o (ci := 3) (q := (RX3, TX3, 1)) rfl rfl (WM_get ho (by decide)) (Nat.le_of_ble_eq_true hW) d ⟨by rw [hs.2.1.1]; exact hs.2.2.1, by rw [hs.2.1.2]; exact hs.2.2.2⟩ (fun v w' hp => by obtain ⟨μ', rfl, h1, h2⟩ := hp; rw [hr] at h1; cases h1; rw [hs.2.1.1, hs.2.1.2]; exact K μ' h2) (fun E w' hp => by obtain ⟨μ', rfl, h1, h2⟩ := hp; rw [hr] at h1; cases h1)
theorem cl_X3_33 (hM : M.1 = RX3) {o : Nat} (ho : kt o = 1) {a0 : Value} {Ry : Room} {k' n' : Nat} {φ : Mem → Prop} (hC : CT g yX3_toCopy mX3_toCopy Ry (WM g adr μ) (.ref (adr o) :: [a0]) (PM g adr (.inl none) φ)) (hs : (Ry.frames + 1 ≤ R.frames ∧ 8 + (3 + 11) + Ry.locals ≤ R.locals) ∧ (k + Ry.cells = k' ∧ n + Ry.slots = n') ∧ k' ≤ R.cells ∧ n' ≤ R.slots) (hW : Nat.ble ((st.map fun v => v.category).sum) 8 = true) (d : decode M.2.1 pc = .ok (.invokevirtual 33, 3)) (K : ∀ μ', φ μ' → J g M R Q k' n' (WM g adr μ') (pc + 3) l st) : J g M R Q k n (WM g adr μ) pc l (a0 :: .ref (adr o) :: st) := by
  obtain ⟨r, hr⟩ : ∃ r : Option Value ⊕ String, r = .inl none := ⟨_, rfl⟩
  rw [← hr] at hC
  exact J.callV (C := RX3) (y := yX3_toCopy) (My := mX3_toCopy) (As := [a0]) (na := 1) (idx := 33) (P := PM g adr r φ) hC (by rw [hM]; exact t_660) t_270 t_271 t_5 t_272 ⟨rfl, by decide +kernel, by decide +kernel, by decide +kernel⟩ rfl hs.1 o (ci := 3) (q := (RX3, TX3, 1)) rfl rfl (WM_get ho (by decide)) (Nat.le_of_ble_eq_true hW) d ⟨by rw [hs.2.1.1]; exact hs.2.2.1, by rw [hs.2.1.2]; exact hs.2.2.2⟩ (fun v w' hp => by obtain ⟨μ', rfl, h1, h2⟩ := hp; rw [hr] at h1; cases h1; rw [hs.2.1.1, hs.2.1.2]; exact K μ' h2) (fun E w' hp => by obtain ⟨μ', rfl, h1, h2⟩ := hp; rw [hr] at h1; cases h1)
theorem cl_X3_36 (hM : M.1 = RX3) {o : Nat} (ho : kt o = 1) {a0 : Value} {Ry : Room} {k' n' : Nat} {φ : Mem → Prop} (hC : CT g yX3_toInverse mX3_toInverse Ry (WM g adr μ) (.ref (adr o) :: [a0]) (PM g adr (.inl none) φ)) (hs : (Ry.frames + 1 ≤ R.frames ∧ 8 + (4 + 11) + Ry.locals ≤ R.locals) ∧ (k + Ry.cells = k' ∧ n + Ry.slots = n') ∧ k' ≤ R.cells ∧ n' ≤ R.slots) (hW : Nat.ble ((st.map fun v => v.category).sum) 8 = true) (d : decode M.2.1 pc = .ok (.invokevirtual 36, 3)) (K : ∀ μ', φ μ' → J g M R Q k' n' (WM g adr μ') (pc + 3) l st) : J g M R Q k n (WM g adr μ) pc l (a0 :: .ref (adr o) :: st) := by
  obtain ⟨r, hr⟩ : ∃ r : Option Value ⊕ String, r = .inl none := ⟨_, rfl⟩
  rw [← hr] at hC
  exact J.callV (C := RX3) (y := yX3_toInverse) (My := mX3_toInverse) (As := [a0]) (na := 1) (idx := 36) (P := PM g adr r φ) hC (by rw [hM]; exact t_661) t_274 t_275 t_5 t_276 ⟨rfl, by decide +kernel, by decide +kernel, by decide +kernel⟩ rfl hs.1 o (ci := 3) (q := (RX3, TX3, 1)) rfl rfl (WM_get ho (by decide)) (Nat.le_of_ble_eq_true hW) d ⟨by rw [hs.2.1.1]; exact hs.2.2.1, by rw [hs.2.1.2]; exact hs.2.2.2⟩ (fun v w' hp => by obtain ⟨μ', rfl, h1, h2⟩ := hp; rw [hr] at h1; cases h1; rw [hs.2.1.1, hs.2.1.2]; exact K μ' h2) (fun E w' hp => by obtain ⟨μ', rfl, h1, h2⟩ := hp; rw [hr] at h1; cases h1)
theorem cl_X3_39 (hM : M.1 = RX3) {o : Nat} (ho : kt o = 1) {a0 : Value} {Ry : Room} {k' n' : Nat} {x : Value} {φ : Mem → Prop} (hC : CT g yX3_of mX3_of Ry (WM g adr μ) (.ref (adr o) :: [a0]) (PM g adr (.inl (some x)) φ)) (hs : (Ry.frames + 1 ≤ R.frames ∧ 8 + (2 + 11) + Ry.locals ≤ R.locals) ∧ (k + Ry.cells = k' ∧ n + Ry.slots = n') ∧ k' ≤ R.cells ∧ n' ≤ R.slots) (hW : Nat.ble ((st.map fun v => v.category).sum) 8 = true) (d : decode M.2.1 pc = .ok (.invokevirtual 39, 3)) (K : ∀ μ', φ μ' → J g M R Q k' n' (WM g adr μ') (pc + 3) l (x :: st)) : J g M R Q k n (WM g adr μ) pc l (a0 :: .ref (adr o) :: st) := by
  obtain ⟨r, hr⟩ : ∃ r : Option Value ⊕ String, r = .inl (some x) := ⟨_, rfl⟩
  rw [← hr] at hC
  exact J.callV (C := RX3) (y := yX3_of) (My := mX3_of) (As := [a0]) (na := 1) (idx := 39) (P := PM g adr r φ) hC (by rw [hM]; exact t_786) t_462 t_463 t_5 t_464 ⟨rfl, by decide +kernel, by decide +kernel, by decide +kernel⟩ rfl hs.1 o (ci := 3) (q := (RX3, TX3, 1)) rfl rfl (WM_get ho (by decide)) (Nat.le_of_ble_eq_true hW) d ⟨by rw [hs.2.1.1]; exact hs.2.2.1, by rw [hs.2.1.2]; exact hs.2.2.2⟩ (fun v w' hp => by obtain ⟨μ', rfl, h1, h2⟩ := hp; rw [hr] at h1; cases h1; rw [hs.2.1.1, hs.2.1.2]; exact K μ' h2) (fun E w' hp => by obtain ⟨μ', rfl, h1, h2⟩ := hp; rw [hr] at h1; cases h1)
theorem cl_X3_43 (hM : M.1 = RX3) {o : Nat} (ho : kt o = 1) {a0 : Value} {Ry : Room} {k' n' : Nat} {x : Value} {φ : Mem → Prop} (hC : CT g yX3_isLowestOfCycle mX3_isLowestOfCycle Ry (WM g adr μ) (.ref (adr o) :: [a0]) (PM g adr (.inl (some x)) φ)) (hs : (Ry.frames + 1 ≤ R.frames ∧ 8 + (4 + 11) + Ry.locals ≤ R.locals) ∧ (k + Ry.cells = k' ∧ n + Ry.slots = n') ∧ k' ≤ R.cells ∧ n' ≤ R.slots) (hW : Nat.ble ((st.map fun v => v.category).sum) 8 = true) (d : decode M.2.1 pc = .ok (.invokevirtual 43, 3)) (K : ∀ μ', φ μ' → J g M R Q k' n' (WM g adr μ') (pc + 3) l (x :: st)) : J g M R Q k n (WM g adr μ) pc l (a0 :: .ref (adr o) :: st) := by
  obtain ⟨r, hr⟩ : ∃ r : Option Value ⊕ String, r = .inl (some x) := ⟨_, rfl⟩
  rw [← hr] at hC
  exact J.callV (C := RX3) (y := yX3_isLowestOfCycle) (My := mX3_isLowestOfCycle) (As := [a0]) (na := 1) (idx := 43) (P := PM g adr r φ) hC (by rw [hM]; exact t_782) t_783 t_784 t_5 t_785 ⟨rfl, by decide +kernel, by decide +kernel, by decide +kernel⟩ rfl hs.1 o (ci := 3) (q := (RX3, TX3, 1)) rfl rfl (WM_get ho (by decide)) (Nat.le_of_ble_eq_true hW) d ⟨by rw [hs.2.1.1]; exact hs.2.2.1, by rw [hs.2.1.2]; exact hs.2.2.2⟩ (fun v w' hp => by obtain ⟨μ', rfl, h1, h2⟩ := hp; rw [hr] at h1; cases h1; rw [hs.2.1.1, hs.2.1.2]; exact K μ' h2) (fun E w' hp => by obtain ⟨μ', rfl, h1, h2⟩ := hp; rw [hr] at h1; cases h1)
theorem cl_X3_47 (hM : M.1 = RX3) {o : Nat} (ho : kt o = 1) {a0 : Value} {Ry : Room} {k' n' : Nat} {x : Value} {φ : Mem → Prop} (hC : CT g yX3_cycleLength mX3_cycleLength Ry (WM g adr μ) (.ref (adr o) :: [a0]) (PM g adr (.inl (some x)) φ)) (hs : (Ry.frames + 1 ≤ R.frames ∧ 8 + (4 + 11) + Ry.locals ≤ R.locals) ∧ (k + Ry.cells = k' ∧ n + Ry.slots = n') ∧ k' ≤ R.cells ∧ n' ≤ R.slots) (hW : Nat.ble ((st.map fun v => v.category).sum) 8 = true) (d : decode M.2.1 pc = .ok (.invokevirtual 47, 3)) (K : ∀ μ', φ μ' → J g M R Q k' n' (WM g adr μ') (pc + 3) l (x :: st)) : J g M R Q k n (WM g adr μ) pc l (a0 :: .ref (adr o) :: st) := by
  obtain ⟨r, hr⟩ : ∃ r : Option Value ⊕ String, r = .inl (some x) := ⟨_, rfl⟩
  rw [← hr] at hC
  exact J.callV (C := RX3) (y := yX3_cycleLength) (My := mX3_cycleLength) (As := [a0]) (na := 1) (idx := 47) (P := PM g adr r φ) hC (by rw [hM]; exact t_787) t_788 t_789 t_5 t_790 ⟨rfl, by decide +kernel, by decide +kernel, by decide +kernel⟩ rfl hs.1 o (ci := 3) (q := (RX3, TX3, 1)) rfl rfl (WM_get ho (by decide)) (Nat.le_of_ble_eq_true hW) d ⟨by rw [hs.2.1.1]; exact hs.2.2.1, by rw [hs.2.1.2]; exact hs.2.2.2⟩ (fun v w' hp => by obtain ⟨μ', rfl, h1, h2⟩ := hp; rw [hr] at h1; cases h1; rw [hs.2.1.1, hs.2.1.2]; exact K μ' h2) (fun E w' hp => by obtain ⟨μ', rfl, h1, h2⟩ := hp; rw [hr] at h1; cases h1)
theorem cl_X3_56 (hM : M.1 = RX3) {a0 a1 : Value} {Ry : Room} {k' n' : Nat} {x : Value} {φ : Mem → Prop} (hC : CT g yX3_leastCommonMultiple mX3_leastCommonMultiple Ry (WM g adr μ) [a0, a1] (PM g adr (.inl (some x)) φ)) (hs : (Ry.frames + 1 ≤ R.frames ∧ 8 + (6 + 11) + Ry.locals ≤ R.locals) ∧ (k + Ry.cells = k' ∧ n + Ry.slots = n') ∧ k' ≤ R.cells ∧ n' ≤ R.slots) (hW : Nat.ble ((st.map fun v => v.category).sum) 8 = true) (d : decode M.2.1 pc = .ok (.invokestatic 56, 3)) (K : ∀ μ', φ μ' → J g M R Q k' n' (WM g adr μ') (pc + 3) l (x :: st)) : J g M R Q k n (WM g adr μ) pc l (a1 :: a0 :: st) := by
  obtain ⟨r, hr⟩ : ∃ r : Option Value ⊕ String, r = .inl (some x) := ⟨_, rfl⟩
  rw [← hr] at hC
  exact J.callS (y := yX3_leastCommonMultiple) (My := mX3_leastCommonMultiple) (As := [a0, a1]) (na := 2) (idx := 56) (P := PM g adr r φ) hC (by rw [hM]; exact t_802) t_803 (by rw [hM]; exact t_5) t_804 ⟨(by rw [hM]; rfl), by decide +kernel, by decide +kernel, by decide +kernel⟩ rfl hs.1 (Nat.le_of_ble_eq_true hW) d ⟨by rw [hs.2.1.1]; exact hs.2.2.1, by rw [hs.2.1.2]; exact hs.2.2.2⟩ (fun v w' hp => by obtain ⟨μ', rfl, h1, h2⟩ := hp; rw [hr] at h1; cases h1; rw [hs.2.1.1, hs.2.1.2]; exact K μ' h2) (fun E w' hp => by obtain ⟨μ', rfl, h1, h2⟩ := hp; rw [hr] at h1; cases h1)
theorem cl_X3_60 (hM : M.1 = RX3) {o : Nat} (ho : kt o = 1) {Ry : Room} {k' n' : Nat} {x : Value} {φ : Mem → Prop} (hC : CT g yX3_movesNothing mX3_movesNothing Ry (WM g adr μ) (.ref (adr o) :: []) (PM g adr (.inl (some x)) φ)) (hs : (Ry.frames + 1 ≤ R.frames ∧ 8 + (2 + 11) + Ry.locals ≤ R.locals) ∧ (k + Ry.cells = k' ∧ n + Ry.slots = n') ∧ k' ≤ R.cells ∧ n' ≤ R.slots) (hW : Nat.ble ((st.map fun v => v.category).sum) 8 = true) (d : decode M.2.1 pc = .ok (.invokevirtual 60, 3)) (K : ∀ μ', φ μ' → J g M R Q k' n' (WM g adr μ') (pc + 3) l (x :: st)) : J g M R Q k n (WM g adr μ) pc l (.ref (adr o) :: st) := by
  obtain ⟨r, hr⟩ : ∃ r : Option Value ⊕ String, r = .inl (some x) := ⟨_, rfl⟩
  rw [← hr] at hC
  exact J.callV (C := RX3) (y := yX3_movesNothing) (My := mX3_movesNothing) (As := []) (na := 0) (idx := 60) (P := PM g adr r φ) hC (by rw [hM]; exact t_817) t_282 t_283 t_5 t_284 ⟨rfl, by decide +kernel, by decide +kernel, by decide +kernel⟩ rfl hs.1 o (ci := 3) (q := (RX3, TX3, 1)) rfl rfl (WM_get ho (by decide)) (Nat.le_of_ble_eq_true hW) d ⟨by rw [hs.2.1.1]; exact hs.2.2.1, by rw [hs.2.1.2]; exact hs.2.2.2⟩ (fun v w' hp => by obtain ⟨μ', rfl, h1, h2⟩ := hp; rw [hr] at h1; cases h1; rw [hs.2.1.1, hs.2.1.2]; exact K μ' h2) (fun E w' hp => by obtain ⟨μ', rfl, h1, h2⟩ := hp; rw [hr] at h1; cases h1)
theorem cl_X3_64 (hM : M.1 = RX3) {o : Nat} (ho : kt o = 1) {a0 : Value} {Ry : Room} {k' n' : Nat} {x : Value} {φ : Mem → Prop} (hC : CT g yX3_countCycles mX3_countCycles Ry (WM g adr μ) (.ref (adr o) :: [a0]) (PM g adr (.inl (some x)) φ)) (hs : (Ry.frames + 1 ≤ R.frames ∧ 8 + (4 + 11) + Ry.locals ≤ R.locals) ∧ (k + Ry.cells = k' ∧ n + Ry.slots = n') ∧ k' ≤ R.cells ∧ n' ≤ R.slots) (hW : Nat.ble ((st.map fun v => v.category).sum) 8 = true) (d : decode M.2.1 pc = .ok (.invokevirtual 64, 3)) (K : ∀ μ', φ μ' → J g M R Q k' n' (WM g adr μ') (pc + 3) l (x :: st)) : J g M R Q k n (WM g adr μ) pc l (a0 :: .ref (adr o) :: st) := by
  obtain ⟨r, hr⟩ : ∃ r : Option Value ⊕ String, r = .inl (some x) := ⟨_, rfl⟩
  rw [← hr] at hC
  exact J.callV (C := RX3) (y := yX3_countCycles) (My := mX3_countCycles) (As := [a0]) (na := 1) (idx := 64) (P := PM g adr r φ) hC (by rw [hM]; exact t_833) t_779 t_780 t_5 t_781 ⟨rfl, by decide +kernel, by decide +kernel, by decide +kernel⟩ rfl hs.1 o (ci := 3) (q := (RX3, TX3, 1)) rfl rfl (WM_get ho (by decide)) (Nat.le_of_ble_eq_true hW) d ⟨by rw [hs.2.1.1]; exact hs.2.2.1, by rw [hs.2.1.2]; exact hs.2.2.2⟩ (fun v w' hp => by obtain ⟨μ', rfl, h1, h2⟩ := hp; rw [hr] at h1; cases h1; rw [hs.2.1.1, hs.2.1.2]; exact K μ' h2) (fun E w' hp => by obtain ⟨μ', rfl, h1, h2⟩ := hp; rw [hr] at h1; cases h1)
theorem cl_X4_39 (hM : M.1 = RX4) {o : Nat} (ho : kt o = 8) {a0 a1 : Value} {Ry : Room} {k' n' : Nat} {x : Value} {φ : Mem → Prop} (hC : CT g yX4_sequence mX4_sequence Ry (WM g adr μ) (.ref (adr o) :: [a0, a1]) (PM g adr (.inl (some x)) φ)) (hs : (Ry.frames + 1 ≤ R.frames ∧ 8 + (7 + 11) + Ry.locals ≤ R.locals) ∧ (k + Ry.cells = k' ∧ n + Ry.slots = n') ∧ k' ≤ R.cells ∧ n' ≤ R.slots) (hW : Nat.ble ((st.map fun v => v.category).sum) 8 = true) (d : decode M.2.1 pc = .ok (.invokevirtual 39, 3)) (K : ∀ μ', φ μ' → J g M R Q k' n' (WM g adr μ') (pc + 3) l (x :: st)) : J g M R Q k n (WM g adr μ) pc l (a1 :: a0 :: .ref (adr o) :: st) := by
  obtain ⟨r, hr⟩ : ∃ r : Option Value ⊕ String, r = .inl (some x) := ⟨_, rfl⟩
  rw [← hr] at hC
  exact J.callV (C := RX4) (y := yX4_sequence) (My := mX4_sequence) (As := [a0, a1]) (na := 2) (idx := 39) (P := PM g adr r φ) hC (by rw [hM]; exact t_604) t_606 s_8 t_7 t_607 ⟨rfl, by decide +kernel, by decide +kernel, by decide +kernel⟩ rfl hs.1 o (ci := 4) (q := (RX4, TX4, 6)) rfl rfl (WM_get ho (by decide)) (Nat.le_of_ble_eq_true hW) d ⟨by rw [hs.2.1.1]; exact hs.2.2.1, by rw [hs.2.1.2]; exact hs.2.2.2⟩ (fun v w' hp => by obtain ⟨μ', rfl, h1, h2⟩ := hp; rw [hr] at h1; cases h1; rw [hs.2.1.1, hs.2.1.2]; exact K μ' h2) (fun E w' hp => by obtain ⟨μ', rfl, h1, h2⟩ := hp; rw [hr] at h1; cases h1)
theorem cl_X4_43 (hM : M.1 = RX4) {o : Nat} (ho : kt o = 9) {Ry : Room} {k' n' : Nat} {x : Value} {φ : Mem → Prop} (hC : CT g yX5_size mX5_size Ry (WM g adr μ) (.ref (adr o) :: []) (PM g adr (.inl (some x)) φ)) (hs : (Ry.frames + 1 ≤ R.frames ∧ 8 + (1 + 11) + Ry.locals ≤ R.locals) ∧ (k + Ry.cells = k' ∧ n + Ry.slots = n') ∧ k' ≤ R.cells ∧ n' ≤ R.slots) (hW : Nat.ble ((st.map fun v => v.category).sum) 8 = true) (d : decode M.2.1 pc = .ok (.invokevirtual 43, 3)) (K : ∀ μ', φ μ' → J g M R Q k' n' (WM g adr μ') (pc + 3) l (x :: st)) : J g M R Q k n (WM g adr μ) pc l (.ref (adr o) :: st) := by
  obtain ⟨r, hr⟩ : ∃ r : Option Value ⊕ String, r = .inl (some x) := ⟨_, rfl⟩
  rw [← hr] at hC
  exact J.callV (C := RX5) (y := yX5_size) (My := mX5_size) (As := []) (na := 0) (idx := 43) (P := PM g adr r φ) hC (by rw [hM]; exact t_664) t_245 t_246 t_8 t_247 ⟨rfl, by decide +kernel, by decide +kernel, by decide +kernel⟩ rfl hs.1 o (ci := 5) (q := (RX5, TX5, 2)) rfl rfl (WM_get ho (by decide)) (Nat.le_of_ble_eq_true hW) d ⟨by rw [hs.2.1.1]; exact hs.2.2.1, by rw [hs.2.1.2]; exact hs.2.2.2⟩ (fun v w' hp => by obtain ⟨μ', rfl, h1, h2⟩ := hp; rw [hr] at h1; cases h1; rw [hs.2.1.1, hs.2.1.2]; exact K μ' h2) (fun E w' hp => by obtain ⟨μ', rfl, h1, h2⟩ := hp; rw [hr] at h1; cases h1)
theorem cl_X4_47 (hM : M.1 = RX4) {o : Nat} (ho : kt o = 9) {a0 : Value} {Ry : Room} {k' n' : Nat} {x : Value} {φ : Mem → Prop} (hC : CT g yX5_signAt mX5_signAt Ry (WM g adr μ) (.ref (adr o) :: [a0]) (PM g adr (.inl (some x)) φ)) (hs : (Ry.frames + 1 ≤ R.frames ∧ 8 + (2 + 11) + Ry.locals ≤ R.locals) ∧ (k + Ry.cells = k' ∧ n + Ry.slots = n') ∧ k' ≤ R.cells ∧ n' ≤ R.slots) (hW : Nat.ble ((st.map fun v => v.category).sum) 8 = true) (d : decode M.2.1 pc = .ok (.invokevirtual 47, 3)) (K : ∀ μ', φ μ' → J g M R Q k' n' (WM g adr μ') (pc + 3) l (x :: st)) : J g M R Q k n (WM g adr μ) pc l (a0 :: .ref (adr o) :: st) := by
  obtain ⟨r, hr⟩ : ∃ r : Option Value ⊕ String, r = .inl (some x) := ⟨_, rfl⟩
  rw [← hr] at hC
  exact J.callV (C := RX5) (y := yX5_signAt) (My := mX5_signAt) (As := [a0]) (na := 1) (idx := 47) (P := PM g adr r φ) hC (by rw [hM]; exact t_617) t_618 t_619 t_8 t_620 ⟨rfl, by decide +kernel, by decide +kernel, by decide +kernel⟩ rfl hs.1 o (ci := 5) (q := (RX5, TX5, 2)) rfl rfl (WM_get ho (by decide)) (Nat.le_of_ble_eq_true hW) d ⟨by rw [hs.2.1.1]; exact hs.2.2.1, by rw [hs.2.1.2]; exact hs.2.2.2⟩ (fun v w' hp => by obtain ⟨μ', rfl, h1, h2⟩ := hp; rw [hr] at h1; cases h1; rw [hs.2.1.1, hs.2.1.2]; exact K μ' h2) (fun E w' hp => by obtain ⟨μ', rfl, h1, h2⟩ := hp; rw [hr] at h1; cases h1)
theorem cl_X4_51 (hM : M.1 = RX4) {a0 a1 : Value} {Ry : Room} {k' n' : Nat} {x : Value} {φ : Mem → Prop} (hC : CT g yX7_isIndex mX7_isIndex Ry (WM g adr μ) [a0, a1] (PM g adr (.inl (some x)) φ)) (hs : (Ry.frames + 1 ≤ R.frames ∧ 8 + (2 + 11) + Ry.locals ≤ R.locals) ∧ (k + Ry.cells = k' ∧ n + Ry.slots = n') ∧ k' ≤ R.cells ∧ n' ≤ R.slots) (hW : Nat.ble ((st.map fun v => v.category).sum) 8 = true) (d : decode M.2.1 pc = .ok (.invokestatic 51, 3)) (K : ∀ μ', φ μ' → J g M R Q k' n' (WM g adr μ') (pc + 3) l (x :: st)) : J g M R Q k n (WM g adr μ) pc l (a1 :: a0 :: st) := by
  obtain ⟨r, hr⟩ : ∃ r : Option Value ⊕ String, r = .inl (some x) := ⟨_, rfl⟩
  rw [← hr] at hC
  exact J.callSN (y := yX7_isIndex) (My := mX7_isIndex) (As := [a0, a1]) (na := 2) (idx := 51) (host := RX7) (P := PM g adr r φ) hC (by rw [hM]; exact t_608) t_212 t_1 t_213 ⟨by decide +kernel, by decide +kernel, by decide +kernel⟩ rfl hs.1 (Nat.le_of_ble_eq_true hW) d ⟨by rw [hs.2.1.1]; exact hs.2.2.1, by rw [hs.2.1.2]; exact hs.2.2.2⟩ (fun v w' hp => by obtain ⟨μ', rfl, h1, h2⟩ := hp; rw [hr] at h1; cases h1; rw [hs.2.1.1, hs.2.1.2]; exact K μ' h2) (fun E w' hp => by obtain ⟨μ', rfl, h1, h2⟩ := hp; rw [hr] at h1; cases h1)
theorem cx_X4_51 (hM : M.1 = RX4) {a0 a1 : Value} {Ry : Room} {k' n' : Nat} {E : String} {φ : Mem → Prop} (hC : CT g yX7_isIndex mX7_isIndex Ry (WM g adr μ) [a0, a1] (PM g adr (.inr E) φ)) (hs : (Ry.frames + 1 ≤ R.frames ∧ 8 + (2 + 11) + Ry.locals ≤ R.locals) ∧ (k + Ry.cells = k' ∧ n + Ry.slots = n') ∧ k' ≤ R.cells ∧ n' ≤ R.slots) (hW : Nat.ble ((st.map fun v => v.category).sum) 8 = true) (d : decode M.2.1 pc = .ok (.invokestatic 51, 3)) (K : ∀ μ', φ μ' → JX g M R Q k' n' (WM g adr μ') pc l st E) : J g M R Q k n (WM g adr μ) pc l (a1 :: a0 :: st) := by
  obtain ⟨r, hr⟩ : ∃ r : Option Value ⊕ String, r = .inr E := ⟨_, rfl⟩
  rw [← hr] at hC
  exact J.callSN (y := yX7_isIndex) (My := mX7_isIndex) (As := [a0, a1]) (na := 2) (idx := 51) (host := RX7) (P := PM g adr r φ) hC (by rw [hM]; exact t_608) t_212 t_1 t_213 ⟨by decide +kernel, by decide +kernel, by decide +kernel⟩ rfl hs.1 (Nat.le_of_ble_eq_true hW) d ⟨by rw [hs.2.1.1]; exact hs.2.2.1, by rw [hs.2.1.2]; exact hs.2.2.2⟩ (fun v w' hp => by obtain ⟨μ', rfl, h1, h2⟩ := hp; rw [hr] at h1; cases h1) (fun E w' hp => by obtain ⟨μ', rfl, h1, h2⟩ := hp; rw [hr] at h1; cases h1; rw [hs.2.1.1, hs.2.1.2]; exact K μ' h2)
theorem cl_X4_55 (hM : M.1 = RX4) {o : Nat} (ho : kt o = 1) {Ry : Room} {k' n' : Nat} {φ : Mem → Prop} (hC : CT g yX3_toNothing mX3_toNothing Ry (WM g adr μ) (.ref (adr o) :: []) (PM g adr (.inl none) φ)) (hs : (Ry.frames + 1 ≤ R.frames ∧ 8 + (2 + 11) + Ry.locals ≤ R.locals) ∧ (k + Ry.cells = k' ∧ n + Ry.slots = n') ∧ k' ≤ R.cells ∧ n' ≤ R.slots) (hW : Nat.ble ((st.map fun v => v.category).sum) 8 = true) (d : decode M.2.1 pc = .ok (.invokevirtual 55, 3)) (K : ∀ μ', φ μ' → J g M R Q k' n' (WM g adr μ') (pc + 3) l st) : J g M R Q k n (WM g adr μ) pc l (.ref (adr o) :: st) := by
  obtain ⟨r, hr⟩ : ∃ r : Option Value ⊕ String, r = .inl none := ⟨_, rfl⟩
  rw [← hr] at hC
  exact J.callV (C := RX3) (y := yX3_toNothing) (My := mX3_toNothing) (As := []) (na := 0) (idx := 55) (P := PM g adr r φ) hC (by rw [hM]; exact t_609) t_610 t_611 t_5 t_612 ⟨rfl, by decide +kernel, by decide +kernel, by decide +kernel⟩ rfl hs.1 o (ci := 3) (q := (RX3, TX3, 1)) rfl rfl (WM_get ho (by decide)) (Nat.le_of_ble_eq_true hW) d ⟨by rw [hs.2.1.1]; exact hs.2.2.1, by rw [hs.2.1.2]; exact hs.2.2.2⟩ (fun v w' hp => by obtain ⟨μ', rfl, h1, h2⟩ := hp; rw [hr] at h1; cases h1; rw [hs.2.1.1, hs.2.1.2]; exact K μ' h2) (fun E w' hp => by obtain ⟨μ', rfl, h1, h2⟩ := hp; rw [hr] at h1; cases h1)
theorem cl_X4_58 (hM : M.1 = RX4) {o : Nat} (ho : kt o = 8) {Ry : Room} {k' n' : Nat} {x : Value} {φ : Mem → Prop} (hC : CT g yX4_isItemNext mX4_isItemNext Ry (WM g adr μ) (.ref (adr o) :: []) (PM g adr (.inl (some x)) φ)) (hs : (Ry.frames + 1 ≤ R.frames ∧ 8 + (2 + 11) + Ry.locals ≤ R.locals) ∧ (k + Ry.cells = k' ∧ n + Ry.slots = n') ∧ k' ≤ R.cells ∧ n' ≤ R.slots) (hW : Nat.ble ((st.map fun v => v.category).sum) 8 = true) (d : decode M.2.1 pc = .ok (.invokevirtual 58, 3)) (K : ∀ μ', φ μ' → J g M R Q k' n' (WM g adr μ') (pc + 3) l (x :: st)) : J g M R Q k n (WM g adr μ) pc l (.ref (adr o) :: st) := by
  obtain ⟨r, hr⟩ : ∃ r : Option Value ⊕ String, r = .inl (some x) := ⟨_, rfl⟩
  rw [← hr] at hC
  exact J.callV (C := RX4) (y := yX4_isItemNext) (My := mX4_isItemNext) (As := []) (na := 0) (idx := 58) (P := PM g adr r φ) hC (by rw [hM]; exact t_613) t_615 s_9 t_7 t_616 ⟨rfl, by decide +kernel, by decide +kernel, by decide +kernel⟩ rfl hs.1 o (ci := 4) (q := (RX4, TX4, 6)) rfl rfl (WM_get ho (by decide)) (Nat.le_of_ble_eq_true hW) d ⟨by rw [hs.2.1.1]; exact hs.2.2.1, by rw [hs.2.1.2]; exact hs.2.2.2⟩ (fun v w' hp => by obtain ⟨μ', rfl, h1, h2⟩ := hp; rw [hr] at h1; cases h1; rw [hs.2.1.1, hs.2.1.2]; exact K μ' h2) (fun E w' hp => by obtain ⟨μ', rfl, h1, h2⟩ := hp; rw [hr] at h1; cases h1)
theorem cl_X4_62 (hM : M.1 = RX4) {o : Nat} (ho : kt o = 8) {a0 a1 : Value} {Ry : Room} {k' n' : Nat} {x : Value} {φ : Mem → Prop} (hC : CT g yX4_item mX4_item Ry (WM g adr μ) (.ref (adr o) :: [a0, a1]) (PM g adr (.inl (some x)) φ)) (hs : (Ry.frames + 1 ≤ R.frames ∧ 8 + (5 + 11) + Ry.locals ≤ R.locals) ∧ (k + Ry.cells = k' ∧ n + Ry.slots = n') ∧ k' ≤ R.cells ∧ n' ≤ R.slots) (hW : Nat.ble ((st.map fun v => v.category).sum) 8 = true) (d : decode M.2.1 pc = .ok (.invokevirtual 62, 3)) (K : ∀ μ', φ μ' → J g M R Q k' n' (WM g adr μ') (pc + 3) l (x :: st)) : J g M R Q k n (WM g adr μ) pc l (a1 :: a0 :: .ref (adr o) :: st) := by
  obtain ⟨r, hr⟩ : ∃ r : Option Value ⊕ String, r = .inl (some x) := ⟨_, rfl⟩
  rw [← hr] at hC
  exact J.callV (C := RX4) (y := yX4_item) (My := mX4_item) (As := [a0, a1]) (na := 2) (idx := 62) (P := PM g adr r φ) hC (by rw [hM]; exact t_621) t_623 s_10 t_7 t_624 ⟨rfl, by decide +kernel, by decide +kernel, by decide +kernel⟩ rfl hs.1 o (ci := 4) (q := (RX4, TX4, 6)) rfl rfl (WM_get ho (by decide)) (Nat.le_of_ble_eq_true hW) d ⟨by rw [hs.2.1.1]; exact hs.2.2.1, by rw [hs.2.1.2]; exact hs.2.2.2⟩ (fun v w' hp => by obtain ⟨μ', rfl, h1, h2⟩ := hp; rw [hr] at h1; cases h1; rw [hs.2.1.1, hs.2.1.2]; exact K μ' h2) (fun E w' hp => by obtain ⟨μ', rfl, h1, h2⟩ := hp; rw [hr] at h1; cases h1)
theorem cl_X4_65 (hM : M.1 = RX4) {o : Nat} (ho : kt o = 1) {a0 : Value} {Ry : Room} {k' n' : Nat} {φ : Mem → Prop} (hC : CT g yX3_then mX3_then Ry (WM g adr μ) (.ref (adr o) :: [a0]) (PM g adr (.inl none) φ)) (hs : (Ry.frames + 1 ≤ R.frames ∧ 8 + (4 + 11) + Ry.locals ≤ R.locals) ∧ (k + Ry.cells = k' ∧ n + Ry.slots = n') ∧ k' ≤ R.cells ∧ n' ≤ R.slots) (hW : Nat.ble ((st.map fun v => v.category).sum) 8 = true) (d : decode M.2.1 pc = .ok (.invokevirtual 65, 3)) (K : ∀ μ', φ μ' → J g M R Q k' n' (WM g adr μ') (pc + 3) l st) : J g M R Q k n (WM g adr μ) pc l (a0 :: .ref (adr o) :: st) := by
  obtain ⟨r, hr⟩ : ∃ r : Option Value ⊕ String, r = .inl none := ⟨_, rfl⟩
  rw [← hr] at hC
  exact J.callV (C := RX3) (y := yX3_then) (My := mX3_then) (As := [a0]) (na := 1) (idx := 65) (P := PM g adr r φ) hC (by rw [hM]; exact t_663) t_278 t_279 t_5 t_280 ⟨rfl, by decide +kernel, by decide +kernel, by decide +kernel⟩ rfl hs.1 o (ci := 3) (q := (RX3, TX3, 1)) rfl rfl (WM_get ho (by decide)) (Nat.le_of_ble_eq_true hW) d ⟨by rw [hs.2.1.1]; exact hs.2.2.1, by rw [hs.2.1.2]; exact hs.2.2.2⟩ (fun v w' hp => by obtain ⟨μ', rfl, h1, h2⟩ := hp; rw [hr] at h1; cases h1; rw [hs.2.1.1, hs.2.1.2]; exact K μ' h2) (fun E w' hp => by obtain ⟨μ', rfl, h1, h2⟩ := hp; rw [hr] at h1; cases h1)
theorem cl_X4_69 (hM : M.1 = RX4) {o : Nat} (ho : kt o = 8) {a0 a1 : Value} {Ry : Room} {k' n' : Nat} {x : Value} {φ : Mem → Prop} (hC : CT g yX4_moveItem mX4_moveItem Ry (WM g adr μ) (.ref (adr o) :: [a0, a1]) (PM g adr (.inl (some x)) φ)) (hs : (Ry.frames + 1 ≤ R.frames ∧ 8 + (5 + 11) + Ry.locals ≤ R.locals) ∧ (k + Ry.cells = k' ∧ n + Ry.slots = n') ∧ k' ≤ R.cells ∧ n' ≤ R.slots) (hW : Nat.ble ((st.map fun v => v.category).sum) 8 = true) (d : decode M.2.1 pc = .ok (.invokevirtual 69, 3)) (K : ∀ μ', φ μ' → J g M R Q k' n' (WM g adr μ') (pc + 3) l (x :: st)) : J g M R Q k n (WM g adr μ) pc l (a1 :: a0 :: .ref (adr o) :: st) := by
  obtain ⟨r, hr⟩ : ∃ r : Option Value ⊕ String, r = .inl (some x) := ⟨_, rfl⟩
  rw [← hr] at hC
  exact J.callV (C := RX4) (y := yX4_moveItem) (My := mX4_moveItem) (As := [a0, a1]) (na := 2) (idx := 69) (P := PM g adr r φ) hC (by rw [hM]; exact t_625) t_627 s_11 t_7 t_628 ⟨rfl, by decide +kernel, by decide +kernel, by decide +kernel⟩ rfl hs.1 o (ci := 4) (q := (RX4, TX4, 6)) rfl rfl (WM_get ho (by decide)) (Nat.le_of_ble_eq_true hW) d ⟨by rw [hs.2.1.1]; exact hs.2.2.1, by rw [hs.2.1.2]; exact hs.2.2.2⟩ (fun v w' hp => by obtain ⟨μ', rfl, h1, h2⟩ := hp; rw [hr] at h1; cases h1; rw [hs.2.1.1, hs.2.1.2]; exact K μ' h2) (fun E w' hp => by obtain ⟨μ', rfl, h1, h2⟩ := hp; rw [hr] at h1; cases h1)
theorem cl_X4_73 (hM : M.1 = RX4) {o : Nat} (ho : kt o = 8) {a0 a1 : Value} {Ry : Room} {k' n' : Nat} {x : Value} {φ : Mem → Prop} (hC : CT g yX4_shelfItem mX4_shelfItem Ry (WM g adr μ) (.ref (adr o) :: [a0, a1]) (PM g adr (.inl (some x)) φ)) (hs : (Ry.frames + 1 ≤ R.frames ∧ 8 + (4 + 11) + Ry.locals ≤ R.locals) ∧ (k + Ry.cells = k' ∧ n + Ry.slots = n') ∧ k' ≤ R.cells ∧ n' ≤ R.slots) (hW : Nat.ble ((st.map fun v => v.category).sum) 8 = true) (d : decode M.2.1 pc = .ok (.invokevirtual 73, 3)) (K : ∀ μ', φ μ' → J g M R Q k' n' (WM g adr μ') (pc + 3) l (x :: st)) : J g M R Q k n (WM g adr μ) pc l (a1 :: a0 :: .ref (adr o) :: st) := by
  obtain ⟨r, hr⟩ : ∃ r : Option Value ⊕ String, r = .inl (some x) := ⟨_, rfl⟩
  rw [← hr] at hC
  exact J.callV (C := RX4) (y := yX4_shelfItem) (My := mX4_shelfItem) (As := [a0, a1]) (na := 2) (idx := 73) (P := PM g adr r φ) hC (by rw [hM]; exact t_635) t_637 s_13 t_7 t_638 ⟨rfl, by decide +kernel, by decide +kernel, by decide +kernel⟩ rfl hs.1 o (ci := 4) (q := (RX4, TX4, 6)) rfl rfl (WM_get ho (by decide)) (Nat.le_of_ble_eq_true hW) d ⟨by rw [hs.2.1.1]; exact hs.2.2.1, by rw [hs.2.1.2]; exact hs.2.2.2⟩ (fun v w' hp => by obtain ⟨μ', rfl, h1, h2⟩ := hp; rw [hr] at h1; cases h1; rw [hs.2.1.1, hs.2.1.2]; exact K μ' h2) (fun E w' hp => by obtain ⟨μ', rfl, h1, h2⟩ := hp; rw [hr] at h1; cases h1)
theorem cl_X4_77 (hM : M.1 = RX4) {o : Nat} (ho : kt o = 8) {a0 a1 a2 : Value} {Ry : Room} {k' n' : Nat} {x : Value} {φ : Mem → Prop} (hC : CT g yX4_repeatedItem mX4_repeatedItem Ry (WM g adr μ) (.ref (adr o) :: [a0, a1, a2]) (PM g adr (.inl (some x)) φ)) (hs : (Ry.frames + 1 ≤ R.frames ∧ 8 + (6 + 11) + Ry.locals ≤ R.locals) ∧ (k + Ry.cells = k' ∧ n + Ry.slots = n') ∧ k' ≤ R.cells ∧ n' ≤ R.slots) (hW : Nat.ble ((st.map fun v => v.category).sum) 8 = true) (d : decode M.2.1 pc = .ok (.invokevirtual 77, 3)) (K : ∀ μ', φ μ' → J g M R Q k' n' (WM g adr μ') (pc + 3) l (x :: st)) : J g M R Q k n (WM g adr μ) pc l (a2 :: a1 :: a0 :: .ref (adr o) :: st) := by
  obtain ⟨r, hr⟩ : ∃ r : Option Value ⊕ String, r = .inl (some x) := ⟨_, rfl⟩
  rw [← hr] at hC
  exact J.callV (C := RX4) (y := yX4_repeatedItem) (My := mX4_repeatedItem) (As := [a0, a1, a2]) (na := 3) (idx := 77) (P := PM g adr r φ) hC (by rw [hM]; exact t_642) t_644 s_14 t_7 t_645 ⟨rfl, by decide +kernel, by decide +kernel, by decide +kernel⟩ rfl hs.1 o (ci := 4) (q := (RX4, TX4, 6)) rfl rfl (WM_get ho (by decide)) (Nat.le_of_ble_eq_true hW) d ⟨by rw [hs.2.1.1]; exact hs.2.2.1, by rw [hs.2.1.2]; exact hs.2.2.2⟩ (fun v w' hp => by obtain ⟨μ', rfl, h1, h2⟩ := hp; rw [hr] at h1; cases h1; rw [hs.2.1.1, hs.2.1.2]; exact K μ' h2) (fun E w' hp => by obtain ⟨μ', rfl, h1, h2⟩ := hp; rw [hr] at h1; cases h1)
theorem cl_X4_81 (hM : M.1 = RX4) {o : Nat} (ho : kt o = 8) {a0 a1 a2 : Value} {Ry : Room} {k' n' : Nat} {x : Value} {φ : Mem → Prop} (hC : CT g yX4_commutedItem mX4_commutedItem Ry (WM g adr μ) (.ref (adr o) :: [a0, a1, a2]) (PM g adr (.inl (some x)) φ)) (hs : (Ry.frames + 1 ≤ R.frames ∧ 8 + (6 + 11) + Ry.locals ≤ R.locals) ∧ (k + Ry.cells = k' ∧ n + Ry.slots = n') ∧ k' ≤ R.cells ∧ n' ≤ R.slots) (hW : Nat.ble ((st.map fun v => v.category).sum) 8 = true) (d : decode M.2.1 pc = .ok (.invokevirtual 81, 3)) (K : ∀ μ', φ μ' → J g M R Q k' n' (WM g adr μ') (pc + 3) l (x :: st)) : J g M R Q k n (WM g adr μ) pc l (a2 :: a1 :: a0 :: .ref (adr o) :: st) := by
  obtain ⟨r, hr⟩ : ∃ r : Option Value ⊕ String, r = .inl (some x) := ⟨_, rfl⟩
  rw [← hr] at hC
  exact J.callV (C := RX4) (y := yX4_commutedItem) (My := mX4_commutedItem) (As := [a0, a1, a2]) (na := 3) (idx := 81) (P := PM g adr r φ) hC (by rw [hM]; exact t_652) t_654 s_15 t_7 t_655 ⟨rfl, by decide +kernel, by decide +kernel, by decide +kernel⟩ rfl hs.1 o (ci := 4) (q := (RX4, TX4, 6)) rfl rfl (WM_get ho (by decide)) (Nat.le_of_ble_eq_true hW) d ⟨by rw [hs.2.1.1]; exact hs.2.2.1, by rw [hs.2.1.2]; exact hs.2.2.2⟩ (fun v w' hp => by obtain ⟨μ', rfl, h1, h2⟩ := hp; rw [hr] at h1; cases h1; rw [hs.2.1.1, hs.2.1.2]; exact K μ' h2) (fun E w' hp => by obtain ⟨μ', rfl, h1, h2⟩ := hp; rw [hr] at h1; cases h1)
theorem cl_X4_84 (hM : M.1 = RX4) {o : Nat} (ho : kt o = 1) {a0 : Value} {Ry : Room} {k' n' : Nat} {φ : Mem → Prop} (hC : CT g yX3_toInverse mX3_toInverse Ry (WM g adr μ) (.ref (adr o) :: [a0]) (PM g adr (.inl none) φ)) (hs : (Ry.frames + 1 ≤ R.frames ∧ 8 + (4 + 11) + Ry.locals ≤ R.locals) ∧ (k + Ry.cells = k' ∧ n + Ry.slots = n') ∧ k' ≤ R.cells ∧ n' ≤ R.slots) (hW : Nat.ble ((st.map fun v => v.category).sum) 8 = true) (d : decode M.2.1 pc = .ok (.invokevirtual 84, 3)) (K : ∀ μ', φ μ' → J g M R Q k' n' (WM g adr μ') (pc + 3) l st) : J g M R Q k n (WM g adr μ) pc l (a0 :: .ref (adr o) :: st) := by
  obtain ⟨r, hr⟩ : ∃ r : Option Value ⊕ String, r = .inl none := ⟨_, rfl⟩
  rw [← hr] at hC
  exact J.callV (C := RX3) (y := yX3_toInverse) (My := mX3_toInverse) (As := [a0]) (na := 1) (idx := 84) (P := PM g adr r φ) hC (by rw [hM]; exact t_662) t_274 t_275 t_5 t_276 ⟨rfl, by decide +kernel, by decide +kernel, by decide +kernel⟩ rfl hs.1 o (ci := 3) (q := (RX3, TX3, 1)) rfl rfl (WM_get ho (by decide)) (Nat.le_of_ble_eq_true hW) d ⟨by rw [hs.2.1.1]; exact hs.2.2.1, by rw [hs.2.1.2]; exact hs.2.2.2⟩ (fun v w' hp => by obtain ⟨μ', rfl, h1, h2⟩ := hp; rw [hr] at h1; cases h1; rw [hs.2.1.1, hs.2.1.2]; exact K μ' h2) (fun E w' hp => by obtain ⟨μ', rfl, h1, h2⟩ := hp; rw [hr] at h1; cases h1)
theorem cl_X4_87 (hM : M.1 = RX4) {o : Nat} (ho : kt o = 1) {a0 : Value} {Ry : Room} {k' n' : Nat} {φ : Mem → Prop} (hC : CT g yX3_toCopy mX3_toCopy Ry (WM g adr μ) (.ref (adr o) :: [a0]) (PM g adr (.inl none) φ)) (hs : (Ry.frames + 1 ≤ R.frames ∧ 8 + (3 + 11) + Ry.locals ≤ R.locals) ∧ (k + Ry.cells = k' ∧ n + Ry.slots = n') ∧ k' ≤ R.cells ∧ n' ≤ R.slots) (hW : Nat.ble ((st.map fun v => v.category).sum) 8 = true) (d : decode M.2.1 pc = .ok (.invokevirtual 87, 3)) (K : ∀ μ', φ μ' → J g M R Q k' n' (WM g adr μ') (pc + 3) l st) : J g M R Q k n (WM g adr μ) pc l (a0 :: .ref (adr o) :: st) := by
  obtain ⟨r, hr⟩ : ∃ r : Option Value ⊕ String, r = .inl none := ⟨_, rfl⟩
  rw [← hr] at hC
  exact J.callV (C := RX3) (y := yX3_toCopy) (My := mX3_toCopy) (As := [a0]) (na := 1) (idx := 87) (P := PM g adr r φ) hC (by rw [hM]; exact t_641) t_270 t_271 t_5 t_272 ⟨rfl, by decide +kernel, by decide +kernel, by decide +kernel⟩ rfl hs.1 o (ci := 3) (q := (RX3, TX3, 1)) rfl rfl (WM_get ho (by decide)) (Nat.le_of_ble_eq_true hW) d ⟨by rw [hs.2.1.1]; exact hs.2.2.1, by rw [hs.2.1.2]; exact hs.2.2.2⟩ (fun v w' hp => by obtain ⟨μ', rfl, h1, h2⟩ := hp; rw [hr] at h1; cases h1; rw [hs.2.1.1, hs.2.1.2]; exact K μ' h2) (fun E w' hp => by obtain ⟨μ', rfl, h1, h2⟩ := hp; rw [hr] at h1; cases h1)
theorem cl_X4_90 (hM : M.1 = RX4) {o : Nat} (ho : kt o = 8) {a0 a1 : Value} {Ry : Room} {k' n' : Nat} {x : Value} {φ : Mem → Prop} (hC : CT g yX4_digit mX4_digit Ry (WM g adr μ) (.ref (adr o) :: [a0, a1]) (PM g adr (.inl (some x)) φ)) (hs : (Ry.frames + 1 ≤ R.frames ∧ 8 + (4 + 11) + Ry.locals ≤ R.locals) ∧ (k + Ry.cells = k' ∧ n + Ry.slots = n') ∧ k' ≤ R.cells ∧ n' ≤ R.slots) (hW : Nat.ble ((st.map fun v => v.category).sum) 8 = true) (d : decode M.2.1 pc = .ok (.invokevirtual 90, 3)) (K : ∀ μ', φ μ' → J g M R Q k' n' (WM g adr μ') (pc + 3) l (x :: st)) : J g M R Q k n (WM g adr μ) pc l (a1 :: a0 :: .ref (adr o) :: st) := by
  obtain ⟨r, hr⟩ : ∃ r : Option Value ⊕ String, r = .inl (some x) := ⟨_, rfl⟩
  rw [← hr] at hC
  exact J.callV (C := RX4) (y := yX4_digit) (My := mX4_digit) (As := [a0, a1]) (na := 2) (idx := 90) (P := PM g adr r φ) hC (by rw [hM]; exact t_629) t_631 s_12 t_7 t_632 ⟨rfl, by decide +kernel, by decide +kernel, by decide +kernel⟩ rfl hs.1 o (ci := 4) (q := (RX4, TX4, 6)) rfl rfl (WM_get ho (by decide)) (Nat.le_of_ble_eq_true hW) d ⟨by rw [hs.2.1.1]; exact hs.2.2.1, by rw [hs.2.1.2]; exact hs.2.2.2⟩ (fun v w' hp => by obtain ⟨μ', rfl, h1, h2⟩ := hp; rw [hr] at h1; cases h1; rw [hs.2.1.1, hs.2.1.2]; exact K μ' h2) (fun E w' hp => by obtain ⟨μ', rfl, h1, h2⟩ := hp; rw [hr] at h1; cases h1)
theorem cl_X4_94 (hM : M.1 = RX4) {a0 : Value} {Ry : Room} {k' n' : Nat} {x : Value} {φ : Mem → Prop} (hC : CT g yX7_roundOf mX7_roundOf Ry (WM g adr μ) [a0] (PM g adr (.inl (some x)) φ)) (hs : (Ry.frames + 1 ≤ R.frames ∧ 8 + (1 + 11) + Ry.locals ≤ R.locals) ∧ (k + Ry.cells = k' ∧ n + Ry.slots = n') ∧ k' ≤ R.cells ∧ n' ≤ R.slots) (hW : Nat.ble ((st.map fun v => v.category).sum) 8 = true) (d : decode M.2.1 pc = .ok (.invokestatic 94, 3)) (K : ∀ μ', φ μ' → J g M R Q k' n' (WM g adr μ') (pc + 3) l (x :: st)) : J g M R Q k n (WM g adr μ) pc l (a0 :: st) := by
  obtain ⟨r, hr⟩ : ∃ r : Option Value ⊕ String, r = .inl (some x) := ⟨_, rfl⟩
  rw [← hr] at hC
  exact J.callSN (y := yX7_roundOf) (My := mX7_roundOf) (As := [a0]) (na := 1) (idx := 94) (host := RX7) (P := PM g adr r φ) hC (by rw [hM]; exact t_633) t_506 t_1 t_507 ⟨by decide +kernel, by decide +kernel, by decide +kernel⟩ rfl hs.1 (Nat.le_of_ble_eq_true hW) d ⟨by rw [hs.2.1.1]; exact hs.2.2.1, by rw [hs.2.1.2]; exact hs.2.2.2⟩ (fun v w' hp => by obtain ⟨μ', rfl, h1, h2⟩ := hp; rw [hr] at h1; cases h1; rw [hs.2.1.1, hs.2.1.2]; exact K μ' h2) (fun E w' hp => by obtain ⟨μ', rfl, h1, h2⟩ := hp; rw [hr] at h1; cases h1)
theorem cx_X4_94 (hM : M.1 = RX4) {a0 : Value} {Ry : Room} {k' n' : Nat} {E : String} {φ : Mem → Prop} (hC : CT g yX7_roundOf mX7_roundOf Ry (WM g adr μ) [a0] (PM g adr (.inr E) φ)) (hs : (Ry.frames + 1 ≤ R.frames ∧ 8 + (1 + 11) + Ry.locals ≤ R.locals) ∧ (k + Ry.cells = k' ∧ n + Ry.slots = n') ∧ k' ≤ R.cells ∧ n' ≤ R.slots) (hW : Nat.ble ((st.map fun v => v.category).sum) 8 = true) (d : decode M.2.1 pc = .ok (.invokestatic 94, 3)) (K : ∀ μ', φ μ' → JX g M R Q k' n' (WM g adr μ') pc l st E) : J g M R Q k n (WM g adr μ) pc l (a0 :: st) := by
  obtain ⟨r, hr⟩ : ∃ r : Option Value ⊕ String, r = .inr E := ⟨_, rfl⟩
  rw [← hr] at hC
  exact J.callSN (y := yX7_roundOf) (My := mX7_roundOf) (As := [a0]) (na := 1) (idx := 94) (host := RX7) (P := PM g adr r φ) hC (by rw [hM]; exact t_633) t_506 t_1 t_507 ⟨by decide +kernel, by decide +kernel, by decide +kernel⟩ rfl hs.1 (Nat.le_of_ble_eq_true hW) d ⟨by rw [hs.2.1.1]; exact hs.2.2.1, by rw [hs.2.1.2]; exact hs.2.2.2⟩ (fun v w' hp => by obtain ⟨μ', rfl, h1, h2⟩ := hp; rw [hr] at h1; cases h1) (fun E w' hp => by obtain ⟨μ', rfl, h1, h2⟩ := hp; rw [hr] at h1; cases h1; rw [hs.2.1.1, hs.2.1.2]; exact K μ' h2)
theorem cl_X4_97 (hM : M.1 = RX4) {o : Nat} (ho : kt o = 1) {a0 a1 a2 : Value} {Ry : Room} {k' n' : Nat} {φ : Mem → Prop} (hC : CT g yX3_toMove mX3_toMove Ry (WM g adr μ) (.ref (adr o) :: [a0, a1, a2]) (PM g adr (.inl none) φ)) (hs : (Ry.frames + 1 ≤ R.frames ∧ 8 + (4 + 11) + Ry.locals ≤ R.locals) ∧ (k + Ry.cells = k' ∧ n + Ry.slots = n') ∧ k' ≤ R.cells ∧ n' ≤ R.slots) (hW : Nat.ble ((st.map fun v => v.category).sum) 8 = true) (d : decode M.2.1 pc = .ok (.invokevirtual 97, 3)) (K : ∀ μ', φ μ' → J g M R Q k' n' (WM g adr μ') (pc + 3) l st) : J g M R Q k n (WM g adr μ) pc l (a2 :: a1 :: a0 :: .ref (adr o) :: st) := by
  obtain ⟨r, hr⟩ : ∃ r : Option Value ⊕ String, r = .inl none := ⟨_, rfl⟩
  rw [← hr] at hC
  exact J.callV (C := RX3) (y := yX3_toMove) (My := mX3_toMove) (As := [a0, a1, a2]) (na := 3) (idx := 97) (P := PM g adr r φ) hC (by rw [hM]; exact t_634) t_446 t_447 t_5 t_448 ⟨rfl, by decide +kernel, by decide +kernel, by decide +kernel⟩ rfl hs.1 o (ci := 3) (q := (RX3, TX3, 1)) rfl rfl (WM_get ho (by decide)) (Nat.le_of_ble_eq_true hW) d ⟨by rw [hs.2.1.1]; exact hs.2.2.1, by rw [hs.2.1.2]; exact hs.2.2.2⟩ (fun v w' hp => by obtain ⟨μ', rfl, h1, h2⟩ := hp; rw [hr] at h1; cases h1; rw [hs.2.1.1, hs.2.1.2]; exact K μ' h2) (fun E w' hp => by obtain ⟨μ', rfl, h1, h2⟩ := hp; rw [hr] at h1; cases h1)
theorem cl_X4_101 (hM : M.1 = RX4) {o : Nat} (ho : kt o = 5) {a0 : Value} {Ry : Room} {k' n' : Nat} {x : Value} {φ : Mem → Prop} (hC : CT g yX6_isFilled mX6_isFilled Ry (WM g adr μ) (.ref (adr o) :: [a0]) (PM g adr (.inl (some x)) φ)) (hs : (Ry.frames + 1 ≤ R.frames ∧ 8 + (2 + 11) + Ry.locals ≤ R.locals) ∧ (k + Ry.cells = k' ∧ n + Ry.slots = n') ∧ k' ≤ R.cells ∧ n' ≤ R.slots) (hW : Nat.ble ((st.map fun v => v.category).sum) 8 = true) (d : decode M.2.1 pc = .ok (.invokevirtual 101, 3)) (K : ∀ μ', φ μ' → J g M R Q k' n' (WM g adr μ') (pc + 3) l (x :: st)) : J g M R Q k n (WM g adr μ) pc l (a0 :: .ref (adr o) :: st) := by
  obtain ⟨r, hr⟩ : ∃ r : Option Value ⊕ String, r = .inl (some x) := ⟨_, rfl⟩
  rw [← hr] at hC
  exact J.callV (C := RX6) (y := yX6_isFilled) (My := mX6_isFilled) (As := [a0]) (na := 1) (idx := 101) (P := PM g adr r φ) hC (by rw [hM]; exact t_639) t_257 t_258 t_2 t_259 ⟨rfl, by decide +kernel, by decide +kernel, by decide +kernel⟩ rfl hs.1 o (ci := 6) (q := (RX6, TX6, 6)) rfl rfl (WM_get ho (by decide)) (Nat.le_of_ble_eq_true hW) d ⟨by rw [hs.2.1.1]; exact hs.2.2.1, by rw [hs.2.1.2]; exact hs.2.2.2⟩ (fun v w' hp => by obtain ⟨μ', rfl, h1, h2⟩ := hp; rw [hr] at h1; cases h1; rw [hs.2.1.1, hs.2.1.2]; exact K μ' h2) (fun E w' hp => by obtain ⟨μ', rfl, h1, h2⟩ := hp; rw [hr] at h1; cases h1)
theorem cl_X4_107 (hM : M.1 = RX4) {o : Nat} (ho : kt o = 5) {a0 : Value} {Ry : Room} {k' n' : Nat} {x : Value} {φ : Mem → Prop} (hC : CT g yX6_onShelf mX6_onShelf Ry (WM g adr μ) (.ref (adr o) :: [a0]) (PM g adr (.inl (some x)) φ)) (hs : (Ry.frames + 1 ≤ R.frames ∧ 8 + (2 + 11) + Ry.locals ≤ R.locals) ∧ (k + Ry.cells = k' ∧ n + Ry.slots = n') ∧ k' ≤ R.cells ∧ n' ≤ R.slots) (hW : Nat.ble ((st.map fun v => v.category).sum) 8 = true) (d : decode M.2.1 pc = .ok (.invokevirtual 107, 3)) (K : ∀ μ', φ μ' → J g M R Q k' n' (WM g adr μ') (pc + 3) l (x :: st)) : J g M R Q k n (WM g adr μ) pc l (a0 :: .ref (adr o) :: st) := by
  obtain ⟨r, hr⟩ : ∃ r : Option Value ⊕ String, r = .inl (some x) := ⟨_, rfl⟩
  rw [← hr] at hC
  exact J.callV (C := RX6) (y := yX6_onShelf) (My := mX6_onShelf) (As := [a0]) (na := 1) (idx := 107) (P := PM g adr r φ) hC (by rw [hM]; exact t_640) t_262 t_263 t_2 t_264 ⟨rfl, by decide +kernel, by decide +kernel, by decide +kernel⟩ rfl hs.1 o (ci := 6) (q := (RX6, TX6, 6)) rfl rfl (WM_get ho (by decide)) (Nat.le_of_ble_eq_true hW) d ⟨by rw [hs.2.1.1]; exact hs.2.2.1, by rw [hs.2.1.2]; exact hs.2.2.2⟩ (fun v w' hp => by obtain ⟨μ', rfl, h1, h2⟩ := hp; rw [hr] at h1; cases h1; rw [hs.2.1.1, hs.2.1.2]; exact K μ' h2) (fun E w' hp => by obtain ⟨μ', rfl, h1, h2⟩ := hp; rw [hr] at h1; cases h1)
theorem cl_X4_111 (hM : M.1 = RX4) {o : Nat} (ho : kt o = 1) {a0 a1 : Value} {Ry : Room} {k' n' : Nat} {φ : Mem → Prop} (hC : CT g yX3_toPower mX3_toPower Ry (WM g adr μ) (.ref (adr o) :: [a0, a1]) (PM g adr (.inl none) φ)) (hs : (Ry.frames + 1 ≤ R.frames ∧ 8 + (4 + 11) + Ry.locals ≤ R.locals) ∧ (k + Ry.cells = k' ∧ n + Ry.slots = n') ∧ k' ≤ R.cells ∧ n' ≤ R.slots) (hW : Nat.ble ((st.map fun v => v.category).sum) 8 = true) (d : decode M.2.1 pc = .ok (.invokevirtual 111, 3)) (K : ∀ μ', φ μ' → J g M R Q k' n' (WM g adr μ') (pc + 3) l st) : J g M R Q k n (WM g adr μ) pc l (a1 :: a0 :: .ref (adr o) :: st) := by
  obtain ⟨r, hr⟩ : ∃ r : Option Value ⊕ String, r = .inl none := ⟨_, rfl⟩
  rw [← hr] at hC
  exact J.callV (C := RX3) (y := yX3_toPower) (My := mX3_toPower) (As := [a0, a1]) (na := 2) (idx := 111) (P := PM g adr r φ) hC (by rw [hM]; exact t_646) t_647 t_648 t_5 t_649 ⟨rfl, by decide +kernel, by decide +kernel, by decide +kernel⟩ rfl hs.1 o (ci := 3) (q := (RX3, TX3, 1)) rfl rfl (WM_get ho (by decide)) (Nat.le_of_ble_eq_true hW) d ⟨by rw [hs.2.1.1]; exact hs.2.2.1, by rw [hs.2.1.2]; exact hs.2.2.2⟩ (fun v w' hp => by obtain ⟨μ', rfl, h1, h2⟩ := hp; rw [hr] at h1; cases h1; rw [hs.2.1.1, hs.2.1.2]; exact K μ' h2) (fun E w' hp => by obtain ⟨μ', rfl, h1, h2⟩ := hp; rw [hr] at h1; cases h1)
theorem cl_X4_115 (hM : M.1 = RX4) {o : Nat} (ho : kt o = 1) {a0 a1 a2 : Value} {Ry : Room} {k' n' : Nat} {φ : Mem → Prop} (hC : CT g yX3_toCommuted mX3_toCommuted Ry (WM g adr μ) (.ref (adr o) :: [a0, a1, a2]) (PM g adr (.inl none) φ)) (hs : (Ry.frames + 1 ≤ R.frames ∧ 8 + (4 + 11) + Ry.locals ≤ R.locals) ∧ (k + Ry.cells = k' ∧ n + Ry.slots = n') ∧ k' ≤ R.cells ∧ n' ≤ R.slots) (hW : Nat.ble ((st.map fun v => v.category).sum) 8 = true) (d : decode M.2.1 pc = .ok (.invokevirtual 115, 3)) (K : ∀ μ', φ μ' → J g M R Q k' n' (WM g adr μ') (pc + 3) l st) : J g M R Q k n (WM g adr μ) pc l (a2 :: a1 :: a0 :: .ref (adr o) :: st) := by
  obtain ⟨r, hr⟩ : ∃ r : Option Value ⊕ String, r = .inl none := ⟨_, rfl⟩
  rw [← hr] at hC
  exact J.callV (C := RX3) (y := yX3_toCommuted) (My := mX3_toCommuted) (As := [a0, a1, a2]) (na := 3) (idx := 115) (P := PM g adr r φ) hC (by rw [hM]; exact t_656) t_657 t_658 t_5 t_659 ⟨rfl, by decide +kernel, by decide +kernel, by decide +kernel⟩ rfl hs.1 o (ci := 3) (q := (RX3, TX3, 1)) rfl rfl (WM_get ho (by decide)) (Nat.le_of_ble_eq_true hW) d ⟨by rw [hs.2.1.1]; exact hs.2.2.1, by rw [hs.2.1.2]; exact hs.2.2.2⟩ (fun v w' hp => by obtain ⟨μ', rfl, h1, h2⟩ := hp; rw [hr] at h1; cases h1; rw [hs.2.1.1, hs.2.1.2]; exact K μ' h2) (fun E w' hp => by obtain ⟨μ', rfl, h1, h2⟩ := hp; rw [hr] at h1; cases h1)
theorem cl_X5_21 (hM : M.1 = RX5) {o : Nat} (ho : kt o = 9) {a0 : Value} {Ry : Room} {k' n' : Nat} {φ : Mem → Prop} (hC : CT g yX5_addSign mX5_addSign Ry (WM g adr μ) (.ref (adr o) :: [a0]) (PM g adr (.inl none) φ)) (hs : (Ry.frames + 1 ≤ R.frames ∧ 8 + (2 + 11) + Ry.locals ≤ R.locals) ∧ (k + Ry.cells = k' ∧ n + Ry.slots = n') ∧ k' ≤ R.cells ∧ n' ≤ R.slots) (hW : Nat.ble ((st.map fun v => v.category).sum) 8 = true) (d : decode M.2.1 pc = .ok (.invokevirtual 21, 3)) (K : ∀ μ', φ μ' → J g M R Q k' n' (WM g adr μ') (pc + 3) l st) : J g M R Q k n (WM g adr μ) pc l (a0 :: .ref (adr o) :: st) := by
  obtain ⟨r, hr⟩ : ∃ r : Option Value ⊕ String, r = .inl none := ⟨_, rfl⟩
  rw [← hr] at hC
  exact J.callV (C := RX5) (y := yX5_addSign) (My := mX5_addSign) (As := [a0]) (na := 1) (idx := 21) (P := PM g adr r φ) hC (by rw [hM]; exact t_243) t_236 t_237 t_8 t_238 ⟨rfl, by decide +kernel, by decide +kernel, by decide +kernel⟩ rfl hs.1 o (ci := 5) (q := (RX5, TX5, 2)) rfl rfl (WM_get ho (by decide)) (Nat.le_of_ble_eq_true hW) d ⟨by rw [hs.2.1.1]; exact hs.2.2.1, by rw [hs.2.1.2]; exact hs.2.2.2⟩ (fun v w' hp => by obtain ⟨μ', rfl, h1, h2⟩ := hp; rw [hr] at h1; cases h1; rw [hs.2.1.1, hs.2.1.2]; exact K μ' h2) (fun E w' hp => by obtain ⟨μ', rfl, h1, h2⟩ := hp; rw [hr] at h1; cases h1)
theorem cl_X5_25 (hM : M.1 = RX5) {o : Nat} (ho : kt o = 9) {a0 : Value} {Ry : Room} {k' n' : Nat} {φ : Mem → Prop} (hC : CT g yX5_addNumber mX5_addNumber Ry (WM g adr μ) (.ref (adr o) :: [a0]) (PM g adr (.inl none) φ)) (hs : (Ry.frames + 1 ≤ R.frames ∧ 8 + (2 + 11) + Ry.locals ≤ R.locals) ∧ (k + Ry.cells = k' ∧ n + Ry.slots = n') ∧ k' ≤ R.cells ∧ n' ≤ R.slots) (hW : Nat.ble ((st.map fun v => v.category).sum) 8 = true) (d : decode M.2.1 pc = .ok (.invokevirtual 25, 3)) (K : ∀ μ', φ μ' → J g M R Q k' n' (WM g adr μ') (pc + 3) l st) : J g M R Q k n (WM g adr μ) pc l (a0 :: .ref (adr o) :: st) := by
  obtain ⟨r, hr⟩ : ∃ r : Option Value ⊕ String, r = .inl none := ⟨_, rfl⟩
  rw [← hr] at hC
  exact J.callV (C := RX5) (y := yX5_addNumber) (My := mX5_addNumber) (As := [a0]) (na := 1) (idx := 25) (P := PM g adr r φ) hC (by rw [hM]; exact t_872) t_240 t_241 t_8 t_242 ⟨rfl, by decide +kernel, by decide +kernel, by decide +kernel⟩ rfl hs.1 o (ci := 5) (q := (RX5, TX5, 2)) rfl rfl (WM_get ho (by decide)) (Nat.le_of_ble_eq_true hW) d ⟨by rw [hs.2.1.1]; exact hs.2.2.1, by rw [hs.2.1.2]; exact hs.2.2.2⟩ (fun v w' hp => by obtain ⟨μ', rfl, h1, h2⟩ := hp; rw [hr] at h1; cases h1; rw [hs.2.1.1, hs.2.1.2]; exact K μ' h2) (fun E w' hp => by obtain ⟨μ', rfl, h1, h2⟩ := hp; rw [hr] at h1; cases h1)
theorem cl_X5_29 (hM : M.1 = RX5) {o : Nat} (ho : kt o = 1) {a0 : Value} {Ry : Room} {k' n' : Nat} {x : Value} {φ : Mem → Prop} (hC : CT g yX3_of mX3_of Ry (WM g adr μ) (.ref (adr o) :: [a0]) (PM g adr (.inl (some x)) φ)) (hs : (Ry.frames + 1 ≤ R.frames ∧ 8 + (2 + 11) + Ry.locals ≤ R.locals) ∧ (k + Ry.cells = k' ∧ n + Ry.slots = n') ∧ k' ≤ R.cells ∧ n' ≤ R.slots) (hW : Nat.ble ((st.map fun v => v.category).sum) 8 = true) (d : decode M.2.1 pc = .ok (.invokevirtual 29, 3)) (K : ∀ μ', φ μ' → J g M R Q k' n' (WM g adr μ') (pc + 3) l (x :: st)) : J g M R Q k n (WM g adr μ) pc l (a0 :: .ref (adr o) :: st) := by
  obtain ⟨r, hr⟩ : ∃ r : Option Value ⊕ String, r = .inl (some x) := ⟨_, rfl⟩
  rw [← hr] at hC
  exact J.callV (C := RX3) (y := yX3_of) (My := mX3_of) (As := [a0]) (na := 1) (idx := 29) (P := PM g adr r φ) hC (by rw [hM]; exact t_873) t_462 t_463 t_5 t_464 ⟨rfl, by decide +kernel, by decide +kernel, by decide +kernel⟩ rfl hs.1 o (ci := 3) (q := (RX3, TX3, 1)) rfl rfl (WM_get ho (by decide)) (Nat.le_of_ble_eq_true hW) d ⟨by rw [hs.2.1.1]; exact hs.2.2.1, by rw [hs.2.1.2]; exact hs.2.2.2⟩ (fun v w' hp => by obtain ⟨μ', rfl, h1, h2⟩ := hp; rw [hr] at h1; cases h1; rw [hs.2.1.1, hs.2.1.2]; exact K μ' h2) (fun E w' hp => by obtain ⟨μ', rfl, h1, h2⟩ := hp; rw [hr] at h1; cases h1)
theorem cl_X6_43 (hM : M.1 = RX6) {o : Nat} (ho : kt o = 2) {a0 : Value} {Ry : Room} {k' n' : Nat} {φ : Mem → Prop} (hC : CT g yX0_copyFrom mX0_copyFrom Ry (WM g adr μ) (.ref (adr o) :: [a0]) (PM g adr (.inl none) φ)) (hs : (Ry.frames + 1 ≤ R.frames ∧ 8 + (2 + 11) + Ry.locals ≤ R.locals) ∧ (k + Ry.cells = k' ∧ n + Ry.slots = n') ∧ k' ≤ R.cells ∧ n' ≤ R.slots) (hW : Nat.ble ((st.map fun v => v.category).sum) 8 = true) (d : decode M.2.1 pc = .ok (.invokevirtual 43, 3)) (K : ∀ μ', φ μ' → J g M R Q k' n' (WM g adr μ') (pc + 3) l st) : J g M R Q k n (WM g adr μ) pc l (a0 :: .ref (adr o) :: st) := by
  obtain ⟨r, hr⟩ : ∃ r : Option Value ⊕ String, r = .inl none := ⟨_, rfl⟩
  rw [← hr] at hC
  exact J.callV (C := RX0) (y := yX0_copyFrom) (My := mX0_copyFrom) (As := [a0]) (na := 1) (idx := 43) (P := PM g adr r φ) hC (by rw [hM]; exact t_310) t_311 t_312 t_3 t_313 ⟨rfl, by decide +kernel, by decide +kernel, by decide +kernel⟩ rfl hs.1 o (ci := 0) (q := (RX0, TX0, 3)) rfl rfl (WM_get ho (by decide)) (Nat.le_of_ble_eq_true hW) d ⟨by rw [hs.2.1.1]; exact hs.2.2.1, by rw [hs.2.1.2]; exact hs.2.2.2⟩ (fun v w' hp => by obtain ⟨μ', rfl, h1, h2⟩ := hp; rw [hr] at h1; cases h1; rw [hs.2.1.1, hs.2.1.2]; exact K μ' h2) (fun E w' hp => by obtain ⟨μ', rfl, h1, h2⟩ := hp; rw [hr] at h1; cases h1)
theorem cl_X6_47 (hM : M.1 = RX6) {o : Nat} (ho : kt o = 3) {a0 : Value} {Ry : Room} {k' n' : Nat} {φ : Mem → Prop} (hC : CT g yX1_copyFrom mX1_copyFrom Ry (WM g adr μ) (.ref (adr o) :: [a0]) (PM g adr (.inl none) φ)) (hs : (Ry.frames + 1 ≤ R.frames ∧ 8 + (2 + 11) + Ry.locals ≤ R.locals) ∧ (k + Ry.cells = k' ∧ n + Ry.slots = n') ∧ k' ≤ R.cells ∧ n' ≤ R.slots) (hW : Nat.ble ((st.map fun v => v.category).sum) 8 = true) (d : decode M.2.1 pc = .ok (.invokevirtual 47, 3)) (K : ∀ μ', φ μ' → J g M R Q k' n' (WM g adr μ') (pc + 3) l st) : J g M R Q k n (WM g adr μ) pc l (a0 :: .ref (adr o) :: st) := by
  obtain ⟨r, hr⟩ : ∃ r : Option Value ⊕ String, r = .inl none := ⟨_, rfl⟩
  rw [← hr] at hC
  exact J.callV (C := RX1) (y := yX1_copyFrom) (My := mX1_copyFrom) (As := [a0]) (na := 1) (idx := 47) (P := PM g adr r φ) hC (by rw [hM]; exact t_317) t_318 t_319 t_4 t_320 ⟨rfl, by decide +kernel, by decide +kernel, by decide +kernel⟩ rfl hs.1 o (ci := 1) (q := (RX1, TX1, 2)) rfl rfl (WM_get ho (by decide)) (Nat.le_of_ble_eq_true hW) d ⟨by rw [hs.2.1.1]; exact hs.2.2.1, by rw [hs.2.1.2]; exact hs.2.2.2⟩ (fun v w' hp => by obtain ⟨μ', rfl, h1, h2⟩ := hp; rw [hr] at h1; cases h1; rw [hs.2.1.1, hs.2.1.2]; exact K μ' h2) (fun E w' hp => by obtain ⟨μ', rfl, h1, h2⟩ := hp; rw [hr] at h1; cases h1)
theorem cl_X6_50 (hM : M.1 = RX6) {o : Nat} (ho : kt o = 1) {a0 : Value} {Ry : Room} {k' n' : Nat} {φ : Mem → Prop} (hC : CT g yX3_toCopy mX3_toCopy Ry (WM g adr μ) (.ref (adr o) :: [a0]) (PM g adr (.inl none) φ)) (hs : (Ry.frames + 1 ≤ R.frames ∧ 8 + (3 + 11) + Ry.locals ≤ R.locals) ∧ (k + Ry.cells = k' ∧ n + Ry.slots = n') ∧ k' ≤ R.cells ∧ n' ≤ R.slots) (hW : Nat.ble ((st.map fun v => v.category).sum) 8 = true) (d : decode M.2.1 pc = .ok (.invokevirtual 50, 3)) (K : ∀ μ', φ μ' → J g M R Q k' n' (WM g adr μ') (pc + 3) l st) : J g M R Q k n (WM g adr μ) pc l (a0 :: .ref (adr o) :: st) := by
  obtain ⟨r, hr⟩ : ∃ r : Option Value ⊕ String, r = .inl none := ⟨_, rfl⟩
  rw [← hr] at hC
  exact J.callV (C := RX3) (y := yX3_toCopy) (My := mX3_toCopy) (As := [a0]) (na := 1) (idx := 50) (P := PM g adr r φ) hC (by rw [hM]; exact t_322) t_270 t_271 t_5 t_272 ⟨rfl, by decide +kernel, by decide +kernel, by decide +kernel⟩ rfl hs.1 o (ci := 3) (q := (RX3, TX3, 1)) rfl rfl (WM_get ho (by decide)) (Nat.le_of_ble_eq_true hW) d ⟨by rw [hs.2.1.1]; exact hs.2.2.1, by rw [hs.2.1.2]; exact hs.2.2.2⟩ (fun v w' hp => by obtain ⟨μ', rfl, h1, h2⟩ := hp; rw [hr] at h1; cases h1; rw [hs.2.1.1, hs.2.1.2]; exact K μ' h2) (fun E w' hp => by obtain ⟨μ', rfl, h1, h2⟩ := hp; rw [hr] at h1; cases h1)
theorem cl_X6_54 (hM : M.1 = RX6) {a0 a1 : Value} {Ry : Room} {k' n' : Nat} {x : Value} {φ : Mem → Prop} (hC : CT g yX7_isIndex mX7_isIndex Ry (WM g adr μ) [a0, a1] (PM g adr (.inl (some x)) φ)) (hs : (Ry.frames + 1 ≤ R.frames ∧ 8 + (2 + 11) + Ry.locals ≤ R.locals) ∧ (k + Ry.cells = k' ∧ n + Ry.slots = n') ∧ k' ≤ R.cells ∧ n' ≤ R.slots) (hW : Nat.ble ((st.map fun v => v.category).sum) 8 = true) (d : decode M.2.1 pc = .ok (.invokestatic 54, 3)) (K : ∀ μ', φ μ' → J g M R Q k' n' (WM g adr μ') (pc + 3) l (x :: st)) : J g M R Q k n (WM g adr μ) pc l (a1 :: a0 :: st) := by
  obtain ⟨r, hr⟩ : ∃ r : Option Value ⊕ String, r = .inl (some x) := ⟨_, rfl⟩
  rw [← hr] at hC
  exact J.callSN (y := yX7_isIndex) (My := mX7_isIndex) (As := [a0, a1]) (na := 2) (idx := 54) (host := RX7) (P := PM g adr r φ) hC (by rw [hM]; exact t_260) t_212 t_1 t_213 ⟨by decide +kernel, by decide +kernel, by decide +kernel⟩ rfl hs.1 (Nat.le_of_ble_eq_true hW) d ⟨by rw [hs.2.1.1]; exact hs.2.2.1, by rw [hs.2.1.2]; exact hs.2.2.2⟩ (fun v w' hp => by obtain ⟨μ', rfl, h1, h2⟩ := hp; rw [hr] at h1; cases h1; rw [hs.2.1.1, hs.2.1.2]; exact K μ' h2) (fun E w' hp => by obtain ⟨μ', rfl, h1, h2⟩ := hp; rw [hr] at h1; cases h1)
theorem cx_X6_54 (hM : M.1 = RX6) {a0 a1 : Value} {Ry : Room} {k' n' : Nat} {E : String} {φ : Mem → Prop} (hC : CT g yX7_isIndex mX7_isIndex Ry (WM g adr μ) [a0, a1] (PM g adr (.inr E) φ)) (hs : (Ry.frames + 1 ≤ R.frames ∧ 8 + (2 + 11) + Ry.locals ≤ R.locals) ∧ (k + Ry.cells = k' ∧ n + Ry.slots = n') ∧ k' ≤ R.cells ∧ n' ≤ R.slots) (hW : Nat.ble ((st.map fun v => v.category).sum) 8 = true) (d : decode M.2.1 pc = .ok (.invokestatic 54, 3)) (K : ∀ μ', φ μ' → JX g M R Q k' n' (WM g adr μ') pc l st E) : J g M R Q k n (WM g adr μ) pc l (a1 :: a0 :: st) := by
  obtain ⟨r, hr⟩ : ∃ r : Option Value ⊕ String, r = .inr E := ⟨_, rfl⟩
  rw [← hr] at hC
  exact J.callSN (y := yX7_isIndex) (My := mX7_isIndex) (As := [a0, a1]) (na := 2) (idx := 54) (host := RX7) (P := PM g adr r φ) hC (by rw [hM]; exact t_260) t_212 t_1 t_213 ⟨by decide +kernel, by decide +kernel, by decide +kernel⟩ rfl hs.1 (Nat.le_of_ble_eq_true hW) d ⟨by rw [hs.2.1.1]; exact hs.2.2.1, by rw [hs.2.1.2]; exact hs.2.2.2⟩ (fun v w' hp => by obtain ⟨μ', rfl, h1, h2⟩ := hp; rw [hr] at h1; cases h1) (fun E w' hp => by obtain ⟨μ', rfl, h1, h2⟩ := hp; rw [hr] at h1; cases h1; rw [hs.2.1.1, hs.2.1.2]; exact K μ' h2)
theorem cl_L_7 (hM : M.1 = RL) {o : Nat} (ho : kt o = 13) {a0 a1 : Value} {Ry : Room} {k' n' : Nat} {x : Value} {φ : Mem → Prop} (hC : CT g yX7_turn mX7_turn Ry (WM g adr μ) (.ref (adr o) :: [a0, a1]) (PM g adr (.inl (some x)) φ)) (hs : (Ry.frames + 1 ≤ R.frames ∧ 8 + (3 + 11) + Ry.locals ≤ R.locals) ∧ (k + Ry.cells = k' ∧ n + Ry.slots = n') ∧ k' ≤ R.cells ∧ n' ≤ R.slots) (hW : Nat.ble ((st.map fun v => v.category).sum) 8 = true) (d : decode M.2.1 pc = .ok (.invokevirtual 7, 3)) (K : ∀ μ', φ μ' → J g M R Q k' n' (WM g adr μ') (pc + 3) l (x :: st)) : J g M R Q k n (WM g adr μ) pc l (a1 :: a0 :: .ref (adr o) :: st) := by
  obtain ⟨r, hr⟩ : ∃ r : Option Value ⊕ String, r = .inl (some x) := ⟨_, rfl⟩
  rw [← hr] at hC
  exact J.callV (C := RX7) (y := yX7_turn) (My := mX7_turn) (As := [a0, a1]) (na := 2) (idx := 7) (P := PM g adr r φ) hC (by rw [hM]; exact t_332) t_333 t_334 t_1 t_335 ⟨rfl, by decide +kernel, by decide +kernel, by decide +kernel⟩ rfl hs.1 o (ci := 7) (q := (RX7, TX7, 11)) rfl rfl (WM_get ho (by decide)) (Nat.le_of_ble_eq_true hW) d ⟨by rw [hs.2.1.1]; exact hs.2.2.1, by rw [hs.2.1.2]; exact hs.2.2.2⟩ (fun v w' hp => by obtain ⟨μ', rfl, h1, h2⟩ := hp; rw [hr] at h1; cases h1; rw [hs.2.1.1, hs.2.1.2]; exact K μ' h2) (fun E w' hp => by obtain ⟨μ', rfl, h1, h2⟩ := hp; rw [hr] at h1; cases h1)
theorem cx_L_7 (hM : M.1 = RL) {o : Nat} (ho : kt o = 13) {a0 a1 : Value} {Ry : Room} {k' n' : Nat} {E : String} {φ : Mem → Prop} (hC : CT g yX7_turn mX7_turn Ry (WM g adr μ) (.ref (adr o) :: [a0, a1]) (PM g adr (.inr E) φ)) (hs : (Ry.frames + 1 ≤ R.frames ∧ 8 + (3 + 11) + Ry.locals ≤ R.locals) ∧ (k + Ry.cells = k' ∧ n + Ry.slots = n') ∧ k' ≤ R.cells ∧ n' ≤ R.slots) (hW : Nat.ble ((st.map fun v => v.category).sum) 8 = true) (d : decode M.2.1 pc = .ok (.invokevirtual 7, 3)) (K : ∀ μ', φ μ' → JX g M R Q k' n' (WM g adr μ') pc l st E) : J g M R Q k n (WM g adr μ) pc l (a1 :: a0 :: .ref (adr o) :: st) := by
  obtain ⟨r, hr⟩ : ∃ r : Option Value ⊕ String, r = .inr E := ⟨_, rfl⟩
  rw [← hr] at hC
  exact J.callV (C := RX7) (y := yX7_turn) (My := mX7_turn) (As := [a0, a1]) (na := 2) (idx := 7) (P := PM g adr r φ) hC (by rw [hM]; exact t_332) t_333 t_334 t_1 t_335 ⟨rfl, by decide +kernel, by decide +kernel, by decide +kernel⟩ rfl hs.1 o (ci := 7) (q := (RX7, TX7, 11)) rfl rfl (WM_get ho (by decide)) (Nat.le_of_ble_eq_true hW) d ⟨by rw [hs.2.1.1]; exact hs.2.2.1, by rw [hs.2.1.2]; exact hs.2.2.2⟩ (fun v w' hp => by obtain ⟨μ', rfl, h1, h2⟩ := hp; rw [hr] at h1; cases h1) (fun E w' hp => by obtain ⟨μ', rfl, h1, h2⟩ := hp; rw [hr] at h1; cases h1; rw [hs.2.1.1, hs.2.1.2]; exact K μ' h2)
theorem cl_L_17 (hM : M.1 = RL) {o : Nat} (ho : kt o = 13) {a0 a1 : Value} {Ry : Room} {k' n' : Nat} {x : Value} {φ : Mem → Prop} (hC : CT g yX7_shift mX7_shift Ry (WM g adr μ) (.ref (adr o) :: [a0, a1]) (PM g adr (.inl (some x)) φ)) (hs : (Ry.frames + 1 ≤ R.frames ∧ 8 + (3 + 11) + Ry.locals ≤ R.locals) ∧ (k + Ry.cells = k' ∧ n + Ry.slots = n') ∧ k' ≤ R.cells ∧ n' ≤ R.slots) (hW : Nat.ble ((st.map fun v => v.category).sum) 8 = true) (d : decode M.2.1 pc = .ok (.invokevirtual 17, 3)) (K : ∀ μ', φ μ' → J g M R Q k' n' (WM g adr μ') (pc + 3) l (x :: st)) : J g M R Q k n (WM g adr μ) pc l (a1 :: a0 :: .ref (adr o) :: st) := by
  obtain ⟨r, hr⟩ : ∃ r : Option Value ⊕ String, r = .inl (some x) := ⟨_, rfl⟩
  rw [← hr] at hC
  exact J.callV (C := RX7) (y := yX7_shift) (My := mX7_shift) (As := [a0, a1]) (na := 2) (idx := 17) (P := PM g adr r φ) hC (by rw [hM]; exact t_473) t_474 t_475 t_1 t_476 ⟨rfl, by decide +kernel, by decide +kernel, by decide +kernel⟩ rfl hs.1 o (ci := 7) (q := (RX7, TX7, 11)) rfl rfl (WM_get ho (by decide)) (Nat.le_of_ble_eq_true hW) d ⟨by rw [hs.2.1.1]; exact hs.2.2.1, by rw [hs.2.1.2]; exact hs.2.2.2⟩ (fun v w' hp => by obtain ⟨μ', rfl, h1, h2⟩ := hp; rw [hr] at h1; cases h1; rw [hs.2.1.1, hs.2.1.2]; exact K μ' h2) (fun E w' hp => by obtain ⟨μ', rfl, h1, h2⟩ := hp; rw [hr] at h1; cases h1)
theorem cx_L_17 (hM : M.1 = RL) {o : Nat} (ho : kt o = 13) {a0 a1 : Value} {Ry : Room} {k' n' : Nat} {E : String} {φ : Mem → Prop} (hC : CT g yX7_shift mX7_shift Ry (WM g adr μ) (.ref (adr o) :: [a0, a1]) (PM g adr (.inr E) φ)) (hs : (Ry.frames + 1 ≤ R.frames ∧ 8 + (3 + 11) + Ry.locals ≤ R.locals) ∧ (k + Ry.cells = k' ∧ n + Ry.slots = n') ∧ k' ≤ R.cells ∧ n' ≤ R.slots) (hW : Nat.ble ((st.map fun v => v.category).sum) 8 = true) (d : decode M.2.1 pc = .ok (.invokevirtual 17, 3)) (K : ∀ μ', φ μ' → JX g M R Q k' n' (WM g adr μ') pc l st E) : J g M R Q k n (WM g adr μ) pc l (a1 :: a0 :: .ref (adr o) :: st) := by
  obtain ⟨r, hr⟩ : ∃ r : Option Value ⊕ String, r = .inr E := ⟨_, rfl⟩
  rw [← hr] at hC
  exact J.callV (C := RX7) (y := yX7_shift) (My := mX7_shift) (As := [a0, a1]) (na := 2) (idx := 17) (P := PM g adr r φ) hC (by rw [hM]; exact t_473) t_474 t_475 t_1 t_476 ⟨rfl, by decide +kernel, by decide +kernel, by decide +kernel⟩ rfl hs.1 o (ci := 7) (q := (RX7, TX7, 11)) rfl rfl (WM_get ho (by decide)) (Nat.le_of_ble_eq_true hW) d ⟨by rw [hs.2.1.1]; exact hs.2.2.1, by rw [hs.2.1.2]; exact hs.2.2.2⟩ (fun v w' hp => by obtain ⟨μ', rfl, h1, h2⟩ := hp; rw [hr] at h1; cases h1) (fun E w' hp => by obtain ⟨μ', rfl, h1, h2⟩ := hp; rw [hr] at h1; cases h1; rw [hs.2.1.1, hs.2.1.2]; exact K μ' h2)
theorem cl_L_20 (hM : M.1 = RL) {o : Nat} (ho : kt o = 13) {Ry : Room} {k' n' : Nat} {x : Value} {φ : Mem → Prop} (hC : CT g yX7_back mX7_back Ry (WM g adr μ) (.ref (adr o) :: []) (PM g adr (.inl (some x)) φ)) (hs : (Ry.frames + 1 ≤ R.frames ∧ 8 + (3 + 11) + Ry.locals ≤ R.locals) ∧ (k + Ry.cells = k' ∧ n + Ry.slots = n') ∧ k' ≤ R.cells ∧ n' ≤ R.slots) (hW : Nat.ble ((st.map fun v => v.category).sum) 8 = true) (d : decode M.2.1 pc = .ok (.invokevirtual 20, 3)) (K : ∀ μ', φ μ' → J g M R Q k' n' (WM g adr μ') (pc + 3) l (x :: st)) : J g M R Q k n (WM g adr μ) pc l (.ref (adr o) :: st) := by
  obtain ⟨r, hr⟩ : ∃ r : Option Value ⊕ String, r = .inl (some x) := ⟨_, rfl⟩
  rw [← hr] at hC
  exact J.callV (C := RX7) (y := yX7_back) (My := mX7_back) (As := []) (na := 0) (idx := 20) (P := PM g adr r φ) hC (by rw [hM]; exact t_481) t_482 t_483 t_1 t_484 ⟨rfl, by decide +kernel, by decide +kernel, by decide +kernel⟩ rfl hs.1 o (ci := 7) (q := (RX7, TX7, 11)) rfl rfl (WM_get ho (by decide)) (Nat.le_of_ble_eq_true hW) d ⟨by rw [hs.2.1.1]; exact hs.2.2.1, by rw [hs.2.1.2]; exact hs.2.2.2⟩ (fun v w' hp => by obtain ⟨μ', rfl, h1, h2⟩ := hp; rw [hr] at h1; cases h1; rw [hs.2.1.1, hs.2.1.2]; exact K μ' h2) (fun E w' hp => by obtain ⟨μ', rfl, h1, h2⟩ := hp; rw [hr] at h1; cases h1)
theorem cx_L_20 (hM : M.1 = RL) {o : Nat} (ho : kt o = 13) {Ry : Room} {k' n' : Nat} {E : String} {φ : Mem → Prop} (hC : CT g yX7_back mX7_back Ry (WM g adr μ) (.ref (adr o) :: []) (PM g adr (.inr E) φ)) (hs : (Ry.frames + 1 ≤ R.frames ∧ 8 + (3 + 11) + Ry.locals ≤ R.locals) ∧ (k + Ry.cells = k' ∧ n + Ry.slots = n') ∧ k' ≤ R.cells ∧ n' ≤ R.slots) (hW : Nat.ble ((st.map fun v => v.category).sum) 8 = true) (d : decode M.2.1 pc = .ok (.invokevirtual 20, 3)) (K : ∀ μ', φ μ' → JX g M R Q k' n' (WM g adr μ') pc l st E) : J g M R Q k n (WM g adr μ) pc l (.ref (adr o) :: st) := by
  obtain ⟨r, hr⟩ : ∃ r : Option Value ⊕ String, r = .inr E := ⟨_, rfl⟩
  rw [← hr] at hC
  exact J.callV (C := RX7) (y := yX7_back) (My := mX7_back) (As := []) (na := 0) (idx := 20) (P := PM g adr r φ) hC (by rw [hM]; exact t_481) t_482 t_483 t_1 t_484 ⟨rfl, by decide +kernel, by decide +kernel, by decide +kernel⟩ rfl hs.1 o (ci := 7) (q := (RX7, TX7, 11)) rfl rfl (WM_get ho (by decide)) (Nat.le_of_ble_eq_true hW) d ⟨by rw [hs.2.1.1]; exact hs.2.2.1, by rw [hs.2.1.2]; exact hs.2.2.2⟩ (fun v w' hp => by obtain ⟨μ', rfl, h1, h2⟩ := hp; rw [hr] at h1; cases h1) (fun E w' hp => by obtain ⟨μ', rfl, h1, h2⟩ := hp; rw [hr] at h1; cases h1; rw [hs.2.1.1, hs.2.1.2]; exact K μ' h2)
theorem cl_L_26 (hM : M.1 = RL) {o : Nat} (ho : kt o = 13) {a0 a1 : Value} {Ry : Room} {k' n' : Nat} {x : Value} {φ : Mem → Prop} (hC : CT g yX7_scramble mX7_scramble Ry (WM g adr μ) (.ref (adr o) :: [a0, a1]) (PM g adr (.inl (some x)) φ)) (hs : (Ry.frames + 1 ≤ R.frames ∧ 8 + (5 + 11) + Ry.locals ≤ R.locals) ∧ (k + Ry.cells = k' ∧ n + Ry.slots = n') ∧ k' ≤ R.cells ∧ n' ≤ R.slots) (hW : Nat.ble ((st.map fun v => v.category).sum) 8 = true) (d : decode M.2.1 pc = .ok (.invokevirtual 26, 3)) (K : ∀ μ', φ μ' → J g M R Q k' n' (WM g adr μ') (pc + 3) l (x :: st)) : J g M R Q k n (WM g adr μ) pc l (a1 :: a0 :: .ref (adr o) :: st) := by
  obtain ⟨r, hr⟩ : ∃ r : Option Value ⊕ String, r = .inl (some x) := ⟨_, rfl⟩
  rw [← hr] at hC
  exact J.callV (C := RX7) (y := yX7_scramble) (My := mX7_scramble) (As := [a0, a1]) (na := 2) (idx := 26) (P := PM g adr r φ) hC (by rw [hM]; exact t_515) t_516 t_517 t_1 t_518 ⟨rfl, by decide +kernel, by decide +kernel, by decide +kernel⟩ rfl hs.1 o (ci := 7) (q := (RX7, TX7, 11)) rfl rfl (WM_get ho (by decide)) (Nat.le_of_ble_eq_true hW) d ⟨by rw [hs.2.1.1]; exact hs.2.2.1, by rw [hs.2.1.2]; exact hs.2.2.2⟩ (fun v w' hp => by obtain ⟨μ', rfl, h1, h2⟩ := hp; rw [hr] at h1; cases h1; rw [hs.2.1.1, hs.2.1.2]; exact K μ' h2) (fun E w' hp => by obtain ⟨μ', rfl, h1, h2⟩ := hp; rw [hr] at h1; cases h1)
theorem cx_L_26 (hM : M.1 = RL) {o : Nat} (ho : kt o = 13) {a0 a1 : Value} {Ry : Room} {k' n' : Nat} {E : String} {φ : Mem → Prop} (hC : CT g yX7_scramble mX7_scramble Ry (WM g adr μ) (.ref (adr o) :: [a0, a1]) (PM g adr (.inr E) φ)) (hs : (Ry.frames + 1 ≤ R.frames ∧ 8 + (5 + 11) + Ry.locals ≤ R.locals) ∧ (k + Ry.cells = k' ∧ n + Ry.slots = n') ∧ k' ≤ R.cells ∧ n' ≤ R.slots) (hW : Nat.ble ((st.map fun v => v.category).sum) 8 = true) (d : decode M.2.1 pc = .ok (.invokevirtual 26, 3)) (K : ∀ μ', φ μ' → JX g M R Q k' n' (WM g adr μ') pc l st E) : J g M R Q k n (WM g adr μ) pc l (a1 :: a0 :: .ref (adr o) :: st) := by
  obtain ⟨r, hr⟩ : ∃ r : Option Value ⊕ String, r = .inr E := ⟨_, rfl⟩
  rw [← hr] at hC
  exact J.callV (C := RX7) (y := yX7_scramble) (My := mX7_scramble) (As := [a0, a1]) (na := 2) (idx := 26) (P := PM g adr r φ) hC (by rw [hM]; exact t_515) t_516 t_517 t_1 t_518 ⟨rfl, by decide +kernel, by decide +kernel, by decide +kernel⟩ rfl hs.1 o (ci := 7) (q := (RX7, TX7, 11)) rfl rfl (WM_get ho (by decide)) (Nat.le_of_ble_eq_true hW) d ⟨by rw [hs.2.1.1]; exact hs.2.2.1, by rw [hs.2.1.2]; exact hs.2.2.2⟩ (fun v w' hp => by obtain ⟨μ', rfl, h1, h2⟩ := hp; rw [hr] at h1; cases h1) (fun E w' hp => by obtain ⟨μ', rfl, h1, h2⟩ := hp; rw [hr] at h1; cases h1; rw [hs.2.1.1, hs.2.1.2]; exact K μ' h2)
theorem cl_L_29 (hM : M.1 = RL) {o : Nat} (ho : kt o = 13) {a0 a1 : Value} {Ry : Room} {k' n' : Nat} {x : Value} {φ : Mem → Prop} (hC : CT g yX7_logOf mX7_logOf Ry (WM g adr μ) (.ref (adr o) :: [a0, a1]) (PM g adr (.inl (some x)) φ)) (hs : (Ry.frames + 1 ≤ R.frames ∧ 8 + (3 + 11) + Ry.locals ≤ R.locals) ∧ (k + Ry.cells = k' ∧ n + Ry.slots = n') ∧ k' ≤ R.cells ∧ n' ≤ R.slots) (hW : Nat.ble ((st.map fun v => v.category).sum) 8 = true) (d : decode M.2.1 pc = .ok (.invokevirtual 29, 3)) (K : ∀ μ', φ μ' → J g M R Q k' n' (WM g adr μ') (pc + 3) l (x :: st)) : J g M R Q k n (WM g adr μ) pc l (a1 :: a0 :: .ref (adr o) :: st) := by
  obtain ⟨r, hr⟩ : ∃ r : Option Value ⊕ String, r = .inl (some x) := ⟨_, rfl⟩
  rw [← hr] at hC
  exact J.callV (C := RX7) (y := yX7_logOf) (My := mX7_logOf) (As := [a0, a1]) (na := 2) (idx := 29) (P := PM g adr r φ) hC (by rw [hM]; exact t_523) t_524 t_525 t_1 t_526 ⟨rfl, by decide +kernel, by decide +kernel, by decide +kernel⟩ rfl hs.1 o (ci := 7) (q := (RX7, TX7, 11)) rfl rfl (WM_get ho (by decide)) (Nat.le_of_ble_eq_true hW) d ⟨by rw [hs.2.1.1]; exact hs.2.2.1, by rw [hs.2.1.2]; exact hs.2.2.2⟩ (fun v w' hp => by obtain ⟨μ', rfl, h1, h2⟩ := hp; rw [hr] at h1; cases h1; rw [hs.2.1.1, hs.2.1.2]; exact K μ' h2) (fun E w' hp => by obtain ⟨μ', rfl, h1, h2⟩ := hp; rw [hr] at h1; cases h1)
theorem cx_L_29 (hM : M.1 = RL) {o : Nat} (ho : kt o = 13) {a0 a1 : Value} {Ry : Room} {k' n' : Nat} {E : String} {φ : Mem → Prop} (hC : CT g yX7_logOf mX7_logOf Ry (WM g adr μ) (.ref (adr o) :: [a0, a1]) (PM g adr (.inr E) φ)) (hs : (Ry.frames + 1 ≤ R.frames ∧ 8 + (3 + 11) + Ry.locals ≤ R.locals) ∧ (k + Ry.cells = k' ∧ n + Ry.slots = n') ∧ k' ≤ R.cells ∧ n' ≤ R.slots) (hW : Nat.ble ((st.map fun v => v.category).sum) 8 = true) (d : decode M.2.1 pc = .ok (.invokevirtual 29, 3)) (K : ∀ μ', φ μ' → JX g M R Q k' n' (WM g adr μ') pc l st E) : J g M R Q k n (WM g adr μ) pc l (a1 :: a0 :: .ref (adr o) :: st) := by
  obtain ⟨r, hr⟩ : ∃ r : Option Value ⊕ String, r = .inr E := ⟨_, rfl⟩
  rw [← hr] at hC
  exact J.callV (C := RX7) (y := yX7_logOf) (My := mX7_logOf) (As := [a0, a1]) (na := 2) (idx := 29) (P := PM g adr r φ) hC (by rw [hM]; exact t_523) t_524 t_525 t_1 t_526 ⟨rfl, by decide +kernel, by decide +kernel, by decide +kernel⟩ rfl hs.1 o (ci := 7) (q := (RX7, TX7, 11)) rfl rfl (WM_get ho (by decide)) (Nat.le_of_ble_eq_true hW) d ⟨by rw [hs.2.1.1]; exact hs.2.2.1, by rw [hs.2.1.2]; exact hs.2.2.2⟩ (fun v w' hp => by obtain ⟨μ', rfl, h1, h2⟩ := hp; rw [hr] at h1; cases h1) (fun E w' hp => by obtain ⟨μ', rfl, h1, h2⟩ := hp; rw [hr] at h1; cases h1; rw [hs.2.1.1, hs.2.1.2]; exact K μ' h2)
theorem cl_L_32 (hM : M.1 = RL) {o : Nat} (ho : kt o = 13) {a0 : Value} {Ry : Room} {k' n' : Nat} {x : Value} {φ : Mem → Prop} (hC : CT g yX7_at mX7_at Ry (WM g adr μ) (.ref (adr o) :: [a0]) (PM g adr (.inl (some x)) φ)) (hs : (Ry.frames + 1 ≤ R.frames ∧ 8 + (2 + 11) + Ry.locals ≤ R.locals) ∧ (k + Ry.cells = k' ∧ n + Ry.slots = n') ∧ k' ≤ R.cells ∧ n' ≤ R.slots) (hW : Nat.ble ((st.map fun v => v.category).sum) 8 = true) (d : decode M.2.1 pc = .ok (.invokevirtual 32, 3)) (K : ∀ μ', φ μ' → J g M R Q k' n' (WM g adr μ') (pc + 3) l (x :: st)) : J g M R Q k n (WM g adr μ) pc l (a0 :: .ref (adr o) :: st) := by
  obtain ⟨r, hr⟩ : ∃ r : Option Value ⊕ String, r = .inl (some x) := ⟨_, rfl⟩
  rw [← hr] at hC
  exact J.callV (C := RX7) (y := yX7_at) (My := mX7_at) (As := [a0]) (na := 1) (idx := 32) (P := PM g adr r φ) hC (by rw [hM]; exact t_530) t_531 t_532 t_1 t_533 ⟨rfl, by decide +kernel, by decide +kernel, by decide +kernel⟩ rfl hs.1 o (ci := 7) (q := (RX7, TX7, 11)) rfl rfl (WM_get ho (by decide)) (Nat.le_of_ble_eq_true hW) d ⟨by rw [hs.2.1.1]; exact hs.2.2.1, by rw [hs.2.1.2]; exact hs.2.2.2⟩ (fun v w' hp => by obtain ⟨μ', rfl, h1, h2⟩ := hp; rw [hr] at h1; cases h1; rw [hs.2.1.1, hs.2.1.2]; exact K μ' h2) (fun E w' hp => by obtain ⟨μ', rfl, h1, h2⟩ := hp; rw [hr] at h1; cases h1)
theorem cx_L_32 (hM : M.1 = RL) {o : Nat} (ho : kt o = 13) {a0 : Value} {Ry : Room} {k' n' : Nat} {E : String} {φ : Mem → Prop} (hC : CT g yX7_at mX7_at Ry (WM g adr μ) (.ref (adr o) :: [a0]) (PM g adr (.inr E) φ)) (hs : (Ry.frames + 1 ≤ R.frames ∧ 8 + (2 + 11) + Ry.locals ≤ R.locals) ∧ (k + Ry.cells = k' ∧ n + Ry.slots = n') ∧ k' ≤ R.cells ∧ n' ≤ R.slots) (hW : Nat.ble ((st.map fun v => v.category).sum) 8 = true) (d : decode M.2.1 pc = .ok (.invokevirtual 32, 3)) (K : ∀ μ', φ μ' → JX g M R Q k' n' (WM g adr μ') pc l st E) : J g M R Q k n (WM g adr μ) pc l (a0 :: .ref (adr o) :: st) := by
  obtain ⟨r, hr⟩ : ∃ r : Option Value ⊕ String, r = .inr E := ⟨_, rfl⟩
  rw [← hr] at hC
  exact J.callV (C := RX7) (y := yX7_at) (My := mX7_at) (As := [a0]) (na := 1) (idx := 32) (P := PM g adr r φ) hC (by rw [hM]; exact t_530) t_531 t_532 t_1 t_533 ⟨rfl, by decide +kernel, by decide +kernel, by decide +kernel⟩ rfl hs.1 o (ci := 7) (q := (RX7, TX7, 11)) rfl rfl (WM_get ho (by decide)) (Nat.le_of_ble_eq_true hW) d ⟨by rw [hs.2.1.1]; exact hs.2.2.1, by rw [hs.2.1.2]; exact hs.2.2.2⟩ (fun v w' hp => by obtain ⟨μ', rfl, h1, h2⟩ := hp; rw [hr] at h1; cases h1) (fun E w' hp => by obtain ⟨μ', rfl, h1, h2⟩ := hp; rw [hr] at h1; cases h1; rw [hs.2.1.1, hs.2.1.2]; exact K μ' h2)
theorem cl_L_36 (hM : M.1 = RL) {o : Nat} (ho : kt o = 13) {a0 : Value} {Ry : Room} {k' n' : Nat} {x : Value} {φ : Mem → Prop} (hC : CT g yX7_where mX7_where Ry (WM g adr μ) (.ref (adr o) :: [a0]) (PM g adr (.inl (some x)) φ)) (hs : (Ry.frames + 1 ≤ R.frames ∧ 8 + (2 + 11) + Ry.locals ≤ R.locals) ∧ (k + Ry.cells = k' ∧ n + Ry.slots = n') ∧ k' ≤ R.cells ∧ n' ≤ R.slots) (hW : Nat.ble ((st.map fun v => v.category).sum) 8 = true) (d : decode M.2.1 pc = .ok (.invokevirtual 36, 3)) (K : ∀ μ', φ μ' → J g M R Q k' n' (WM g adr μ') (pc + 3) l (x :: st)) : J g M R Q k n (WM g adr μ) pc l (a0 :: .ref (adr o) :: st) := by
  obtain ⟨r, hr⟩ : ∃ r : Option Value ⊕ String, r = .inl (some x) := ⟨_, rfl⟩
  rw [← hr] at hC
  exact J.callV (C := RX7) (y := yX7_where) (My := mX7_where) (As := [a0]) (na := 1) (idx := 36) (P := PM g adr r φ) hC (by rw [hM]; exact t_541) t_542 t_543 t_1 t_544 ⟨rfl, by decide +kernel, by decide +kernel, by decide +kernel⟩ rfl hs.1 o (ci := 7) (q := (RX7, TX7, 11)) rfl rfl (WM_get ho (by decide)) (Nat.le_of_ble_eq_true hW) d ⟨by rw [hs.2.1.1]; exact hs.2.2.1, by rw [hs.2.1.2]; exact hs.2.2.2⟩ (fun v w' hp => by obtain ⟨μ', rfl, h1, h2⟩ := hp; rw [hr] at h1; cases h1; rw [hs.2.1.1, hs.2.1.2]; exact K μ' h2) (fun E w' hp => by obtain ⟨μ', rfl, h1, h2⟩ := hp; rw [hr] at h1; cases h1)
theorem cx_L_36 (hM : M.1 = RL) {o : Nat} (ho : kt o = 13) {a0 : Value} {Ry : Room} {k' n' : Nat} {E : String} {φ : Mem → Prop} (hC : CT g yX7_where mX7_where Ry (WM g adr μ) (.ref (adr o) :: [a0]) (PM g adr (.inr E) φ)) (hs : (Ry.frames + 1 ≤ R.frames ∧ 8 + (2 + 11) + Ry.locals ≤ R.locals) ∧ (k + Ry.cells = k' ∧ n + Ry.slots = n') ∧ k' ≤ R.cells ∧ n' ≤ R.slots) (hW : Nat.ble ((st.map fun v => v.category).sum) 8 = true) (d : decode M.2.1 pc = .ok (.invokevirtual 36, 3)) (K : ∀ μ', φ μ' → JX g M R Q k' n' (WM g adr μ') pc l st E) : J g M R Q k n (WM g adr μ) pc l (a0 :: .ref (adr o) :: st) := by
  obtain ⟨r, hr⟩ : ∃ r : Option Value ⊕ String, r = .inr E := ⟨_, rfl⟩
  rw [← hr] at hC
  exact J.callV (C := RX7) (y := yX7_where) (My := mX7_where) (As := [a0]) (na := 1) (idx := 36) (P := PM g adr r φ) hC (by rw [hM]; exact t_541) t_542 t_543 t_1 t_544 ⟨rfl, by decide +kernel, by decide +kernel, by decide +kernel⟩ rfl hs.1 o (ci := 7) (q := (RX7, TX7, 11)) rfl rfl (WM_get ho (by decide)) (Nat.le_of_ble_eq_true hW) d ⟨by rw [hs.2.1.1]; exact hs.2.2.1, by rw [hs.2.1.2]; exact hs.2.2.2⟩ (fun v w' hp => by obtain ⟨μ', rfl, h1, h2⟩ := hp; rw [hr] at h1; cases h1) (fun E w' hp => by obtain ⟨μ', rfl, h1, h2⟩ := hp; rw [hr] at h1; cases h1; rw [hs.2.1.1, hs.2.1.2]; exact K μ' h2)
theorem cl_L_39 (hM : M.1 = RL) {o : Nat} (ho : kt o = 13) {a0 a1 : Value} {Ry : Room} {k' n' : Nat} {x : Value} {φ : Mem → Prop} (hC : CT g yX7_paint mX7_paint Ry (WM g adr μ) (.ref (adr o) :: [a0, a1]) (PM g adr (.inl (some x)) φ)) (hs : (Ry.frames + 1 ≤ R.frames ∧ 8 + (4 + 11) + Ry.locals ≤ R.locals) ∧ (k + Ry.cells = k' ∧ n + Ry.slots = n') ∧ k' ≤ R.cells ∧ n' ≤ R.slots) (hW : Nat.ble ((st.map fun v => v.category).sum) 8 = true) (d : decode M.2.1 pc = .ok (.invokevirtual 39, 3)) (K : ∀ μ', φ μ' → J g M R Q k' n' (WM g adr μ') (pc + 3) l (x :: st)) : J g M R Q k n (WM g adr μ) pc l (a1 :: a0 :: .ref (adr o) :: st) := by
  obtain ⟨r, hr⟩ : ∃ r : Option Value ⊕ String, r = .inl (some x) := ⟨_, rfl⟩
  rw [← hr] at hC
  exact J.callV (C := RX7) (y := yX7_paint) (My := mX7_paint) (As := [a0, a1]) (na := 2) (idx := 39) (P := PM g adr r φ) hC (by rw [hM]; exact t_552) t_553 t_554 t_1 t_555 ⟨rfl, by decide +kernel, by decide +kernel, by decide +kernel⟩ rfl hs.1 o (ci := 7) (q := (RX7, TX7, 11)) rfl rfl (WM_get ho (by decide)) (Nat.le_of_ble_eq_true hW) d ⟨by rw [hs.2.1.1]; exact hs.2.2.1, by rw [hs.2.1.2]; exact hs.2.2.2⟩ (fun v w' hp => by obtain ⟨μ', rfl, h1, h2⟩ := hp; rw [hr] at h1; cases h1; rw [hs.2.1.1, hs.2.1.2]; exact K μ' h2) (fun E w' hp => by obtain ⟨μ', rfl, h1, h2⟩ := hp; rw [hr] at h1; cases h1)
theorem cx_L_39 (hM : M.1 = RL) {o : Nat} (ho : kt o = 13) {a0 a1 : Value} {Ry : Room} {k' n' : Nat} {E : String} {φ : Mem → Prop} (hC : CT g yX7_paint mX7_paint Ry (WM g adr μ) (.ref (adr o) :: [a0, a1]) (PM g adr (.inr E) φ)) (hs : (Ry.frames + 1 ≤ R.frames ∧ 8 + (4 + 11) + Ry.locals ≤ R.locals) ∧ (k + Ry.cells = k' ∧ n + Ry.slots = n') ∧ k' ≤ R.cells ∧ n' ≤ R.slots) (hW : Nat.ble ((st.map fun v => v.category).sum) 8 = true) (d : decode M.2.1 pc = .ok (.invokevirtual 39, 3)) (K : ∀ μ', φ μ' → JX g M R Q k' n' (WM g adr μ') pc l st E) : J g M R Q k n (WM g adr μ) pc l (a1 :: a0 :: .ref (adr o) :: st) := by
  obtain ⟨r, hr⟩ : ∃ r : Option Value ⊕ String, r = .inr E := ⟨_, rfl⟩
  rw [← hr] at hC
  exact J.callV (C := RX7) (y := yX7_paint) (My := mX7_paint) (As := [a0, a1]) (na := 2) (idx := 39) (P := PM g adr r φ) hC (by rw [hM]; exact t_552) t_553 t_554 t_1 t_555 ⟨rfl, by decide +kernel, by decide +kernel, by decide +kernel⟩ rfl hs.1 o (ci := 7) (q := (RX7, TX7, 11)) rfl rfl (WM_get ho (by decide)) (Nat.le_of_ble_eq_true hW) d ⟨by rw [hs.2.1.1]; exact hs.2.2.1, by rw [hs.2.1.2]; exact hs.2.2.2⟩ (fun v w' hp => by obtain ⟨μ', rfl, h1, h2⟩ := hp; rw [hr] at h1; cases h1) (fun E w' hp => by obtain ⟨μ', rfl, h1, h2⟩ := hp; rw [hr] at h1; cases h1; rw [hs.2.1.1, hs.2.1.2]; exact K μ' h2)
theorem cl_L_42 (hM : M.1 = RL) {o : Nat} (ho : kt o = 13) {a0 : Value} {Ry : Room} {k' n' : Nat} {x : Value} {φ : Mem → Prop} (hC : CT g yX7_colour mX7_colour Ry (WM g adr μ) (.ref (adr o) :: [a0]) (PM g adr (.inl (some x)) φ)) (hs : (Ry.frames + 1 ≤ R.frames ∧ 8 + (2 + 11) + Ry.locals ≤ R.locals) ∧ (k + Ry.cells = k' ∧ n + Ry.slots = n') ∧ k' ≤ R.cells ∧ n' ≤ R.slots) (hW : Nat.ble ((st.map fun v => v.category).sum) 8 = true) (d : decode M.2.1 pc = .ok (.invokevirtual 42, 3)) (K : ∀ μ', φ μ' → J g M R Q k' n' (WM g adr μ') (pc + 3) l (x :: st)) : J g M R Q k n (WM g adr μ) pc l (a0 :: .ref (adr o) :: st) := by
  obtain ⟨r, hr⟩ : ∃ r : Option Value ⊕ String, r = .inl (some x) := ⟨_, rfl⟩
  rw [← hr] at hC
  exact J.callV (C := RX7) (y := yX7_colour) (My := mX7_colour) (As := [a0]) (na := 1) (idx := 42) (P := PM g adr r φ) hC (by rw [hM]; exact t_564) t_565 t_566 t_1 t_567 ⟨rfl, by decide +kernel, by decide +kernel, by decide +kernel⟩ rfl hs.1 o (ci := 7) (q := (RX7, TX7, 11)) rfl rfl (WM_get ho (by decide)) (Nat.le_of_ble_eq_true hW) d ⟨by rw [hs.2.1.1]; exact hs.2.2.1, by rw [hs.2.1.2]; exact hs.2.2.2⟩ (fun v w' hp => by obtain ⟨μ', rfl, h1, h2⟩ := hp; rw [hr] at h1; cases h1; rw [hs.2.1.1, hs.2.1.2]; exact K μ' h2) (fun E w' hp => by obtain ⟨μ', rfl, h1, h2⟩ := hp; rw [hr] at h1; cases h1)
theorem cx_L_42 (hM : M.1 = RL) {o : Nat} (ho : kt o = 13) {a0 : Value} {Ry : Room} {k' n' : Nat} {E : String} {φ : Mem → Prop} (hC : CT g yX7_colour mX7_colour Ry (WM g adr μ) (.ref (adr o) :: [a0]) (PM g adr (.inr E) φ)) (hs : (Ry.frames + 1 ≤ R.frames ∧ 8 + (2 + 11) + Ry.locals ≤ R.locals) ∧ (k + Ry.cells = k' ∧ n + Ry.slots = n') ∧ k' ≤ R.cells ∧ n' ≤ R.slots) (hW : Nat.ble ((st.map fun v => v.category).sum) 8 = true) (d : decode M.2.1 pc = .ok (.invokevirtual 42, 3)) (K : ∀ μ', φ μ' → JX g M R Q k' n' (WM g adr μ') pc l st E) : J g M R Q k n (WM g adr μ) pc l (a0 :: .ref (adr o) :: st) := by
  obtain ⟨r, hr⟩ : ∃ r : Option Value ⊕ String, r = .inr E := ⟨_, rfl⟩
  rw [← hr] at hC
  exact J.callV (C := RX7) (y := yX7_colour) (My := mX7_colour) (As := [a0]) (na := 1) (idx := 42) (P := PM g adr r φ) hC (by rw [hM]; exact t_564) t_565 t_566 t_1 t_567 ⟨rfl, by decide +kernel, by decide +kernel, by decide +kernel⟩ rfl hs.1 o (ci := 7) (q := (RX7, TX7, 11)) rfl rfl (WM_get ho (by decide)) (Nat.le_of_ble_eq_true hW) d ⟨by rw [hs.2.1.1]; exact hs.2.2.1, by rw [hs.2.1.2]; exact hs.2.2.2⟩ (fun v w' hp => by obtain ⟨μ', rfl, h1, h2⟩ := hp; rw [hr] at h1; cases h1) (fun E w' hp => by obtain ⟨μ', rfl, h1, h2⟩ := hp; rw [hr] at h1; cases h1; rw [hs.2.1.1, hs.2.1.2]; exact K μ' h2)
theorem cl_L_45 (hM : M.1 = RL) {o : Nat} (ho : kt o = 13) {a0 : Value} {Ry : Room} {k' n' : Nat} {x : Value} {φ : Mem → Prop} (hC : CT g yX7_isDone mX7_isDone Ry (WM g adr μ) (.ref (adr o) :: [a0]) (PM g adr (.inl (some x)) φ)) (hs : (Ry.frames + 1 ≤ R.frames ∧ 8 + (2 + 11) + Ry.locals ≤ R.locals) ∧ (k + Ry.cells = k' ∧ n + Ry.slots = n') ∧ k' ≤ R.cells ∧ n' ≤ R.slots) (hW : Nat.ble ((st.map fun v => v.category).sum) 8 = true) (d : decode M.2.1 pc = .ok (.invokevirtual 45, 3)) (K : ∀ μ', φ μ' → J g M R Q k' n' (WM g adr μ') (pc + 3) l (x :: st)) : J g M R Q k n (WM g adr μ) pc l (a0 :: .ref (adr o) :: st) := by
  obtain ⟨r, hr⟩ : ∃ r : Option Value ⊕ String, r = .inl (some x) := ⟨_, rfl⟩
  rw [← hr] at hC
  exact J.callV (C := RX7) (y := yX7_isDone) (My := mX7_isDone) (As := [a0]) (na := 1) (idx := 45) (P := PM g adr r φ) hC (by rw [hM]; exact t_572) t_573 t_574 t_1 t_575 ⟨rfl, by decide +kernel, by decide +kernel, by decide +kernel⟩ rfl hs.1 o (ci := 7) (q := (RX7, TX7, 11)) rfl rfl (WM_get ho (by decide)) (Nat.le_of_ble_eq_true hW) d ⟨by rw [hs.2.1.1]; exact hs.2.2.1, by rw [hs.2.1.2]; exact hs.2.2.2⟩ (fun v w' hp => by obtain ⟨μ', rfl, h1, h2⟩ := hp; rw [hr] at h1; cases h1; rw [hs.2.1.1, hs.2.1.2]; exact K μ' h2) (fun E w' hp => by obtain ⟨μ', rfl, h1, h2⟩ := hp; rw [hr] at h1; cases h1)
theorem cx_L_45 (hM : M.1 = RL) {o : Nat} (ho : kt o = 13) {a0 : Value} {Ry : Room} {k' n' : Nat} {E : String} {φ : Mem → Prop} (hC : CT g yX7_isDone mX7_isDone Ry (WM g adr μ) (.ref (adr o) :: [a0]) (PM g adr (.inr E) φ)) (hs : (Ry.frames + 1 ≤ R.frames ∧ 8 + (2 + 11) + Ry.locals ≤ R.locals) ∧ (k + Ry.cells = k' ∧ n + Ry.slots = n') ∧ k' ≤ R.cells ∧ n' ≤ R.slots) (hW : Nat.ble ((st.map fun v => v.category).sum) 8 = true) (d : decode M.2.1 pc = .ok (.invokevirtual 45, 3)) (K : ∀ μ', φ μ' → JX g M R Q k' n' (WM g adr μ') pc l st E) : J g M R Q k n (WM g adr μ) pc l (a0 :: .ref (adr o) :: st) := by
  obtain ⟨r, hr⟩ : ∃ r : Option Value ⊕ String, r = .inr E := ⟨_, rfl⟩
  rw [← hr] at hC
  exact J.callV (C := RX7) (y := yX7_isDone) (My := mX7_isDone) (As := [a0]) (na := 1) (idx := 45) (P := PM g adr r φ) hC (by rw [hM]; exact t_572) t_573 t_574 t_1 t_575 ⟨rfl, by decide +kernel, by decide +kernel, by decide +kernel⟩ rfl hs.1 o (ci := 7) (q := (RX7, TX7, 11)) rfl rfl (WM_get ho (by decide)) (Nat.le_of_ble_eq_true hW) d ⟨by rw [hs.2.1.1]; exact hs.2.2.1, by rw [hs.2.1.2]; exact hs.2.2.2⟩ (fun v w' hp => by obtain ⟨μ', rfl, h1, h2⟩ := hp; rw [hr] at h1; cases h1) (fun E w' hp => by obtain ⟨μ', rfl, h1, h2⟩ := hp; rw [hr] at h1; cases h1; rw [hs.2.1.1, hs.2.1.2]; exact K μ' h2)
theorem cl_L_49 (hM : M.1 = RL) {o : Nat} (ho : kt o = 13) {a0 a1 : Value} {Ry : Room} {k' n' : Nat} {x : Value} {φ : Mem → Prop} (hC : CT g yX7_fewest mX7_fewest Ry (WM g adr μ) (.ref (adr o) :: [a0, a1]) (PM g adr (.inl (some x)) φ)) (hs : (Ry.frames + 1 ≤ R.frames ∧ 8 + (3 + 11) + Ry.locals ≤ R.locals) ∧ (k + Ry.cells = k' ∧ n + Ry.slots = n') ∧ k' ≤ R.cells ∧ n' ≤ R.slots) (hW : Nat.ble ((st.map fun v => v.category).sum) 8 = true) (d : decode M.2.1 pc = .ok (.invokevirtual 49, 3)) (K : ∀ μ', φ μ' → J g M R Q k' n' (WM g adr μ') (pc + 3) l (x :: st)) : J g M R Q k n (WM g adr μ) pc l (a1 :: a0 :: .ref (adr o) :: st) := by
  obtain ⟨r, hr⟩ : ∃ r : Option Value ⊕ String, r = .inl (some x) := ⟨_, rfl⟩
  rw [← hr] at hC
  exact J.callV (C := RX7) (y := yX7_fewest) (My := mX7_fewest) (As := [a0, a1]) (na := 2) (idx := 49) (P := PM g adr r φ) hC (by rw [hM]; exact t_583) t_584 t_585 t_1 t_586 ⟨rfl, by decide +kernel, by decide +kernel, by decide +kernel⟩ rfl hs.1 o (ci := 7) (q := (RX7, TX7, 11)) rfl rfl (WM_get ho (by decide)) (Nat.le_of_ble_eq_true hW) d ⟨by rw [hs.2.1.1]; exact hs.2.2.1, by rw [hs.2.1.2]; exact hs.2.2.2⟩ (fun v w' hp => by obtain ⟨μ', rfl, h1, h2⟩ := hp; rw [hr] at h1; cases h1; rw [hs.2.1.1, hs.2.1.2]; exact K μ' h2) (fun E w' hp => by obtain ⟨μ', rfl, h1, h2⟩ := hp; rw [hr] at h1; cases h1)
theorem cx_L_49 (hM : M.1 = RL) {o : Nat} (ho : kt o = 13) {a0 a1 : Value} {Ry : Room} {k' n' : Nat} {E : String} {φ : Mem → Prop} (hC : CT g yX7_fewest mX7_fewest Ry (WM g adr μ) (.ref (adr o) :: [a0, a1]) (PM g adr (.inr E) φ)) (hs : (Ry.frames + 1 ≤ R.frames ∧ 8 + (3 + 11) + Ry.locals ≤ R.locals) ∧ (k + Ry.cells = k' ∧ n + Ry.slots = n') ∧ k' ≤ R.cells ∧ n' ≤ R.slots) (hW : Nat.ble ((st.map fun v => v.category).sum) 8 = true) (d : decode M.2.1 pc = .ok (.invokevirtual 49, 3)) (K : ∀ μ', φ μ' → JX g M R Q k' n' (WM g adr μ') pc l st E) : J g M R Q k n (WM g adr μ) pc l (a1 :: a0 :: .ref (adr o) :: st) := by
  obtain ⟨r, hr⟩ : ∃ r : Option Value ⊕ String, r = .inr E := ⟨_, rfl⟩
  rw [← hr] at hC
  exact J.callV (C := RX7) (y := yX7_fewest) (My := mX7_fewest) (As := [a0, a1]) (na := 2) (idx := 49) (P := PM g adr r φ) hC (by rw [hM]; exact t_583) t_584 t_585 t_1 t_586 ⟨rfl, by decide +kernel, by decide +kernel, by decide +kernel⟩ rfl hs.1 o (ci := 7) (q := (RX7, TX7, 11)) rfl rfl (WM_get ho (by decide)) (Nat.le_of_ble_eq_true hW) d ⟨by rw [hs.2.1.1]; exact hs.2.2.1, by rw [hs.2.1.2]; exact hs.2.2.2⟩ (fun v w' hp => by obtain ⟨μ', rfl, h1, h2⟩ := hp; rw [hr] at h1; cases h1) (fun E w' hp => by obtain ⟨μ', rfl, h1, h2⟩ := hp; rw [hr] at h1; cases h1; rw [hs.2.1.1, hs.2.1.2]; exact K μ' h2)
theorem cl_L_52 (hM : M.1 = RL) {o : Nat} (ho : kt o = 13) {a0 : Value} {Ry : Room} {k' n' : Nat} {x : Value} {φ : Mem → Prop} (hC : CT g yX7_learn mX7_learn Ry (WM g adr μ) (.ref (adr o) :: [a0]) (PM g adr (.inl (some x)) φ)) (hs : (Ry.frames + 1 ≤ R.frames ∧ 8 + (3 + 11) + Ry.locals ≤ R.locals) ∧ (k + Ry.cells = k' ∧ n + Ry.slots = n') ∧ k' ≤ R.cells ∧ n' ≤ R.slots) (hW : Nat.ble ((st.map fun v => v.category).sum) 8 = true) (d : decode M.2.1 pc = .ok (.invokevirtual 52, 3)) (K : ∀ μ', φ μ' → J g M R Q k' n' (WM g adr μ') (pc + 3) l (x :: st)) : J g M R Q k n (WM g adr μ) pc l (a0 :: .ref (adr o) :: st) := by
  obtain ⟨r, hr⟩ : ∃ r : Option Value ⊕ String, r = .inl (some x) := ⟨_, rfl⟩
  rw [← hr] at hC
  exact J.callV (C := RX7) (y := yX7_learn) (My := mX7_learn) (As := [a0]) (na := 1) (idx := 52) (P := PM g adr r φ) hC (by rw [hM]; exact t_591) t_592 t_593 t_1 t_594 ⟨rfl, by decide +kernel, by decide +kernel, by decide +kernel⟩ rfl hs.1 o (ci := 7) (q := (RX7, TX7, 11)) rfl rfl (WM_get ho (by decide)) (Nat.le_of_ble_eq_true hW) d ⟨by rw [hs.2.1.1]; exact hs.2.2.1, by rw [hs.2.1.2]; exact hs.2.2.2⟩ (fun v w' hp => by obtain ⟨μ', rfl, h1, h2⟩ := hp; rw [hr] at h1; cases h1; rw [hs.2.1.1, hs.2.1.2]; exact K μ' h2) (fun E w' hp => by obtain ⟨μ', rfl, h1, h2⟩ := hp; rw [hr] at h1; cases h1)
theorem cx_L_52 (hM : M.1 = RL) {o : Nat} (ho : kt o = 13) {a0 : Value} {Ry : Room} {k' n' : Nat} {E : String} {φ : Mem → Prop} (hC : CT g yX7_learn mX7_learn Ry (WM g adr μ) (.ref (adr o) :: [a0]) (PM g adr (.inr E) φ)) (hs : (Ry.frames + 1 ≤ R.frames ∧ 8 + (3 + 11) + Ry.locals ≤ R.locals) ∧ (k + Ry.cells = k' ∧ n + Ry.slots = n') ∧ k' ≤ R.cells ∧ n' ≤ R.slots) (hW : Nat.ble ((st.map fun v => v.category).sum) 8 = true) (d : decode M.2.1 pc = .ok (.invokevirtual 52, 3)) (K : ∀ μ', φ μ' → JX g M R Q k' n' (WM g adr μ') pc l st E) : J g M R Q k n (WM g adr μ) pc l (a0 :: .ref (adr o) :: st) := by
  obtain ⟨r, hr⟩ : ∃ r : Option Value ⊕ String, r = .inr E := ⟨_, rfl⟩
  rw [← hr] at hC
  exact J.callV (C := RX7) (y := yX7_learn) (My := mX7_learn) (As := [a0]) (na := 1) (idx := 52) (P := PM g adr r φ) hC (by rw [hM]; exact t_591) t_592 t_593 t_1 t_594 ⟨rfl, by decide +kernel, by decide +kernel, by decide +kernel⟩ rfl hs.1 o (ci := 7) (q := (RX7, TX7, 11)) rfl rfl (WM_get ho (by decide)) (Nat.le_of_ble_eq_true hW) d ⟨by rw [hs.2.1.1]; exact hs.2.2.1, by rw [hs.2.1.2]; exact hs.2.2.2⟩ (fun v w' hp => by obtain ⟨μ', rfl, h1, h2⟩ := hp; rw [hr] at h1; cases h1) (fun E w' hp => by obtain ⟨μ', rfl, h1, h2⟩ := hp; rw [hr] at h1; cases h1; rw [hs.2.1.1, hs.2.1.2]; exact K μ' h2)
theorem cl_L_55 (hM : M.1 = RL) {o : Nat} (ho : kt o = 13) {a0 a1 : Value} {Ry : Room} {k' n' : Nat} {x : Value} {φ : Mem → Prop} (hC : CT g yX7_use mX7_use Ry (WM g adr μ) (.ref (adr o) :: [a0, a1]) (PM g adr (.inl (some x)) φ)) (hs : (Ry.frames + 1 ≤ R.frames ∧ 8 + (4 + 11) + Ry.locals ≤ R.locals) ∧ (k + Ry.cells = k' ∧ n + Ry.slots = n') ∧ k' ≤ R.cells ∧ n' ≤ R.slots) (hW : Nat.ble ((st.map fun v => v.category).sum) 8 = true) (d : decode M.2.1 pc = .ok (.invokevirtual 55, 3)) (K : ∀ μ', φ μ' → J g M R Q k' n' (WM g adr μ') (pc + 3) l (x :: st)) : J g M R Q k n (WM g adr μ) pc l (a1 :: a0 :: .ref (adr o) :: st) := by
  obtain ⟨r, hr⟩ : ∃ r : Option Value ⊕ String, r = .inl (some x) := ⟨_, rfl⟩
  rw [← hr] at hC
  exact J.callV (C := RX7) (y := yX7_use) (My := mX7_use) (As := [a0, a1]) (na := 2) (idx := 55) (P := PM g adr r φ) hC (by rw [hM]; exact t_681) t_682 t_683 t_1 t_684 ⟨rfl, by decide +kernel, by decide +kernel, by decide +kernel⟩ rfl hs.1 o (ci := 7) (q := (RX7, TX7, 11)) rfl rfl (WM_get ho (by decide)) (Nat.le_of_ble_eq_true hW) d ⟨by rw [hs.2.1.1]; exact hs.2.2.1, by rw [hs.2.1.2]; exact hs.2.2.2⟩ (fun v w' hp => by obtain ⟨μ', rfl, h1, h2⟩ := hp; rw [hr] at h1; cases h1; rw [hs.2.1.1, hs.2.1.2]; exact K μ' h2) (fun E w' hp => by obtain ⟨μ', rfl, h1, h2⟩ := hp; rw [hr] at h1; cases h1)
theorem cx_L_55 (hM : M.1 = RL) {o : Nat} (ho : kt o = 13) {a0 a1 : Value} {Ry : Room} {k' n' : Nat} {E : String} {φ : Mem → Prop} (hC : CT g yX7_use mX7_use Ry (WM g adr μ) (.ref (adr o) :: [a0, a1]) (PM g adr (.inr E) φ)) (hs : (Ry.frames + 1 ≤ R.frames ∧ 8 + (4 + 11) + Ry.locals ≤ R.locals) ∧ (k + Ry.cells = k' ∧ n + Ry.slots = n') ∧ k' ≤ R.cells ∧ n' ≤ R.slots) (hW : Nat.ble ((st.map fun v => v.category).sum) 8 = true) (d : decode M.2.1 pc = .ok (.invokevirtual 55, 3)) (K : ∀ μ', φ μ' → JX g M R Q k' n' (WM g adr μ') pc l st E) : J g M R Q k n (WM g adr μ) pc l (a1 :: a0 :: .ref (adr o) :: st) := by
  obtain ⟨r, hr⟩ : ∃ r : Option Value ⊕ String, r = .inr E := ⟨_, rfl⟩
  rw [← hr] at hC
  exact J.callV (C := RX7) (y := yX7_use) (My := mX7_use) (As := [a0, a1]) (na := 2) (idx := 55) (P := PM g adr r φ) hC (by rw [hM]; exact t_681) t_682 t_683 t_1 t_684 ⟨rfl, by decide +kernel, by decide +kernel, by decide +kernel⟩ rfl hs.1 o (ci := 7) (q := (RX7, TX7, 11)) rfl rfl (WM_get ho (by decide)) (Nat.le_of_ble_eq_true hW) d ⟨by rw [hs.2.1.1]; exact hs.2.2.1, by rw [hs.2.1.2]; exact hs.2.2.2⟩ (fun v w' hp => by obtain ⟨μ', rfl, h1, h2⟩ := hp; rw [hr] at h1; cases h1) (fun E w' hp => by obtain ⟨μ', rfl, h1, h2⟩ := hp; rw [hr] at h1; cases h1; rw [hs.2.1.1, hs.2.1.2]; exact K μ' h2)
theorem cl_L_58 (hM : M.1 = RL) {o : Nat} (ho : kt o = 13) {a0 a1 a2 : Value} {Ry : Room} {k' n' : Nat} {x : Value} {φ : Mem → Prop} (hC : CT g yX7_join mX7_join Ry (WM g adr μ) (.ref (adr o) :: [a0, a1, a2]) (PM g adr (.inl (some x)) φ)) (hs : (Ry.frames + 1 ≤ R.frames ∧ 8 + (4 + 11) + Ry.locals ≤ R.locals) ∧ (k + Ry.cells = k' ∧ n + Ry.slots = n') ∧ k' ≤ R.cells ∧ n' ≤ R.slots) (hW : Nat.ble ((st.map fun v => v.category).sum) 8 = true) (d : decode M.2.1 pc = .ok (.invokevirtual 58, 3)) (K : ∀ μ', φ μ' → J g M R Q k' n' (WM g adr μ') (pc + 3) l (x :: st)) : J g M R Q k n (WM g adr μ) pc l (a2 :: a1 :: a0 :: .ref (adr o) :: st) := by
  obtain ⟨r, hr⟩ : ∃ r : Option Value ⊕ String, r = .inl (some x) := ⟨_, rfl⟩
  rw [← hr] at hC
  exact J.callV (C := RX7) (y := yX7_join) (My := mX7_join) (As := [a0, a1, a2]) (na := 3) (idx := 58) (P := PM g adr r φ) hC (by rw [hM]; exact t_700) t_701 t_702 t_1 t_703 ⟨rfl, by decide +kernel, by decide +kernel, by decide +kernel⟩ rfl hs.1 o (ci := 7) (q := (RX7, TX7, 11)) rfl rfl (WM_get ho (by decide)) (Nat.le_of_ble_eq_true hW) d ⟨by rw [hs.2.1.1]; exact hs.2.2.1, by rw [hs.2.1.2]; exact hs.2.2.2⟩ (fun v w' hp => by obtain ⟨μ', rfl, h1, h2⟩ := hp; rw [hr] at h1; cases h1; rw [hs.2.1.1, hs.2.1.2]; exact K μ' h2) (fun E w' hp => by obtain ⟨μ', rfl, h1, h2⟩ := hp; rw [hr] at h1; cases h1)
theorem cx_L_58 (hM : M.1 = RL) {o : Nat} (ho : kt o = 13) {a0 a1 a2 : Value} {Ry : Room} {k' n' : Nat} {E : String} {φ : Mem → Prop} (hC : CT g yX7_join mX7_join Ry (WM g adr μ) (.ref (adr o) :: [a0, a1, a2]) (PM g adr (.inr E) φ)) (hs : (Ry.frames + 1 ≤ R.frames ∧ 8 + (4 + 11) + Ry.locals ≤ R.locals) ∧ (k + Ry.cells = k' ∧ n + Ry.slots = n') ∧ k' ≤ R.cells ∧ n' ≤ R.slots) (hW : Nat.ble ((st.map fun v => v.category).sum) 8 = true) (d : decode M.2.1 pc = .ok (.invokevirtual 58, 3)) (K : ∀ μ', φ μ' → JX g M R Q k' n' (WM g adr μ') pc l st E) : J g M R Q k n (WM g adr μ) pc l (a2 :: a1 :: a0 :: .ref (adr o) :: st) := by
  obtain ⟨r, hr⟩ : ∃ r : Option Value ⊕ String, r = .inr E := ⟨_, rfl⟩
  rw [← hr] at hC
  exact J.callV (C := RX7) (y := yX7_join) (My := mX7_join) (As := [a0, a1, a2]) (na := 3) (idx := 58) (P := PM g adr r φ) hC (by rw [hM]; exact t_700) t_701 t_702 t_1 t_703 ⟨rfl, by decide +kernel, by decide +kernel, by decide +kernel⟩ rfl hs.1 o (ci := 7) (q := (RX7, TX7, 11)) rfl rfl (WM_get ho (by decide)) (Nat.le_of_ble_eq_true hW) d ⟨by rw [hs.2.1.1]; exact hs.2.2.1, by rw [hs.2.1.2]; exact hs.2.2.2⟩ (fun v w' hp => by obtain ⟨μ', rfl, h1, h2⟩ := hp; rw [hr] at h1; cases h1) (fun E w' hp => by obtain ⟨μ', rfl, h1, h2⟩ := hp; rw [hr] at h1; cases h1; rw [hs.2.1.1, hs.2.1.2]; exact K μ' h2)
theorem cl_L_62 (hM : M.1 = RL) {o : Nat} (ho : kt o = 13) {a0 a1 : Value} {Ry : Room} {k' n' : Nat} {x : Value} {φ : Mem → Prop} (hC : CT g yX7_invert mX7_invert Ry (WM g adr μ) (.ref (adr o) :: [a0, a1]) (PM g adr (.inl (some x)) φ)) (hs : (Ry.frames + 1 ≤ R.frames ∧ 8 + (3 + 11) + Ry.locals ≤ R.locals) ∧ (k + Ry.cells = k' ∧ n + Ry.slots = n') ∧ k' ≤ R.cells ∧ n' ≤ R.slots) (hW : Nat.ble ((st.map fun v => v.category).sum) 8 = true) (d : decode M.2.1 pc = .ok (.invokevirtual 62, 3)) (K : ∀ μ', φ μ' → J g M R Q k' n' (WM g adr μ') (pc + 3) l (x :: st)) : J g M R Q k n (WM g adr μ) pc l (a1 :: a0 :: .ref (adr o) :: st) := by
  obtain ⟨r, hr⟩ : ∃ r : Option Value ⊕ String, r = .inl (some x) := ⟨_, rfl⟩
  rw [← hr] at hC
  exact J.callV (C := RX7) (y := yX7_invert) (My := mX7_invert) (As := [a0, a1]) (na := 2) (idx := 62) (P := PM g adr r φ) hC (by rw [hM]; exact t_715) t_716 t_717 t_1 t_718 ⟨rfl, by decide +kernel, by decide +kernel, by decide +kernel⟩ rfl hs.1 o (ci := 7) (q := (RX7, TX7, 11)) rfl rfl (WM_get ho (by decide)) (Nat.le_of_ble_eq_true hW) d ⟨by rw [hs.2.1.1]; exact hs.2.2.1, by rw [hs.2.1.2]; exact hs.2.2.2⟩ (fun v w' hp => by obtain ⟨μ', rfl, h1, h2⟩ := hp; rw [hr] at h1; cases h1; rw [hs.2.1.1, hs.2.1.2]; exact K μ' h2) (fun E w' hp => by obtain ⟨μ', rfl, h1, h2⟩ := hp; rw [hr] at h1; cases h1)
theorem cx_L_62 (hM : M.1 = RL) {o : Nat} (ho : kt o = 13) {a0 a1 : Value} {Ry : Room} {k' n' : Nat} {E : String} {φ : Mem → Prop} (hC : CT g yX7_invert mX7_invert Ry (WM g adr μ) (.ref (adr o) :: [a0, a1]) (PM g adr (.inr E) φ)) (hs : (Ry.frames + 1 ≤ R.frames ∧ 8 + (3 + 11) + Ry.locals ≤ R.locals) ∧ (k + Ry.cells = k' ∧ n + Ry.slots = n') ∧ k' ≤ R.cells ∧ n' ≤ R.slots) (hW : Nat.ble ((st.map fun v => v.category).sum) 8 = true) (d : decode M.2.1 pc = .ok (.invokevirtual 62, 3)) (K : ∀ μ', φ μ' → JX g M R Q k' n' (WM g adr μ') pc l st E) : J g M R Q k n (WM g adr μ) pc l (a1 :: a0 :: .ref (adr o) :: st) := by
  obtain ⟨r, hr⟩ : ∃ r : Option Value ⊕ String, r = .inr E := ⟨_, rfl⟩
  rw [← hr] at hC
  exact J.callV (C := RX7) (y := yX7_invert) (My := mX7_invert) (As := [a0, a1]) (na := 2) (idx := 62) (P := PM g adr r φ) hC (by rw [hM]; exact t_715) t_716 t_717 t_1 t_718 ⟨rfl, by decide +kernel, by decide +kernel, by decide +kernel⟩ rfl hs.1 o (ci := 7) (q := (RX7, TX7, 11)) rfl rfl (WM_get ho (by decide)) (Nat.le_of_ble_eq_true hW) d ⟨by rw [hs.2.1.1]; exact hs.2.2.1, by rw [hs.2.1.2]; exact hs.2.2.2⟩ (fun v w' hp => by obtain ⟨μ', rfl, h1, h2⟩ := hp; rw [hr] at h1; cases h1) (fun E w' hp => by obtain ⟨μ', rfl, h1, h2⟩ := hp; rw [hr] at h1; cases h1; rw [hs.2.1.1, hs.2.1.2]; exact K μ' h2)
theorem cl_L_65 (hM : M.1 = RL) {o : Nat} (ho : kt o = 13) {a0 a1 a2 : Value} {Ry : Room} {k' n' : Nat} {x : Value} {φ : Mem → Prop} (hC : CT g yX7_commute mX7_commute Ry (WM g adr μ) (.ref (adr o) :: [a0, a1, a2]) (PM g adr (.inl (some x)) φ)) (hs : (Ry.frames + 1 ≤ R.frames ∧ 8 + (4 + 11) + Ry.locals ≤ R.locals) ∧ (k + Ry.cells = k' ∧ n + Ry.slots = n') ∧ k' ≤ R.cells ∧ n' ≤ R.slots) (hW : Nat.ble ((st.map fun v => v.category).sum) 8 = true) (d : decode M.2.1 pc = .ok (.invokevirtual 65, 3)) (K : ∀ μ', φ μ' → J g M R Q k' n' (WM g adr μ') (pc + 3) l (x :: st)) : J g M R Q k n (WM g adr μ) pc l (a2 :: a1 :: a0 :: .ref (adr o) :: st) := by
  obtain ⟨r, hr⟩ : ∃ r : Option Value ⊕ String, r = .inl (some x) := ⟨_, rfl⟩
  rw [← hr] at hC
  exact J.callV (C := RX7) (y := yX7_commute) (My := mX7_commute) (As := [a0, a1, a2]) (na := 3) (idx := 65) (P := PM g adr r φ) hC (by rw [hM]; exact t_722) t_723 t_724 t_1 t_725 ⟨rfl, by decide +kernel, by decide +kernel, by decide +kernel⟩ rfl hs.1 o (ci := 7) (q := (RX7, TX7, 11)) rfl rfl (WM_get ho (by decide)) (Nat.le_of_ble_eq_true hW) d ⟨by rw [hs.2.1.1]; exact hs.2.2.1, by rw [hs.2.1.2]; exact hs.2.2.2⟩ (fun v w' hp => by obtain ⟨μ', rfl, h1, h2⟩ := hp; rw [hr] at h1; cases h1; rw [hs.2.1.1, hs.2.1.2]; exact K μ' h2) (fun E w' hp => by obtain ⟨μ', rfl, h1, h2⟩ := hp; rw [hr] at h1; cases h1)
theorem cx_L_65 (hM : M.1 = RL) {o : Nat} (ho : kt o = 13) {a0 a1 a2 : Value} {Ry : Room} {k' n' : Nat} {E : String} {φ : Mem → Prop} (hC : CT g yX7_commute mX7_commute Ry (WM g adr μ) (.ref (adr o) :: [a0, a1, a2]) (PM g adr (.inr E) φ)) (hs : (Ry.frames + 1 ≤ R.frames ∧ 8 + (4 + 11) + Ry.locals ≤ R.locals) ∧ (k + Ry.cells = k' ∧ n + Ry.slots = n') ∧ k' ≤ R.cells ∧ n' ≤ R.slots) (hW : Nat.ble ((st.map fun v => v.category).sum) 8 = true) (d : decode M.2.1 pc = .ok (.invokevirtual 65, 3)) (K : ∀ μ', φ μ' → JX g M R Q k' n' (WM g adr μ') pc l st E) : J g M R Q k n (WM g adr μ) pc l (a2 :: a1 :: a0 :: .ref (adr o) :: st) := by
  obtain ⟨r, hr⟩ : ∃ r : Option Value ⊕ String, r = .inr E := ⟨_, rfl⟩
  rw [← hr] at hC
  exact J.callV (C := RX7) (y := yX7_commute) (My := mX7_commute) (As := [a0, a1, a2]) (na := 3) (idx := 65) (P := PM g adr r φ) hC (by rw [hM]; exact t_722) t_723 t_724 t_1 t_725 ⟨rfl, by decide +kernel, by decide +kernel, by decide +kernel⟩ rfl hs.1 o (ci := 7) (q := (RX7, TX7, 11)) rfl rfl (WM_get ho (by decide)) (Nat.le_of_ble_eq_true hW) d ⟨by rw [hs.2.1.1]; exact hs.2.2.1, by rw [hs.2.1.2]; exact hs.2.2.2⟩ (fun v w' hp => by obtain ⟨μ', rfl, h1, h2⟩ := hp; rw [hr] at h1; cases h1) (fun E w' hp => by obtain ⟨μ', rfl, h1, h2⟩ := hp; rw [hr] at h1; cases h1; rw [hs.2.1.1, hs.2.1.2]; exact K μ' h2)
theorem cl_L_68 (hM : M.1 = RL) {o : Nat} (ho : kt o = 13) {a0 : Value} {Ry : Room} {k' n' : Nat} {x : Value} {φ : Mem → Prop} (hC : CT g yX7_forget mX7_forget Ry (WM g adr μ) (.ref (adr o) :: [a0]) (PM g adr (.inl (some x)) φ)) (hs : (Ry.frames + 1 ≤ R.frames ∧ 8 + (2 + 11) + Ry.locals ≤ R.locals) ∧ (k + Ry.cells = k' ∧ n + Ry.slots = n') ∧ k' ≤ R.cells ∧ n' ≤ R.slots) (hW : Nat.ble ((st.map fun v => v.category).sum) 8 = true) (d : decode M.2.1 pc = .ok (.invokevirtual 68, 3)) (K : ∀ μ', φ μ' → J g M R Q k' n' (WM g adr μ') (pc + 3) l (x :: st)) : J g M R Q k n (WM g adr μ) pc l (a0 :: .ref (adr o) :: st) := by
  obtain ⟨r, hr⟩ : ∃ r : Option Value ⊕ String, r = .inl (some x) := ⟨_, rfl⟩
  rw [← hr] at hC
  exact J.callV (C := RX7) (y := yX7_forget) (My := mX7_forget) (As := [a0]) (na := 1) (idx := 68) (P := PM g adr r φ) hC (by rw [hM]; exact t_730) t_731 t_732 t_1 t_733 ⟨rfl, by decide +kernel, by decide +kernel, by decide +kernel⟩ rfl hs.1 o (ci := 7) (q := (RX7, TX7, 11)) rfl rfl (WM_get ho (by decide)) (Nat.le_of_ble_eq_true hW) d ⟨by rw [hs.2.1.1]; exact hs.2.2.1, by rw [hs.2.1.2]; exact hs.2.2.2⟩ (fun v w' hp => by obtain ⟨μ', rfl, h1, h2⟩ := hp; rw [hr] at h1; cases h1; rw [hs.2.1.1, hs.2.1.2]; exact K μ' h2) (fun E w' hp => by obtain ⟨μ', rfl, h1, h2⟩ := hp; rw [hr] at h1; cases h1)
theorem cx_L_68 (hM : M.1 = RL) {o : Nat} (ho : kt o = 13) {a0 : Value} {Ry : Room} {k' n' : Nat} {E : String} {φ : Mem → Prop} (hC : CT g yX7_forget mX7_forget Ry (WM g adr μ) (.ref (adr o) :: [a0]) (PM g adr (.inr E) φ)) (hs : (Ry.frames + 1 ≤ R.frames ∧ 8 + (2 + 11) + Ry.locals ≤ R.locals) ∧ (k + Ry.cells = k' ∧ n + Ry.slots = n') ∧ k' ≤ R.cells ∧ n' ≤ R.slots) (hW : Nat.ble ((st.map fun v => v.category).sum) 8 = true) (d : decode M.2.1 pc = .ok (.invokevirtual 68, 3)) (K : ∀ μ', φ μ' → JX g M R Q k' n' (WM g adr μ') pc l st E) : J g M R Q k n (WM g adr μ) pc l (a0 :: .ref (adr o) :: st) := by
  obtain ⟨r, hr⟩ : ∃ r : Option Value ⊕ String, r = .inr E := ⟨_, rfl⟩
  rw [← hr] at hC
  exact J.callV (C := RX7) (y := yX7_forget) (My := mX7_forget) (As := [a0]) (na := 1) (idx := 68) (P := PM g adr r φ) hC (by rw [hM]; exact t_730) t_731 t_732 t_1 t_733 ⟨rfl, by decide +kernel, by decide +kernel, by decide +kernel⟩ rfl hs.1 o (ci := 7) (q := (RX7, TX7, 11)) rfl rfl (WM_get ho (by decide)) (Nat.le_of_ble_eq_true hW) d ⟨by rw [hs.2.1.1]; exact hs.2.2.1, by rw [hs.2.1.2]; exact hs.2.2.2⟩ (fun v w' hp => by obtain ⟨μ', rfl, h1, h2⟩ := hp; rw [hr] at h1; cases h1) (fun E w' hp => by obtain ⟨μ', rfl, h1, h2⟩ := hp; rw [hr] at h1; cases h1; rw [hs.2.1.1, hs.2.1.2]; exact K μ' h2)
theorem cl_L_71 (hM : M.1 = RL) {o : Nat} (ho : kt o = 13) {a0 a1 : Value} {Ry : Room} {k' n' : Nat} {x : Value} {φ : Mem → Prop} (hC : CT g yX7_goesTo mX7_goesTo Ry (WM g adr μ) (.ref (adr o) :: [a0, a1]) (PM g adr (.inl (some x)) φ)) (hs : (Ry.frames + 1 ≤ R.frames ∧ 8 + (3 + 11) + Ry.locals ≤ R.locals) ∧ (k + Ry.cells = k' ∧ n + Ry.slots = n') ∧ k' ≤ R.cells ∧ n' ≤ R.slots) (hW : Nat.ble ((st.map fun v => v.category).sum) 8 = true) (d : decode M.2.1 pc = .ok (.invokevirtual 71, 3)) (K : ∀ μ', φ μ' → J g M R Q k' n' (WM g adr μ') (pc + 3) l (x :: st)) : J g M R Q k n (WM g adr μ) pc l (a1 :: a0 :: .ref (adr o) :: st) := by
  obtain ⟨r, hr⟩ : ∃ r : Option Value ⊕ String, r = .inl (some x) := ⟨_, rfl⟩
  rw [← hr] at hC
  exact J.callV (C := RX7) (y := yX7_goesTo) (My := mX7_goesTo) (As := [a0, a1]) (na := 2) (idx := 71) (P := PM g adr r φ) hC (by rw [hM]; exact t_746) t_747 t_748 t_1 t_749 ⟨rfl, by decide +kernel, by decide +kernel, by decide +kernel⟩ rfl hs.1 o (ci := 7) (q := (RX7, TX7, 11)) rfl rfl (WM_get ho (by decide)) (Nat.le_of_ble_eq_true hW) d ⟨by rw [hs.2.1.1]; exact hs.2.2.1, by rw [hs.2.1.2]; exact hs.2.2.2⟩ (fun v w' hp => by obtain ⟨μ', rfl, h1, h2⟩ := hp; rw [hr] at h1; cases h1; rw [hs.2.1.1, hs.2.1.2]; exact K μ' h2) (fun E w' hp => by obtain ⟨μ', rfl, h1, h2⟩ := hp; rw [hr] at h1; cases h1)
theorem cx_L_71 (hM : M.1 = RL) {o : Nat} (ho : kt o = 13) {a0 a1 : Value} {Ry : Room} {k' n' : Nat} {E : String} {φ : Mem → Prop} (hC : CT g yX7_goesTo mX7_goesTo Ry (WM g adr μ) (.ref (adr o) :: [a0, a1]) (PM g adr (.inr E) φ)) (hs : (Ry.frames + 1 ≤ R.frames ∧ 8 + (3 + 11) + Ry.locals ≤ R.locals) ∧ (k + Ry.cells = k' ∧ n + Ry.slots = n') ∧ k' ≤ R.cells ∧ n' ≤ R.slots) (hW : Nat.ble ((st.map fun v => v.category).sum) 8 = true) (d : decode M.2.1 pc = .ok (.invokevirtual 71, 3)) (K : ∀ μ', φ μ' → JX g M R Q k' n' (WM g adr μ') pc l st E) : J g M R Q k n (WM g adr μ) pc l (a1 :: a0 :: .ref (adr o) :: st) := by
  obtain ⟨r, hr⟩ : ∃ r : Option Value ⊕ String, r = .inr E := ⟨_, rfl⟩
  rw [← hr] at hC
  exact J.callV (C := RX7) (y := yX7_goesTo) (My := mX7_goesTo) (As := [a0, a1]) (na := 2) (idx := 71) (P := PM g adr r φ) hC (by rw [hM]; exact t_746) t_747 t_748 t_1 t_749 ⟨rfl, by decide +kernel, by decide +kernel, by decide +kernel⟩ rfl hs.1 o (ci := 7) (q := (RX7, TX7, 11)) rfl rfl (WM_get ho (by decide)) (Nat.le_of_ble_eq_true hW) d ⟨by rw [hs.2.1.1]; exact hs.2.2.1, by rw [hs.2.1.2]; exact hs.2.2.2⟩ (fun v w' hp => by obtain ⟨μ', rfl, h1, h2⟩ := hp; rw [hr] at h1; cases h1) (fun E w' hp => by obtain ⟨μ', rfl, h1, h2⟩ := hp; rw [hr] at h1; cases h1; rw [hs.2.1.1, hs.2.1.2]; exact K μ' h2)
theorem cl_L_76 (hM : M.1 = RL) {o : Nat} (ho : kt o = 13) {a0 a1 : Value} {Ry : Room} {k' n' : Nat} {x : Value} {φ : Mem → Prop} (hC : CT g yX7_shelfOf mX7_shelfOf Ry (WM g adr μ) (.ref (adr o) :: [a0, a1]) (PM g adr (.inl (some x)) φ)) (hs : (Ry.frames + 1 ≤ R.frames ∧ 8 + (4 + 11) + Ry.locals ≤ R.locals) ∧ (k + Ry.cells = k' ∧ n + Ry.slots = n') ∧ k' ≤ R.cells ∧ n' ≤ R.slots) (hW : Nat.ble ((st.map fun v => v.category).sum) 8 = true) (d : decode M.2.1 pc = .ok (.invokevirtual 76, 3)) (K : ∀ μ', φ μ' → J g M R Q k' n' (WM g adr μ') (pc + 3) l (x :: st)) : J g M R Q k n (WM g adr μ) pc l (a1 :: a0 :: .ref (adr o) :: st) := by
  obtain ⟨r, hr⟩ : ∃ r : Option Value ⊕ String, r = .inl (some x) := ⟨_, rfl⟩
  rw [← hr] at hC
  exact J.callV (C := RX7) (y := yX7_shelfOf) (My := mX7_shelfOf) (As := [a0, a1]) (na := 2) (idx := 76) (P := PM g adr r φ) hC (by rw [hM]; exact t_774) t_775 t_776 t_1 t_777 ⟨rfl, by decide +kernel, by decide +kernel, by decide +kernel⟩ rfl hs.1 o (ci := 7) (q := (RX7, TX7, 11)) rfl rfl (WM_get ho (by decide)) (Nat.le_of_ble_eq_true hW) d ⟨by rw [hs.2.1.1]; exact hs.2.2.1, by rw [hs.2.1.2]; exact hs.2.2.2⟩ (fun v w' hp => by obtain ⟨μ', rfl, h1, h2⟩ := hp; rw [hr] at h1; cases h1; rw [hs.2.1.1, hs.2.1.2]; exact K μ' h2) (fun E w' hp => by obtain ⟨μ', rfl, h1, h2⟩ := hp; rw [hr] at h1; cases h1)
theorem cx_L_76 (hM : M.1 = RL) {o : Nat} (ho : kt o = 13) {a0 a1 : Value} {Ry : Room} {k' n' : Nat} {E : String} {φ : Mem → Prop} (hC : CT g yX7_shelfOf mX7_shelfOf Ry (WM g adr μ) (.ref (adr o) :: [a0, a1]) (PM g adr (.inr E) φ)) (hs : (Ry.frames + 1 ≤ R.frames ∧ 8 + (4 + 11) + Ry.locals ≤ R.locals) ∧ (k + Ry.cells = k' ∧ n + Ry.slots = n') ∧ k' ≤ R.cells ∧ n' ≤ R.slots) (hW : Nat.ble ((st.map fun v => v.category).sum) 8 = true) (d : decode M.2.1 pc = .ok (.invokevirtual 76, 3)) (K : ∀ μ', φ μ' → JX g M R Q k' n' (WM g adr μ') pc l st E) : J g M R Q k n (WM g adr μ) pc l (a1 :: a0 :: .ref (adr o) :: st) := by
  obtain ⟨r, hr⟩ : ∃ r : Option Value ⊕ String, r = .inr E := ⟨_, rfl⟩
  rw [← hr] at hC
  exact J.callV (C := RX7) (y := yX7_shelfOf) (My := mX7_shelfOf) (As := [a0, a1]) (na := 2) (idx := 76) (P := PM g adr r φ) hC (by rw [hM]; exact t_774) t_775 t_776 t_1 t_777 ⟨rfl, by decide +kernel, by decide +kernel, by decide +kernel⟩ rfl hs.1 o (ci := 7) (q := (RX7, TX7, 11)) rfl rfl (WM_get ho (by decide)) (Nat.le_of_ble_eq_true hW) d ⟨by rw [hs.2.1.1]; exact hs.2.2.1, by rw [hs.2.1.2]; exact hs.2.2.2⟩ (fun v w' hp => by obtain ⟨μ', rfl, h1, h2⟩ := hp; rw [hr] at h1; cases h1) (fun E w' hp => by obtain ⟨μ', rfl, h1, h2⟩ := hp; rw [hr] at h1; cases h1; rw [hs.2.1.1, hs.2.1.2]; exact K μ' h2)
theorem cl_L_79 (hM : M.1 = RL) {o : Nat} (ho : kt o = 13) {a0 : Value} {Ry : Room} {k' n' : Nat} {x : Value} {φ : Mem → Prop} (hC : CT g yX7_orderAgain mX7_orderAgain Ry (WM g adr μ) (.ref (adr o) :: [a0]) (PM g adr (.inl (some x)) φ)) (hs : (Ry.frames + 1 ≤ R.frames ∧ 8 + (2 + 11) + Ry.locals ≤ R.locals) ∧ (k + Ry.cells = k' ∧ n + Ry.slots = n') ∧ k' ≤ R.cells ∧ n' ≤ R.slots) (hW : Nat.ble ((st.map fun v => v.category).sum) 8 = true) (d : decode M.2.1 pc = .ok (.invokevirtual 79, 3)) (K : ∀ μ', φ μ' → J g M R Q k' n' (WM g adr μ') (pc + 3) l (x :: st)) : J g M R Q k n (WM g adr μ) pc l (a0 :: .ref (adr o) :: st) := by
  obtain ⟨r, hr⟩ : ∃ r : Option Value ⊕ String, r = .inl (some x) := ⟨_, rfl⟩
  rw [← hr] at hC
  exact J.callV (C := RX7) (y := yX7_orderAgain) (My := mX7_orderAgain) (As := [a0]) (na := 1) (idx := 79) (P := PM g adr r φ) hC (by rw [hM]; exact t_808) t_809 t_810 t_1 t_811 ⟨rfl, by decide +kernel, by decide +kernel, by decide +kernel⟩ rfl hs.1 o (ci := 7) (q := (RX7, TX7, 11)) rfl rfl (WM_get ho (by decide)) (Nat.le_of_ble_eq_true hW) d ⟨by rw [hs.2.1.1]; exact hs.2.2.1, by rw [hs.2.1.2]; exact hs.2.2.2⟩ (fun v w' hp => by obtain ⟨μ', rfl, h1, h2⟩ := hp; rw [hr] at h1; cases h1; rw [hs.2.1.1, hs.2.1.2]; exact K μ' h2) (fun E w' hp => by obtain ⟨μ', rfl, h1, h2⟩ := hp; rw [hr] at h1; cases h1)
theorem cx_L_79 (hM : M.1 = RL) {o : Nat} (ho : kt o = 13) {a0 : Value} {Ry : Room} {k' n' : Nat} {E : String} {φ : Mem → Prop} (hC : CT g yX7_orderAgain mX7_orderAgain Ry (WM g adr μ) (.ref (adr o) :: [a0]) (PM g adr (.inr E) φ)) (hs : (Ry.frames + 1 ≤ R.frames ∧ 8 + (2 + 11) + Ry.locals ≤ R.locals) ∧ (k + Ry.cells = k' ∧ n + Ry.slots = n') ∧ k' ≤ R.cells ∧ n' ≤ R.slots) (hW : Nat.ble ((st.map fun v => v.category).sum) 8 = true) (d : decode M.2.1 pc = .ok (.invokevirtual 79, 3)) (K : ∀ μ', φ μ' → JX g M R Q k' n' (WM g adr μ') pc l st E) : J g M R Q k n (WM g adr μ) pc l (a0 :: .ref (adr o) :: st) := by
  obtain ⟨r, hr⟩ : ∃ r : Option Value ⊕ String, r = .inr E := ⟨_, rfl⟩
  rw [← hr] at hC
  exact J.callV (C := RX7) (y := yX7_orderAgain) (My := mX7_orderAgain) (As := [a0]) (na := 1) (idx := 79) (P := PM g adr r φ) hC (by rw [hM]; exact t_808) t_809 t_810 t_1 t_811 ⟨rfl, by decide +kernel, by decide +kernel, by decide +kernel⟩ rfl hs.1 o (ci := 7) (q := (RX7, TX7, 11)) rfl rfl (WM_get ho (by decide)) (Nat.le_of_ble_eq_true hW) d ⟨by rw [hs.2.1.1]; exact hs.2.2.1, by rw [hs.2.1.2]; exact hs.2.2.2⟩ (fun v w' hp => by obtain ⟨μ', rfl, h1, h2⟩ := hp; rw [hr] at h1; cases h1) (fun E w' hp => by obtain ⟨μ', rfl, h1, h2⟩ := hp; rw [hr] at h1; cases h1; rw [hs.2.1.1, hs.2.1.2]; exact K μ' h2)
theorem cl_L_82 (hM : M.1 = RL) {o : Nat} (ho : kt o = 13) {a0 a1 : Value} {Ry : Room} {k' n' : Nat} {x : Value} {φ : Mem → Prop} (hC : CT g yX7_isEven mX7_isEven Ry (WM g adr μ) (.ref (adr o) :: [a0, a1]) (PM g adr (.inl (some x)) φ)) (hs : (Ry.frames + 1 ≤ R.frames ∧ 8 + (4 + 11) + Ry.locals ≤ R.locals) ∧ (k + Ry.cells = k' ∧ n + Ry.slots = n') ∧ k' ≤ R.cells ∧ n' ≤ R.slots) (hW : Nat.ble ((st.map fun v => v.category).sum) 8 = true) (d : decode M.2.1 pc = .ok (.invokevirtual 82, 3)) (K : ∀ μ', φ μ' → J g M R Q k' n' (WM g adr μ') (pc + 3) l (x :: st)) : J g M R Q k n (WM g adr μ) pc l (a1 :: a0 :: .ref (adr o) :: st) := by
  obtain ⟨r, hr⟩ : ∃ r : Option Value ⊕ String, r = .inl (some x) := ⟨_, rfl⟩
  rw [← hr] at hC
  exact J.callV (C := RX7) (y := yX7_isEven) (My := mX7_isEven) (As := [a0, a1]) (na := 2) (idx := 82) (P := PM g adr r φ) hC (by rw [hM]; exact t_821) t_822 t_823 t_1 t_824 ⟨rfl, by decide +kernel, by decide +kernel, by decide +kernel⟩ rfl hs.1 o (ci := 7) (q := (RX7, TX7, 11)) rfl rfl (WM_get ho (by decide)) (Nat.le_of_ble_eq_true hW) d ⟨by rw [hs.2.1.1]; exact hs.2.2.1, by rw [hs.2.1.2]; exact hs.2.2.2⟩ (fun v w' hp => by obtain ⟨μ', rfl, h1, h2⟩ := hp; rw [hr] at h1; cases h1; rw [hs.2.1.1, hs.2.1.2]; exact K μ' h2) (fun E w' hp => by obtain ⟨μ', rfl, h1, h2⟩ := hp; rw [hr] at h1; cases h1)
theorem cx_L_82 (hM : M.1 = RL) {o : Nat} (ho : kt o = 13) {a0 a1 : Value} {Ry : Room} {k' n' : Nat} {E : String} {φ : Mem → Prop} (hC : CT g yX7_isEven mX7_isEven Ry (WM g adr μ) (.ref (adr o) :: [a0, a1]) (PM g adr (.inr E) φ)) (hs : (Ry.frames + 1 ≤ R.frames ∧ 8 + (4 + 11) + Ry.locals ≤ R.locals) ∧ (k + Ry.cells = k' ∧ n + Ry.slots = n') ∧ k' ≤ R.cells ∧ n' ≤ R.slots) (hW : Nat.ble ((st.map fun v => v.category).sum) 8 = true) (d : decode M.2.1 pc = .ok (.invokevirtual 82, 3)) (K : ∀ μ', φ μ' → JX g M R Q k' n' (WM g adr μ') pc l st E) : J g M R Q k n (WM g adr μ) pc l (a1 :: a0 :: .ref (adr o) :: st) := by
  obtain ⟨r, hr⟩ : ∃ r : Option Value ⊕ String, r = .inr E := ⟨_, rfl⟩
  rw [← hr] at hC
  exact J.callV (C := RX7) (y := yX7_isEven) (My := mX7_isEven) (As := [a0, a1]) (na := 2) (idx := 82) (P := PM g adr r φ) hC (by rw [hM]; exact t_821) t_822 t_823 t_1 t_824 ⟨rfl, by decide +kernel, by decide +kernel, by decide +kernel⟩ rfl hs.1 o (ci := 7) (q := (RX7, TX7, 11)) rfl rfl (WM_get ho (by decide)) (Nat.le_of_ble_eq_true hW) d ⟨by rw [hs.2.1.1]; exact hs.2.2.1, by rw [hs.2.1.2]; exact hs.2.2.2⟩ (fun v w' hp => by obtain ⟨μ', rfl, h1, h2⟩ := hp; rw [hr] at h1; cases h1) (fun E w' hp => by obtain ⟨μ', rfl, h1, h2⟩ := hp; rw [hr] at h1; cases h1; rw [hs.2.1.1, hs.2.1.2]; exact K μ' h2)
theorem cl_L_86 (hM : M.1 = RL) {o : Nat} (ho : kt o = 13) {a0 a1 : Value} {Ry : Room} {k' n' : Nat} {x : Value} {φ : Mem → Prop} (hC : CT g yX7_cycle mX7_cycle Ry (WM g adr μ) (.ref (adr o) :: [a0, a1]) (PM g adr (.inl (some x)) φ)) (hs : (Ry.frames + 1 ≤ R.frames ∧ 8 + (3 + 11) + Ry.locals ≤ R.locals) ∧ (k + Ry.cells = k' ∧ n + Ry.slots = n') ∧ k' ≤ R.cells ∧ n' ≤ R.slots) (hW : Nat.ble ((st.map fun v => v.category).sum) 8 = true) (d : decode M.2.1 pc = .ok (.invokevirtual 86, 3)) (K : ∀ μ', φ μ' → J g M R Q k' n' (WM g adr μ') (pc + 3) l (x :: st)) : J g M R Q k n (WM g adr μ) pc l (a1 :: a0 :: .ref (adr o) :: st) := by
  obtain ⟨r, hr⟩ : ∃ r : Option Value ⊕ String, r = .inl (some x) := ⟨_, rfl⟩
  rw [← hr] at hC
  exact J.callV (C := RX7) (y := yX7_cycle) (My := mX7_cycle) (As := [a0, a1]) (na := 2) (idx := 86) (P := PM g adr r φ) hC (by rw [hM]; exact t_837) t_838 t_839 t_1 t_840 ⟨rfl, by decide +kernel, by decide +kernel, by decide +kernel⟩ rfl hs.1 o (ci := 7) (q := (RX7, TX7, 11)) rfl rfl (WM_get ho (by decide)) (Nat.le_of_ble_eq_true hW) d ⟨by rw [hs.2.1.1]; exact hs.2.2.1, by rw [hs.2.1.2]; exact hs.2.2.2⟩ (fun v w' hp => by obtain ⟨μ', rfl, h1, h2⟩ := hp; rw [hr] at h1; cases h1; rw [hs.2.1.1, hs.2.1.2]; exact K μ' h2) (fun E w' hp => by obtain ⟨μ', rfl, h1, h2⟩ := hp; rw [hr] at h1; cases h1)
theorem cx_L_86 (hM : M.1 = RL) {o : Nat} (ho : kt o = 13) {a0 a1 : Value} {Ry : Room} {k' n' : Nat} {E : String} {φ : Mem → Prop} (hC : CT g yX7_cycle mX7_cycle Ry (WM g adr μ) (.ref (adr o) :: [a0, a1]) (PM g adr (.inr E) φ)) (hs : (Ry.frames + 1 ≤ R.frames ∧ 8 + (3 + 11) + Ry.locals ≤ R.locals) ∧ (k + Ry.cells = k' ∧ n + Ry.slots = n') ∧ k' ≤ R.cells ∧ n' ≤ R.slots) (hW : Nat.ble ((st.map fun v => v.category).sum) 8 = true) (d : decode M.2.1 pc = .ok (.invokevirtual 86, 3)) (K : ∀ μ', φ μ' → JX g M R Q k' n' (WM g adr μ') pc l st E) : J g M R Q k n (WM g adr μ) pc l (a1 :: a0 :: .ref (adr o) :: st) := by
  obtain ⟨r, hr⟩ : ∃ r : Option Value ⊕ String, r = .inr E := ⟨_, rfl⟩
  rw [← hr] at hC
  exact J.callV (C := RX7) (y := yX7_cycle) (My := mX7_cycle) (As := [a0, a1]) (na := 2) (idx := 86) (P := PM g adr r φ) hC (by rw [hM]; exact t_837) t_838 t_839 t_1 t_840 ⟨rfl, by decide +kernel, by decide +kernel, by decide +kernel⟩ rfl hs.1 o (ci := 7) (q := (RX7, TX7, 11)) rfl rfl (WM_get ho (by decide)) (Nat.le_of_ble_eq_true hW) d ⟨by rw [hs.2.1.1]; exact hs.2.2.1, by rw [hs.2.1.2]; exact hs.2.2.2⟩ (fun v w' hp => by obtain ⟨μ', rfl, h1, h2⟩ := hp; rw [hr] at h1; cases h1) (fun E w' hp => by obtain ⟨μ', rfl, h1, h2⟩ := hp; rw [hr] at h1; cases h1; rw [hs.2.1.1, hs.2.1.2]; exact K μ' h2)
theorem cl_L_89 (hM : M.1 = RL) {o : Nat} (ho : kt o = 13) {a0 a1 : Value} {Ry : Room} {k' n' : Nat} {x : Value} {φ : Mem → Prop} (hC : CT g yX7_commutes mX7_commutes Ry (WM g adr μ) (.ref (adr o) :: [a0, a1]) (PM g adr (.inl (some x)) φ)) (hs : (Ry.frames + 1 ≤ R.frames ∧ 8 + (3 + 11) + Ry.locals ≤ R.locals) ∧ (k + Ry.cells = k' ∧ n + Ry.slots = n') ∧ k' ≤ R.cells ∧ n' ≤ R.slots) (hW : Nat.ble ((st.map fun v => v.category).sum) 8 = true) (d : decode M.2.1 pc = .ok (.invokevirtual 89, 3)) (K : ∀ μ', φ μ' → J g M R Q k' n' (WM g adr μ') (pc + 3) l (x :: st)) : J g M R Q k n (WM g adr μ) pc l (a1 :: a0 :: .ref (adr o) :: st) := by
  obtain ⟨r, hr⟩ : ∃ r : Option Value ⊕ String, r = .inl (some x) := ⟨_, rfl⟩
  rw [← hr] at hC
  exact J.callV (C := RX7) (y := yX7_commutes) (My := mX7_commutes) (As := [a0, a1]) (na := 2) (idx := 89) (P := PM g adr r φ) hC (by rw [hM]; exact t_845) t_846 t_847 t_1 t_848 ⟨rfl, by decide +kernel, by decide +kernel, by decide +kernel⟩ rfl hs.1 o (ci := 7) (q := (RX7, TX7, 11)) rfl rfl (WM_get ho (by decide)) (Nat.le_of_ble_eq_true hW) d ⟨by rw [hs.2.1.1]; exact hs.2.2.1, by rw [hs.2.1.2]; exact hs.2.2.2⟩ (fun v w' hp => by obtain ⟨μ', rfl, h1, h2⟩ := hp; rw [hr] at h1; cases h1; rw [hs.2.1.1, hs.2.1.2]; exact K μ' h2) (fun E w' hp => by obtain ⟨μ', rfl, h1, h2⟩ := hp; rw [hr] at h1; cases h1)
theorem cx_L_89 (hM : M.1 = RL) {o : Nat} (ho : kt o = 13) {a0 a1 : Value} {Ry : Room} {k' n' : Nat} {E : String} {φ : Mem → Prop} (hC : CT g yX7_commutes mX7_commutes Ry (WM g adr μ) (.ref (adr o) :: [a0, a1]) (PM g adr (.inr E) φ)) (hs : (Ry.frames + 1 ≤ R.frames ∧ 8 + (3 + 11) + Ry.locals ≤ R.locals) ∧ (k + Ry.cells = k' ∧ n + Ry.slots = n') ∧ k' ≤ R.cells ∧ n' ≤ R.slots) (hW : Nat.ble ((st.map fun v => v.category).sum) 8 = true) (d : decode M.2.1 pc = .ok (.invokevirtual 89, 3)) (K : ∀ μ', φ μ' → JX g M R Q k' n' (WM g adr μ') pc l st E) : J g M R Q k n (WM g adr μ) pc l (a1 :: a0 :: .ref (adr o) :: st) := by
  obtain ⟨r, hr⟩ : ∃ r : Option Value ⊕ String, r = .inr E := ⟨_, rfl⟩
  rw [← hr] at hC
  exact J.callV (C := RX7) (y := yX7_commutes) (My := mX7_commutes) (As := [a0, a1]) (na := 2) (idx := 89) (P := PM g adr r φ) hC (by rw [hM]; exact t_845) t_846 t_847 t_1 t_848 ⟨rfl, by decide +kernel, by decide +kernel, by decide +kernel⟩ rfl hs.1 o (ci := 7) (q := (RX7, TX7, 11)) rfl rfl (WM_get ho (by decide)) (Nat.le_of_ble_eq_true hW) d ⟨by rw [hs.2.1.1]; exact hs.2.2.1, by rw [hs.2.1.2]; exact hs.2.2.2⟩ (fun v w' hp => by obtain ⟨μ', rfl, h1, h2⟩ := hp; rw [hr] at h1; cases h1) (fun E w' hp => by obtain ⟨μ', rfl, h1, h2⟩ := hp; rw [hr] at h1; cases h1; rw [hs.2.1.1, hs.2.1.2]; exact K μ' h2)
theorem cl_L_93 (hM : M.1 = RL) {o : Nat} (ho : kt o = 13) {a0 : Value} {Ry : Room} {k' n' : Nat} {x : Value} {φ : Mem → Prop} (hC : CT g yX7_line mX7_line Ry (WM g adr μ) (.ref (adr o) :: [a0]) (PM g adr (.inl (some x)) φ)) (hs : (Ry.frames + 1 ≤ R.frames ∧ 8 + (3 + 11) + Ry.locals ≤ R.locals) ∧ (k + Ry.cells = k' ∧ n + Ry.slots = n') ∧ k' ≤ R.cells ∧ n' ≤ R.slots) (hW : Nat.ble ((st.map fun v => v.category).sum) 8 = true) (d : decode M.2.1 pc = .ok (.invokevirtual 93, 3)) (K : ∀ μ', φ μ' → J g M R Q k' n' (WM g adr μ') (pc + 3) l (x :: st)) : J g M R Q k n (WM g adr μ) pc l (a0 :: .ref (adr o) :: st) := by
  obtain ⟨r, hr⟩ : ∃ r : Option Value ⊕ String, r = .inl (some x) := ⟨_, rfl⟩
  rw [← hr] at hC
  exact J.callV (C := RX7) (y := yX7_line) (My := mX7_line) (As := [a0]) (na := 1) (idx := 93) (P := PM g adr r φ) hC (by rw [hM]; exact t_856) t_857 t_858 t_1 t_859 ⟨rfl, by decide +kernel, by decide +kernel, by decide +kernel⟩ rfl hs.1 o (ci := 7) (q := (RX7, TX7, 11)) rfl rfl (WM_get ho (by decide)) (Nat.le_of_ble_eq_true hW) d ⟨by rw [hs.2.1.1]; exact hs.2.2.1, by rw [hs.2.1.2]; exact hs.2.2.2⟩ (fun v w' hp => by obtain ⟨μ', rfl, h1, h2⟩ := hp; rw [hr] at h1; cases h1; rw [hs.2.1.1, hs.2.1.2]; exact K μ' h2) (fun E w' hp => by obtain ⟨μ', rfl, h1, h2⟩ := hp; rw [hr] at h1; cases h1)
theorem cx_L_93 (hM : M.1 = RL) {o : Nat} (ho : kt o = 13) {a0 : Value} {Ry : Room} {k' n' : Nat} {E : String} {φ : Mem → Prop} (hC : CT g yX7_line mX7_line Ry (WM g adr μ) (.ref (adr o) :: [a0]) (PM g adr (.inr E) φ)) (hs : (Ry.frames + 1 ≤ R.frames ∧ 8 + (3 + 11) + Ry.locals ≤ R.locals) ∧ (k + Ry.cells = k' ∧ n + Ry.slots = n') ∧ k' ≤ R.cells ∧ n' ≤ R.slots) (hW : Nat.ble ((st.map fun v => v.category).sum) 8 = true) (d : decode M.2.1 pc = .ok (.invokevirtual 93, 3)) (K : ∀ μ', φ μ' → JX g M R Q k' n' (WM g adr μ') pc l st E) : J g M R Q k n (WM g adr μ) pc l (a0 :: .ref (adr o) :: st) := by
  obtain ⟨r, hr⟩ : ∃ r : Option Value ⊕ String, r = .inr E := ⟨_, rfl⟩
  rw [← hr] at hC
  exact J.callV (C := RX7) (y := yX7_line) (My := mX7_line) (As := [a0]) (na := 1) (idx := 93) (P := PM g adr r φ) hC (by rw [hM]; exact t_856) t_857 t_858 t_1 t_859 ⟨rfl, by decide +kernel, by decide +kernel, by decide +kernel⟩ rfl hs.1 o (ci := 7) (q := (RX7, TX7, 11)) rfl rfl (WM_get ho (by decide)) (Nat.le_of_ble_eq_true hW) d ⟨by rw [hs.2.1.1]; exact hs.2.2.1, by rw [hs.2.1.2]; exact hs.2.2.2⟩ (fun v w' hp => by obtain ⟨μ', rfl, h1, h2⟩ := hp; rw [hr] at h1; cases h1) (fun E w' hp => by obtain ⟨μ', rfl, h1, h2⟩ := hp; rw [hr] at h1; cases h1; rw [hs.2.1.1, hs.2.1.2]; exact K μ' h2)
theorem cl_L_96 (hM : M.1 = RL) {o : Nat} (ho : kt o = 13) {a0 : Value} {Ry : Room} {k' n' : Nat} {x : Value} {φ : Mem → Prop} (hC : CT g yX7_cycleLine mX7_cycleLine Ry (WM g adr μ) (.ref (adr o) :: [a0]) (PM g adr (.inl (some x)) φ)) (hs : (Ry.frames + 1 ≤ R.frames ∧ 8 + (4 + 11) + Ry.locals ≤ R.locals) ∧ (k + Ry.cells = k' ∧ n + Ry.slots = n') ∧ k' ≤ R.cells ∧ n' ≤ R.slots) (hW : Nat.ble ((st.map fun v => v.category).sum) 8 = true) (d : decode M.2.1 pc = .ok (.invokevirtual 96, 3)) (K : ∀ μ', φ μ' → J g M R Q k' n' (WM g adr μ') (pc + 3) l (x :: st)) : J g M R Q k n (WM g adr μ) pc l (a0 :: .ref (adr o) :: st) := by
  obtain ⟨r, hr⟩ : ∃ r : Option Value ⊕ String, r = .inl (some x) := ⟨_, rfl⟩
  rw [← hr] at hC
  exact J.callV (C := RX7) (y := yX7_cycleLine) (My := mX7_cycleLine) (As := [a0]) (na := 1) (idx := 96) (P := PM g adr r φ) hC (by rw [hM]; exact t_863) t_864 t_865 t_1 t_866 ⟨rfl, by decide +kernel, by decide +kernel, by decide +kernel⟩ rfl hs.1 o (ci := 7) (q := (RX7, TX7, 11)) rfl rfl (WM_get ho (by decide)) (Nat.le_of_ble_eq_true hW) d ⟨by rw [hs.2.1.1]; exact hs.2.2.1, by rw [hs.2.1.2]; exact hs.2.2.2⟩ (fun v w' hp => by obtain ⟨μ', rfl, h1, h2⟩ := hp; rw [hr] at h1; cases h1; rw [hs.2.1.1, hs.2.1.2]; exact K μ' h2) (fun E w' hp => by obtain ⟨μ', rfl, h1, h2⟩ := hp; rw [hr] at h1; cases h1)
theorem cx_L_96 (hM : M.1 = RL) {o : Nat} (ho : kt o = 13) {a0 : Value} {Ry : Room} {k' n' : Nat} {E : String} {φ : Mem → Prop} (hC : CT g yX7_cycleLine mX7_cycleLine Ry (WM g adr μ) (.ref (adr o) :: [a0]) (PM g adr (.inr E) φ)) (hs : (Ry.frames + 1 ≤ R.frames ∧ 8 + (4 + 11) + Ry.locals ≤ R.locals) ∧ (k + Ry.cells = k' ∧ n + Ry.slots = n') ∧ k' ≤ R.cells ∧ n' ≤ R.slots) (hW : Nat.ble ((st.map fun v => v.category).sum) 8 = true) (d : decode M.2.1 pc = .ok (.invokevirtual 96, 3)) (K : ∀ μ', φ μ' → JX g M R Q k' n' (WM g adr μ') pc l st E) : J g M R Q k n (WM g adr μ) pc l (a0 :: .ref (adr o) :: st) := by
  obtain ⟨r, hr⟩ : ∃ r : Option Value ⊕ String, r = .inr E := ⟨_, rfl⟩
  rw [← hr] at hC
  exact J.callV (C := RX7) (y := yX7_cycleLine) (My := mX7_cycleLine) (As := [a0]) (na := 1) (idx := 96) (P := PM g adr r φ) hC (by rw [hM]; exact t_863) t_864 t_865 t_1 t_866 ⟨rfl, by decide +kernel, by decide +kernel, by decide +kernel⟩ rfl hs.1 o (ci := 7) (q := (RX7, TX7, 11)) rfl rfl (WM_get ho (by decide)) (Nat.le_of_ble_eq_true hW) d ⟨by rw [hs.2.1.1]; exact hs.2.2.1, by rw [hs.2.1.2]; exact hs.2.2.2⟩ (fun v w' hp => by obtain ⟨μ', rfl, h1, h2⟩ := hp; rw [hr] at h1; cases h1) (fun E w' hp => by obtain ⟨μ', rfl, h1, h2⟩ := hp; rw [hr] at h1; cases h1; rw [hs.2.1.1, hs.2.1.2]; exact K μ' h2)
theorem cl_L_99 (hM : M.1 = RL) {o : Nat} (ho : kt o = 13) {a0 : Value} {Ry : Room} {k' n' : Nat} {x : Value} {φ : Mem → Prop} (hC : CT g yX7_character mX7_character Ry (WM g adr μ) (.ref (adr o) :: [a0]) (PM g adr (.inl (some x)) φ)) (hs : (Ry.frames + 1 ≤ R.frames ∧ 8 + (2 + 11) + Ry.locals ≤ R.locals) ∧ (k + Ry.cells = k' ∧ n + Ry.slots = n') ∧ k' ≤ R.cells ∧ n' ≤ R.slots) (hW : Nat.ble ((st.map fun v => v.category).sum) 8 = true) (d : decode M.2.1 pc = .ok (.invokevirtual 99, 3)) (K : ∀ μ', φ μ' → J g M R Q k' n' (WM g adr μ') (pc + 3) l (x :: st)) : J g M R Q k n (WM g adr μ) pc l (a0 :: .ref (adr o) :: st) := by
  obtain ⟨r, hr⟩ : ∃ r : Option Value ⊕ String, r = .inl (some x) := ⟨_, rfl⟩
  rw [← hr] at hC
  exact J.callV (C := RX7) (y := yX7_character) (My := mX7_character) (As := [a0]) (na := 1) (idx := 99) (P := PM g adr r φ) hC (by rw [hM]; exact t_877) t_878 t_879 t_1 t_880 ⟨rfl, by decide +kernel, by decide +kernel, by decide +kernel⟩ rfl hs.1 o (ci := 7) (q := (RX7, TX7, 11)) rfl rfl (WM_get ho (by decide)) (Nat.le_of_ble_eq_true hW) d ⟨by rw [hs.2.1.1]; exact hs.2.2.1, by rw [hs.2.1.2]; exact hs.2.2.2⟩ (fun v w' hp => by obtain ⟨μ', rfl, h1, h2⟩ := hp; rw [hr] at h1; cases h1; rw [hs.2.1.1, hs.2.1.2]; exact K μ' h2) (fun E w' hp => by obtain ⟨μ', rfl, h1, h2⟩ := hp; rw [hr] at h1; cases h1)
theorem cx_L_99 (hM : M.1 = RL) {o : Nat} (ho : kt o = 13) {a0 : Value} {Ry : Room} {k' n' : Nat} {E : String} {φ : Mem → Prop} (hC : CT g yX7_character mX7_character Ry (WM g adr μ) (.ref (adr o) :: [a0]) (PM g adr (.inr E) φ)) (hs : (Ry.frames + 1 ≤ R.frames ∧ 8 + (2 + 11) + Ry.locals ≤ R.locals) ∧ (k + Ry.cells = k' ∧ n + Ry.slots = n') ∧ k' ≤ R.cells ∧ n' ≤ R.slots) (hW : Nat.ble ((st.map fun v => v.category).sum) 8 = true) (d : decode M.2.1 pc = .ok (.invokevirtual 99, 3)) (K : ∀ μ', φ μ' → JX g M R Q k' n' (WM g adr μ') pc l st E) : J g M R Q k n (WM g adr μ) pc l (a0 :: .ref (adr o) :: st) := by
  obtain ⟨r, hr⟩ : ∃ r : Option Value ⊕ String, r = .inr E := ⟨_, rfl⟩
  rw [← hr] at hC
  exact J.callV (C := RX7) (y := yX7_character) (My := mX7_character) (As := [a0]) (na := 1) (idx := 99) (P := PM g adr r φ) hC (by rw [hM]; exact t_877) t_878 t_879 t_1 t_880 ⟨rfl, by decide +kernel, by decide +kernel, by decide +kernel⟩ rfl hs.1 o (ci := 7) (q := (RX7, TX7, 11)) rfl rfl (WM_get ho (by decide)) (Nat.le_of_ble_eq_true hW) d ⟨by rw [hs.2.1.1]; exact hs.2.2.1, by rw [hs.2.1.2]; exact hs.2.2.2⟩ (fun v w' hp => by obtain ⟨μ', rfl, h1, h2⟩ := hp; rw [hr] at h1; cases h1) (fun E w' hp => by obtain ⟨μ', rfl, h1, h2⟩ := hp; rw [hr] at h1; cases h1; rw [hs.2.1.1, hs.2.1.2]; exact K μ' h2)
theorem cl_L_103 (hM : M.1 = RL) {o : Nat} (ho : kt o = 13) {a0 : Value} {Ry : Room} {k' n' : Nat} {x : Value} {φ : Mem → Prop} (hC : CT g yX7_append mX7_append Ry (WM g adr μ) (.ref (adr o) :: [a0]) (PM g adr (.inl (some x)) φ)) (hs : (Ry.frames + 1 ≤ R.frames ∧ 8 + (2 + 11) + Ry.locals ≤ R.locals) ∧ (k + Ry.cells = k' ∧ n + Ry.slots = n') ∧ k' ≤ R.cells ∧ n' ≤ R.slots) (hW : Nat.ble ((st.map fun v => v.category).sum) 8 = true) (d : decode M.2.1 pc = .ok (.invokevirtual 103, 3)) (K : ∀ μ', φ μ' → J g M R Q k' n' (WM g adr μ') (pc + 3) l (x :: st)) : J g M R Q k n (WM g adr μ) pc l (a0 :: .ref (adr o) :: st) := by
  obtain ⟨r, hr⟩ : ∃ r : Option Value ⊕ String, r = .inl (some x) := ⟨_, rfl⟩
  rw [← hr] at hC
  exact J.callV (C := RX7) (y := yX7_append) (My := mX7_append) (As := [a0]) (na := 1) (idx := 103) (P := PM g adr r φ) hC (by rw [hM]; exact t_886) t_887 t_888 t_1 t_889 ⟨rfl, by decide +kernel, by decide +kernel, by decide +kernel⟩ rfl hs.1 o (ci := 7) (q := (RX7, TX7, 11)) rfl rfl (WM_get ho (by decide)) (Nat.le_of_ble_eq_true hW) d ⟨by rw [hs.2.1.1]; exact hs.2.2.1, by rw [hs.2.1.2]; exact hs.2.2.2⟩ (fun v w' hp => by obtain ⟨μ', rfl, h1, h2⟩ := hp; rw [hr] at h1; cases h1; rw [hs.2.1.1, hs.2.1.2]; exact K μ' h2) (fun E w' hp => by obtain ⟨μ', rfl, h1, h2⟩ := hp; rw [hr] at h1; cases h1)
theorem cx_L_103 (hM : M.1 = RL) {o : Nat} (ho : kt o = 13) {a0 : Value} {Ry : Room} {k' n' : Nat} {E : String} {φ : Mem → Prop} (hC : CT g yX7_append mX7_append Ry (WM g adr μ) (.ref (adr o) :: [a0]) (PM g adr (.inr E) φ)) (hs : (Ry.frames + 1 ≤ R.frames ∧ 8 + (2 + 11) + Ry.locals ≤ R.locals) ∧ (k + Ry.cells = k' ∧ n + Ry.slots = n') ∧ k' ≤ R.cells ∧ n' ≤ R.slots) (hW : Nat.ble ((st.map fun v => v.category).sum) 8 = true) (d : decode M.2.1 pc = .ok (.invokevirtual 103, 3)) (K : ∀ μ', φ μ' → JX g M R Q k' n' (WM g adr μ') pc l st E) : J g M R Q k n (WM g adr μ) pc l (a0 :: .ref (adr o) :: st) := by
  obtain ⟨r, hr⟩ : ∃ r : Option Value ⊕ String, r = .inr E := ⟨_, rfl⟩
  rw [← hr] at hC
  exact J.callV (C := RX7) (y := yX7_append) (My := mX7_append) (As := [a0]) (na := 1) (idx := 103) (P := PM g adr r φ) hC (by rw [hM]; exact t_886) t_887 t_888 t_1 t_889 ⟨rfl, by decide +kernel, by decide +kernel, by decide +kernel⟩ rfl hs.1 o (ci := 7) (q := (RX7, TX7, 11)) rfl rfl (WM_get ho (by decide)) (Nat.le_of_ble_eq_true hW) d ⟨by rw [hs.2.1.1]; exact hs.2.2.1, by rw [hs.2.1.2]; exact hs.2.2.2⟩ (fun v w' hp => by obtain ⟨μ', rfl, h1, h2⟩ := hp; rw [hr] at h1; cases h1) (fun E w' hp => by obtain ⟨μ', rfl, h1, h2⟩ := hp; rw [hr] at h1; cases h1; rw [hs.2.1.1, hs.2.1.2]; exact K μ' h2)
theorem cl_L_109 (hM : M.1 = RL) {o : Nat} (ho : kt o = 13) {Ry : Room} {k' n' : Nat} {x : Value} {φ : Mem → Prop} (hC : CT g yX7_read mX7_read Ry (WM g adr μ) (.ref (adr o) :: []) (PM g adr (.inl (some x)) φ)) (hs : (Ry.frames + 1 ≤ R.frames ∧ 8 + (2 + 11) + Ry.locals ≤ R.locals) ∧ (k + Ry.cells = k' ∧ n + Ry.slots = n') ∧ k' ≤ R.cells ∧ n' ≤ R.slots) (hW : Nat.ble ((st.map fun v => v.category).sum) 8 = true) (d : decode M.2.1 pc = .ok (.invokevirtual 109, 3)) (K : ∀ μ', φ μ' → J g M R Q k' n' (WM g adr μ') (pc + 3) l (x :: st)) : J g M R Q k n (WM g adr μ) pc l (.ref (adr o) :: st) := by
  obtain ⟨r, hr⟩ : ∃ r : Option Value ⊕ String, r = .inl (some x) := ⟨_, rfl⟩
  rw [← hr] at hC
  exact J.callV (C := RX7) (y := yX7_read) (My := mX7_read) (As := []) (na := 0) (idx := 109) (P := PM g adr r φ) hC (by rw [hM]; exact t_909) t_910 t_911 t_1 t_912 ⟨rfl, by decide +kernel, by decide +kernel, by decide +kernel⟩ rfl hs.1 o (ci := 7) (q := (RX7, TX7, 11)) rfl rfl (WM_get ho (by decide)) (Nat.le_of_ble_eq_true hW) d ⟨by rw [hs.2.1.1]; exact hs.2.2.1, by rw [hs.2.1.2]; exact hs.2.2.2⟩ (fun v w' hp => by obtain ⟨μ', rfl, h1, h2⟩ := hp; rw [hr] at h1; cases h1; rw [hs.2.1.1, hs.2.1.2]; exact K μ' h2) (fun E w' hp => by obtain ⟨μ', rfl, h1, h2⟩ := hp; rw [hr] at h1; cases h1)
theorem cx_L_109 (hM : M.1 = RL) {o : Nat} (ho : kt o = 13) {Ry : Room} {k' n' : Nat} {E : String} {φ : Mem → Prop} (hC : CT g yX7_read mX7_read Ry (WM g adr μ) (.ref (adr o) :: []) (PM g adr (.inr E) φ)) (hs : (Ry.frames + 1 ≤ R.frames ∧ 8 + (2 + 11) + Ry.locals ≤ R.locals) ∧ (k + Ry.cells = k' ∧ n + Ry.slots = n') ∧ k' ≤ R.cells ∧ n' ≤ R.slots) (hW : Nat.ble ((st.map fun v => v.category).sum) 8 = true) (d : decode M.2.1 pc = .ok (.invokevirtual 109, 3)) (K : ∀ μ', φ μ' → JX g M R Q k' n' (WM g adr μ') pc l st E) : J g M R Q k n (WM g adr μ) pc l (.ref (adr o) :: st) := by
  obtain ⟨r, hr⟩ : ∃ r : Option Value ⊕ String, r = .inr E := ⟨_, rfl⟩
  rw [← hr] at hC
  exact J.callV (C := RX7) (y := yX7_read) (My := mX7_read) (As := []) (na := 0) (idx := 109) (P := PM g adr r φ) hC (by rw [hM]; exact t_909) t_910 t_911 t_1 t_912 ⟨rfl, by decide +kernel, by decide +kernel, by decide +kernel⟩ rfl hs.1 o (ci := 7) (q := (RX7, TX7, 11)) rfl rfl (WM_get ho (by decide)) (Nat.le_of_ble_eq_true hW) d ⟨by rw [hs.2.1.1]; exact hs.2.2.1, by rw [hs.2.1.2]; exact hs.2.2.2⟩ (fun v w' hp => by obtain ⟨μ', rfl, h1, h2⟩ := hp; rw [hr] at h1; cases h1) (fun E w' hp => by obtain ⟨μ', rfl, h1, h2⟩ := hp; rw [hr] at h1; cases h1; rw [hs.2.1.1, hs.2.1.2]; exact K μ' h2)
theorem cl_L_112 (hM : M.1 = RL) {o : Nat} (ho : kt o = 13) {Ry : Room} {k' n' : Nat} {x : Value} {φ : Mem → Prop} (hC : CT g yX7_errorPosition mX7_errorPosition Ry (WM g adr μ) (.ref (adr o) :: []) (PM g adr (.inl (some x)) φ)) (hs : (Ry.frames + 1 ≤ R.frames ∧ 8 + (1 + 11) + Ry.locals ≤ R.locals) ∧ (k + Ry.cells = k' ∧ n + Ry.slots = n') ∧ k' ≤ R.cells ∧ n' ≤ R.slots) (hW : Nat.ble ((st.map fun v => v.category).sum) 8 = true) (d : decode M.2.1 pc = .ok (.invokevirtual 112, 3)) (K : ∀ μ', φ μ' → J g M R Q k' n' (WM g adr μ') (pc + 3) l (x :: st)) : J g M R Q k n (WM g adr μ) pc l (.ref (adr o) :: st) := by
  obtain ⟨r, hr⟩ : ∃ r : Option Value ⊕ String, r = .inl (some x) := ⟨_, rfl⟩
  rw [← hr] at hC
  exact J.callV (C := RX7) (y := yX7_errorPosition) (My := mX7_errorPosition) (As := []) (na := 0) (idx := 112) (P := PM g adr r φ) hC (by rw [hM]; exact t_916) t_917 t_918 t_1 t_919 ⟨rfl, by decide +kernel, by decide +kernel, by decide +kernel⟩ rfl hs.1 o (ci := 7) (q := (RX7, TX7, 11)) rfl rfl (WM_get ho (by decide)) (Nat.le_of_ble_eq_true hW) d ⟨by rw [hs.2.1.1]; exact hs.2.2.1, by rw [hs.2.1.2]; exact hs.2.2.2⟩ (fun v w' hp => by obtain ⟨μ', rfl, h1, h2⟩ := hp; rw [hr] at h1; cases h1; rw [hs.2.1.1, hs.2.1.2]; exact K μ' h2) (fun E w' hp => by obtain ⟨μ', rfl, h1, h2⟩ := hp; rw [hr] at h1; cases h1)
theorem cx_L_112 (hM : M.1 = RL) {o : Nat} (ho : kt o = 13) {Ry : Room} {k' n' : Nat} {E : String} {φ : Mem → Prop} (hC : CT g yX7_errorPosition mX7_errorPosition Ry (WM g adr μ) (.ref (adr o) :: []) (PM g adr (.inr E) φ)) (hs : (Ry.frames + 1 ≤ R.frames ∧ 8 + (1 + 11) + Ry.locals ≤ R.locals) ∧ (k + Ry.cells = k' ∧ n + Ry.slots = n') ∧ k' ≤ R.cells ∧ n' ≤ R.slots) (hW : Nat.ble ((st.map fun v => v.category).sum) 8 = true) (d : decode M.2.1 pc = .ok (.invokevirtual 112, 3)) (K : ∀ μ', φ μ' → JX g M R Q k' n' (WM g adr μ') pc l st E) : J g M R Q k n (WM g adr μ) pc l (.ref (adr o) :: st) := by
  obtain ⟨r, hr⟩ : ∃ r : Option Value ⊕ String, r = .inr E := ⟨_, rfl⟩
  rw [← hr] at hC
  exact J.callV (C := RX7) (y := yX7_errorPosition) (My := mX7_errorPosition) (As := []) (na := 0) (idx := 112) (P := PM g adr r φ) hC (by rw [hM]; exact t_916) t_917 t_918 t_1 t_919 ⟨rfl, by decide +kernel, by decide +kernel, by decide +kernel⟩ rfl hs.1 o (ci := 7) (q := (RX7, TX7, 11)) rfl rfl (WM_get ho (by decide)) (Nat.le_of_ble_eq_true hW) d ⟨by rw [hs.2.1.1]; exact hs.2.2.1, by rw [hs.2.1.2]; exact hs.2.2.2⟩ (fun v w' hp => by obtain ⟨μ', rfl, h1, h2⟩ := hp; rw [hr] at h1; cases h1) (fun E w' hp => by obtain ⟨μ', rfl, h1, h2⟩ := hp; rw [hr] at h1; cases h1; rw [hs.2.1.1, hs.2.1.2]; exact K μ' h2)
theorem cl_L_115 (hM : M.1 = RL) {o : Nat} (ho : kt o = 13) {a0 : Value} {Ry : Room} {k' n' : Nat} {x : Value} {φ : Mem → Prop} (hC : CT g yX7_refusal mX7_refusal Ry (WM g adr μ) (.ref (adr o) :: [a0]) (PM g adr (.inl (some x)) φ)) (hs : (Ry.frames + 1 ≤ R.frames ∧ 8 + (2 + 11) + Ry.locals ≤ R.locals) ∧ (k + Ry.cells = k' ∧ n + Ry.slots = n') ∧ k' ≤ R.cells ∧ n' ≤ R.slots) (hW : Nat.ble ((st.map fun v => v.category).sum) 8 = true) (d : decode M.2.1 pc = .ok (.invokevirtual 115, 3)) (K : ∀ μ', φ μ' → J g M R Q k' n' (WM g adr μ') (pc + 3) l (x :: st)) : J g M R Q k n (WM g adr μ) pc l (a0 :: .ref (adr o) :: st) := by
  obtain ⟨r, hr⟩ : ∃ r : Option Value ⊕ String, r = .inl (some x) := ⟨_, rfl⟩
  rw [← hr] at hC
  exact J.callV (C := RX7) (y := yX7_refusal) (My := mX7_refusal) (As := [a0]) (na := 1) (idx := 115) (P := PM g adr r φ) hC (by rw [hM]; exact t_924) t_925 t_926 t_1 t_927 ⟨rfl, by decide +kernel, by decide +kernel, by decide +kernel⟩ rfl hs.1 o (ci := 7) (q := (RX7, TX7, 11)) rfl rfl (WM_get ho (by decide)) (Nat.le_of_ble_eq_true hW) d ⟨by rw [hs.2.1.1]; exact hs.2.2.1, by rw [hs.2.1.2]; exact hs.2.2.2⟩ (fun v w' hp => by obtain ⟨μ', rfl, h1, h2⟩ := hp; rw [hr] at h1; cases h1; rw [hs.2.1.1, hs.2.1.2]; exact K μ' h2) (fun E w' hp => by obtain ⟨μ', rfl, h1, h2⟩ := hp; rw [hr] at h1; cases h1)
theorem cx_L_115 (hM : M.1 = RL) {o : Nat} (ho : kt o = 13) {a0 : Value} {Ry : Room} {k' n' : Nat} {E : String} {φ : Mem → Prop} (hC : CT g yX7_refusal mX7_refusal Ry (WM g adr μ) (.ref (adr o) :: [a0]) (PM g adr (.inr E) φ)) (hs : (Ry.frames + 1 ≤ R.frames ∧ 8 + (2 + 11) + Ry.locals ≤ R.locals) ∧ (k + Ry.cells = k' ∧ n + Ry.slots = n') ∧ k' ≤ R.cells ∧ n' ≤ R.slots) (hW : Nat.ble ((st.map fun v => v.category).sum) 8 = true) (d : decode M.2.1 pc = .ok (.invokevirtual 115, 3)) (K : ∀ μ', φ μ' → JX g M R Q k' n' (WM g adr μ') pc l st E) : J g M R Q k n (WM g adr μ) pc l (a0 :: .ref (adr o) :: st) := by
  obtain ⟨r, hr⟩ : ∃ r : Option Value ⊕ String, r = .inr E := ⟨_, rfl⟩
  rw [← hr] at hC
  exact J.callV (C := RX7) (y := yX7_refusal) (My := mX7_refusal) (As := [a0]) (na := 1) (idx := 115) (P := PM g adr r φ) hC (by rw [hM]; exact t_924) t_925 t_926 t_1 t_927 ⟨rfl, by decide +kernel, by decide +kernel, by decide +kernel⟩ rfl hs.1 o (ci := 7) (q := (RX7, TX7, 11)) rfl rfl (WM_get ho (by decide)) (Nat.le_of_ble_eq_true hW) d ⟨by rw [hs.2.1.1]; exact hs.2.2.1, by rw [hs.2.1.2]; exact hs.2.2.2⟩ (fun v w' hp => by obtain ⟨μ', rfl, h1, h2⟩ := hp; rw [hr] at h1; cases h1) (fun E w' hp => by obtain ⟨μ', rfl, h1, h2⟩ := hp; rw [hr] at h1; cases h1; rw [hs.2.1.1, hs.2.1.2]; exact K μ' h2)
theorem cl_L_119 (hM : M.1 = RL) {o : Nat} (ho : kt o = 13) {a0 : Value} {Ry : Room} {k' n' : Nat} {x : Value} {φ : Mem → Prop} (hC : CT g yX7_account mX7_account Ry (WM g adr μ) (.ref (adr o) :: [a0]) (PM g adr (.inl (some x)) φ)) (hs : (Ry.frames + 1 ≤ R.frames ∧ 8 + (2 + 11) + Ry.locals ≤ R.locals) ∧ (k + Ry.cells = k' ∧ n + Ry.slots = n') ∧ k' ≤ R.cells ∧ n' ≤ R.slots) (hW : Nat.ble ((st.map fun v => v.category).sum) 8 = true) (d : decode M.2.1 pc = .ok (.invokevirtual 119, 3)) (K : ∀ μ', φ μ' → J g M R Q k' n' (WM g adr μ') (pc + 3) l (x :: st)) : J g M R Q k n (WM g adr μ) pc l (a0 :: .ref (adr o) :: st) := by
  obtain ⟨r, hr⟩ : ∃ r : Option Value ⊕ String, r = .inl (some x) := ⟨_, rfl⟩
  rw [← hr] at hC
  exact J.callV (C := RX7) (y := yX7_account) (My := mX7_account) (As := [a0]) (na := 1) (idx := 119) (P := PM g adr r φ) hC (by rw [hM]; exact t_932) t_933 t_934 t_1 t_935 ⟨rfl, by decide +kernel, by decide +kernel, by decide +kernel⟩ rfl hs.1 o (ci := 7) (q := (RX7, TX7, 11)) rfl rfl (WM_get ho (by decide)) (Nat.le_of_ble_eq_true hW) d ⟨by rw [hs.2.1.1]; exact hs.2.2.1, by rw [hs.2.1.2]; exact hs.2.2.2⟩ (fun v w' hp => by obtain ⟨μ', rfl, h1, h2⟩ := hp; rw [hr] at h1; cases h1; rw [hs.2.1.1, hs.2.1.2]; exact K μ' h2) (fun E w' hp => by obtain ⟨μ', rfl, h1, h2⟩ := hp; rw [hr] at h1; cases h1)
theorem cx_L_119 (hM : M.1 = RL) {o : Nat} (ho : kt o = 13) {a0 : Value} {Ry : Room} {k' n' : Nat} {E : String} {φ : Mem → Prop} (hC : CT g yX7_account mX7_account Ry (WM g adr μ) (.ref (adr o) :: [a0]) (PM g adr (.inr E) φ)) (hs : (Ry.frames + 1 ≤ R.frames ∧ 8 + (2 + 11) + Ry.locals ≤ R.locals) ∧ (k + Ry.cells = k' ∧ n + Ry.slots = n') ∧ k' ≤ R.cells ∧ n' ≤ R.slots) (hW : Nat.ble ((st.map fun v => v.category).sum) 8 = true) (d : decode M.2.1 pc = .ok (.invokevirtual 119, 3)) (K : ∀ μ', φ μ' → JX g M R Q k' n' (WM g adr μ') pc l st E) : J g M R Q k n (WM g adr μ) pc l (a0 :: .ref (adr o) :: st) := by
  obtain ⟨r, hr⟩ : ∃ r : Option Value ⊕ String, r = .inr E := ⟨_, rfl⟩
  rw [← hr] at hC
  exact J.callV (C := RX7) (y := yX7_account) (My := mX7_account) (As := [a0]) (na := 1) (idx := 119) (P := PM g adr r φ) hC (by rw [hM]; exact t_932) t_933 t_934 t_1 t_935 ⟨rfl, by decide +kernel, by decide +kernel, by decide +kernel⟩ rfl hs.1 o (ci := 7) (q := (RX7, TX7, 11)) rfl rfl (WM_get ho (by decide)) (Nat.le_of_ble_eq_true hW) d ⟨by rw [hs.2.1.1]; exact hs.2.2.1, by rw [hs.2.1.2]; exact hs.2.2.2⟩ (fun v w' hp => by obtain ⟨μ', rfl, h1, h2⟩ := hp; rw [hr] at h1; cases h1) (fun E w' hp => by obtain ⟨μ', rfl, h1, h2⟩ := hp; rw [hr] at h1; cases h1; rw [hs.2.1.1, hs.2.1.2]; exact K μ' h2)
theorem cl_L_122 (hM : M.1 = RL) {o : Nat} (ho : kt o = 13) {Ry : Room} {k' n' : Nat} {x : Value} {φ : Mem → Prop} (hC : CT g yX7_undo mX7_undo Ry (WM g adr μ) (.ref (adr o) :: []) (PM g adr (.inl (some x)) φ)) (hs : (Ry.frames + 1 ≤ R.frames ∧ 8 + (1 + 11) + Ry.locals ≤ R.locals) ∧ (k + Ry.cells = k' ∧ n + Ry.slots = n') ∧ k' ≤ R.cells ∧ n' ≤ R.slots) (hW : Nat.ble ((st.map fun v => v.category).sum) 8 = true) (d : decode M.2.1 pc = .ok (.invokevirtual 122, 3)) (K : ∀ μ', φ μ' → J g M R Q k' n' (WM g adr μ') (pc + 3) l (x :: st)) : J g M R Q k n (WM g adr μ) pc l (.ref (adr o) :: st) := by
  obtain ⟨r, hr⟩ : ∃ r : Option Value ⊕ String, r = .inl (some x) := ⟨_, rfl⟩
  rw [← hr] at hC
  exact J.callV (C := RX7) (y := yX7_undo) (My := mX7_undo) (As := []) (na := 0) (idx := 122) (P := PM g adr r φ) hC (by rw [hM]; exact t_949) t_950 t_951 t_1 t_952 ⟨rfl, by decide +kernel, by decide +kernel, by decide +kernel⟩ rfl hs.1 o (ci := 7) (q := (RX7, TX7, 11)) rfl rfl (WM_get ho (by decide)) (Nat.le_of_ble_eq_true hW) d ⟨by rw [hs.2.1.1]; exact hs.2.2.1, by rw [hs.2.1.2]; exact hs.2.2.2⟩ (fun v w' hp => by obtain ⟨μ', rfl, h1, h2⟩ := hp; rw [hr] at h1; cases h1; rw [hs.2.1.1, hs.2.1.2]; exact K μ' h2) (fun E w' hp => by obtain ⟨μ', rfl, h1, h2⟩ := hp; rw [hr] at h1; cases h1)
theorem cx_L_122 (hM : M.1 = RL) {o : Nat} (ho : kt o = 13) {Ry : Room} {k' n' : Nat} {E : String} {φ : Mem → Prop} (hC : CT g yX7_undo mX7_undo Ry (WM g adr μ) (.ref (adr o) :: []) (PM g adr (.inr E) φ)) (hs : (Ry.frames + 1 ≤ R.frames ∧ 8 + (1 + 11) + Ry.locals ≤ R.locals) ∧ (k + Ry.cells = k' ∧ n + Ry.slots = n') ∧ k' ≤ R.cells ∧ n' ≤ R.slots) (hW : Nat.ble ((st.map fun v => v.category).sum) 8 = true) (d : decode M.2.1 pc = .ok (.invokevirtual 122, 3)) (K : ∀ μ', φ μ' → JX g M R Q k' n' (WM g adr μ') pc l st E) : J g M R Q k n (WM g adr μ) pc l (.ref (adr o) :: st) := by
  obtain ⟨r, hr⟩ : ∃ r : Option Value ⊕ String, r = .inr E := ⟨_, rfl⟩
  rw [← hr] at hC
  exact J.callV (C := RX7) (y := yX7_undo) (My := mX7_undo) (As := []) (na := 0) (idx := 122) (P := PM g adr r φ) hC (by rw [hM]; exact t_949) t_950 t_951 t_1 t_952 ⟨rfl, by decide +kernel, by decide +kernel, by decide +kernel⟩ rfl hs.1 o (ci := 7) (q := (RX7, TX7, 11)) rfl rfl (WM_get ho (by decide)) (Nat.le_of_ble_eq_true hW) d ⟨by rw [hs.2.1.1]; exact hs.2.2.1, by rw [hs.2.1.2]; exact hs.2.2.2⟩ (fun v w' hp => by obtain ⟨μ', rfl, h1, h2⟩ := hp; rw [hr] at h1; cases h1) (fun E w' hp => by obtain ⟨μ', rfl, h1, h2⟩ := hp; rw [hr] at h1; cases h1; rw [hs.2.1.1, hs.2.1.2]; exact K μ' h2)
theorem cl_L_125 (hM : M.1 = RL) {o : Nat} (ho : kt o = 13) {Ry : Room} {k' n' : Nat} {x : Value} {φ : Mem → Prop} (hC : CT g yX7_restore mX7_restore Ry (WM g adr μ) (.ref (adr o) :: []) (PM g adr (.inl (some x)) φ)) (hs : (Ry.frames + 1 ≤ R.frames ∧ 8 + (1 + 11) + Ry.locals ≤ R.locals) ∧ (k + Ry.cells = k' ∧ n + Ry.slots = n') ∧ k' ≤ R.cells ∧ n' ≤ R.slots) (hW : Nat.ble ((st.map fun v => v.category).sum) 8 = true) (d : decode M.2.1 pc = .ok (.invokevirtual 125, 3)) (K : ∀ μ', φ μ' → J g M R Q k' n' (WM g adr μ') (pc + 3) l (x :: st)) : J g M R Q k n (WM g adr μ) pc l (.ref (adr o) :: st) := by
  obtain ⟨r, hr⟩ : ∃ r : Option Value ⊕ String, r = .inl (some x) := ⟨_, rfl⟩
  rw [← hr] at hC
  exact J.callV (C := RX7) (y := yX7_restore) (My := mX7_restore) (As := []) (na := 0) (idx := 125) (P := PM g adr r φ) hC (by rw [hM]; exact t_961) t_962 t_963 t_1 t_964 ⟨rfl, by decide +kernel, by decide +kernel, by decide +kernel⟩ rfl hs.1 o (ci := 7) (q := (RX7, TX7, 11)) rfl rfl (WM_get ho (by decide)) (Nat.le_of_ble_eq_true hW) d ⟨by rw [hs.2.1.1]; exact hs.2.2.1, by rw [hs.2.1.2]; exact hs.2.2.2⟩ (fun v w' hp => by obtain ⟨μ', rfl, h1, h2⟩ := hp; rw [hr] at h1; cases h1; rw [hs.2.1.1, hs.2.1.2]; exact K μ' h2) (fun E w' hp => by obtain ⟨μ', rfl, h1, h2⟩ := hp; rw [hr] at h1; cases h1)
theorem cx_L_125 (hM : M.1 = RL) {o : Nat} (ho : kt o = 13) {Ry : Room} {k' n' : Nat} {E : String} {φ : Mem → Prop} (hC : CT g yX7_restore mX7_restore Ry (WM g adr μ) (.ref (adr o) :: []) (PM g adr (.inr E) φ)) (hs : (Ry.frames + 1 ≤ R.frames ∧ 8 + (1 + 11) + Ry.locals ≤ R.locals) ∧ (k + Ry.cells = k' ∧ n + Ry.slots = n') ∧ k' ≤ R.cells ∧ n' ≤ R.slots) (hW : Nat.ble ((st.map fun v => v.category).sum) 8 = true) (d : decode M.2.1 pc = .ok (.invokevirtual 125, 3)) (K : ∀ μ', φ μ' → JX g M R Q k' n' (WM g adr μ') pc l st E) : J g M R Q k n (WM g adr μ) pc l (.ref (adr o) :: st) := by
  obtain ⟨r, hr⟩ : ∃ r : Option Value ⊕ String, r = .inr E := ⟨_, rfl⟩
  rw [← hr] at hC
  exact J.callV (C := RX7) (y := yX7_restore) (My := mX7_restore) (As := []) (na := 0) (idx := 125) (P := PM g adr r φ) hC (by rw [hM]; exact t_961) t_962 t_963 t_1 t_964 ⟨rfl, by decide +kernel, by decide +kernel, by decide +kernel⟩ rfl hs.1 o (ci := 7) (q := (RX7, TX7, 11)) rfl rfl (WM_get ho (by decide)) (Nat.le_of_ble_eq_true hW) d ⟨by rw [hs.2.1.1]; exact hs.2.2.1, by rw [hs.2.1.2]; exact hs.2.2.2⟩ (fun v w' hp => by obtain ⟨μ', rfl, h1, h2⟩ := hp; rw [hr] at h1; cases h1) (fun E w' hp => by obtain ⟨μ', rfl, h1, h2⟩ := hp; rw [hr] at h1; cases h1; rw [hs.2.1.1, hs.2.1.2]; exact K μ' h2)
theorem cl_L_132 (hM : M.1 = RL) {a0 a1 a2 a3 : Value} {Ry : Room} {k' n' : Nat} {x : Value} {φ : Mem → Prop} (hC : CW g yL_turn mL_turn Ry (WM g adr μ) [a0, a1, a2, a3] (PM g adr (.inl (some x)) φ)) (hs : (Ry.frames + 1 ≤ R.frames ∧ 8 + (5 + 11) + Ry.locals ≤ R.locals) ∧ (k + Ry.cells = k' ∧ n + Ry.slots = n') ∧ k' ≤ R.cells ∧ n' ≤ R.slots) (hW : Nat.ble ((st.map fun v => v.category).sum) 8 = true) (d : decode M.2.1 pc = .ok (.invokestatic 132, 3)) (K : ∀ μ', φ μ' → J g M R Q k' n' (WM g adr μ') (pc + 3) l (x :: st)) : J g M R Q k n (WM g adr μ) pc l (a3 :: a2 :: a1 :: a0 :: st) := by
  obtain ⟨r, hr⟩ : ∃ r : Option Value ⊕ String, r = .inl (some x) := ⟨_, rfl⟩
  rw [← hr] at hC
  exact J.callSW (y := yL_turn) (My := mL_turn) (As := [a0, a1, a2, a3]) (na := 4) (idx := 132) (P := PM g adr r φ) hC (by rw [hM]; exact t_327) t_328 t_0 t_329 ⟨by decide +kernel, by decide +kernel, by decide +kernel⟩ rfl hs.1 (Nat.le_of_ble_eq_true hW) d ⟨by rw [hs.2.1.1]; exact hs.2.2.1, by rw [hs.2.1.2]; exact hs.2.2.2⟩ (fun v w' hp => by obtain ⟨μ', rfl, h1, h2⟩ := hp; rw [hr] at h1; cases h1; rw [hs.2.1.1, hs.2.1.2]; exact K μ' h2) (fun E w' hp => by obtain ⟨μ', rfl, h1, h2⟩ := hp; rw [hr] at h1; cases h1)
theorem cl_L_137 (hM : M.1 = RL) {o : Nat} (ho : kt o = 14) {a0 a1 : Value} {Ry : Room} {k' n' : Nat} {x : Value} {φ : Mem → Prop} (hC : CT g yX8_turn mX8_turn Ry (WM g adr μ) (.ref (adr o) :: [a0, a1]) (PM g adr (.inl (some x)) φ)) (hs : (Ry.frames + 1 ≤ R.frames ∧ 8 + (3 + 11) + Ry.locals ≤ R.locals) ∧ (k + Ry.cells = k' ∧ n + Ry.slots = n') ∧ k' ≤ R.cells ∧ n' ≤ R.slots) (hW : Nat.ble ((st.map fun v => v.category).sum) 8 = true) (d : decode M.2.1 pc = .ok (.invokevirtual 137, 3)) (K : ∀ μ', φ μ' → J g M R Q k' n' (WM g adr μ') (pc + 3) l (x :: st)) : J g M R Q k n (WM g adr μ) pc l (a1 :: a0 :: .ref (adr o) :: st) := by
  obtain ⟨r, hr⟩ : ∃ r : Option Value ⊕ String, r = .inl (some x) := ⟨_, rfl⟩
  rw [← hr] at hC
  exact J.callV (C := RX8) (y := yX8_turn) (My := mX8_turn) (As := [a0, a1]) (na := 2) (idx := 137) (P := PM g adr r φ) hC (by rw [hM]; exact t_1045) t_1046 t_1047 t_9 t_1048 ⟨rfl, by decide +kernel, by decide +kernel, by decide +kernel⟩ rfl hs.1 o (ci := 8) (q := (RX8, TX8, 20)) rfl rfl (WM_get ho (by decide)) (Nat.le_of_ble_eq_true hW) d ⟨by rw [hs.2.1.1]; exact hs.2.2.1, by rw [hs.2.1.2]; exact hs.2.2.2⟩ (fun v w' hp => by obtain ⟨μ', rfl, h1, h2⟩ := hp; rw [hr] at h1; cases h1; rw [hs.2.1.1, hs.2.1.2]; exact K μ' h2) (fun E w' hp => by obtain ⟨μ', rfl, h1, h2⟩ := hp; rw [hr] at h1; cases h1)
theorem cl_L_138 (hM : M.1 = RL) {o : Nat} (ho : kt o = 14) {Ry : Room} {k' n' : Nat} {x : Value} {φ : Mem → Prop} (hC : CT g yX8_thrown mX8_thrown Ry (WM g adr μ) (.ref (adr o) :: []) (PM g adr (.inl (some x)) φ)) (hs : (Ry.frames + 1 ≤ R.frames ∧ 8 + (1 + 11) + Ry.locals ≤ R.locals) ∧ (k + Ry.cells = k' ∧ n + Ry.slots = n') ∧ k' ≤ R.cells ∧ n' ≤ R.slots) (hW : Nat.ble ((st.map fun v => v.category).sum) 8 = true) (d : decode M.2.1 pc = .ok (.invokevirtual 138, 3)) (K : ∀ μ', φ μ' → J g M R Q k' n' (WM g adr μ') (pc + 3) l (x :: st)) : J g M R Q k n (WM g adr μ) pc l (.ref (adr o) :: st) := by
  obtain ⟨r, hr⟩ : ∃ r : Option Value ⊕ String, r = .inl (some x) := ⟨_, rfl⟩
  rw [← hr] at hC
  exact J.callV (C := RX8) (y := yX8_thrown) (My := mX8_thrown) (As := []) (na := 0) (idx := 138) (P := PM g adr r φ) hC (by rw [hM]; exact t_1037) t_1038 t_1039 t_9 t_1040 ⟨rfl, by decide +kernel, by decide +kernel, by decide +kernel⟩ rfl hs.1 o (ci := 8) (q := (RX8, TX8, 20)) rfl rfl (WM_get ho (by decide)) (Nat.le_of_ble_eq_true hW) d ⟨by rw [hs.2.1.1]; exact hs.2.2.1, by rw [hs.2.1.2]; exact hs.2.2.2⟩ (fun v w' hp => by obtain ⟨μ', rfl, h1, h2⟩ := hp; rw [hr] at h1; cases h1; rw [hs.2.1.1, hs.2.1.2]; exact K μ' h2) (fun E w' hp => by obtain ⟨μ', rfl, h1, h2⟩ := hp; rw [hr] at h1; cases h1)
theorem cl_L_141 (hM : M.1 = RL) {a0 a1 a2 a3 : Value} {Ry : Room} {k' n' : Nat} {x : Value} {φ : Mem → Prop} (hC : CW g yL_shift mL_shift Ry (WM g adr μ) [a0, a1, a2, a3] (PM g adr (.inl (some x)) φ)) (hs : (Ry.frames + 1 ≤ R.frames ∧ 8 + (5 + 11) + Ry.locals ≤ R.locals) ∧ (k + Ry.cells = k' ∧ n + Ry.slots = n') ∧ k' ≤ R.cells ∧ n' ≤ R.slots) (hW : Nat.ble ((st.map fun v => v.category).sum) 8 = true) (d : decode M.2.1 pc = .ok (.invokestatic 141, 3)) (K : ∀ μ', φ μ' → J g M R Q k' n' (WM g adr μ') (pc + 3) l (x :: st)) : J g M R Q k n (WM g adr μ) pc l (a3 :: a2 :: a1 :: a0 :: st) := by
  obtain ⟨r, hr⟩ : ∃ r : Option Value ⊕ String, r = .inl (some x) := ⟨_, rfl⟩
  rw [← hr] at hC
  exact J.callSW (y := yL_shift) (My := mL_shift) (As := [a0, a1, a2, a3]) (na := 4) (idx := 141) (P := PM g adr r φ) hC (by rw [hM]; exact t_470) t_471 t_0 t_472 ⟨by decide +kernel, by decide +kernel, by decide +kernel⟩ rfl hs.1 (Nat.le_of_ble_eq_true hW) d ⟨by rw [hs.2.1.1]; exact hs.2.2.1, by rw [hs.2.1.2]; exact hs.2.2.2⟩ (fun v w' hp => by obtain ⟨μ', rfl, h1, h2⟩ := hp; rw [hr] at h1; cases h1; rw [hs.2.1.1, hs.2.1.2]; exact K μ' h2) (fun E w' hp => by obtain ⟨μ', rfl, h1, h2⟩ := hp; rw [hr] at h1; cases h1)
theorem cl_L_143 (hM : M.1 = RL) {o : Nat} (ho : kt o = 14) {a0 a1 : Value} {Ry : Room} {k' n' : Nat} {x : Value} {φ : Mem → Prop} (hC : CT g yX8_shift mX8_shift Ry (WM g adr μ) (.ref (adr o) :: [a0, a1]) (PM g adr (.inl (some x)) φ)) (hs : (Ry.frames + 1 ≤ R.frames ∧ 8 + (3 + 11) + Ry.locals ≤ R.locals) ∧ (k + Ry.cells = k' ∧ n + Ry.slots = n') ∧ k' ≤ R.cells ∧ n' ≤ R.slots) (hW : Nat.ble ((st.map fun v => v.category).sum) 8 = true) (d : decode M.2.1 pc = .ok (.invokevirtual 143, 3)) (K : ∀ μ', φ μ' → J g M R Q k' n' (WM g adr μ') (pc + 3) l (x :: st)) : J g M R Q k n (WM g adr μ) pc l (a1 :: a0 :: .ref (adr o) :: st) := by
  obtain ⟨r, hr⟩ : ∃ r : Option Value ⊕ String, r = .inl (some x) := ⟨_, rfl⟩
  rw [← hr] at hC
  exact J.callV (C := RX8) (y := yX8_shift) (My := mX8_shift) (As := [a0, a1]) (na := 2) (idx := 143) (P := PM g adr r φ) hC (by rw [hM]; exact t_1085) t_1086 t_1087 t_9 t_1088 ⟨rfl, by decide +kernel, by decide +kernel, by decide +kernel⟩ rfl hs.1 o (ci := 8) (q := (RX8, TX8, 20)) rfl rfl (WM_get ho (by decide)) (Nat.le_of_ble_eq_true hW) d ⟨by rw [hs.2.1.1]; exact hs.2.2.1, by rw [hs.2.1.2]; exact hs.2.2.2⟩ (fun v w' hp => by obtain ⟨μ', rfl, h1, h2⟩ := hp; rw [hr] at h1; cases h1; rw [hs.2.1.1, hs.2.1.2]; exact K μ' h2) (fun E w' hp => by obtain ⟨μ', rfl, h1, h2⟩ := hp; rw [hr] at h1; cases h1)
theorem cl_L_144 (hM : M.1 = RL) {a0 a1 : Value} {Ry : Room} {k' n' : Nat} {x : Value} {φ : Mem → Prop} (hC : CW g yL_back mL_back Ry (WM g adr μ) [a0, a1] (PM g adr (.inl (some x)) φ)) (hs : (Ry.frames + 1 ≤ R.frames ∧ 8 + (3 + 11) + Ry.locals ≤ R.locals) ∧ (k + Ry.cells = k' ∧ n + Ry.slots = n') ∧ k' ≤ R.cells ∧ n' ≤ R.slots) (hW : Nat.ble ((st.map fun v => v.category).sum) 8 = true) (d : decode M.2.1 pc = .ok (.invokestatic 144, 3)) (K : ∀ μ', φ μ' → J g M R Q k' n' (WM g adr μ') (pc + 3) l (x :: st)) : J g M R Q k n (WM g adr μ) pc l (a1 :: a0 :: st) := by
  obtain ⟨r, hr⟩ : ∃ r : Option Value ⊕ String, r = .inl (some x) := ⟨_, rfl⟩
  rw [← hr] at hC
  exact J.callSW (y := yL_back) (My := mL_back) (As := [a0, a1]) (na := 2) (idx := 144) (P := PM g adr r φ) hC (by rw [hM]; exact t_477) t_478 t_0 t_479 ⟨by decide +kernel, by decide +kernel, by decide +kernel⟩ rfl hs.1 (Nat.le_of_ble_eq_true hW) d ⟨by rw [hs.2.1.1]; exact hs.2.2.1, by rw [hs.2.1.2]; exact hs.2.2.2⟩ (fun v w' hp => by obtain ⟨μ', rfl, h1, h2⟩ := hp; rw [hr] at h1; cases h1; rw [hs.2.1.1, hs.2.1.2]; exact K μ' h2) (fun E w' hp => by obtain ⟨μ', rfl, h1, h2⟩ := hp; rw [hr] at h1; cases h1)
theorem cl_L_147 (hM : M.1 = RL) {o : Nat} (ho : kt o = 14) {Ry : Room} {k' n' : Nat} {x : Value} {φ : Mem → Prop} (hC : CT g yX8_back mX8_back Ry (WM g adr μ) (.ref (adr o) :: []) (PM g adr (.inl (some x)) φ)) (hs : (Ry.frames + 1 ≤ R.frames ∧ 8 + (3 + 11) + Ry.locals ≤ R.locals) ∧ (k + Ry.cells = k' ∧ n + Ry.slots = n') ∧ k' ≤ R.cells ∧ n' ≤ R.slots) (hW : Nat.ble ((st.map fun v => v.category).sum) 8 = true) (d : decode M.2.1 pc = .ok (.invokevirtual 147, 3)) (K : ∀ μ', φ μ' → J g M R Q k' n' (WM g adr μ') (pc + 3) l (x :: st)) : J g M R Q k n (WM g adr μ) pc l (.ref (adr o) :: st) := by
  obtain ⟨r, hr⟩ : ∃ r : Option Value ⊕ String, r = .inl (some x) := ⟨_, rfl⟩
  rw [← hr] at hC
  exact J.callV (C := RX8) (y := yX8_back) (My := mX8_back) (As := []) (na := 0) (idx := 147) (P := PM g adr r φ) hC (by rw [hM]; exact t_1089) t_1090 t_1091 t_9 t_1092 ⟨rfl, by decide +kernel, by decide +kernel, by decide +kernel⟩ rfl hs.1 o (ci := 8) (q := (RX8, TX8, 20)) rfl rfl (WM_get ho (by decide)) (Nat.le_of_ble_eq_true hW) d ⟨by rw [hs.2.1.1]; exact hs.2.2.1, by rw [hs.2.1.2]; exact hs.2.2.2⟩ (fun v w' hp => by obtain ⟨μ', rfl, h1, h2⟩ := hp; rw [hr] at h1; cases h1; rw [hs.2.1.1, hs.2.1.2]; exact K μ' h2) (fun E w' hp => by obtain ⟨μ', rfl, h1, h2⟩ := hp; rw [hr] at h1; cases h1)
theorem cl_L_148 (hM : M.1 = RL) {a0 a1 a2 a3 : Value} {Ry : Room} {k' n' : Nat} {x : Value} {φ : Mem → Prop} (hC : CW g yL_scramble mL_scramble Ry (WM g adr μ) [a0, a1, a2, a3] (PM g adr (.inl (some x)) φ)) (hs : (Ry.frames + 1 ≤ R.frames ∧ 8 + (5 + 11) + Ry.locals ≤ R.locals) ∧ (k + Ry.cells = k' ∧ n + Ry.slots = n') ∧ k' ≤ R.cells ∧ n' ≤ R.slots) (hW : Nat.ble ((st.map fun v => v.category).sum) 8 = true) (d : decode M.2.1 pc = .ok (.invokestatic 148, 3)) (K : ∀ μ', φ μ' → J g M R Q k' n' (WM g adr μ') (pc + 3) l (x :: st)) : J g M R Q k n (WM g adr μ) pc l (a3 :: a2 :: a1 :: a0 :: st) := by
  obtain ⟨r, hr⟩ : ∃ r : Option Value ⊕ String, r = .inl (some x) := ⟨_, rfl⟩
  rw [← hr] at hC
  exact J.callSW (y := yL_scramble) (My := mL_scramble) (As := [a0, a1, a2, a3]) (na := 4) (idx := 148) (P := PM g adr r φ) hC (by rw [hM]; exact t_512) t_513 t_0 t_514 ⟨by decide +kernel, by decide +kernel, by decide +kernel⟩ rfl hs.1 (Nat.le_of_ble_eq_true hW) d ⟨by rw [hs.2.1.1]; exact hs.2.2.1, by rw [hs.2.1.2]; exact hs.2.2.2⟩ (fun v w' hp => by obtain ⟨μ', rfl, h1, h2⟩ := hp; rw [hr] at h1; cases h1; rw [hs.2.1.1, hs.2.1.2]; exact K μ' h2) (fun E w' hp => by obtain ⟨μ', rfl, h1, h2⟩ := hp; rw [hr] at h1; cases h1)
theorem cl_L_150 (hM : M.1 = RL) {o : Nat} (ho : kt o = 14) {a0 a1 : Value} {Ry : Room} {k' n' : Nat} {x : Value} {φ : Mem → Prop} (hC : CT g yX8_scramble mX8_scramble Ry (WM g adr μ) (.ref (adr o) :: [a0, a1]) (PM g adr (.inl (some x)) φ)) (hs : (Ry.frames + 1 ≤ R.frames ∧ 8 + (6 + 11) + Ry.locals ≤ R.locals) ∧ (k + Ry.cells = k' ∧ n + Ry.slots = n') ∧ k' ≤ R.cells ∧ n' ≤ R.slots) (hW : Nat.ble ((st.map fun v => v.category).sum) 8 = true) (d : decode M.2.1 pc = .ok (.invokevirtual 150, 3)) (K : ∀ μ', φ μ' → J g M R Q k' n' (WM g adr μ') (pc + 3) l (x :: st)) : J g M R Q k n (WM g adr μ) pc l (a1 :: a0 :: .ref (adr o) :: st) := by
  obtain ⟨r, hr⟩ : ∃ r : Option Value ⊕ String, r = .inl (some x) := ⟨_, rfl⟩
  rw [← hr] at hC
  exact J.callV (C := RX8) (y := yX8_scramble) (My := mX8_scramble) (As := [a0, a1]) (na := 2) (idx := 150) (P := PM g adr r φ) hC (by rw [hM]; exact t_1097) t_1098 t_1099 t_9 t_1100 ⟨rfl, by decide +kernel, by decide +kernel, by decide +kernel⟩ rfl hs.1 o (ci := 8) (q := (RX8, TX8, 20)) rfl rfl (WM_get ho (by decide)) (Nat.le_of_ble_eq_true hW) d ⟨by rw [hs.2.1.1]; exact hs.2.2.1, by rw [hs.2.1.2]; exact hs.2.2.2⟩ (fun v w' hp => by obtain ⟨μ', rfl, h1, h2⟩ := hp; rw [hr] at h1; cases h1; rw [hs.2.1.1, hs.2.1.2]; exact K μ' h2) (fun E w' hp => by obtain ⟨μ', rfl, h1, h2⟩ := hp; rw [hr] at h1; cases h1)
theorem cl_L_151 (hM : M.1 = RL) {a0 a1 a2 a3 : Value} {Ry : Room} {k' n' : Nat} {x : Value} {φ : Mem → Prop} (hC : CW g yL_logOf mL_logOf Ry (WM g adr μ) [a0, a1, a2, a3] (PM g adr (.inl (some x)) φ)) (hs : (Ry.frames + 1 ≤ R.frames ∧ 8 + (5 + 11) + Ry.locals ≤ R.locals) ∧ (k + Ry.cells = k' ∧ n + Ry.slots = n') ∧ k' ≤ R.cells ∧ n' ≤ R.slots) (hW : Nat.ble ((st.map fun v => v.category).sum) 8 = true) (d : decode M.2.1 pc = .ok (.invokestatic 151, 3)) (K : ∀ μ', φ μ' → J g M R Q k' n' (WM g adr μ') (pc + 3) l (x :: st)) : J g M R Q k n (WM g adr μ) pc l (a3 :: a2 :: a1 :: a0 :: st) := by
  obtain ⟨r, hr⟩ : ∃ r : Option Value ⊕ String, r = .inl (some x) := ⟨_, rfl⟩
  rw [← hr] at hC
  exact J.callSW (y := yL_logOf) (My := mL_logOf) (As := [a0, a1, a2, a3]) (na := 4) (idx := 151) (P := PM g adr r φ) hC (by rw [hM]; exact t_520) t_521 t_0 t_522 ⟨by decide +kernel, by decide +kernel, by decide +kernel⟩ rfl hs.1 (Nat.le_of_ble_eq_true hW) d ⟨by rw [hs.2.1.1]; exact hs.2.2.1, by rw [hs.2.1.2]; exact hs.2.2.2⟩ (fun v w' hp => by obtain ⟨μ', rfl, h1, h2⟩ := hp; rw [hr] at h1; cases h1; rw [hs.2.1.1, hs.2.1.2]; exact K μ' h2) (fun E w' hp => by obtain ⟨μ', rfl, h1, h2⟩ := hp; rw [hr] at h1; cases h1)
theorem cl_L_153 (hM : M.1 = RL) {o : Nat} (ho : kt o = 14) {a0 a1 : Value} {Ry : Room} {k' n' : Nat} {x : Value} {φ : Mem → Prop} (hC : CT g yX8_logOf mX8_logOf Ry (WM g adr μ) (.ref (adr o) :: [a0, a1]) (PM g adr (.inl (some x)) φ)) (hs : (Ry.frames + 1 ≤ R.frames ∧ 8 + (3 + 11) + Ry.locals ≤ R.locals) ∧ (k + Ry.cells = k' ∧ n + Ry.slots = n') ∧ k' ≤ R.cells ∧ n' ≤ R.slots) (hW : Nat.ble ((st.map fun v => v.category).sum) 8 = true) (d : decode M.2.1 pc = .ok (.invokevirtual 153, 3)) (K : ∀ μ', φ μ' → J g M R Q k' n' (WM g adr μ') (pc + 3) l (x :: st)) : J g M R Q k n (WM g adr μ) pc l (a1 :: a0 :: .ref (adr o) :: st) := by
  obtain ⟨r, hr⟩ : ∃ r : Option Value ⊕ String, r = .inl (some x) := ⟨_, rfl⟩
  rw [← hr] at hC
  exact J.callV (C := RX8) (y := yX8_logOf) (My := mX8_logOf) (As := [a0, a1]) (na := 2) (idx := 153) (P := PM g adr r φ) hC (by rw [hM]; exact t_1102) t_1103 t_1104 t_9 t_1105 ⟨rfl, by decide +kernel, by decide +kernel, by decide +kernel⟩ rfl hs.1 o (ci := 8) (q := (RX8, TX8, 20)) rfl rfl (WM_get ho (by decide)) (Nat.le_of_ble_eq_true hW) d ⟨by rw [hs.2.1.1]; exact hs.2.2.1, by rw [hs.2.1.2]; exact hs.2.2.2⟩ (fun v w' hp => by obtain ⟨μ', rfl, h1, h2⟩ := hp; rw [hr] at h1; cases h1; rw [hs.2.1.1, hs.2.1.2]; exact K μ' h2) (fun E w' hp => by obtain ⟨μ', rfl, h1, h2⟩ := hp; rw [hr] at h1; cases h1)
theorem cl_L_154 (hM : M.1 = RL) {a0 a1 a2 : Value} {Ry : Room} {k' n' : Nat} {x : Value} {φ : Mem → Prop} (hC : CW g yL_at mL_at Ry (WM g adr μ) [a0, a1, a2] (PM g adr (.inl (some x)) φ)) (hs : (Ry.frames + 1 ≤ R.frames ∧ 8 + (4 + 11) + Ry.locals ≤ R.locals) ∧ (k + Ry.cells = k' ∧ n + Ry.slots = n') ∧ k' ≤ R.cells ∧ n' ≤ R.slots) (hW : Nat.ble ((st.map fun v => v.category).sum) 8 = true) (d : decode M.2.1 pc = .ok (.invokestatic 154, 3)) (K : ∀ μ', φ μ' → J g M R Q k' n' (WM g adr μ') (pc + 3) l (x :: st)) : J g M R Q k n (WM g adr μ) pc l (a2 :: a1 :: a0 :: st) := by
  obtain ⟨r, hr⟩ : ∃ r : Option Value ⊕ String, r = .inl (some x) := ⟨_, rfl⟩
  rw [← hr] at hC
  exact J.callSW (y := yL_at) (My := mL_at) (As := [a0, a1, a2]) (na := 3) (idx := 154) (P := PM g adr r φ) hC (by rw [hM]; exact t_527) t_528 t_0 t_529 ⟨by decide +kernel, by decide +kernel, by decide +kernel⟩ rfl hs.1 (Nat.le_of_ble_eq_true hW) d ⟨by rw [hs.2.1.1]; exact hs.2.2.1, by rw [hs.2.1.2]; exact hs.2.2.2⟩ (fun v w' hp => by obtain ⟨μ', rfl, h1, h2⟩ := hp; rw [hr] at h1; cases h1; rw [hs.2.1.1, hs.2.1.2]; exact K μ' h2) (fun E w' hp => by obtain ⟨μ', rfl, h1, h2⟩ := hp; rw [hr] at h1; cases h1)
theorem cl_L_157 (hM : M.1 = RL) {o : Nat} (ho : kt o = 14) {a0 : Value} {Ry : Room} {k' n' : Nat} {x : Value} {φ : Mem → Prop} (hC : CT g yX8_at mX8_at Ry (WM g adr μ) (.ref (adr o) :: [a0]) (PM g adr (.inl (some x)) φ)) (hs : (Ry.frames + 1 ≤ R.frames ∧ 8 + (2 + 11) + Ry.locals ≤ R.locals) ∧ (k + Ry.cells = k' ∧ n + Ry.slots = n') ∧ k' ≤ R.cells ∧ n' ≤ R.slots) (hW : Nat.ble ((st.map fun v => v.category).sum) 8 = true) (d : decode M.2.1 pc = .ok (.invokevirtual 157, 3)) (K : ∀ μ', φ μ' → J g M R Q k' n' (WM g adr μ') (pc + 3) l (x :: st)) : J g M R Q k n (WM g adr μ) pc l (a0 :: .ref (adr o) :: st) := by
  obtain ⟨r, hr⟩ : ∃ r : Option Value ⊕ String, r = .inl (some x) := ⟨_, rfl⟩
  rw [← hr] at hC
  exact J.callV (C := RX8) (y := yX8_at) (My := mX8_at) (As := [a0]) (na := 1) (idx := 157) (P := PM g adr r φ) hC (by rw [hM]; exact t_1106) t_1107 t_1108 t_9 t_1109 ⟨rfl, by decide +kernel, by decide +kernel, by decide +kernel⟩ rfl hs.1 o (ci := 8) (q := (RX8, TX8, 20)) rfl rfl (WM_get ho (by decide)) (Nat.le_of_ble_eq_true hW) d ⟨by rw [hs.2.1.1]; exact hs.2.2.1, by rw [hs.2.1.2]; exact hs.2.2.2⟩ (fun v w' hp => by obtain ⟨μ', rfl, h1, h2⟩ := hp; rw [hr] at h1; cases h1; rw [hs.2.1.1, hs.2.1.2]; exact K μ' h2) (fun E w' hp => by obtain ⟨μ', rfl, h1, h2⟩ := hp; rw [hr] at h1; cases h1)
theorem cl_L_158 (hM : M.1 = RL) {a0 a1 a2 : Value} {Ry : Room} {k' n' : Nat} {x : Value} {φ : Mem → Prop} (hC : CW g yL_where mL_where Ry (WM g adr μ) [a0, a1, a2] (PM g adr (.inl (some x)) φ)) (hs : (Ry.frames + 1 ≤ R.frames ∧ 8 + (4 + 11) + Ry.locals ≤ R.locals) ∧ (k + Ry.cells = k' ∧ n + Ry.slots = n') ∧ k' ≤ R.cells ∧ n' ≤ R.slots) (hW : Nat.ble ((st.map fun v => v.category).sum) 8 = true) (d : decode M.2.1 pc = .ok (.invokestatic 158, 3)) (K : ∀ μ', φ μ' → J g M R Q k' n' (WM g adr μ') (pc + 3) l (x :: st)) : J g M R Q k n (WM g adr μ) pc l (a2 :: a1 :: a0 :: st) := by
  obtain ⟨r, hr⟩ : ∃ r : Option Value ⊕ String, r = .inl (some x) := ⟨_, rfl⟩
  rw [← hr] at hC
  exact J.callSW (y := yL_where) (My := mL_where) (As := [a0, a1, a2]) (na := 3) (idx := 158) (P := PM g adr r φ) hC (by rw [hM]; exact t_538) t_539 t_0 t_540 ⟨by decide +kernel, by decide +kernel, by decide +kernel⟩ rfl hs.1 (Nat.le_of_ble_eq_true hW) d ⟨by rw [hs.2.1.1]; exact hs.2.2.1, by rw [hs.2.1.2]; exact hs.2.2.2⟩ (fun v w' hp => by obtain ⟨μ', rfl, h1, h2⟩ := hp; rw [hr] at h1; cases h1; rw [hs.2.1.1, hs.2.1.2]; exact K μ' h2) (fun E w' hp => by obtain ⟨μ', rfl, h1, h2⟩ := hp; rw [hr] at h1; cases h1)
theorem cl_L_160 (hM : M.1 = RL) {o : Nat} (ho : kt o = 14) {a0 : Value} {Ry : Room} {k' n' : Nat} {x : Value} {φ : Mem → Prop} (hC : CT g yX8_where mX8_where Ry (WM g adr μ) (.ref (adr o) :: [a0]) (PM g adr (.inl (some x)) φ)) (hs : (Ry.frames + 1 ≤ R.frames ∧ 8 + (2 + 11) + Ry.locals ≤ R.locals) ∧ (k + Ry.cells = k' ∧ n + Ry.slots = n') ∧ k' ≤ R.cells ∧ n' ≤ R.slots) (hW : Nat.ble ((st.map fun v => v.category).sum) 8 = true) (d : decode M.2.1 pc = .ok (.invokevirtual 160, 3)) (K : ∀ μ', φ μ' → J g M R Q k' n' (WM g adr μ') (pc + 3) l (x :: st)) : J g M R Q k n (WM g adr μ) pc l (a0 :: .ref (adr o) :: st) := by
  obtain ⟨r, hr⟩ : ∃ r : Option Value ⊕ String, r = .inl (some x) := ⟨_, rfl⟩
  rw [← hr] at hC
  exact J.callV (C := RX8) (y := yX8_where) (My := mX8_where) (As := [a0]) (na := 1) (idx := 160) (P := PM g adr r φ) hC (by rw [hM]; exact t_1113) t_1114 t_1115 t_9 t_1116 ⟨rfl, by decide +kernel, by decide +kernel, by decide +kernel⟩ rfl hs.1 o (ci := 8) (q := (RX8, TX8, 20)) rfl rfl (WM_get ho (by decide)) (Nat.le_of_ble_eq_true hW) d ⟨by rw [hs.2.1.1]; exact hs.2.2.1, by rw [hs.2.1.2]; exact hs.2.2.2⟩ (fun v w' hp => by obtain ⟨μ', rfl, h1, h2⟩ := hp; rw [hr] at h1; cases h1; rw [hs.2.1.1, hs.2.1.2]; exact K μ' h2) (fun E w' hp => by obtain ⟨μ', rfl, h1, h2⟩ := hp; rw [hr] at h1; cases h1)
theorem cl_L_161 (hM : M.1 = RL) {a0 a1 a2 a3 : Value} {Ry : Room} {k' n' : Nat} {x : Value} {φ : Mem → Prop} (hC : CW g yL_paint mL_paint Ry (WM g adr μ) [a0, a1, a2, a3] (PM g adr (.inl (some x)) φ)) (hs : (Ry.frames + 1 ≤ R.frames ∧ 8 + (5 + 11) + Ry.locals ≤ R.locals) ∧ (k + Ry.cells = k' ∧ n + Ry.slots = n') ∧ k' ≤ R.cells ∧ n' ≤ R.slots) (hW : Nat.ble ((st.map fun v => v.category).sum) 8 = true) (d : decode M.2.1 pc = .ok (.invokestatic 161, 3)) (K : ∀ μ', φ μ' → J g M R Q k' n' (WM g adr μ') (pc + 3) l (x :: st)) : J g M R Q k n (WM g adr μ) pc l (a3 :: a2 :: a1 :: a0 :: st) := by
  obtain ⟨r, hr⟩ : ∃ r : Option Value ⊕ String, r = .inl (some x) := ⟨_, rfl⟩
  rw [← hr] at hC
  exact J.callSW (y := yL_paint) (My := mL_paint) (As := [a0, a1, a2, a3]) (na := 4) (idx := 161) (P := PM g adr r φ) hC (by rw [hM]; exact t_549) t_550 t_0 t_551 ⟨by decide +kernel, by decide +kernel, by decide +kernel⟩ rfl hs.1 (Nat.le_of_ble_eq_true hW) d ⟨by rw [hs.2.1.1]; exact hs.2.2.1, by rw [hs.2.1.2]; exact hs.2.2.2⟩ (fun v w' hp => by obtain ⟨μ', rfl, h1, h2⟩ := hp; rw [hr] at h1; cases h1; rw [hs.2.1.1, hs.2.1.2]; exact K μ' h2) (fun E w' hp => by obtain ⟨μ', rfl, h1, h2⟩ := hp; rw [hr] at h1; cases h1)
theorem cl_L_163 (hM : M.1 = RL) {o : Nat} (ho : kt o = 14) {a0 a1 : Value} {Ry : Room} {k' n' : Nat} {x : Value} {φ : Mem → Prop} (hC : CT g yX8_paint mX8_paint Ry (WM g adr μ) (.ref (adr o) :: [a0, a1]) (PM g adr (.inl (some x)) φ)) (hs : (Ry.frames + 1 ≤ R.frames ∧ 8 + (4 + 11) + Ry.locals ≤ R.locals) ∧ (k + Ry.cells = k' ∧ n + Ry.slots = n') ∧ k' ≤ R.cells ∧ n' ≤ R.slots) (hW : Nat.ble ((st.map fun v => v.category).sum) 8 = true) (d : decode M.2.1 pc = .ok (.invokevirtual 163, 3)) (K : ∀ μ', φ μ' → J g M R Q k' n' (WM g adr μ') (pc + 3) l (x :: st)) : J g M R Q k n (WM g adr μ) pc l (a1 :: a0 :: .ref (adr o) :: st) := by
  obtain ⟨r, hr⟩ : ∃ r : Option Value ⊕ String, r = .inl (some x) := ⟨_, rfl⟩
  rw [← hr] at hC
  exact J.callV (C := RX8) (y := yX8_paint) (My := mX8_paint) (As := [a0, a1]) (na := 2) (idx := 163) (P := PM g adr r φ) hC (by rw [hM]; exact t_1121) t_1122 t_1123 t_9 t_1124 ⟨rfl, by decide +kernel, by decide +kernel, by decide +kernel⟩ rfl hs.1 o (ci := 8) (q := (RX8, TX8, 20)) rfl rfl (WM_get ho (by decide)) (Nat.le_of_ble_eq_true hW) d ⟨by rw [hs.2.1.1]; exact hs.2.2.1, by rw [hs.2.1.2]; exact hs.2.2.2⟩ (fun v w' hp => by obtain ⟨μ', rfl, h1, h2⟩ := hp; rw [hr] at h1; cases h1; rw [hs.2.1.1, hs.2.1.2]; exact K μ' h2) (fun E w' hp => by obtain ⟨μ', rfl, h1, h2⟩ := hp; rw [hr] at h1; cases h1)
theorem cl_L_164 (hM : M.1 = RL) {a0 a1 a2 : Value} {Ry : Room} {k' n' : Nat} {x : Value} {φ : Mem → Prop} (hC : CW g yL_colour mL_colour Ry (WM g adr μ) [a0, a1, a2] (PM g adr (.inl (some x)) φ)) (hs : (Ry.frames + 1 ≤ R.frames ∧ 8 + (4 + 11) + Ry.locals ≤ R.locals) ∧ (k + Ry.cells = k' ∧ n + Ry.slots = n') ∧ k' ≤ R.cells ∧ n' ≤ R.slots) (hW : Nat.ble ((st.map fun v => v.category).sum) 8 = true) (d : decode M.2.1 pc = .ok (.invokestatic 164, 3)) (K : ∀ μ', φ μ' → J g M R Q k' n' (WM g adr μ') (pc + 3) l (x :: st)) : J g M R Q k n (WM g adr μ) pc l (a2 :: a1 :: a0 :: st) := by
  obtain ⟨r, hr⟩ : ∃ r : Option Value ⊕ String, r = .inl (some x) := ⟨_, rfl⟩
  rw [← hr] at hC
  exact J.callSW (y := yL_colour) (My := mL_colour) (As := [a0, a1, a2]) (na := 3) (idx := 164) (P := PM g adr r φ) hC (by rw [hM]; exact t_561) t_562 t_0 t_563 ⟨by decide +kernel, by decide +kernel, by decide +kernel⟩ rfl hs.1 (Nat.le_of_ble_eq_true hW) d ⟨by rw [hs.2.1.1]; exact hs.2.2.1, by rw [hs.2.1.2]; exact hs.2.2.2⟩ (fun v w' hp => by obtain ⟨μ', rfl, h1, h2⟩ := hp; rw [hr] at h1; cases h1; rw [hs.2.1.1, hs.2.1.2]; exact K μ' h2) (fun E w' hp => by obtain ⟨μ', rfl, h1, h2⟩ := hp; rw [hr] at h1; cases h1)
theorem cl_L_166 (hM : M.1 = RL) {o : Nat} (ho : kt o = 14) {a0 : Value} {Ry : Room} {k' n' : Nat} {x : Value} {φ : Mem → Prop} (hC : CT g yX8_colour mX8_colour Ry (WM g adr μ) (.ref (adr o) :: [a0]) (PM g adr (.inl (some x)) φ)) (hs : (Ry.frames + 1 ≤ R.frames ∧ 8 + (2 + 11) + Ry.locals ≤ R.locals) ∧ (k + Ry.cells = k' ∧ n + Ry.slots = n') ∧ k' ≤ R.cells ∧ n' ≤ R.slots) (hW : Nat.ble ((st.map fun v => v.category).sum) 8 = true) (d : decode M.2.1 pc = .ok (.invokevirtual 166, 3)) (K : ∀ μ', φ μ' → J g M R Q k' n' (WM g adr μ') (pc + 3) l (x :: st)) : J g M R Q k n (WM g adr μ) pc l (a0 :: .ref (adr o) :: st) := by
  obtain ⟨r, hr⟩ : ∃ r : Option Value ⊕ String, r = .inl (some x) := ⟨_, rfl⟩
  rw [← hr] at hC
  exact J.callV (C := RX8) (y := yX8_colour) (My := mX8_colour) (As := [a0]) (na := 1) (idx := 166) (P := PM g adr r φ) hC (by rw [hM]; exact t_1125) t_1126 t_1127 t_9 t_1128 ⟨rfl, by decide +kernel, by decide +kernel, by decide +kernel⟩ rfl hs.1 o (ci := 8) (q := (RX8, TX8, 20)) rfl rfl (WM_get ho (by decide)) (Nat.le_of_ble_eq_true hW) d ⟨by rw [hs.2.1.1]; exact hs.2.2.1, by rw [hs.2.1.2]; exact hs.2.2.2⟩ (fun v w' hp => by obtain ⟨μ', rfl, h1, h2⟩ := hp; rw [hr] at h1; cases h1; rw [hs.2.1.1, hs.2.1.2]; exact K μ' h2) (fun E w' hp => by obtain ⟨μ', rfl, h1, h2⟩ := hp; rw [hr] at h1; cases h1)
theorem cl_L_167 (hM : M.1 = RL) {a0 a1 a2 : Value} {Ry : Room} {k' n' : Nat} {x : Value} {φ : Mem → Prop} (hC : CW g yL_isDone mL_isDone Ry (WM g adr μ) [a0, a1, a2] (PM g adr (.inl (some x)) φ)) (hs : (Ry.frames + 1 ≤ R.frames ∧ 8 + (4 + 11) + Ry.locals ≤ R.locals) ∧ (k + Ry.cells = k' ∧ n + Ry.slots = n') ∧ k' ≤ R.cells ∧ n' ≤ R.slots) (hW : Nat.ble ((st.map fun v => v.category).sum) 8 = true) (d : decode M.2.1 pc = .ok (.invokestatic 167, 3)) (K : ∀ μ', φ μ' → J g M R Q k' n' (WM g adr μ') (pc + 3) l (x :: st)) : J g M R Q k n (WM g adr μ) pc l (a2 :: a1 :: a0 :: st) := by
  obtain ⟨r, hr⟩ : ∃ r : Option Value ⊕ String, r = .inl (some x) := ⟨_, rfl⟩
  rw [← hr] at hC
  exact J.callSW (y := yL_isDone) (My := mL_isDone) (As := [a0, a1, a2]) (na := 3) (idx := 167) (P := PM g adr r φ) hC (by rw [hM]; exact t_569) t_570 t_0 t_571 ⟨by decide +kernel, by decide +kernel, by decide +kernel⟩ rfl hs.1 (Nat.le_of_ble_eq_true hW) d ⟨by rw [hs.2.1.1]; exact hs.2.2.1, by rw [hs.2.1.2]; exact hs.2.2.2⟩ (fun v w' hp => by obtain ⟨μ', rfl, h1, h2⟩ := hp; rw [hr] at h1; cases h1; rw [hs.2.1.1, hs.2.1.2]; exact K μ' h2) (fun E w' hp => by obtain ⟨μ', rfl, h1, h2⟩ := hp; rw [hr] at h1; cases h1)
theorem cl_L_169 (hM : M.1 = RL) {o : Nat} (ho : kt o = 14) {a0 : Value} {Ry : Room} {k' n' : Nat} {x : Value} {φ : Mem → Prop} (hC : CT g yX8_isDone mX8_isDone Ry (WM g adr μ) (.ref (adr o) :: [a0]) (PM g adr (.inl (some x)) φ)) (hs : (Ry.frames + 1 ≤ R.frames ∧ 8 + (2 + 11) + Ry.locals ≤ R.locals) ∧ (k + Ry.cells = k' ∧ n + Ry.slots = n') ∧ k' ≤ R.cells ∧ n' ≤ R.slots) (hW : Nat.ble ((st.map fun v => v.category).sum) 8 = true) (d : decode M.2.1 pc = .ok (.invokevirtual 169, 3)) (K : ∀ μ', φ μ' → J g M R Q k' n' (WM g adr μ') (pc + 3) l (x :: st)) : J g M R Q k n (WM g adr μ) pc l (a0 :: .ref (adr o) :: st) := by
  obtain ⟨r, hr⟩ : ∃ r : Option Value ⊕ String, r = .inl (some x) := ⟨_, rfl⟩
  rw [← hr] at hC
  exact J.callV (C := RX8) (y := yX8_isDone) (My := mX8_isDone) (As := [a0]) (na := 1) (idx := 169) (P := PM g adr r φ) hC (by rw [hM]; exact t_1133) t_1134 t_1135 t_9 t_1136 ⟨rfl, by decide +kernel, by decide +kernel, by decide +kernel⟩ rfl hs.1 o (ci := 8) (q := (RX8, TX8, 20)) rfl rfl (WM_get ho (by decide)) (Nat.le_of_ble_eq_true hW) d ⟨by rw [hs.2.1.1]; exact hs.2.2.1, by rw [hs.2.1.2]; exact hs.2.2.2⟩ (fun v w' hp => by obtain ⟨μ', rfl, h1, h2⟩ := hp; rw [hr] at h1; cases h1; rw [hs.2.1.1, hs.2.1.2]; exact K μ' h2) (fun E w' hp => by obtain ⟨μ', rfl, h1, h2⟩ := hp; rw [hr] at h1; cases h1)
theorem cl_L_170 (hM : M.1 = RL) {o : Nat} (ho : kt o = 13) {Ry : Room} {k' n' : Nat} {x : Value} {φ : Mem → Prop} (hC : CT g yX7_seams mX7_seams Ry (WM g adr μ) (.ref (adr o) :: []) (PM g adr (.inl (some x)) φ)) (hs : (Ry.frames + 1 ≤ R.frames ∧ 8 + (1 + 11) + Ry.locals ≤ R.locals) ∧ (k + Ry.cells = k' ∧ n + Ry.slots = n') ∧ k' ≤ R.cells ∧ n' ≤ R.slots) (hW : Nat.ble ((st.map fun v => v.category).sum) 8 = true) (d : decode M.2.1 pc = .ok (.invokevirtual 170, 3)) (K : ∀ μ', φ μ' → J g M R Q k' n' (WM g adr μ') (pc + 3) l (x :: st)) : J g M R Q k n (WM g adr μ) pc l (.ref (adr o) :: st) := by
  obtain ⟨r, hr⟩ : ∃ r : Option Value ⊕ String, r = .inl (some x) := ⟨_, rfl⟩
  rw [← hr] at hC
  exact J.callV (C := RX7) (y := yX7_seams) (My := mX7_seams) (As := []) (na := 0) (idx := 170) (P := PM g adr r φ) hC (by rw [hM]; exact t_195) t_196 t_197 t_1 t_198 ⟨rfl, by decide +kernel, by decide +kernel, by decide +kernel⟩ rfl hs.1 o (ci := 7) (q := (RX7, TX7, 11)) rfl rfl (WM_get ho (by decide)) (Nat.le_of_ble_eq_true hW) d ⟨by rw [hs.2.1.1]; exact hs.2.2.1, by rw [hs.2.1.2]; exact hs.2.2.2⟩ (fun v w' hp => by obtain ⟨μ', rfl, h1, h2⟩ := hp; rw [hr] at h1; cases h1; rw [hs.2.1.1, hs.2.1.2]; exact K μ' h2) (fun E w' hp => by obtain ⟨μ', rfl, h1, h2⟩ := hp; rw [hr] at h1; cases h1)
theorem cx_L_170 (hM : M.1 = RL) {o : Nat} (ho : kt o = 13) {Ry : Room} {k' n' : Nat} {E : String} {φ : Mem → Prop} (hC : CT g yX7_seams mX7_seams Ry (WM g adr μ) (.ref (adr o) :: []) (PM g adr (.inr E) φ)) (hs : (Ry.frames + 1 ≤ R.frames ∧ 8 + (1 + 11) + Ry.locals ≤ R.locals) ∧ (k + Ry.cells = k' ∧ n + Ry.slots = n') ∧ k' ≤ R.cells ∧ n' ≤ R.slots) (hW : Nat.ble ((st.map fun v => v.category).sum) 8 = true) (d : decode M.2.1 pc = .ok (.invokevirtual 170, 3)) (K : ∀ μ', φ μ' → JX g M R Q k' n' (WM g adr μ') pc l st E) : J g M R Q k n (WM g adr μ) pc l (.ref (adr o) :: st) := by
  obtain ⟨r, hr⟩ : ∃ r : Option Value ⊕ String, r = .inr E := ⟨_, rfl⟩
  rw [← hr] at hC
  exact J.callV (C := RX7) (y := yX7_seams) (My := mX7_seams) (As := []) (na := 0) (idx := 170) (P := PM g adr r φ) hC (by rw [hM]; exact t_195) t_196 t_197 t_1 t_198 ⟨rfl, by decide +kernel, by decide +kernel, by decide +kernel⟩ rfl hs.1 o (ci := 7) (q := (RX7, TX7, 11)) rfl rfl (WM_get ho (by decide)) (Nat.le_of_ble_eq_true hW) d ⟨by rw [hs.2.1.1]; exact hs.2.2.1, by rw [hs.2.1.2]; exact hs.2.2.2⟩ (fun v w' hp => by obtain ⟨μ', rfl, h1, h2⟩ := hp; rw [hr] at h1; cases h1) (fun E w' hp => by obtain ⟨μ', rfl, h1, h2⟩ := hp; rw [hr] at h1; cases h1; rw [hs.2.1.1, hs.2.1.2]; exact K μ' h2)
theorem cl_L_173 (hM : M.1 = RL) {o : Nat} (ho : kt o = 14) {Ry : Room} {k' n' : Nat} {x : Value} {φ : Mem → Prop} (hC : CT g yX8_seams mX8_seams Ry (WM g adr μ) (.ref (adr o) :: []) (PM g adr (.inl (some x)) φ)) (hs : (Ry.frames + 1 ≤ R.frames ∧ 8 + (1 + 11) + Ry.locals ≤ R.locals) ∧ (k + Ry.cells = k' ∧ n + Ry.slots = n') ∧ k' ≤ R.cells ∧ n' ≤ R.slots) (hW : Nat.ble ((st.map fun v => v.category).sum) 8 = true) (d : decode M.2.1 pc = .ok (.invokevirtual 173, 3)) (K : ∀ μ', φ μ' → J g M R Q k' n' (WM g adr μ') (pc + 3) l (x :: st)) : J g M R Q k n (WM g adr μ) pc l (.ref (adr o) :: st) := by
  obtain ⟨r, hr⟩ : ∃ r : Option Value ⊕ String, r = .inl (some x) := ⟨_, rfl⟩
  rw [← hr] at hC
  exact J.callV (C := RX8) (y := yX8_seams) (My := mX8_seams) (As := []) (na := 0) (idx := 173) (P := PM g adr r φ) hC (by rw [hM]; exact t_1141) t_1142 t_1143 t_9 t_1144 ⟨rfl, by decide +kernel, by decide +kernel, by decide +kernel⟩ rfl hs.1 o (ci := 8) (q := (RX8, TX8, 20)) rfl rfl (WM_get ho (by decide)) (Nat.le_of_ble_eq_true hW) d ⟨by rw [hs.2.1.1]; exact hs.2.2.1, by rw [hs.2.1.2]; exact hs.2.2.2⟩ (fun v w' hp => by obtain ⟨μ', rfl, h1, h2⟩ := hp; rw [hr] at h1; cases h1; rw [hs.2.1.1, hs.2.1.2]; exact K μ' h2) (fun E w' hp => by obtain ⟨μ', rfl, h1, h2⟩ := hp; rw [hr] at h1; cases h1)
theorem cl_L_174 (hM : M.1 = RL) {a0 a1 a2 a3 : Value} {Ry : Room} {k' n' : Nat} {x : Value} {φ : Mem → Prop} (hC : CW g yL_fewest mL_fewest Ry (WM g adr μ) [a0, a1, a2, a3] (PM g adr (.inl (some x)) φ)) (hs : (Ry.frames + 1 ≤ R.frames ∧ 8 + (5 + 11) + Ry.locals ≤ R.locals) ∧ (k + Ry.cells = k' ∧ n + Ry.slots = n') ∧ k' ≤ R.cells ∧ n' ≤ R.slots) (hW : Nat.ble ((st.map fun v => v.category).sum) 8 = true) (d : decode M.2.1 pc = .ok (.invokestatic 174, 3)) (K : ∀ μ', φ μ' → J g M R Q k' n' (WM g adr μ') (pc + 3) l (x :: st)) : J g M R Q k n (WM g adr μ) pc l (a3 :: a2 :: a1 :: a0 :: st) := by
  obtain ⟨r, hr⟩ : ∃ r : Option Value ⊕ String, r = .inl (some x) := ⟨_, rfl⟩
  rw [← hr] at hC
  exact J.callSW (y := yL_fewest) (My := mL_fewest) (As := [a0, a1, a2, a3]) (na := 4) (idx := 174) (P := PM g adr r φ) hC (by rw [hM]; exact t_580) t_581 t_0 t_582 ⟨by decide +kernel, by decide +kernel, by decide +kernel⟩ rfl hs.1 (Nat.le_of_ble_eq_true hW) d ⟨by rw [hs.2.1.1]; exact hs.2.2.1, by rw [hs.2.1.2]; exact hs.2.2.2⟩ (fun v w' hp => by obtain ⟨μ', rfl, h1, h2⟩ := hp; rw [hr] at h1; cases h1; rw [hs.2.1.1, hs.2.1.2]; exact K μ' h2) (fun E w' hp => by obtain ⟨μ', rfl, h1, h2⟩ := hp; rw [hr] at h1; cases h1)
theorem cl_L_176 (hM : M.1 = RL) {o : Nat} (ho : kt o = 14) {a0 a1 : Value} {Ry : Room} {k' n' : Nat} {x : Value} {φ : Mem → Prop} (hC : CT g yX8_fewest mX8_fewest Ry (WM g adr μ) (.ref (adr o) :: [a0, a1]) (PM g adr (.inl (some x)) φ)) (hs : (Ry.frames + 1 ≤ R.frames ∧ 8 + (3 + 11) + Ry.locals ≤ R.locals) ∧ (k + Ry.cells = k' ∧ n + Ry.slots = n') ∧ k' ≤ R.cells ∧ n' ≤ R.slots) (hW : Nat.ble ((st.map fun v => v.category).sum) 8 = true) (d : decode M.2.1 pc = .ok (.invokevirtual 176, 3)) (K : ∀ μ', φ μ' → J g M R Q k' n' (WM g adr μ') (pc + 3) l (x :: st)) : J g M R Q k n (WM g adr μ) pc l (a1 :: a0 :: .ref (adr o) :: st) := by
  obtain ⟨r, hr⟩ : ∃ r : Option Value ⊕ String, r = .inl (some x) := ⟨_, rfl⟩
  rw [← hr] at hC
  exact J.callV (C := RX8) (y := yX8_fewest) (My := mX8_fewest) (As := [a0, a1]) (na := 2) (idx := 176) (P := PM g adr r φ) hC (by rw [hM]; exact t_1149) t_1150 t_1151 t_9 t_1152 ⟨rfl, by decide +kernel, by decide +kernel, by decide +kernel⟩ rfl hs.1 o (ci := 8) (q := (RX8, TX8, 20)) rfl rfl (WM_get ho (by decide)) (Nat.le_of_ble_eq_true hW) d ⟨by rw [hs.2.1.1]; exact hs.2.2.1, by rw [hs.2.1.2]; exact hs.2.2.2⟩ (fun v w' hp => by obtain ⟨μ', rfl, h1, h2⟩ := hp; rw [hr] at h1; cases h1; rw [hs.2.1.1, hs.2.1.2]; exact K μ' h2) (fun E w' hp => by obtain ⟨μ', rfl, h1, h2⟩ := hp; rw [hr] at h1; cases h1)
theorem cl_L_177 (hM : M.1 = RL) {a0 a1 a2 : Value} {Ry : Room} {k' n' : Nat} {x : Value} {φ : Mem → Prop} (hC : CW g yL_learn mL_learn Ry (WM g adr μ) [a0, a1, a2] (PM g adr (.inl (some x)) φ)) (hs : (Ry.frames + 1 ≤ R.frames ∧ 8 + (4 + 11) + Ry.locals ≤ R.locals) ∧ (k + Ry.cells = k' ∧ n + Ry.slots = n') ∧ k' ≤ R.cells ∧ n' ≤ R.slots) (hW : Nat.ble ((st.map fun v => v.category).sum) 8 = true) (d : decode M.2.1 pc = .ok (.invokestatic 177, 3)) (K : ∀ μ', φ μ' → J g M R Q k' n' (WM g adr μ') (pc + 3) l (x :: st)) : J g M R Q k n (WM g adr μ) pc l (a2 :: a1 :: a0 :: st) := by
  obtain ⟨r, hr⟩ : ∃ r : Option Value ⊕ String, r = .inl (some x) := ⟨_, rfl⟩
  rw [← hr] at hC
  exact J.callSW (y := yL_learn) (My := mL_learn) (As := [a0, a1, a2]) (na := 3) (idx := 177) (P := PM g adr r φ) hC (by rw [hM]; exact t_588) t_589 t_0 t_590 ⟨by decide +kernel, by decide +kernel, by decide +kernel⟩ rfl hs.1 (Nat.le_of_ble_eq_true hW) d ⟨by rw [hs.2.1.1]; exact hs.2.2.1, by rw [hs.2.1.2]; exact hs.2.2.2⟩ (fun v w' hp => by obtain ⟨μ', rfl, h1, h2⟩ := hp; rw [hr] at h1; cases h1; rw [hs.2.1.1, hs.2.1.2]; exact K μ' h2) (fun E w' hp => by obtain ⟨μ', rfl, h1, h2⟩ := hp; rw [hr] at h1; cases h1)
theorem cl_L_179 (hM : M.1 = RL) {o : Nat} (ho : kt o = 14) {a0 : Value} {Ry : Room} {k' n' : Nat} {x : Value} {φ : Mem → Prop} (hC : CT g yX8_learn mX8_learn Ry (WM g adr μ) (.ref (adr o) :: [a0]) (PM g adr (.inl (some x)) φ)) (hs : (Ry.frames + 1 ≤ R.frames ∧ 8 + (4 + 11) + Ry.locals ≤ R.locals) ∧ (k + Ry.cells = k' ∧ n + Ry.slots = n') ∧ k' ≤ R.cells ∧ n' ≤ R.slots) (hW : Nat.ble ((st.map fun v => v.category).sum) 8 = true) (d : decode M.2.1 pc = .ok (.invokevirtual 179, 3)) (K : ∀ μ', φ μ' → J g M R Q k' n' (WM g adr μ') (pc + 3) l (x :: st)) : J g M R Q k n (WM g adr μ) pc l (a0 :: .ref (adr o) :: st) := by
  obtain ⟨r, hr⟩ : ∃ r : Option Value ⊕ String, r = .inl (some x) := ⟨_, rfl⟩
  rw [← hr] at hC
  exact J.callV (C := RX8) (y := yX8_learn) (My := mX8_learn) (As := [a0]) (na := 1) (idx := 179) (P := PM g adr r φ) hC (by rw [hM]; exact t_1212) t_1213 t_1214 t_9 t_1215 ⟨rfl, by decide +kernel, by decide +kernel, by decide +kernel⟩ rfl hs.1 o (ci := 8) (q := (RX8, TX8, 20)) rfl rfl (WM_get ho (by decide)) (Nat.le_of_ble_eq_true hW) d ⟨by rw [hs.2.1.1]; exact hs.2.2.1, by rw [hs.2.1.2]; exact hs.2.2.2⟩ (fun v w' hp => by obtain ⟨μ', rfl, h1, h2⟩ := hp; rw [hr] at h1; cases h1; rw [hs.2.1.1, hs.2.1.2]; exact K μ' h2) (fun E w' hp => by obtain ⟨μ', rfl, h1, h2⟩ := hp; rw [hr] at h1; cases h1)
theorem cl_L_180 (hM : M.1 = RL) {a0 a1 a2 a3 : Value} {Ry : Room} {k' n' : Nat} {x : Value} {φ : Mem → Prop} (hC : CW g yL_use mL_use Ry (WM g adr μ) [a0, a1, a2, a3] (PM g adr (.inl (some x)) φ)) (hs : (Ry.frames + 1 ≤ R.frames ∧ 8 + (5 + 11) + Ry.locals ≤ R.locals) ∧ (k + Ry.cells = k' ∧ n + Ry.slots = n') ∧ k' ≤ R.cells ∧ n' ≤ R.slots) (hW : Nat.ble ((st.map fun v => v.category).sum) 8 = true) (d : decode M.2.1 pc = .ok (.invokestatic 180, 3)) (K : ∀ μ', φ μ' → J g M R Q k' n' (WM g adr μ') (pc + 3) l (x :: st)) : J g M R Q k n (WM g adr μ) pc l (a3 :: a2 :: a1 :: a0 :: st) := by
  obtain ⟨r, hr⟩ : ∃ r : Option Value ⊕ String, r = .inl (some x) := ⟨_, rfl⟩
  rw [← hr] at hC
  exact J.callSW (y := yL_use) (My := mL_use) (As := [a0, a1, a2, a3]) (na := 4) (idx := 180) (P := PM g adr r φ) hC (by rw [hM]; exact t_678) t_679 t_0 t_680 ⟨by decide +kernel, by decide +kernel, by decide +kernel⟩ rfl hs.1 (Nat.le_of_ble_eq_true hW) d ⟨by rw [hs.2.1.1]; exact hs.2.2.1, by rw [hs.2.1.2]; exact hs.2.2.2⟩ (fun v w' hp => by obtain ⟨μ', rfl, h1, h2⟩ := hp; rw [hr] at h1; cases h1; rw [hs.2.1.1, hs.2.1.2]; exact K μ' h2) (fun E w' hp => by obtain ⟨μ', rfl, h1, h2⟩ := hp; rw [hr] at h1; cases h1)
theorem cl_L_182 (hM : M.1 = RL) {o : Nat} (ho : kt o = 14) {a0 a1 : Value} {Ry : Room} {k' n' : Nat} {x : Value} {φ : Mem → Prop} (hC : CT g yX8_use mX8_use Ry (WM g adr μ) (.ref (adr o) :: [a0, a1]) (PM g adr (.inl (some x)) φ)) (hs : (Ry.frames + 1 ≤ R.frames ∧ 8 + (4 + 11) + Ry.locals ≤ R.locals) ∧ (k + Ry.cells = k' ∧ n + Ry.slots = n') ∧ k' ≤ R.cells ∧ n' ≤ R.slots) (hW : Nat.ble ((st.map fun v => v.category).sum) 8 = true) (d : decode M.2.1 pc = .ok (.invokevirtual 182, 3)) (K : ∀ μ', φ μ' → J g M R Q k' n' (WM g adr μ') (pc + 3) l (x :: st)) : J g M R Q k n (WM g adr μ) pc l (a1 :: a0 :: .ref (adr o) :: st) := by
  obtain ⟨r, hr⟩ : ∃ r : Option Value ⊕ String, r = .inl (some x) := ⟨_, rfl⟩
  rw [← hr] at hC
  exact J.callV (C := RX8) (y := yX8_use) (My := mX8_use) (As := [a0, a1]) (na := 2) (idx := 182) (P := PM g adr r φ) hC (by rw [hM]; exact t_1227) t_1228 t_1229 t_9 t_1230 ⟨rfl, by decide +kernel, by decide +kernel, by decide +kernel⟩ rfl hs.1 o (ci := 8) (q := (RX8, TX8, 20)) rfl rfl (WM_get ho (by decide)) (Nat.le_of_ble_eq_true hW) d ⟨by rw [hs.2.1.1]; exact hs.2.2.1, by rw [hs.2.1.2]; exact hs.2.2.2⟩ (fun v w' hp => by obtain ⟨μ', rfl, h1, h2⟩ := hp; rw [hr] at h1; cases h1; rw [hs.2.1.1, hs.2.1.2]; exact K μ' h2) (fun E w' hp => by obtain ⟨μ', rfl, h1, h2⟩ := hp; rw [hr] at h1; cases h1)
theorem cl_L_183 (hM : M.1 = RL) {a0 a1 a2 a3 a4 : Value} {Ry : Room} {k' n' : Nat} {x : Value} {φ : Mem → Prop} (hC : CW g yL_join mL_join Ry (WM g adr μ) [a0, a1, a2, a3, a4] (PM g adr (.inl (some x)) φ)) (hs : (Ry.frames + 1 ≤ R.frames ∧ 8 + (6 + 11) + Ry.locals ≤ R.locals) ∧ (k + Ry.cells = k' ∧ n + Ry.slots = n') ∧ k' ≤ R.cells ∧ n' ≤ R.slots) (hW : Nat.ble ((st.map fun v => v.category).sum) 8 = true) (d : decode M.2.1 pc = .ok (.invokestatic 183, 3)) (K : ∀ μ', φ μ' → J g M R Q k' n' (WM g adr μ') (pc + 3) l (x :: st)) : J g M R Q k n (WM g adr μ) pc l (a4 :: a3 :: a2 :: a1 :: a0 :: st) := by
  obtain ⟨r, hr⟩ : ∃ r : Option Value ⊕ String, r = .inl (some x) := ⟨_, rfl⟩
  rw [← hr] at hC
  exact J.callSW (y := yL_join) (My := mL_join) (As := [a0, a1, a2, a3, a4]) (na := 5) (idx := 183) (P := PM g adr r φ) hC (by rw [hM]; exact t_697) t_698 t_0 t_699 ⟨by decide +kernel, by decide +kernel, by decide +kernel⟩ rfl hs.1 (Nat.le_of_ble_eq_true hW) d ⟨by rw [hs.2.1.1]; exact hs.2.2.1, by rw [hs.2.1.2]; exact hs.2.2.2⟩ (fun v w' hp => by obtain ⟨μ', rfl, h1, h2⟩ := hp; rw [hr] at h1; cases h1; rw [hs.2.1.1, hs.2.1.2]; exact K μ' h2) (fun E w' hp => by obtain ⟨μ', rfl, h1, h2⟩ := hp; rw [hr] at h1; cases h1)
theorem cl_L_186 (hM : M.1 = RL) {o : Nat} (ho : kt o = 14) {a0 a1 a2 : Value} {Ry : Room} {k' n' : Nat} {x : Value} {φ : Mem → Prop} (hC : CT g yX8_join mX8_join Ry (WM g adr μ) (.ref (adr o) :: [a0, a1, a2]) (PM g adr (.inl (some x)) φ)) (hs : (Ry.frames + 1 ≤ R.frames ∧ 8 + (5 + 11) + Ry.locals ≤ R.locals) ∧ (k + Ry.cells = k' ∧ n + Ry.slots = n') ∧ k' ≤ R.cells ∧ n' ≤ R.slots) (hW : Nat.ble ((st.map fun v => v.category).sum) 8 = true) (d : decode M.2.1 pc = .ok (.invokevirtual 186, 3)) (K : ∀ μ', φ μ' → J g M R Q k' n' (WM g adr μ') (pc + 3) l (x :: st)) : J g M R Q k n (WM g adr μ) pc l (a2 :: a1 :: a0 :: .ref (adr o) :: st) := by
  obtain ⟨r, hr⟩ : ∃ r : Option Value ⊕ String, r = .inl (some x) := ⟨_, rfl⟩
  rw [← hr] at hC
  exact J.callV (C := RX8) (y := yX8_join) (My := mX8_join) (As := [a0, a1, a2]) (na := 3) (idx := 186) (P := PM g adr r φ) hC (by rw [hM]; exact t_1235) t_1236 t_1237 t_9 t_1238 ⟨rfl, by decide +kernel, by decide +kernel, by decide +kernel⟩ rfl hs.1 o (ci := 8) (q := (RX8, TX8, 20)) rfl rfl (WM_get ho (by decide)) (Nat.le_of_ble_eq_true hW) d ⟨by rw [hs.2.1.1]; exact hs.2.2.1, by rw [hs.2.1.2]; exact hs.2.2.2⟩ (fun v w' hp => by obtain ⟨μ', rfl, h1, h2⟩ := hp; rw [hr] at h1; cases h1; rw [hs.2.1.1, hs.2.1.2]; exact K μ' h2) (fun E w' hp => by obtain ⟨μ', rfl, h1, h2⟩ := hp; rw [hr] at h1; cases h1)
theorem cl_L_187 (hM : M.1 = RL) {a0 a1 a2 a3 : Value} {Ry : Room} {k' n' : Nat} {x : Value} {φ : Mem → Prop} (hC : CW g yL_invert mL_invert Ry (WM g adr μ) [a0, a1, a2, a3] (PM g adr (.inl (some x)) φ)) (hs : (Ry.frames + 1 ≤ R.frames ∧ 8 + (5 + 11) + Ry.locals ≤ R.locals) ∧ (k + Ry.cells = k' ∧ n + Ry.slots = n') ∧ k' ≤ R.cells ∧ n' ≤ R.slots) (hW : Nat.ble ((st.map fun v => v.category).sum) 8 = true) (d : decode M.2.1 pc = .ok (.invokestatic 187, 3)) (K : ∀ μ', φ μ' → J g M R Q k' n' (WM g adr μ') (pc + 3) l (x :: st)) : J g M R Q k n (WM g adr μ) pc l (a3 :: a2 :: a1 :: a0 :: st) := by
  obtain ⟨r, hr⟩ : ∃ r : Option Value ⊕ String, r = .inl (some x) := ⟨_, rfl⟩
  rw [← hr] at hC
  exact J.callSW (y := yL_invert) (My := mL_invert) (As := [a0, a1, a2, a3]) (na := 4) (idx := 187) (P := PM g adr r φ) hC (by rw [hM]; exact t_712) t_713 t_0 t_714 ⟨by decide +kernel, by decide +kernel, by decide +kernel⟩ rfl hs.1 (Nat.le_of_ble_eq_true hW) d ⟨by rw [hs.2.1.1]; exact hs.2.2.1, by rw [hs.2.1.2]; exact hs.2.2.2⟩ (fun v w' hp => by obtain ⟨μ', rfl, h1, h2⟩ := hp; rw [hr] at h1; cases h1; rw [hs.2.1.1, hs.2.1.2]; exact K μ' h2) (fun E w' hp => by obtain ⟨μ', rfl, h1, h2⟩ := hp; rw [hr] at h1; cases h1)
theorem cl_L_189 (hM : M.1 = RL) {o : Nat} (ho : kt o = 14) {a0 a1 : Value} {Ry : Room} {k' n' : Nat} {x : Value} {φ : Mem → Prop} (hC : CT g yX8_invert mX8_invert Ry (WM g adr μ) (.ref (adr o) :: [a0, a1]) (PM g adr (.inl (some x)) φ)) (hs : (Ry.frames + 1 ≤ R.frames ∧ 8 + (3 + 11) + Ry.locals ≤ R.locals) ∧ (k + Ry.cells = k' ∧ n + Ry.slots = n') ∧ k' ≤ R.cells ∧ n' ≤ R.slots) (hW : Nat.ble ((st.map fun v => v.category).sum) 8 = true) (d : decode M.2.1 pc = .ok (.invokevirtual 189, 3)) (K : ∀ μ', φ μ' → J g M R Q k' n' (WM g adr μ') (pc + 3) l (x :: st)) : J g M R Q k n (WM g adr μ) pc l (a1 :: a0 :: .ref (adr o) :: st) := by
  obtain ⟨r, hr⟩ : ∃ r : Option Value ⊕ String, r = .inl (some x) := ⟨_, rfl⟩
  rw [← hr] at hC
  exact J.callV (C := RX8) (y := yX8_invert) (My := mX8_invert) (As := [a0, a1]) (na := 2) (idx := 189) (P := PM g adr r φ) hC (by rw [hM]; exact t_1239) t_1240 t_1241 t_9 t_1242 ⟨rfl, by decide +kernel, by decide +kernel, by decide +kernel⟩ rfl hs.1 o (ci := 8) (q := (RX8, TX8, 20)) rfl rfl (WM_get ho (by decide)) (Nat.le_of_ble_eq_true hW) d ⟨by rw [hs.2.1.1]; exact hs.2.2.1, by rw [hs.2.1.2]; exact hs.2.2.2⟩ (fun v w' hp => by obtain ⟨μ', rfl, h1, h2⟩ := hp; rw [hr] at h1; cases h1; rw [hs.2.1.1, hs.2.1.2]; exact K μ' h2) (fun E w' hp => by obtain ⟨μ', rfl, h1, h2⟩ := hp; rw [hr] at h1; cases h1)
theorem cl_L_190 (hM : M.1 = RL) {a0 a1 a2 a3 a4 : Value} {Ry : Room} {k' n' : Nat} {x : Value} {φ : Mem → Prop} (hC : CW g yL_commute mL_commute Ry (WM g adr μ) [a0, a1, a2, a3, a4] (PM g adr (.inl (some x)) φ)) (hs : (Ry.frames + 1 ≤ R.frames ∧ 8 + (6 + 11) + Ry.locals ≤ R.locals) ∧ (k + Ry.cells = k' ∧ n + Ry.slots = n') ∧ k' ≤ R.cells ∧ n' ≤ R.slots) (hW : Nat.ble ((st.map fun v => v.category).sum) 8 = true) (d : decode M.2.1 pc = .ok (.invokestatic 190, 3)) (K : ∀ μ', φ μ' → J g M R Q k' n' (WM g adr μ') (pc + 3) l (x :: st)) : J g M R Q k n (WM g adr μ) pc l (a4 :: a3 :: a2 :: a1 :: a0 :: st) := by
  obtain ⟨r, hr⟩ : ∃ r : Option Value ⊕ String, r = .inl (some x) := ⟨_, rfl⟩
  rw [← hr] at hC
  exact J.callSW (y := yL_commute) (My := mL_commute) (As := [a0, a1, a2, a3, a4]) (na := 5) (idx := 190) (P := PM g adr r φ) hC (by rw [hM]; exact t_719) t_720 t_0 t_721 ⟨by decide +kernel, by decide +kernel, by decide +kernel⟩ rfl hs.1 (Nat.le_of_ble_eq_true hW) d ⟨by rw [hs.2.1.1]; exact hs.2.2.1, by rw [hs.2.1.2]; exact hs.2.2.2⟩ (fun v w' hp => by obtain ⟨μ', rfl, h1, h2⟩ := hp; rw [hr] at h1; cases h1; rw [hs.2.1.1, hs.2.1.2]; exact K μ' h2) (fun E w' hp => by obtain ⟨μ', rfl, h1, h2⟩ := hp; rw [hr] at h1; cases h1)
theorem cl_L_192 (hM : M.1 = RL) {o : Nat} (ho : kt o = 14) {a0 a1 a2 : Value} {Ry : Room} {k' n' : Nat} {x : Value} {φ : Mem → Prop} (hC : CT g yX8_commute mX8_commute Ry (WM g adr μ) (.ref (adr o) :: [a0, a1, a2]) (PM g adr (.inl (some x)) φ)) (hs : (Ry.frames + 1 ≤ R.frames ∧ 8 + (4 + 11) + Ry.locals ≤ R.locals) ∧ (k + Ry.cells = k' ∧ n + Ry.slots = n') ∧ k' ≤ R.cells ∧ n' ≤ R.slots) (hW : Nat.ble ((st.map fun v => v.category).sum) 8 = true) (d : decode M.2.1 pc = .ok (.invokevirtual 192, 3)) (K : ∀ μ', φ μ' → J g M R Q k' n' (WM g adr μ') (pc + 3) l (x :: st)) : J g M R Q k n (WM g adr μ) pc l (a2 :: a1 :: a0 :: .ref (adr o) :: st) := by
  obtain ⟨r, hr⟩ : ∃ r : Option Value ⊕ String, r = .inl (some x) := ⟨_, rfl⟩
  rw [← hr] at hC
  exact J.callV (C := RX8) (y := yX8_commute) (My := mX8_commute) (As := [a0, a1, a2]) (na := 3) (idx := 192) (P := PM g adr r φ) hC (by rw [hM]; exact t_1243) t_1244 t_1245 t_9 t_1246 ⟨rfl, by decide +kernel, by decide +kernel, by decide +kernel⟩ rfl hs.1 o (ci := 8) (q := (RX8, TX8, 20)) rfl rfl (WM_get ho (by decide)) (Nat.le_of_ble_eq_true hW) d ⟨by rw [hs.2.1.1]; exact hs.2.2.1, by rw [hs.2.1.2]; exact hs.2.2.2⟩ (fun v w' hp => by obtain ⟨μ', rfl, h1, h2⟩ := hp; rw [hr] at h1; cases h1; rw [hs.2.1.1, hs.2.1.2]; exact K μ' h2) (fun E w' hp => by obtain ⟨μ', rfl, h1, h2⟩ := hp; rw [hr] at h1; cases h1)
theorem cl_L_193 (hM : M.1 = RL) {a0 a1 a2 : Value} {Ry : Room} {k' n' : Nat} {x : Value} {φ : Mem → Prop} (hC : CW g yL_forget mL_forget Ry (WM g adr μ) [a0, a1, a2] (PM g adr (.inl (some x)) φ)) (hs : (Ry.frames + 1 ≤ R.frames ∧ 8 + (4 + 11) + Ry.locals ≤ R.locals) ∧ (k + Ry.cells = k' ∧ n + Ry.slots = n') ∧ k' ≤ R.cells ∧ n' ≤ R.slots) (hW : Nat.ble ((st.map fun v => v.category).sum) 8 = true) (d : decode M.2.1 pc = .ok (.invokestatic 193, 3)) (K : ∀ μ', φ μ' → J g M R Q k' n' (WM g adr μ') (pc + 3) l (x :: st)) : J g M R Q k n (WM g adr μ) pc l (a2 :: a1 :: a0 :: st) := by
  obtain ⟨r, hr⟩ : ∃ r : Option Value ⊕ String, r = .inl (some x) := ⟨_, rfl⟩
  rw [← hr] at hC
  exact J.callSW (y := yL_forget) (My := mL_forget) (As := [a0, a1, a2]) (na := 3) (idx := 193) (P := PM g adr r φ) hC (by rw [hM]; exact t_727) t_728 t_0 t_729 ⟨by decide +kernel, by decide +kernel, by decide +kernel⟩ rfl hs.1 (Nat.le_of_ble_eq_true hW) d ⟨by rw [hs.2.1.1]; exact hs.2.2.1, by rw [hs.2.1.2]; exact hs.2.2.2⟩ (fun v w' hp => by obtain ⟨μ', rfl, h1, h2⟩ := hp; rw [hr] at h1; cases h1; rw [hs.2.1.1, hs.2.1.2]; exact K μ' h2) (fun E w' hp => by obtain ⟨μ', rfl, h1, h2⟩ := hp; rw [hr] at h1; cases h1)
theorem cl_L_195 (hM : M.1 = RL) {o : Nat} (ho : kt o = 14) {a0 : Value} {Ry : Room} {k' n' : Nat} {x : Value} {φ : Mem → Prop} (hC : CT g yX8_forget mX8_forget Ry (WM g adr μ) (.ref (adr o) :: [a0]) (PM g adr (.inl (some x)) φ)) (hs : (Ry.frames + 1 ≤ R.frames ∧ 8 + (2 + 11) + Ry.locals ≤ R.locals) ∧ (k + Ry.cells = k' ∧ n + Ry.slots = n') ∧ k' ≤ R.cells ∧ n' ≤ R.slots) (hW : Nat.ble ((st.map fun v => v.category).sum) 8 = true) (d : decode M.2.1 pc = .ok (.invokevirtual 195, 3)) (K : ∀ μ', φ μ' → J g M R Q k' n' (WM g adr μ') (pc + 3) l (x :: st)) : J g M R Q k n (WM g adr μ) pc l (a0 :: .ref (adr o) :: st) := by
  obtain ⟨r, hr⟩ : ∃ r : Option Value ⊕ String, r = .inl (some x) := ⟨_, rfl⟩
  rw [← hr] at hC
  exact J.callV (C := RX8) (y := yX8_forget) (My := mX8_forget) (As := [a0]) (na := 1) (idx := 195) (P := PM g adr r φ) hC (by rw [hM]; exact t_1247) t_1248 t_1249 t_9 t_1250 ⟨rfl, by decide +kernel, by decide +kernel, by decide +kernel⟩ rfl hs.1 o (ci := 8) (q := (RX8, TX8, 20)) rfl rfl (WM_get ho (by decide)) (Nat.le_of_ble_eq_true hW) d ⟨by rw [hs.2.1.1]; exact hs.2.2.1, by rw [hs.2.1.2]; exact hs.2.2.2⟩ (fun v w' hp => by obtain ⟨μ', rfl, h1, h2⟩ := hp; rw [hr] at h1; cases h1; rw [hs.2.1.1, hs.2.1.2]; exact K μ' h2) (fun E w' hp => by obtain ⟨μ', rfl, h1, h2⟩ := hp; rw [hr] at h1; cases h1)
theorem cl_L_196 (hM : M.1 = RL) {a0 a1 a2 a3 : Value} {Ry : Room} {k' n' : Nat} {x : Value} {φ : Mem → Prop} (hC : CW g yL_goesTo mL_goesTo Ry (WM g adr μ) [a0, a1, a2, a3] (PM g adr (.inl (some x)) φ)) (hs : (Ry.frames + 1 ≤ R.frames ∧ 8 + (5 + 11) + Ry.locals ≤ R.locals) ∧ (k + Ry.cells = k' ∧ n + Ry.slots = n') ∧ k' ≤ R.cells ∧ n' ≤ R.slots) (hW : Nat.ble ((st.map fun v => v.category).sum) 8 = true) (d : decode M.2.1 pc = .ok (.invokestatic 196, 3)) (K : ∀ μ', φ μ' → J g M R Q k' n' (WM g adr μ') (pc + 3) l (x :: st)) : J g M R Q k n (WM g adr μ) pc l (a3 :: a2 :: a1 :: a0 :: st) := by
  obtain ⟨r, hr⟩ : ∃ r : Option Value ⊕ String, r = .inl (some x) := ⟨_, rfl⟩
  rw [← hr] at hC
  exact J.callSW (y := yL_goesTo) (My := mL_goesTo) (As := [a0, a1, a2, a3]) (na := 4) (idx := 196) (P := PM g adr r φ) hC (by rw [hM]; exact t_742) t_743 t_0 t_744 ⟨by decide +kernel, by decide +kernel, by decide +kernel⟩ rfl hs.1 (Nat.le_of_ble_eq_true hW) d ⟨by rw [hs.2.1.1]; exact hs.2.2.1, by rw [hs.2.1.2]; exact hs.2.2.2⟩ (fun v w' hp => by obtain ⟨μ', rfl, h1, h2⟩ := hp; rw [hr] at h1; cases h1; rw [hs.2.1.1, hs.2.1.2]; exact K μ' h2) (fun E w' hp => by obtain ⟨μ', rfl, h1, h2⟩ := hp; rw [hr] at h1; cases h1)
theorem cl_L_198 (hM : M.1 = RL) {o : Nat} (ho : kt o = 14) {a0 a1 : Value} {Ry : Room} {k' n' : Nat} {x : Value} {φ : Mem → Prop} (hC : CT g yX8_goesTo mX8_goesTo Ry (WM g adr μ) (.ref (adr o) :: [a0, a1]) (PM g adr (.inl (some x)) φ)) (hs : (Ry.frames + 1 ≤ R.frames ∧ 8 + (3 + 11) + Ry.locals ≤ R.locals) ∧ (k + Ry.cells = k' ∧ n + Ry.slots = n') ∧ k' ≤ R.cells ∧ n' ≤ R.slots) (hW : Nat.ble ((st.map fun v => v.category).sum) 8 = true) (d : decode M.2.1 pc = .ok (.invokevirtual 198, 3)) (K : ∀ μ', φ μ' → J g M R Q k' n' (WM g adr μ') (pc + 3) l (x :: st)) : J g M R Q k n (WM g adr μ) pc l (a1 :: a0 :: .ref (adr o) :: st) := by
  obtain ⟨r, hr⟩ : ∃ r : Option Value ⊕ String, r = .inl (some x) := ⟨_, rfl⟩
  rw [← hr] at hC
  exact J.callV (C := RX8) (y := yX8_goesTo) (My := mX8_goesTo) (As := [a0, a1]) (na := 2) (idx := 198) (P := PM g adr r φ) hC (by rw [hM]; exact t_1255) t_1256 t_1257 t_9 t_1258 ⟨rfl, by decide +kernel, by decide +kernel, by decide +kernel⟩ rfl hs.1 o (ci := 8) (q := (RX8, TX8, 20)) rfl rfl (WM_get ho (by decide)) (Nat.le_of_ble_eq_true hW) d ⟨by rw [hs.2.1.1]; exact hs.2.2.1, by rw [hs.2.1.2]; exact hs.2.2.2⟩ (fun v w' hp => by obtain ⟨μ', rfl, h1, h2⟩ := hp; rw [hr] at h1; cases h1; rw [hs.2.1.1, hs.2.1.2]; exact K μ' h2) (fun E w' hp => by obtain ⟨μ', rfl, h1, h2⟩ := hp; rw [hr] at h1; cases h1)
theorem cl_L_199 (hM : M.1 = RL) {a0 a1 a2 a3 : Value} {Ry : Room} {k' n' : Nat} {x : Value} {φ : Mem → Prop} (hC : CW g yL_shelfOf mL_shelfOf Ry (WM g adr μ) [a0, a1, a2, a3] (PM g adr (.inl (some x)) φ)) (hs : (Ry.frames + 1 ≤ R.frames ∧ 8 + (5 + 11) + Ry.locals ≤ R.locals) ∧ (k + Ry.cells = k' ∧ n + Ry.slots = n') ∧ k' ≤ R.cells ∧ n' ≤ R.slots) (hW : Nat.ble ((st.map fun v => v.category).sum) 8 = true) (d : decode M.2.1 pc = .ok (.invokestatic 199, 3)) (K : ∀ μ', φ μ' → J g M R Q k' n' (WM g adr μ') (pc + 3) l (x :: st)) : J g M R Q k n (WM g adr μ) pc l (a3 :: a2 :: a1 :: a0 :: st) := by
  obtain ⟨r, hr⟩ : ∃ r : Option Value ⊕ String, r = .inl (some x) := ⟨_, rfl⟩
  rw [← hr] at hC
  exact J.callSW (y := yL_shelfOf) (My := mL_shelfOf) (As := [a0, a1, a2, a3]) (na := 4) (idx := 199) (P := PM g adr r φ) hC (by rw [hM]; exact t_771) t_772 t_0 t_773 ⟨by decide +kernel, by decide +kernel, by decide +kernel⟩ rfl hs.1 (Nat.le_of_ble_eq_true hW) d ⟨by rw [hs.2.1.1]; exact hs.2.2.1, by rw [hs.2.1.2]; exact hs.2.2.2⟩ (fun v w' hp => by obtain ⟨μ', rfl, h1, h2⟩ := hp; rw [hr] at h1; cases h1; rw [hs.2.1.1, hs.2.1.2]; exact K μ' h2) (fun E w' hp => by obtain ⟨μ', rfl, h1, h2⟩ := hp; rw [hr] at h1; cases h1)
theorem cl_L_201 (hM : M.1 = RL) {o : Nat} (ho : kt o = 14) {a0 a1 : Value} {Ry : Room} {k' n' : Nat} {x : Value} {φ : Mem → Prop} (hC : CT g yX8_shelfOf mX8_shelfOf Ry (WM g adr μ) (.ref (adr o) :: [a0, a1]) (PM g adr (.inl (some x)) φ)) (hs : (Ry.frames + 1 ≤ R.frames ∧ 8 + (8 + 11) + Ry.locals ≤ R.locals) ∧ (k + Ry.cells = k' ∧ n + Ry.slots = n') ∧ k' ≤ R.cells ∧ n' ≤ R.slots) (hW : Nat.ble ((st.map fun v => v.category).sum) 8 = true) (d : decode M.2.1 pc = .ok (.invokevirtual 201, 3)) (K : ∀ μ', φ μ' → J g M R Q k' n' (WM g adr μ') (pc + 3) l (x :: st)) : J g M R Q k n (WM g adr μ) pc l (a1 :: a0 :: .ref (adr o) :: st) := by
  obtain ⟨r, hr⟩ : ∃ r : Option Value ⊕ String, r = .inl (some x) := ⟨_, rfl⟩
  rw [← hr] at hC
  exact J.callV (C := RX8) (y := yX8_shelfOf) (My := mX8_shelfOf) (As := [a0, a1]) (na := 2) (idx := 201) (P := PM g adr r φ) hC (by rw [hM]; exact t_1263) t_1264 t_1265 t_9 t_1266 ⟨rfl, by decide +kernel, by decide +kernel, by decide +kernel⟩ rfl hs.1 o (ci := 8) (q := (RX8, TX8, 20)) rfl rfl (WM_get ho (by decide)) (Nat.le_of_ble_eq_true hW) d ⟨by rw [hs.2.1.1]; exact hs.2.2.1, by rw [hs.2.1.2]; exact hs.2.2.2⟩ (fun v w' hp => by obtain ⟨μ', rfl, h1, h2⟩ := hp; rw [hr] at h1; cases h1; rw [hs.2.1.1, hs.2.1.2]; exact K μ' h2) (fun E w' hp => by obtain ⟨μ', rfl, h1, h2⟩ := hp; rw [hr] at h1; cases h1)
theorem cl_L_202 (hM : M.1 = RL) {a0 a1 a2 : Value} {Ry : Room} {k' n' : Nat} {x : Value} {φ : Mem → Prop} (hC : CW g yL_orderAgain mL_orderAgain Ry (WM g adr μ) [a0, a1, a2] (PM g adr (.inl (some x)) φ)) (hs : (Ry.frames + 1 ≤ R.frames ∧ 8 + (4 + 11) + Ry.locals ≤ R.locals) ∧ (k + Ry.cells = k' ∧ n + Ry.slots = n') ∧ k' ≤ R.cells ∧ n' ≤ R.slots) (hW : Nat.ble ((st.map fun v => v.category).sum) 8 = true) (d : decode M.2.1 pc = .ok (.invokestatic 202, 3)) (K : ∀ μ', φ μ' → J g M R Q k' n' (WM g adr μ') (pc + 3) l (x :: st)) : J g M R Q k n (WM g adr μ) pc l (a2 :: a1 :: a0 :: st) := by
  obtain ⟨r, hr⟩ : ∃ r : Option Value ⊕ String, r = .inl (some x) := ⟨_, rfl⟩
  rw [← hr] at hC
  exact J.callSW (y := yL_orderAgain) (My := mL_orderAgain) (As := [a0, a1, a2]) (na := 3) (idx := 202) (P := PM g adr r φ) hC (by rw [hM]; exact t_805) t_806 t_0 t_807 ⟨by decide +kernel, by decide +kernel, by decide +kernel⟩ rfl hs.1 (Nat.le_of_ble_eq_true hW) d ⟨by rw [hs.2.1.1]; exact hs.2.2.1, by rw [hs.2.1.2]; exact hs.2.2.2⟩ (fun v w' hp => by obtain ⟨μ', rfl, h1, h2⟩ := hp; rw [hr] at h1; cases h1; rw [hs.2.1.1, hs.2.1.2]; exact K μ' h2) (fun E w' hp => by obtain ⟨μ', rfl, h1, h2⟩ := hp; rw [hr] at h1; cases h1)
theorem cl_L_204 (hM : M.1 = RL) {o : Nat} (ho : kt o = 14) {a0 : Value} {Ry : Room} {k' n' : Nat} {x : Value} {φ : Mem → Prop} (hC : CT g yX8_orderAgain mX8_orderAgain Ry (WM g adr μ) (.ref (adr o) :: [a0]) (PM g adr (.inl (some x)) φ)) (hs : (Ry.frames + 1 ≤ R.frames ∧ 8 + (2 + 11) + Ry.locals ≤ R.locals) ∧ (k + Ry.cells = k' ∧ n + Ry.slots = n') ∧ k' ≤ R.cells ∧ n' ≤ R.slots) (hW : Nat.ble ((st.map fun v => v.category).sum) 8 = true) (d : decode M.2.1 pc = .ok (.invokevirtual 204, 3)) (K : ∀ μ', φ μ' → J g M R Q k' n' (WM g adr μ') (pc + 3) l (x :: st)) : J g M R Q k n (WM g adr μ) pc l (a0 :: .ref (adr o) :: st) := by
  obtain ⟨r, hr⟩ : ∃ r : Option Value ⊕ String, r = .inl (some x) := ⟨_, rfl⟩
  rw [← hr] at hC
  exact J.callV (C := RX8) (y := yX8_orderAgain) (My := mX8_orderAgain) (As := [a0]) (na := 1) (idx := 204) (P := PM g adr r φ) hC (by rw [hM]; exact t_1283) t_1284 t_1285 t_9 t_1286 ⟨rfl, by decide +kernel, by decide +kernel, by decide +kernel⟩ rfl hs.1 o (ci := 8) (q := (RX8, TX8, 20)) rfl rfl (WM_get ho (by decide)) (Nat.le_of_ble_eq_true hW) d ⟨by rw [hs.2.1.1]; exact hs.2.2.1, by rw [hs.2.1.2]; exact hs.2.2.2⟩ (fun v w' hp => by obtain ⟨μ', rfl, h1, h2⟩ := hp; rw [hr] at h1; cases h1; rw [hs.2.1.1, hs.2.1.2]; exact K μ' h2) (fun E w' hp => by obtain ⟨μ', rfl, h1, h2⟩ := hp; rw [hr] at h1; cases h1)
theorem cl_L_205 (hM : M.1 = RL) {a0 a1 a2 a3 : Value} {Ry : Room} {k' n' : Nat} {x : Value} {φ : Mem → Prop} (hC : CW g yL_isEven mL_isEven Ry (WM g adr μ) [a0, a1, a2, a3] (PM g adr (.inl (some x)) φ)) (hs : (Ry.frames + 1 ≤ R.frames ∧ 8 + (5 + 11) + Ry.locals ≤ R.locals) ∧ (k + Ry.cells = k' ∧ n + Ry.slots = n') ∧ k' ≤ R.cells ∧ n' ≤ R.slots) (hW : Nat.ble ((st.map fun v => v.category).sum) 8 = true) (d : decode M.2.1 pc = .ok (.invokestatic 205, 3)) (K : ∀ μ', φ μ' → J g M R Q k' n' (WM g adr μ') (pc + 3) l (x :: st)) : J g M R Q k n (WM g adr μ) pc l (a3 :: a2 :: a1 :: a0 :: st) := by
  obtain ⟨r, hr⟩ : ∃ r : Option Value ⊕ String, r = .inl (some x) := ⟨_, rfl⟩
  rw [← hr] at hC
  exact J.callSW (y := yL_isEven) (My := mL_isEven) (As := [a0, a1, a2, a3]) (na := 4) (idx := 205) (P := PM g adr r φ) hC (by rw [hM]; exact t_818) t_819 t_0 t_820 ⟨by decide +kernel, by decide +kernel, by decide +kernel⟩ rfl hs.1 (Nat.le_of_ble_eq_true hW) d ⟨by rw [hs.2.1.1]; exact hs.2.2.1, by rw [hs.2.1.2]; exact hs.2.2.2⟩ (fun v w' hp => by obtain ⟨μ', rfl, h1, h2⟩ := hp; rw [hr] at h1; cases h1; rw [hs.2.1.1, hs.2.1.2]; exact K μ' h2) (fun E w' hp => by obtain ⟨μ', rfl, h1, h2⟩ := hp; rw [hr] at h1; cases h1)
theorem cl_L_208 (hM : M.1 = RL) {o : Nat} (ho : kt o = 14) {a0 a1 : Value} {Ry : Room} {k' n' : Nat} {x : Value} {φ : Mem → Prop} (hC : CT g yX8_isEven mX8_isEven Ry (WM g adr μ) (.ref (adr o) :: [a0, a1]) (PM g adr (.inl (some x)) φ)) (hs : (Ry.frames + 1 ≤ R.frames ∧ 8 + (5 + 11) + Ry.locals ≤ R.locals) ∧ (k + Ry.cells = k' ∧ n + Ry.slots = n') ∧ k' ≤ R.cells ∧ n' ≤ R.slots) (hW : Nat.ble ((st.map fun v => v.category).sum) 8 = true) (d : decode M.2.1 pc = .ok (.invokevirtual 208, 3)) (K : ∀ μ', φ μ' → J g M R Q k' n' (WM g adr μ') (pc + 3) l (x :: st)) : J g M R Q k n (WM g adr μ) pc l (a1 :: a0 :: .ref (adr o) :: st) := by
  obtain ⟨r, hr⟩ : ∃ r : Option Value ⊕ String, r = .inl (some x) := ⟨_, rfl⟩
  rw [← hr] at hC
  exact J.callV (C := RX8) (y := yX8_isEven) (My := mX8_isEven) (As := [a0, a1]) (na := 2) (idx := 208) (P := PM g adr r φ) hC (by rw [hM]; exact t_1287) t_1288 t_1289 t_9 t_1290 ⟨rfl, by decide +kernel, by decide +kernel, by decide +kernel⟩ rfl hs.1 o (ci := 8) (q := (RX8, TX8, 20)) rfl rfl (WM_get ho (by decide)) (Nat.le_of_ble_eq_true hW) d ⟨by rw [hs.2.1.1]; exact hs.2.2.1, by rw [hs.2.1.2]; exact hs.2.2.2⟩ (fun v w' hp => by obtain ⟨μ', rfl, h1, h2⟩ := hp; rw [hr] at h1; cases h1; rw [hs.2.1.1, hs.2.1.2]; exact K μ' h2) (fun E w' hp => by obtain ⟨μ', rfl, h1, h2⟩ := hp; rw [hr] at h1; cases h1)
theorem cl_L_209 (hM : M.1 = RL) {a0 a1 a2 a3 : Value} {Ry : Room} {k' n' : Nat} {x : Value} {φ : Mem → Prop} (hC : CW g yL_cycle mL_cycle Ry (WM g adr μ) [a0, a1, a2, a3] (PM g adr (.inl (some x)) φ)) (hs : (Ry.frames + 1 ≤ R.frames ∧ 8 + (5 + 11) + Ry.locals ≤ R.locals) ∧ (k + Ry.cells = k' ∧ n + Ry.slots = n') ∧ k' ≤ R.cells ∧ n' ≤ R.slots) (hW : Nat.ble ((st.map fun v => v.category).sum) 8 = true) (d : decode M.2.1 pc = .ok (.invokestatic 209, 3)) (K : ∀ μ', φ μ' → J g M R Q k' n' (WM g adr μ') (pc + 3) l (x :: st)) : J g M R Q k n (WM g adr μ) pc l (a3 :: a2 :: a1 :: a0 :: st) := by
  obtain ⟨r, hr⟩ : ∃ r : Option Value ⊕ String, r = .inl (some x) := ⟨_, rfl⟩
  rw [← hr] at hC
  exact J.callSW (y := yL_cycle) (My := mL_cycle) (As := [a0, a1, a2, a3]) (na := 4) (idx := 209) (P := PM g adr r φ) hC (by rw [hM]; exact t_834) t_835 t_0 t_836 ⟨by decide +kernel, by decide +kernel, by decide +kernel⟩ rfl hs.1 (Nat.le_of_ble_eq_true hW) d ⟨by rw [hs.2.1.1]; exact hs.2.2.1, by rw [hs.2.1.2]; exact hs.2.2.2⟩ (fun v w' hp => by obtain ⟨μ', rfl, h1, h2⟩ := hp; rw [hr] at h1; cases h1; rw [hs.2.1.1, hs.2.1.2]; exact K μ' h2) (fun E w' hp => by obtain ⟨μ', rfl, h1, h2⟩ := hp; rw [hr] at h1; cases h1)
theorem cl_L_211 (hM : M.1 = RL) {o : Nat} (ho : kt o = 14) {a0 a1 : Value} {Ry : Room} {k' n' : Nat} {x : Value} {φ : Mem → Prop} (hC : CT g yX8_cycle mX8_cycle Ry (WM g adr μ) (.ref (adr o) :: [a0, a1]) (PM g adr (.inl (some x)) φ)) (hs : (Ry.frames + 1 ≤ R.frames ∧ 8 + (3 + 11) + Ry.locals ≤ R.locals) ∧ (k + Ry.cells = k' ∧ n + Ry.slots = n') ∧ k' ≤ R.cells ∧ n' ≤ R.slots) (hW : Nat.ble ((st.map fun v => v.category).sum) 8 = true) (d : decode M.2.1 pc = .ok (.invokevirtual 211, 3)) (K : ∀ μ', φ μ' → J g M R Q k' n' (WM g adr μ') (pc + 3) l (x :: st)) : J g M R Q k n (WM g adr μ) pc l (a1 :: a0 :: .ref (adr o) :: st) := by
  obtain ⟨r, hr⟩ : ∃ r : Option Value ⊕ String, r = .inl (some x) := ⟨_, rfl⟩
  rw [← hr] at hC
  exact J.callV (C := RX8) (y := yX8_cycle) (My := mX8_cycle) (As := [a0, a1]) (na := 2) (idx := 211) (P := PM g adr r φ) hC (by rw [hM]; exact t_1291) t_1292 t_1293 t_9 t_1294 ⟨rfl, by decide +kernel, by decide +kernel, by decide +kernel⟩ rfl hs.1 o (ci := 8) (q := (RX8, TX8, 20)) rfl rfl (WM_get ho (by decide)) (Nat.le_of_ble_eq_true hW) d ⟨by rw [hs.2.1.1]; exact hs.2.2.1, by rw [hs.2.1.2]; exact hs.2.2.2⟩ (fun v w' hp => by obtain ⟨μ', rfl, h1, h2⟩ := hp; rw [hr] at h1; cases h1; rw [hs.2.1.1, hs.2.1.2]; exact K μ' h2) (fun E w' hp => by obtain ⟨μ', rfl, h1, h2⟩ := hp; rw [hr] at h1; cases h1)
theorem cl_L_212 (hM : M.1 = RL) {a0 a1 a2 a3 : Value} {Ry : Room} {k' n' : Nat} {x : Value} {φ : Mem → Prop} (hC : CW g yL_commutes mL_commutes Ry (WM g adr μ) [a0, a1, a2, a3] (PM g adr (.inl (some x)) φ)) (hs : (Ry.frames + 1 ≤ R.frames ∧ 8 + (5 + 11) + Ry.locals ≤ R.locals) ∧ (k + Ry.cells = k' ∧ n + Ry.slots = n') ∧ k' ≤ R.cells ∧ n' ≤ R.slots) (hW : Nat.ble ((st.map fun v => v.category).sum) 8 = true) (d : decode M.2.1 pc = .ok (.invokestatic 212, 3)) (K : ∀ μ', φ μ' → J g M R Q k' n' (WM g adr μ') (pc + 3) l (x :: st)) : J g M R Q k n (WM g adr μ) pc l (a3 :: a2 :: a1 :: a0 :: st) := by
  obtain ⟨r, hr⟩ : ∃ r : Option Value ⊕ String, r = .inl (some x) := ⟨_, rfl⟩
  rw [← hr] at hC
  exact J.callSW (y := yL_commutes) (My := mL_commutes) (As := [a0, a1, a2, a3]) (na := 4) (idx := 212) (P := PM g adr r φ) hC (by rw [hM]; exact t_842) t_843 t_0 t_844 ⟨by decide +kernel, by decide +kernel, by decide +kernel⟩ rfl hs.1 (Nat.le_of_ble_eq_true hW) d ⟨by rw [hs.2.1.1]; exact hs.2.2.1, by rw [hs.2.1.2]; exact hs.2.2.2⟩ (fun v w' hp => by obtain ⟨μ', rfl, h1, h2⟩ := hp; rw [hr] at h1; cases h1; rw [hs.2.1.1, hs.2.1.2]; exact K μ' h2) (fun E w' hp => by obtain ⟨μ', rfl, h1, h2⟩ := hp; rw [hr] at h1; cases h1)
theorem cl_L_214 (hM : M.1 = RL) {o : Nat} (ho : kt o = 14) {a0 a1 : Value} {Ry : Room} {k' n' : Nat} {x : Value} {φ : Mem → Prop} (hC : CT g yX8_commutes mX8_commutes Ry (WM g adr μ) (.ref (adr o) :: [a0, a1]) (PM g adr (.inl (some x)) φ)) (hs : (Ry.frames + 1 ≤ R.frames ∧ 8 + (5 + 11) + Ry.locals ≤ R.locals) ∧ (k + Ry.cells = k' ∧ n + Ry.slots = n') ∧ k' ≤ R.cells ∧ n' ≤ R.slots) (hW : Nat.ble ((st.map fun v => v.category).sum) 8 = true) (d : decode M.2.1 pc = .ok (.invokevirtual 214, 3)) (K : ∀ μ', φ μ' → J g M R Q k' n' (WM g adr μ') (pc + 3) l (x :: st)) : J g M R Q k n (WM g adr μ) pc l (a1 :: a0 :: .ref (adr o) :: st) := by
  obtain ⟨r, hr⟩ : ∃ r : Option Value ⊕ String, r = .inl (some x) := ⟨_, rfl⟩
  rw [← hr] at hC
  exact J.callV (C := RX8) (y := yX8_commutes) (My := mX8_commutes) (As := [a0, a1]) (na := 2) (idx := 214) (P := PM g adr r φ) hC (by rw [hM]; exact t_1295) t_1296 t_1297 t_9 t_1298 ⟨rfl, by decide +kernel, by decide +kernel, by decide +kernel⟩ rfl hs.1 o (ci := 8) (q := (RX8, TX8, 20)) rfl rfl (WM_get ho (by decide)) (Nat.le_of_ble_eq_true hW) d ⟨by rw [hs.2.1.1]; exact hs.2.2.1, by rw [hs.2.1.2]; exact hs.2.2.2⟩ (fun v w' hp => by obtain ⟨μ', rfl, h1, h2⟩ := hp; rw [hr] at h1; cases h1; rw [hs.2.1.1, hs.2.1.2]; exact K μ' h2) (fun E w' hp => by obtain ⟨μ', rfl, h1, h2⟩ := hp; rw [hr] at h1; cases h1)
theorem cl_L_215 (hM : M.1 = RL) {a0 a1 a2 : Value} {Ry : Room} {k' n' : Nat} {x : Value} {φ : Mem → Prop} (hC : CW g yL_line mL_line Ry (WM g adr μ) [a0, a1, a2] (PM g adr (.inl (some x)) φ)) (hs : (Ry.frames + 1 ≤ R.frames ∧ 8 + (4 + 11) + Ry.locals ≤ R.locals) ∧ (k + Ry.cells = k' ∧ n + Ry.slots = n') ∧ k' ≤ R.cells ∧ n' ≤ R.slots) (hW : Nat.ble ((st.map fun v => v.category).sum) 8 = true) (d : decode M.2.1 pc = .ok (.invokestatic 215, 3)) (K : ∀ μ', φ μ' → J g M R Q k' n' (WM g adr μ') (pc + 3) l (x :: st)) : J g M R Q k n (WM g adr μ) pc l (a2 :: a1 :: a0 :: st) := by
  obtain ⟨r, hr⟩ : ∃ r : Option Value ⊕ String, r = .inl (some x) := ⟨_, rfl⟩
  rw [← hr] at hC
  exact J.callSW (y := yL_line) (My := mL_line) (As := [a0, a1, a2]) (na := 3) (idx := 215) (P := PM g adr r φ) hC (by rw [hM]; exact t_853) t_854 t_0 t_855 ⟨by decide +kernel, by decide +kernel, by decide +kernel⟩ rfl hs.1 (Nat.le_of_ble_eq_true hW) d ⟨by rw [hs.2.1.1]; exact hs.2.2.1, by rw [hs.2.1.2]; exact hs.2.2.2⟩ (fun v w' hp => by obtain ⟨μ', rfl, h1, h2⟩ := hp; rw [hr] at h1; cases h1; rw [hs.2.1.1, hs.2.1.2]; exact K μ' h2) (fun E w' hp => by obtain ⟨μ', rfl, h1, h2⟩ := hp; rw [hr] at h1; cases h1)
theorem cl_L_217 (hM : M.1 = RL) {o : Nat} (ho : kt o = 14) {a0 : Value} {Ry : Room} {k' n' : Nat} {x : Value} {φ : Mem → Prop} (hC : CT g yX8_line mX8_line Ry (WM g adr μ) (.ref (adr o) :: [a0]) (PM g adr (.inl (some x)) φ)) (hs : (Ry.frames + 1 ≤ R.frames ∧ 8 + (3 + 11) + Ry.locals ≤ R.locals) ∧ (k + Ry.cells = k' ∧ n + Ry.slots = n') ∧ k' ≤ R.cells ∧ n' ≤ R.slots) (hW : Nat.ble ((st.map fun v => v.category).sum) 8 = true) (d : decode M.2.1 pc = .ok (.invokevirtual 217, 3)) (K : ∀ μ', φ μ' → J g M R Q k' n' (WM g adr μ') (pc + 3) l (x :: st)) : J g M R Q k n (WM g adr μ) pc l (a0 :: .ref (adr o) :: st) := by
  obtain ⟨r, hr⟩ : ∃ r : Option Value ⊕ String, r = .inl (some x) := ⟨_, rfl⟩
  rw [← hr] at hC
  exact J.callV (C := RX8) (y := yX8_line) (My := mX8_line) (As := [a0]) (na := 1) (idx := 217) (P := PM g adr r φ) hC (by rw [hM]; exact t_1299) t_1300 t_1301 t_9 t_1302 ⟨rfl, by decide +kernel, by decide +kernel, by decide +kernel⟩ rfl hs.1 o (ci := 8) (q := (RX8, TX8, 20)) rfl rfl (WM_get ho (by decide)) (Nat.le_of_ble_eq_true hW) d ⟨by rw [hs.2.1.1]; exact hs.2.2.1, by rw [hs.2.1.2]; exact hs.2.2.2⟩ (fun v w' hp => by obtain ⟨μ', rfl, h1, h2⟩ := hp; rw [hr] at h1; cases h1; rw [hs.2.1.1, hs.2.1.2]; exact K μ' h2) (fun E w' hp => by obtain ⟨μ', rfl, h1, h2⟩ := hp; rw [hr] at h1; cases h1)
theorem cl_L_218 (hM : M.1 = RL) {o : Nat} (ho : kt o = 13) {Ry : Room} {k' n' : Nat} {x : Value} {φ : Mem → Prop} (hC : CT g yX7_logLine mX7_logLine Ry (WM g adr μ) (.ref (adr o) :: []) (PM g adr (.inl (some x)) φ)) (hs : (Ry.frames + 1 ≤ R.frames ∧ 8 + (2 + 11) + Ry.locals ≤ R.locals) ∧ (k + Ry.cells = k' ∧ n + Ry.slots = n') ∧ k' ≤ R.cells ∧ n' ≤ R.slots) (hW : Nat.ble ((st.map fun v => v.category).sum) 8 = true) (d : decode M.2.1 pc = .ok (.invokevirtual 218, 3)) (K : ∀ μ', φ μ' → J g M R Q k' n' (WM g adr μ') (pc + 3) l (x :: st)) : J g M R Q k n (WM g adr μ) pc l (.ref (adr o) :: st) := by
  obtain ⟨r, hr⟩ : ∃ r : Option Value ⊕ String, r = .inl (some x) := ⟨_, rfl⟩
  rw [← hr] at hC
  exact J.callV (C := RX7) (y := yX7_logLine) (My := mX7_logLine) (As := []) (na := 0) (idx := 218) (P := PM g adr r φ) hC (by rw [hM]; exact t_218) t_219 t_220 t_1 t_221 ⟨rfl, by decide +kernel, by decide +kernel, by decide +kernel⟩ rfl hs.1 o (ci := 7) (q := (RX7, TX7, 11)) rfl rfl (WM_get ho (by decide)) (Nat.le_of_ble_eq_true hW) d ⟨by rw [hs.2.1.1]; exact hs.2.2.1, by rw [hs.2.1.2]; exact hs.2.2.2⟩ (fun v w' hp => by obtain ⟨μ', rfl, h1, h2⟩ := hp; rw [hr] at h1; cases h1; rw [hs.2.1.1, hs.2.1.2]; exact K μ' h2) (fun E w' hp => by obtain ⟨μ', rfl, h1, h2⟩ := hp; rw [hr] at h1; cases h1)
theorem cx_L_218 (hM : M.1 = RL) {o : Nat} (ho : kt o = 13) {Ry : Room} {k' n' : Nat} {E : String} {φ : Mem → Prop} (hC : CT g yX7_logLine mX7_logLine Ry (WM g adr μ) (.ref (adr o) :: []) (PM g adr (.inr E) φ)) (hs : (Ry.frames + 1 ≤ R.frames ∧ 8 + (2 + 11) + Ry.locals ≤ R.locals) ∧ (k + Ry.cells = k' ∧ n + Ry.slots = n') ∧ k' ≤ R.cells ∧ n' ≤ R.slots) (hW : Nat.ble ((st.map fun v => v.category).sum) 8 = true) (d : decode M.2.1 pc = .ok (.invokevirtual 218, 3)) (K : ∀ μ', φ μ' → JX g M R Q k' n' (WM g adr μ') pc l st E) : J g M R Q k n (WM g adr μ) pc l (.ref (adr o) :: st) := by
  obtain ⟨r, hr⟩ : ∃ r : Option Value ⊕ String, r = .inr E := ⟨_, rfl⟩
  rw [← hr] at hC
  exact J.callV (C := RX7) (y := yX7_logLine) (My := mX7_logLine) (As := []) (na := 0) (idx := 218) (P := PM g adr r φ) hC (by rw [hM]; exact t_218) t_219 t_220 t_1 t_221 ⟨rfl, by decide +kernel, by decide +kernel, by decide +kernel⟩ rfl hs.1 o (ci := 7) (q := (RX7, TX7, 11)) rfl rfl (WM_get ho (by decide)) (Nat.le_of_ble_eq_true hW) d ⟨by rw [hs.2.1.1]; exact hs.2.2.1, by rw [hs.2.1.2]; exact hs.2.2.2⟩ (fun v w' hp => by obtain ⟨μ', rfl, h1, h2⟩ := hp; rw [hr] at h1; cases h1) (fun E w' hp => by obtain ⟨μ', rfl, h1, h2⟩ := hp; rw [hr] at h1; cases h1; rw [hs.2.1.1, hs.2.1.2]; exact K μ' h2)
theorem cl_L_221 (hM : M.1 = RL) {o : Nat} (ho : kt o = 14) {Ry : Room} {k' n' : Nat} {x : Value} {φ : Mem → Prop} (hC : CT g yX8_logLine mX8_logLine Ry (WM g adr μ) (.ref (adr o) :: []) (PM g adr (.inl (some x)) φ)) (hs : (Ry.frames + 1 ≤ R.frames ∧ 8 + (2 + 11) + Ry.locals ≤ R.locals) ∧ (k + Ry.cells = k' ∧ n + Ry.slots = n') ∧ k' ≤ R.cells ∧ n' ≤ R.slots) (hW : Nat.ble ((st.map fun v => v.category).sum) 8 = true) (d : decode M.2.1 pc = .ok (.invokevirtual 221, 3)) (K : ∀ μ', φ μ' → J g M R Q k' n' (WM g adr μ') (pc + 3) l (x :: st)) : J g M R Q k n (WM g adr μ) pc l (.ref (adr o) :: st) := by
  obtain ⟨r, hr⟩ : ∃ r : Option Value ⊕ String, r = .inl (some x) := ⟨_, rfl⟩
  rw [← hr] at hC
  exact J.callV (C := RX8) (y := yX8_logLine) (My := mX8_logLine) (As := []) (na := 0) (idx := 221) (P := PM g adr r φ) hC (by rw [hM]; exact t_1311) t_1312 t_1313 t_9 t_1314 ⟨rfl, by decide +kernel, by decide +kernel, by decide +kernel⟩ rfl hs.1 o (ci := 8) (q := (RX8, TX8, 20)) rfl rfl (WM_get ho (by decide)) (Nat.le_of_ble_eq_true hW) d ⟨by rw [hs.2.1.1]; exact hs.2.2.1, by rw [hs.2.1.2]; exact hs.2.2.2⟩ (fun v w' hp => by obtain ⟨μ', rfl, h1, h2⟩ := hp; rw [hr] at h1; cases h1; rw [hs.2.1.1, hs.2.1.2]; exact K μ' h2) (fun E w' hp => by obtain ⟨μ', rfl, h1, h2⟩ := hp; rw [hr] at h1; cases h1)
theorem cl_L_222 (hM : M.1 = RL) {a0 a1 a2 : Value} {Ry : Room} {k' n' : Nat} {x : Value} {φ : Mem → Prop} (hC : CW g yL_cycleLine mL_cycleLine Ry (WM g adr μ) [a0, a1, a2] (PM g adr (.inl (some x)) φ)) (hs : (Ry.frames + 1 ≤ R.frames ∧ 8 + (4 + 11) + Ry.locals ≤ R.locals) ∧ (k + Ry.cells = k' ∧ n + Ry.slots = n') ∧ k' ≤ R.cells ∧ n' ≤ R.slots) (hW : Nat.ble ((st.map fun v => v.category).sum) 8 = true) (d : decode M.2.1 pc = .ok (.invokestatic 222, 3)) (K : ∀ μ', φ μ' → J g M R Q k' n' (WM g adr μ') (pc + 3) l (x :: st)) : J g M R Q k n (WM g adr μ) pc l (a2 :: a1 :: a0 :: st) := by
  obtain ⟨r, hr⟩ : ∃ r : Option Value ⊕ String, r = .inl (some x) := ⟨_, rfl⟩
  rw [← hr] at hC
  exact J.callSW (y := yL_cycleLine) (My := mL_cycleLine) (As := [a0, a1, a2]) (na := 3) (idx := 222) (P := PM g adr r φ) hC (by rw [hM]; exact t_860) t_861 t_0 t_862 ⟨by decide +kernel, by decide +kernel, by decide +kernel⟩ rfl hs.1 (Nat.le_of_ble_eq_true hW) d ⟨by rw [hs.2.1.1]; exact hs.2.2.1, by rw [hs.2.1.2]; exact hs.2.2.2⟩ (fun v w' hp => by obtain ⟨μ', rfl, h1, h2⟩ := hp; rw [hr] at h1; cases h1; rw [hs.2.1.1, hs.2.1.2]; exact K μ' h2) (fun E w' hp => by obtain ⟨μ', rfl, h1, h2⟩ := hp; rw [hr] at h1; cases h1)
theorem cl_L_224 (hM : M.1 = RL) {o : Nat} (ho : kt o = 14) {a0 : Value} {Ry : Room} {k' n' : Nat} {x : Value} {φ : Mem → Prop} (hC : CT g yX8_cycleLine mX8_cycleLine Ry (WM g adr μ) (.ref (adr o) :: [a0]) (PM g adr (.inl (some x)) φ)) (hs : (Ry.frames + 1 ≤ R.frames ∧ 8 + (4 + 11) + Ry.locals ≤ R.locals) ∧ (k + Ry.cells = k' ∧ n + Ry.slots = n') ∧ k' ≤ R.cells ∧ n' ≤ R.slots) (hW : Nat.ble ((st.map fun v => v.category).sum) 8 = true) (d : decode M.2.1 pc = .ok (.invokevirtual 224, 3)) (K : ∀ μ', φ μ' → J g M R Q k' n' (WM g adr μ') (pc + 3) l (x :: st)) : J g M R Q k n (WM g adr μ) pc l (a0 :: .ref (adr o) :: st) := by
  obtain ⟨r, hr⟩ : ∃ r : Option Value ⊕ String, r = .inl (some x) := ⟨_, rfl⟩
  rw [← hr] at hC
  exact J.callV (C := RX8) (y := yX8_cycleLine) (My := mX8_cycleLine) (As := [a0]) (na := 1) (idx := 224) (P := PM g adr r φ) hC (by rw [hM]; exact t_1315) t_1316 t_1317 t_9 t_1318 ⟨rfl, by decide +kernel, by decide +kernel, by decide +kernel⟩ rfl hs.1 o (ci := 8) (q := (RX8, TX8, 20)) rfl rfl (WM_get ho (by decide)) (Nat.le_of_ble_eq_true hW) d ⟨by rw [hs.2.1.1]; exact hs.2.2.1, by rw [hs.2.1.2]; exact hs.2.2.2⟩ (fun v w' hp => by obtain ⟨μ', rfl, h1, h2⟩ := hp; rw [hr] at h1; cases h1; rw [hs.2.1.1, hs.2.1.2]; exact K μ' h2) (fun E w' hp => by obtain ⟨μ', rfl, h1, h2⟩ := hp; rw [hr] at h1; cases h1)
theorem cl_L_225 (hM : M.1 = RL) {a0 a1 a2 : Value} {Ry : Room} {k' n' : Nat} {x : Value} {φ : Mem → Prop} (hC : CW g yL_character mL_character Ry (WM g adr μ) [a0, a1, a2] (PM g adr (.inl (some x)) φ)) (hs : (Ry.frames + 1 ≤ R.frames ∧ 8 + (4 + 11) + Ry.locals ≤ R.locals) ∧ (k + Ry.cells = k' ∧ n + Ry.slots = n') ∧ k' ≤ R.cells ∧ n' ≤ R.slots) (hW : Nat.ble ((st.map fun v => v.category).sum) 8 = true) (d : decode M.2.1 pc = .ok (.invokestatic 225, 3)) (K : ∀ μ', φ μ' → J g M R Q k' n' (WM g adr μ') (pc + 3) l (x :: st)) : J g M R Q k n (WM g adr μ) pc l (a2 :: a1 :: a0 :: st) := by
  obtain ⟨r, hr⟩ : ∃ r : Option Value ⊕ String, r = .inl (some x) := ⟨_, rfl⟩
  rw [← hr] at hC
  exact J.callSW (y := yL_character) (My := mL_character) (As := [a0, a1, a2]) (na := 3) (idx := 225) (P := PM g adr r φ) hC (by rw [hM]; exact t_874) t_875 t_0 t_876 ⟨by decide +kernel, by decide +kernel, by decide +kernel⟩ rfl hs.1 (Nat.le_of_ble_eq_true hW) d ⟨by rw [hs.2.1.1]; exact hs.2.2.1, by rw [hs.2.1.2]; exact hs.2.2.2⟩ (fun v w' hp => by obtain ⟨μ', rfl, h1, h2⟩ := hp; rw [hr] at h1; cases h1; rw [hs.2.1.1, hs.2.1.2]; exact K μ' h2) (fun E w' hp => by obtain ⟨μ', rfl, h1, h2⟩ := hp; rw [hr] at h1; cases h1)
theorem cl_L_227 (hM : M.1 = RL) {o : Nat} (ho : kt o = 14) {a0 : Value} {Ry : Room} {k' n' : Nat} {x : Value} {φ : Mem → Prop} (hC : CT g yX8_character mX8_character Ry (WM g adr μ) (.ref (adr o) :: [a0]) (PM g adr (.inl (some x)) φ)) (hs : (Ry.frames + 1 ≤ R.frames ∧ 8 + (2 + 11) + Ry.locals ≤ R.locals) ∧ (k + Ry.cells = k' ∧ n + Ry.slots = n') ∧ k' ≤ R.cells ∧ n' ≤ R.slots) (hW : Nat.ble ((st.map fun v => v.category).sum) 8 = true) (d : decode M.2.1 pc = .ok (.invokevirtual 227, 3)) (K : ∀ μ', φ μ' → J g M R Q k' n' (WM g adr μ') (pc + 3) l (x :: st)) : J g M R Q k n (WM g adr μ) pc l (a0 :: .ref (adr o) :: st) := by
  obtain ⟨r, hr⟩ : ∃ r : Option Value ⊕ String, r = .inl (some x) := ⟨_, rfl⟩
  rw [← hr] at hC
  exact J.callV (C := RX8) (y := yX8_character) (My := mX8_character) (As := [a0]) (na := 1) (idx := 227) (P := PM g adr r φ) hC (by rw [hM]; exact t_1319) t_1320 t_1321 t_9 t_1322 ⟨rfl, by decide +kernel, by decide +kernel, by decide +kernel⟩ rfl hs.1 o (ci := 8) (q := (RX8, TX8, 20)) rfl rfl (WM_get ho (by decide)) (Nat.le_of_ble_eq_true hW) d ⟨by rw [hs.2.1.1]; exact hs.2.2.1, by rw [hs.2.1.2]; exact hs.2.2.2⟩ (fun v w' hp => by obtain ⟨μ', rfl, h1, h2⟩ := hp; rw [hr] at h1; cases h1; rw [hs.2.1.1, hs.2.1.2]; exact K μ' h2) (fun E w' hp => by obtain ⟨μ', rfl, h1, h2⟩ := hp; rw [hr] at h1; cases h1)
theorem cl_L_228 (hM : M.1 = RL) {a0 a1 a2 : Value} {Ry : Room} {k' n' : Nat} {x : Value} {φ : Mem → Prop} (hC : CW g yL_append mL_append Ry (WM g adr μ) [a0, a1, a2] (PM g adr (.inl (some x)) φ)) (hs : (Ry.frames + 1 ≤ R.frames ∧ 8 + (4 + 11) + Ry.locals ≤ R.locals) ∧ (k + Ry.cells = k' ∧ n + Ry.slots = n') ∧ k' ≤ R.cells ∧ n' ≤ R.slots) (hW : Nat.ble ((st.map fun v => v.category).sum) 8 = true) (d : decode M.2.1 pc = .ok (.invokestatic 228, 3)) (K : ∀ μ', φ μ' → J g M R Q k' n' (WM g adr μ') (pc + 3) l (x :: st)) : J g M R Q k n (WM g adr μ) pc l (a2 :: a1 :: a0 :: st) := by
  obtain ⟨r, hr⟩ : ∃ r : Option Value ⊕ String, r = .inl (some x) := ⟨_, rfl⟩
  rw [← hr] at hC
  exact J.callSW (y := yL_append) (My := mL_append) (As := [a0, a1, a2]) (na := 3) (idx := 228) (P := PM g adr r φ) hC (by rw [hM]; exact t_882) t_883 t_0 t_884 ⟨by decide +kernel, by decide +kernel, by decide +kernel⟩ rfl hs.1 (Nat.le_of_ble_eq_true hW) d ⟨by rw [hs.2.1.1]; exact hs.2.2.1, by rw [hs.2.1.2]; exact hs.2.2.2⟩ (fun v w' hp => by obtain ⟨μ', rfl, h1, h2⟩ := hp; rw [hr] at h1; cases h1; rw [hs.2.1.1, hs.2.1.2]; exact K μ' h2) (fun E w' hp => by obtain ⟨μ', rfl, h1, h2⟩ := hp; rw [hr] at h1; cases h1)
theorem cl_L_231 (hM : M.1 = RL) {o : Nat} (ho : kt o = 14) {a0 : Value} {Ry : Room} {k' n' : Nat} {x : Value} {φ : Mem → Prop} (hC : CT g yX8_append mX8_append Ry (WM g adr μ) (.ref (adr o) :: [a0]) (PM g adr (.inl (some x)) φ)) (hs : (Ry.frames + 1 ≤ R.frames ∧ 8 + (2 + 11) + Ry.locals ≤ R.locals) ∧ (k + Ry.cells = k' ∧ n + Ry.slots = n') ∧ k' ≤ R.cells ∧ n' ≤ R.slots) (hW : Nat.ble ((st.map fun v => v.category).sum) 8 = true) (d : decode M.2.1 pc = .ok (.invokevirtual 231, 3)) (K : ∀ μ', φ μ' → J g M R Q k' n' (WM g adr μ') (pc + 3) l (x :: st)) : J g M R Q k n (WM g adr μ) pc l (a0 :: .ref (adr o) :: st) := by
  obtain ⟨r, hr⟩ : ∃ r : Option Value ⊕ String, r = .inl (some x) := ⟨_, rfl⟩
  rw [← hr] at hC
  exact J.callV (C := RX8) (y := yX8_append) (My := mX8_append) (As := [a0]) (na := 1) (idx := 231) (P := PM g adr r φ) hC (by rw [hM]; exact t_1156) t_1157 t_1158 t_9 t_1159 ⟨rfl, by decide +kernel, by decide +kernel, by decide +kernel⟩ rfl hs.1 o (ci := 8) (q := (RX8, TX8, 20)) rfl rfl (WM_get ho (by decide)) (Nat.le_of_ble_eq_true hW) d ⟨by rw [hs.2.1.1]; exact hs.2.2.1, by rw [hs.2.1.2]; exact hs.2.2.2⟩ (fun v w' hp => by obtain ⟨μ', rfl, h1, h2⟩ := hp; rw [hr] at h1; cases h1; rw [hs.2.1.1, hs.2.1.2]; exact K μ' h2) (fun E w' hp => by obtain ⟨μ', rfl, h1, h2⟩ := hp; rw [hr] at h1; cases h1)
theorem cl_L_232 (hM : M.1 = RL) {a0 a1 : Value} {Ry : Room} {k' n' : Nat} {x : Value} {φ : Mem → Prop} (hC : CW g yL_read mL_read Ry (WM g adr μ) [a0, a1] (PM g adr (.inl (some x)) φ)) (hs : (Ry.frames + 1 ≤ R.frames ∧ 8 + (3 + 11) + Ry.locals ≤ R.locals) ∧ (k + Ry.cells = k' ∧ n + Ry.slots = n') ∧ k' ≤ R.cells ∧ n' ≤ R.slots) (hW : Nat.ble ((st.map fun v => v.category).sum) 8 = true) (d : decode M.2.1 pc = .ok (.invokestatic 232, 3)) (K : ∀ μ', φ μ' → J g M R Q k' n' (WM g adr μ') (pc + 3) l (x :: st)) : J g M R Q k n (WM g adr μ) pc l (a1 :: a0 :: st) := by
  obtain ⟨r, hr⟩ : ∃ r : Option Value ⊕ String, r = .inl (some x) := ⟨_, rfl⟩
  rw [← hr] at hC
  exact J.callSW (y := yL_read) (My := mL_read) (As := [a0, a1]) (na := 2) (idx := 232) (P := PM g adr r φ) hC (by rw [hM]; exact t_906) t_907 t_0 t_908 ⟨by decide +kernel, by decide +kernel, by decide +kernel⟩ rfl hs.1 (Nat.le_of_ble_eq_true hW) d ⟨by rw [hs.2.1.1]; exact hs.2.2.1, by rw [hs.2.1.2]; exact hs.2.2.2⟩ (fun v w' hp => by obtain ⟨μ', rfl, h1, h2⟩ := hp; rw [hr] at h1; cases h1; rw [hs.2.1.1, hs.2.1.2]; exact K μ' h2) (fun E w' hp => by obtain ⟨μ', rfl, h1, h2⟩ := hp; rw [hr] at h1; cases h1)
theorem cl_L_234 (hM : M.1 = RL) {o : Nat} (ho : kt o = 14) {Ry : Room} {k' n' : Nat} {x : Value} {φ : Mem → Prop} (hC : CT g yX8_read mX8_read Ry (WM g adr μ) (.ref (adr o) :: []) (PM g adr (.inl (some x)) φ)) (hs : (Ry.frames + 1 ≤ R.frames ∧ 8 + (2 + 11) + Ry.locals ≤ R.locals) ∧ (k + Ry.cells = k' ∧ n + Ry.slots = n') ∧ k' ≤ R.cells ∧ n' ≤ R.slots) (hW : Nat.ble ((st.map fun v => v.category).sum) 8 = true) (d : decode M.2.1 pc = .ok (.invokevirtual 234, 3)) (K : ∀ μ', φ μ' → J g M R Q k' n' (WM g adr μ') (pc + 3) l (x :: st)) : J g M R Q k n (WM g adr μ) pc l (.ref (adr o) :: st) := by
  obtain ⟨r, hr⟩ : ∃ r : Option Value ⊕ String, r = .inl (some x) := ⟨_, rfl⟩
  rw [← hr] at hC
  exact J.callV (C := RX8) (y := yX8_read) (My := mX8_read) (As := []) (na := 0) (idx := 234) (P := PM g adr r φ) hC (by rw [hM]; exact t_1160) t_1161 t_1162 t_9 t_1163 ⟨rfl, by decide +kernel, by decide +kernel, by decide +kernel⟩ rfl hs.1 o (ci := 8) (q := (RX8, TX8, 20)) rfl rfl (WM_get ho (by decide)) (Nat.le_of_ble_eq_true hW) d ⟨by rw [hs.2.1.1]; exact hs.2.2.1, by rw [hs.2.1.2]; exact hs.2.2.2⟩ (fun v w' hp => by obtain ⟨μ', rfl, h1, h2⟩ := hp; rw [hr] at h1; cases h1; rw [hs.2.1.1, hs.2.1.2]; exact K μ' h2) (fun E w' hp => by obtain ⟨μ', rfl, h1, h2⟩ := hp; rw [hr] at h1; cases h1)
theorem cl_L_235 (hM : M.1 = RL) {a0 a1 : Value} {Ry : Room} {k' n' : Nat} {x : Value} {φ : Mem → Prop} (hC : CW g yL_errorPosition mL_errorPosition Ry (WM g adr μ) [a0, a1] (PM g adr (.inl (some x)) φ)) (hs : (Ry.frames + 1 ≤ R.frames ∧ 8 + (3 + 11) + Ry.locals ≤ R.locals) ∧ (k + Ry.cells = k' ∧ n + Ry.slots = n') ∧ k' ≤ R.cells ∧ n' ≤ R.slots) (hW : Nat.ble ((st.map fun v => v.category).sum) 8 = true) (d : decode M.2.1 pc = .ok (.invokestatic 235, 3)) (K : ∀ μ', φ μ' → J g M R Q k' n' (WM g adr μ') (pc + 3) l (x :: st)) : J g M R Q k n (WM g adr μ) pc l (a1 :: a0 :: st) := by
  obtain ⟨r, hr⟩ : ∃ r : Option Value ⊕ String, r = .inl (some x) := ⟨_, rfl⟩
  rw [← hr] at hC
  exact J.callSW (y := yL_errorPosition) (My := mL_errorPosition) (As := [a0, a1]) (na := 2) (idx := 235) (P := PM g adr r φ) hC (by rw [hM]; exact t_913) t_914 t_0 t_915 ⟨by decide +kernel, by decide +kernel, by decide +kernel⟩ rfl hs.1 (Nat.le_of_ble_eq_true hW) d ⟨by rw [hs.2.1.1]; exact hs.2.2.1, by rw [hs.2.1.2]; exact hs.2.2.2⟩ (fun v w' hp => by obtain ⟨μ', rfl, h1, h2⟩ := hp; rw [hr] at h1; cases h1; rw [hs.2.1.1, hs.2.1.2]; exact K μ' h2) (fun E w' hp => by obtain ⟨μ', rfl, h1, h2⟩ := hp; rw [hr] at h1; cases h1)
theorem cl_L_237 (hM : M.1 = RL) {o : Nat} (ho : kt o = 14) {Ry : Room} {k' n' : Nat} {x : Value} {φ : Mem → Prop} (hC : CT g yX8_errorPosition mX8_errorPosition Ry (WM g adr μ) (.ref (adr o) :: []) (PM g adr (.inl (some x)) φ)) (hs : (Ry.frames + 1 ≤ R.frames ∧ 8 + (1 + 11) + Ry.locals ≤ R.locals) ∧ (k + Ry.cells = k' ∧ n + Ry.slots = n') ∧ k' ≤ R.cells ∧ n' ≤ R.slots) (hW : Nat.ble ((st.map fun v => v.category).sum) 8 = true) (d : decode M.2.1 pc = .ok (.invokevirtual 237, 3)) (K : ∀ μ', φ μ' → J g M R Q k' n' (WM g adr μ') (pc + 3) l (x :: st)) : J g M R Q k n (WM g adr μ) pc l (.ref (adr o) :: st) := by
  obtain ⟨r, hr⟩ : ∃ r : Option Value ⊕ String, r = .inl (some x) := ⟨_, rfl⟩
  rw [← hr] at hC
  exact J.callV (C := RX8) (y := yX8_errorPosition) (My := mX8_errorPosition) (As := []) (na := 0) (idx := 237) (P := PM g adr r φ) hC (by rw [hM]; exact t_1208) t_1209 t_1210 t_9 t_1211 ⟨rfl, by decide +kernel, by decide +kernel, by decide +kernel⟩ rfl hs.1 o (ci := 8) (q := (RX8, TX8, 20)) rfl rfl (WM_get ho (by decide)) (Nat.le_of_ble_eq_true hW) d ⟨by rw [hs.2.1.1]; exact hs.2.2.1, by rw [hs.2.1.2]; exact hs.2.2.2⟩ (fun v w' hp => by obtain ⟨μ', rfl, h1, h2⟩ := hp; rw [hr] at h1; cases h1; rw [hs.2.1.1, hs.2.1.2]; exact K μ' h2) (fun E w' hp => by obtain ⟨μ', rfl, h1, h2⟩ := hp; rw [hr] at h1; cases h1)
theorem cl_L_238 (hM : M.1 = RL) {a0 a1 a2 : Value} {Ry : Room} {k' n' : Nat} {x : Value} {φ : Mem → Prop} (hC : CW g yL_refusal mL_refusal Ry (WM g adr μ) [a0, a1, a2] (PM g adr (.inl (some x)) φ)) (hs : (Ry.frames + 1 ≤ R.frames ∧ 8 + (4 + 11) + Ry.locals ≤ R.locals) ∧ (k + Ry.cells = k' ∧ n + Ry.slots = n') ∧ k' ≤ R.cells ∧ n' ≤ R.slots) (hW : Nat.ble ((st.map fun v => v.category).sum) 8 = true) (d : decode M.2.1 pc = .ok (.invokestatic 238, 3)) (K : ∀ μ', φ μ' → J g M R Q k' n' (WM g adr μ') (pc + 3) l (x :: st)) : J g M R Q k n (WM g adr μ) pc l (a2 :: a1 :: a0 :: st) := by
  obtain ⟨r, hr⟩ : ∃ r : Option Value ⊕ String, r = .inl (some x) := ⟨_, rfl⟩
  rw [← hr] at hC
  exact J.callSW (y := yL_refusal) (My := mL_refusal) (As := [a0, a1, a2]) (na := 3) (idx := 238) (P := PM g adr r φ) hC (by rw [hM]; exact t_921) t_922 t_0 t_923 ⟨by decide +kernel, by decide +kernel, by decide +kernel⟩ rfl hs.1 (Nat.le_of_ble_eq_true hW) d ⟨by rw [hs.2.1.1]; exact hs.2.2.1, by rw [hs.2.1.2]; exact hs.2.2.2⟩ (fun v w' hp => by obtain ⟨μ', rfl, h1, h2⟩ := hp; rw [hr] at h1; cases h1; rw [hs.2.1.1, hs.2.1.2]; exact K μ' h2) (fun E w' hp => by obtain ⟨μ', rfl, h1, h2⟩ := hp; rw [hr] at h1; cases h1)
theorem cl_L_241 (hM : M.1 = RL) {o : Nat} (ho : kt o = 14) {a0 : Value} {Ry : Room} {k' n' : Nat} {x : Value} {φ : Mem → Prop} (hC : CT g yX8_refusal mX8_refusal Ry (WM g adr μ) (.ref (adr o) :: [a0]) (PM g adr (.inl (some x)) φ)) (hs : (Ry.frames + 1 ≤ R.frames ∧ 8 + (2 + 11) + Ry.locals ≤ R.locals) ∧ (k + Ry.cells = k' ∧ n + Ry.slots = n') ∧ k' ≤ R.cells ∧ n' ≤ R.slots) (hW : Nat.ble ((st.map fun v => v.category).sum) 8 = true) (d : decode M.2.1 pc = .ok (.invokevirtual 241, 3)) (K : ∀ μ', φ μ' → J g M R Q k' n' (WM g adr μ') (pc + 3) l (x :: st)) : J g M R Q k n (WM g adr μ) pc l (a0 :: .ref (adr o) :: st) := by
  obtain ⟨r, hr⟩ : ∃ r : Option Value ⊕ String, r = .inl (some x) := ⟨_, rfl⟩
  rw [← hr] at hC
  exact J.callV (C := RX8) (y := yX8_refusal) (My := mX8_refusal) (As := [a0]) (na := 1) (idx := 241) (P := PM g adr r φ) hC (by rw [hM]; exact t_1041) t_1042 t_1043 t_9 t_1044 ⟨rfl, by decide +kernel, by decide +kernel, by decide +kernel⟩ rfl hs.1 o (ci := 8) (q := (RX8, TX8, 20)) rfl rfl (WM_get ho (by decide)) (Nat.le_of_ble_eq_true hW) d ⟨by rw [hs.2.1.1]; exact hs.2.2.1, by rw [hs.2.1.2]; exact hs.2.2.2⟩ (fun v w' hp => by obtain ⟨μ', rfl, h1, h2⟩ := hp; rw [hr] at h1; cases h1; rw [hs.2.1.1, hs.2.1.2]; exact K μ' h2) (fun E w' hp => by obtain ⟨μ', rfl, h1, h2⟩ := hp; rw [hr] at h1; cases h1)
theorem cl_L_242 (hM : M.1 = RL) {a0 a1 a2 : Value} {Ry : Room} {k' n' : Nat} {x : Value} {φ : Mem → Prop} (hC : CW g yL_account mL_account Ry (WM g adr μ) [a0, a1, a2] (PM g adr (.inl (some x)) φ)) (hs : (Ry.frames + 1 ≤ R.frames ∧ 8 + (4 + 11) + Ry.locals ≤ R.locals) ∧ (k + Ry.cells = k' ∧ n + Ry.slots = n') ∧ k' ≤ R.cells ∧ n' ≤ R.slots) (hW : Nat.ble ((st.map fun v => v.category).sum) 8 = true) (d : decode M.2.1 pc = .ok (.invokestatic 242, 3)) (K : ∀ μ', φ μ' → J g M R Q k' n' (WM g adr μ') (pc + 3) l (x :: st)) : J g M R Q k n (WM g adr μ) pc l (a2 :: a1 :: a0 :: st) := by
  obtain ⟨r, hr⟩ : ∃ r : Option Value ⊕ String, r = .inl (some x) := ⟨_, rfl⟩
  rw [← hr] at hC
  exact J.callSW (y := yL_account) (My := mL_account) (As := [a0, a1, a2]) (na := 3) (idx := 242) (P := PM g adr r φ) hC (by rw [hM]; exact t_929) t_930 t_0 t_931 ⟨by decide +kernel, by decide +kernel, by decide +kernel⟩ rfl hs.1 (Nat.le_of_ble_eq_true hW) d ⟨by rw [hs.2.1.1]; exact hs.2.2.1, by rw [hs.2.1.2]; exact hs.2.2.2⟩ (fun v w' hp => by obtain ⟨μ', rfl, h1, h2⟩ := hp; rw [hr] at h1; cases h1; rw [hs.2.1.1, hs.2.1.2]; exact K μ' h2) (fun E w' hp => by obtain ⟨μ', rfl, h1, h2⟩ := hp; rw [hr] at h1; cases h1)
theorem cl_L_244 (hM : M.1 = RL) {o : Nat} (ho : kt o = 14) {a0 : Value} {Ry : Room} {k' n' : Nat} {x : Value} {φ : Mem → Prop} (hC : CT g yX8_account mX8_account Ry (WM g adr μ) (.ref (adr o) :: [a0]) (PM g adr (.inl (some x)) φ)) (hs : (Ry.frames + 1 ≤ R.frames ∧ 8 + (2 + 11) + Ry.locals ≤ R.locals) ∧ (k + Ry.cells = k' ∧ n + Ry.slots = n') ∧ k' ≤ R.cells ∧ n' ≤ R.slots) (hW : Nat.ble ((st.map fun v => v.category).sum) 8 = true) (d : decode M.2.1 pc = .ok (.invokevirtual 244, 3)) (K : ∀ μ', φ μ' → J g M R Q k' n' (WM g adr μ') (pc + 3) l (x :: st)) : J g M R Q k n (WM g adr μ) pc l (a0 :: .ref (adr o) :: st) := by
  obtain ⟨r, hr⟩ : ∃ r : Option Value ⊕ String, r = .inl (some x) := ⟨_, rfl⟩
  rw [← hr] at hC
  exact J.callV (C := RX8) (y := yX8_account) (My := mX8_account) (As := [a0]) (na := 1) (idx := 244) (P := PM g adr r φ) hC (by rw [hM]; exact t_1323) t_1324 t_1325 t_9 t_1326 ⟨rfl, by decide +kernel, by decide +kernel, by decide +kernel⟩ rfl hs.1 o (ci := 8) (q := (RX8, TX8, 20)) rfl rfl (WM_get ho (by decide)) (Nat.le_of_ble_eq_true hW) d ⟨by rw [hs.2.1.1]; exact hs.2.2.1, by rw [hs.2.1.2]; exact hs.2.2.2⟩ (fun v w' hp => by obtain ⟨μ', rfl, h1, h2⟩ := hp; rw [hr] at h1; cases h1; rw [hs.2.1.1, hs.2.1.2]; exact K μ' h2) (fun E w' hp => by obtain ⟨μ', rfl, h1, h2⟩ := hp; rw [hr] at h1; cases h1)
theorem cl_L_245 (hM : M.1 = RL) {o : Nat} (ho : kt o = 13) {Ry : Room} {k' n' : Nat} {x : Value} {φ : Mem → Prop} (hC : CT g yX7_isWell mX7_isWell Ry (WM g adr μ) (.ref (adr o) :: []) (PM g adr (.inl (some x)) φ)) (hs : (Ry.frames + 1 ≤ R.frames ∧ 8 + (2 + 11) + Ry.locals ≤ R.locals) ∧ (k + Ry.cells = k' ∧ n + Ry.slots = n') ∧ k' ≤ R.cells ∧ n' ≤ R.slots) (hW : Nat.ble ((st.map fun v => v.category).sum) 8 = true) (d : decode M.2.1 pc = .ok (.invokevirtual 245, 3)) (K : ∀ μ', φ μ' → J g M R Q k' n' (WM g adr μ') (pc + 3) l (x :: st)) : J g M R Q k n (WM g adr μ) pc l (.ref (adr o) :: st) := by
  obtain ⟨r, hr⟩ : ∃ r : Option Value ⊕ String, r = .inl (some x) := ⟨_, rfl⟩
  rw [← hr] at hC
  exact J.callV (C := RX7) (y := yX7_isWell) (My := mX7_isWell) (As := []) (na := 0) (idx := 245) (P := PM g adr r φ) hC (by rw [hM]; exact t_248) t_249 t_250 t_1 t_251 ⟨rfl, by decide +kernel, by decide +kernel, by decide +kernel⟩ rfl hs.1 o (ci := 7) (q := (RX7, TX7, 11)) rfl rfl (WM_get ho (by decide)) (Nat.le_of_ble_eq_true hW) d ⟨by rw [hs.2.1.1]; exact hs.2.2.1, by rw [hs.2.1.2]; exact hs.2.2.2⟩ (fun v w' hp => by obtain ⟨μ', rfl, h1, h2⟩ := hp; rw [hr] at h1; cases h1; rw [hs.2.1.1, hs.2.1.2]; exact K μ' h2) (fun E w' hp => by obtain ⟨μ', rfl, h1, h2⟩ := hp; rw [hr] at h1; cases h1)
theorem cx_L_245 (hM : M.1 = RL) {o : Nat} (ho : kt o = 13) {Ry : Room} {k' n' : Nat} {E : String} {φ : Mem → Prop} (hC : CT g yX7_isWell mX7_isWell Ry (WM g adr μ) (.ref (adr o) :: []) (PM g adr (.inr E) φ)) (hs : (Ry.frames + 1 ≤ R.frames ∧ 8 + (2 + 11) + Ry.locals ≤ R.locals) ∧ (k + Ry.cells = k' ∧ n + Ry.slots = n') ∧ k' ≤ R.cells ∧ n' ≤ R.slots) (hW : Nat.ble ((st.map fun v => v.category).sum) 8 = true) (d : decode M.2.1 pc = .ok (.invokevirtual 245, 3)) (K : ∀ μ', φ μ' → JX g M R Q k' n' (WM g adr μ') pc l st E) : J g M R Q k n (WM g adr μ) pc l (.ref (adr o) :: st) := by
  obtain ⟨r, hr⟩ : ∃ r : Option Value ⊕ String, r = .inr E := ⟨_, rfl⟩
  rw [← hr] at hC
  exact J.callV (C := RX7) (y := yX7_isWell) (My := mX7_isWell) (As := []) (na := 0) (idx := 245) (P := PM g adr r φ) hC (by rw [hM]; exact t_248) t_249 t_250 t_1 t_251 ⟨rfl, by decide +kernel, by decide +kernel, by decide +kernel⟩ rfl hs.1 o (ci := 7) (q := (RX7, TX7, 11)) rfl rfl (WM_get ho (by decide)) (Nat.le_of_ble_eq_true hW) d ⟨by rw [hs.2.1.1]; exact hs.2.2.1, by rw [hs.2.1.2]; exact hs.2.2.2⟩ (fun v w' hp => by obtain ⟨μ', rfl, h1, h2⟩ := hp; rw [hr] at h1; cases h1) (fun E w' hp => by obtain ⟨μ', rfl, h1, h2⟩ := hp; rw [hr] at h1; cases h1; rw [hs.2.1.1, hs.2.1.2]; exact K μ' h2)
theorem cl_L_249 (hM : M.1 = RL) {o : Nat} (ho : kt o = 14) {Ry : Room} {k' n' : Nat} {x : Value} {φ : Mem → Prop} (hC : CT g yX8_isWell mX8_isWell Ry (WM g adr μ) (.ref (adr o) :: []) (PM g adr (.inl (some x)) φ)) (hs : (Ry.frames + 1 ≤ R.frames ∧ 8 + (3 + 11) + Ry.locals ≤ R.locals) ∧ (k + Ry.cells = k' ∧ n + Ry.slots = n') ∧ k' ≤ R.cells ∧ n' ≤ R.slots) (hW : Nat.ble ((st.map fun v => v.category).sum) 8 = true) (d : decode M.2.1 pc = .ok (.invokevirtual 249, 3)) (K : ∀ μ', φ μ' → J g M R Q k' n' (WM g adr μ') (pc + 3) l (x :: st)) : J g M R Q k n (WM g adr μ) pc l (.ref (adr o) :: st) := by
  obtain ⟨r, hr⟩ : ∃ r : Option Value ⊕ String, r = .inl (some x) := ⟨_, rfl⟩
  rw [← hr] at hC
  exact J.callV (C := RX8) (y := yX8_isWell) (My := mX8_isWell) (As := []) (na := 0) (idx := 249) (P := PM g adr r φ) hC (by rw [hM]; exact t_1331) t_1332 t_1333 t_9 t_1334 ⟨rfl, by decide +kernel, by decide +kernel, by decide +kernel⟩ rfl hs.1 o (ci := 8) (q := (RX8, TX8, 20)) rfl rfl (WM_get ho (by decide)) (Nat.le_of_ble_eq_true hW) d ⟨by rw [hs.2.1.1]; exact hs.2.2.1, by rw [hs.2.1.2]; exact hs.2.2.2⟩ (fun v w' hp => by obtain ⟨μ', rfl, h1, h2⟩ := hp; rw [hr] at h1; cases h1; rw [hs.2.1.1, hs.2.1.2]; exact K μ' h2) (fun E w' hp => by obtain ⟨μ', rfl, h1, h2⟩ := hp; rw [hr] at h1; cases h1)
theorem cl_L_250 (hM : M.1 = RL) {o : Nat} (ho : kt o = 13) {Ry : Room} {k' n' : Nat} {x : Value} {φ : Mem → Prop} (hC : CT g yX7_meanAway mX7_meanAway Ry (WM g adr μ) (.ref (adr o) :: []) (PM g adr (.inl (some x)) φ)) (hs : (Ry.frames + 1 ≤ R.frames ∧ 8 + (1 + 11) + Ry.locals ≤ R.locals) ∧ (k + Ry.cells = k' ∧ n + Ry.slots = n') ∧ k' ≤ R.cells ∧ n' ≤ R.slots) (hW : Nat.ble ((st.map fun v => v.category).sum) 8 = true) (d : decode M.2.1 pc = .ok (.invokevirtual 250, 3)) (K : ∀ μ', φ μ' → J g M R Q k' n' (WM g adr μ') (pc + 3) l (x :: st)) : J g M R Q k n (WM g adr μ) pc l (.ref (adr o) :: st) := by
  obtain ⟨r, hr⟩ : ∃ r : Option Value ⊕ String, r = .inl (some x) := ⟨_, rfl⟩
  rw [← hr] at hC
  exact J.callV (C := RX7) (y := yX7_meanAway) (My := mX7_meanAway) (As := []) (na := 0) (idx := 250) (P := PM g adr r φ) hC (by rw [hM]; exact t_285) t_286 t_287 t_1 t_288 ⟨rfl, by decide +kernel, by decide +kernel, by decide +kernel⟩ rfl hs.1 o (ci := 7) (q := (RX7, TX7, 11)) rfl rfl (WM_get ho (by decide)) (Nat.le_of_ble_eq_true hW) d ⟨by rw [hs.2.1.1]; exact hs.2.2.1, by rw [hs.2.1.2]; exact hs.2.2.2⟩ (fun v w' hp => by obtain ⟨μ', rfl, h1, h2⟩ := hp; rw [hr] at h1; cases h1; rw [hs.2.1.1, hs.2.1.2]; exact K μ' h2) (fun E w' hp => by obtain ⟨μ', rfl, h1, h2⟩ := hp; rw [hr] at h1; cases h1)
theorem cx_L_250 (hM : M.1 = RL) {o : Nat} (ho : kt o = 13) {Ry : Room} {k' n' : Nat} {E : String} {φ : Mem → Prop} (hC : CT g yX7_meanAway mX7_meanAway Ry (WM g adr μ) (.ref (adr o) :: []) (PM g adr (.inr E) φ)) (hs : (Ry.frames + 1 ≤ R.frames ∧ 8 + (1 + 11) + Ry.locals ≤ R.locals) ∧ (k + Ry.cells = k' ∧ n + Ry.slots = n') ∧ k' ≤ R.cells ∧ n' ≤ R.slots) (hW : Nat.ble ((st.map fun v => v.category).sum) 8 = true) (d : decode M.2.1 pc = .ok (.invokevirtual 250, 3)) (K : ∀ μ', φ μ' → JX g M R Q k' n' (WM g adr μ') pc l st E) : J g M R Q k n (WM g adr μ) pc l (.ref (adr o) :: st) := by
  obtain ⟨r, hr⟩ : ∃ r : Option Value ⊕ String, r = .inr E := ⟨_, rfl⟩
  rw [← hr] at hC
  exact J.callV (C := RX7) (y := yX7_meanAway) (My := mX7_meanAway) (As := []) (na := 0) (idx := 250) (P := PM g adr r φ) hC (by rw [hM]; exact t_285) t_286 t_287 t_1 t_288 ⟨rfl, by decide +kernel, by decide +kernel, by decide +kernel⟩ rfl hs.1 o (ci := 7) (q := (RX7, TX7, 11)) rfl rfl (WM_get ho (by decide)) (Nat.le_of_ble_eq_true hW) d ⟨by rw [hs.2.1.1]; exact hs.2.2.1, by rw [hs.2.1.2]; exact hs.2.2.2⟩ (fun v w' hp => by obtain ⟨μ', rfl, h1, h2⟩ := hp; rw [hr] at h1; cases h1) (fun E w' hp => by obtain ⟨μ', rfl, h1, h2⟩ := hp; rw [hr] at h1; cases h1; rw [hs.2.1.1, hs.2.1.2]; exact K μ' h2)
theorem cl_L_254 (hM : M.1 = RL) {o : Nat} (ho : kt o = 14) {Ry : Room} {k' n' : Nat} {x : Value} {φ : Mem → Prop} (hC : CT g yX8_meanAway mX8_meanAway Ry (WM g adr μ) (.ref (adr o) :: []) (PM g adr (.inl (some x)) φ)) (hs : (Ry.frames + 1 ≤ R.frames ∧ 8 + (3 + 11) + Ry.locals ≤ R.locals) ∧ (k + Ry.cells = k' ∧ n + Ry.slots = n') ∧ k' ≤ R.cells ∧ n' ≤ R.slots) (hW : Nat.ble ((st.map fun v => v.category).sum) 8 = true) (d : decode M.2.1 pc = .ok (.invokevirtual 254, 3)) (K : ∀ μ', φ μ' → J g M R Q k' n' (WM g adr μ') (pc + 3) l (x :: st)) : J g M R Q k n (WM g adr μ) pc l (.ref (adr o) :: st) := by
  obtain ⟨r, hr⟩ : ∃ r : Option Value ⊕ String, r = .inl (some x) := ⟨_, rfl⟩
  rw [← hr] at hC
  exact J.callV (C := RX8) (y := yX8_meanAway) (My := mX8_meanAway) (As := []) (na := 0) (idx := 254) (P := PM g adr r φ) hC (by rw [hM]; exact t_1335) t_1336 t_1337 t_9 t_1338 ⟨rfl, by decide +kernel, by decide +kernel, by decide +kernel⟩ rfl hs.1 o (ci := 8) (q := (RX8, TX8, 20)) rfl rfl (WM_get ho (by decide)) (Nat.le_of_ble_eq_true hW) d ⟨by rw [hs.2.1.1]; exact hs.2.2.1, by rw [hs.2.1.2]; exact hs.2.2.2⟩ (fun v w' hp => by obtain ⟨μ', rfl, h1, h2⟩ := hp; rw [hr] at h1; cases h1; rw [hs.2.1.1, hs.2.1.2]; exact K μ' h2) (fun E w' hp => by obtain ⟨μ', rfl, h1, h2⟩ := hp; rw [hr] at h1; cases h1)
theorem cl_L_255 (hM : M.1 = RL) {o : Nat} (ho : kt o = 13) {Ry : Room} {k' n' : Nat} {x : Value} {φ : Mem → Prop} (hC : CT g yX7_seamShare mX7_seamShare Ry (WM g adr μ) (.ref (adr o) :: []) (PM g adr (.inl (some x)) φ)) (hs : (Ry.frames + 1 ≤ R.frames ∧ 8 + (1 + 11) + Ry.locals ≤ R.locals) ∧ (k + Ry.cells = k' ∧ n + Ry.slots = n') ∧ k' ≤ R.cells ∧ n' ≤ R.slots) (hW : Nat.ble ((st.map fun v => v.category).sum) 8 = true) (d : decode M.2.1 pc = .ok (.invokevirtual 255, 3)) (K : ∀ μ', φ μ' → J g M R Q k' n' (WM g adr μ') (pc + 3) l (x :: st)) : J g M R Q k n (WM g adr μ) pc l (.ref (adr o) :: st) := by
  obtain ⟨r, hr⟩ : ∃ r : Option Value ⊕ String, r = .inl (some x) := ⟨_, rfl⟩
  rw [← hr] at hC
  exact J.callV (C := RX7) (y := yX7_seamShare) (My := mX7_seamShare) (As := []) (na := 0) (idx := 255) (P := PM g adr r φ) hC (by rw [hM]; exact t_297) t_298 t_299 t_1 t_300 ⟨rfl, by decide +kernel, by decide +kernel, by decide +kernel⟩ rfl hs.1 o (ci := 7) (q := (RX7, TX7, 11)) rfl rfl (WM_get ho (by decide)) (Nat.le_of_ble_eq_true hW) d ⟨by rw [hs.2.1.1]; exact hs.2.2.1, by rw [hs.2.1.2]; exact hs.2.2.2⟩ (fun v w' hp => by obtain ⟨μ', rfl, h1, h2⟩ := hp; rw [hr] at h1; cases h1; rw [hs.2.1.1, hs.2.1.2]; exact K μ' h2) (fun E w' hp => by obtain ⟨μ', rfl, h1, h2⟩ := hp; rw [hr] at h1; cases h1)
theorem cx_L_255 (hM : M.1 = RL) {o : Nat} (ho : kt o = 13) {Ry : Room} {k' n' : Nat} {E : String} {φ : Mem → Prop} (hC : CT g yX7_seamShare mX7_seamShare Ry (WM g adr μ) (.ref (adr o) :: []) (PM g adr (.inr E) φ)) (hs : (Ry.frames + 1 ≤ R.frames ∧ 8 + (1 + 11) + Ry.locals ≤ R.locals) ∧ (k + Ry.cells = k' ∧ n + Ry.slots = n') ∧ k' ≤ R.cells ∧ n' ≤ R.slots) (hW : Nat.ble ((st.map fun v => v.category).sum) 8 = true) (d : decode M.2.1 pc = .ok (.invokevirtual 255, 3)) (K : ∀ μ', φ μ' → JX g M R Q k' n' (WM g adr μ') pc l st E) : J g M R Q k n (WM g adr μ) pc l (.ref (adr o) :: st) := by
  obtain ⟨r, hr⟩ : ∃ r : Option Value ⊕ String, r = .inr E := ⟨_, rfl⟩
  rw [← hr] at hC
  exact J.callV (C := RX7) (y := yX7_seamShare) (My := mX7_seamShare) (As := []) (na := 0) (idx := 255) (P := PM g adr r φ) hC (by rw [hM]; exact t_297) t_298 t_299 t_1 t_300 ⟨rfl, by decide +kernel, by decide +kernel, by decide +kernel⟩ rfl hs.1 o (ci := 7) (q := (RX7, TX7, 11)) rfl rfl (WM_get ho (by decide)) (Nat.le_of_ble_eq_true hW) d ⟨by rw [hs.2.1.1]; exact hs.2.2.1, by rw [hs.2.1.2]; exact hs.2.2.2⟩ (fun v w' hp => by obtain ⟨μ', rfl, h1, h2⟩ := hp; rw [hr] at h1; cases h1) (fun E w' hp => by obtain ⟨μ', rfl, h1, h2⟩ := hp; rw [hr] at h1; cases h1; rw [hs.2.1.1, hs.2.1.2]; exact K μ' h2)
theorem cl_L_259 (hM : M.1 = RL) {o : Nat} (ho : kt o = 14) {Ry : Room} {k' n' : Nat} {x : Value} {φ : Mem → Prop} (hC : CT g yX8_seamShare mX8_seamShare Ry (WM g adr μ) (.ref (adr o) :: []) (PM g adr (.inl (some x)) φ)) (hs : (Ry.frames + 1 ≤ R.frames ∧ 8 + (1 + 11) + Ry.locals ≤ R.locals) ∧ (k + Ry.cells = k' ∧ n + Ry.slots = n') ∧ k' ≤ R.cells ∧ n' ≤ R.slots) (hW : Nat.ble ((st.map fun v => v.category).sum) 8 = true) (d : decode M.2.1 pc = .ok (.invokevirtual 259, 3)) (K : ∀ μ', φ μ' → J g M R Q k' n' (WM g adr μ') (pc + 3) l (x :: st)) : J g M R Q k n (WM g adr μ) pc l (.ref (adr o) :: st) := by
  obtain ⟨r, hr⟩ : ∃ r : Option Value ⊕ String, r = .inl (some x) := ⟨_, rfl⟩
  rw [← hr] at hC
  exact J.callV (C := RX8) (y := yX8_seamShare) (My := mX8_seamShare) (As := []) (na := 0) (idx := 259) (P := PM g adr r φ) hC (by rw [hM]; exact t_1340) t_1341 t_1342 t_9 t_1343 ⟨rfl, by decide +kernel, by decide +kernel, by decide +kernel⟩ rfl hs.1 o (ci := 8) (q := (RX8, TX8, 20)) rfl rfl (WM_get ho (by decide)) (Nat.le_of_ble_eq_true hW) d ⟨by rw [hs.2.1.1]; exact hs.2.2.1, by rw [hs.2.1.2]; exact hs.2.2.2⟩ (fun v w' hp => by obtain ⟨μ', rfl, h1, h2⟩ := hp; rw [hr] at h1; cases h1; rw [hs.2.1.1, hs.2.1.2]; exact K μ' h2) (fun E w' hp => by obtain ⟨μ', rfl, h1, h2⟩ := hp; rw [hr] at h1; cases h1)
theorem cl_L_260 (hM : M.1 = RL) {a0 a1 : Value} {Ry : Room} {k' n' : Nat} {x : Value} {φ : Mem → Prop} (hC : CW g yL_undo mL_undo Ry (WM g adr μ) [a0, a1] (PM g adr (.inl (some x)) φ)) (hs : (Ry.frames + 1 ≤ R.frames ∧ 8 + (3 + 11) + Ry.locals ≤ R.locals) ∧ (k + Ry.cells = k' ∧ n + Ry.slots = n') ∧ k' ≤ R.cells ∧ n' ≤ R.slots) (hW : Nat.ble ((st.map fun v => v.category).sum) 8 = true) (d : decode M.2.1 pc = .ok (.invokestatic 260, 3)) (K : ∀ μ', φ μ' → J g M R Q k' n' (WM g adr μ') (pc + 3) l (x :: st)) : J g M R Q k n (WM g adr μ) pc l (a1 :: a0 :: st) := by
  obtain ⟨r, hr⟩ : ∃ r : Option Value ⊕ String, r = .inl (some x) := ⟨_, rfl⟩
  rw [← hr] at hC
  exact J.callSW (y := yL_undo) (My := mL_undo) (As := [a0, a1]) (na := 2) (idx := 260) (P := PM g adr r φ) hC (by rw [hM]; exact t_946) t_947 t_0 t_948 ⟨by decide +kernel, by decide +kernel, by decide +kernel⟩ rfl hs.1 (Nat.le_of_ble_eq_true hW) d ⟨by rw [hs.2.1.1]; exact hs.2.2.1, by rw [hs.2.1.2]; exact hs.2.2.2⟩ (fun v w' hp => by obtain ⟨μ', rfl, h1, h2⟩ := hp; rw [hr] at h1; cases h1; rw [hs.2.1.1, hs.2.1.2]; exact K μ' h2) (fun E w' hp => by obtain ⟨μ', rfl, h1, h2⟩ := hp; rw [hr] at h1; cases h1)
theorem cl_L_262 (hM : M.1 = RL) {o : Nat} (ho : kt o = 14) {Ry : Room} {k' n' : Nat} {x : Value} {φ : Mem → Prop} (hC : CT g yX8_undo mX8_undo Ry (WM g adr μ) (.ref (adr o) :: []) (PM g adr (.inl (some x)) φ)) (hs : (Ry.frames + 1 ≤ R.frames ∧ 8 + (1 + 11) + Ry.locals ≤ R.locals) ∧ (k + Ry.cells = k' ∧ n + Ry.slots = n') ∧ k' ≤ R.cells ∧ n' ≤ R.slots) (hW : Nat.ble ((st.map fun v => v.category).sum) 8 = true) (d : decode M.2.1 pc = .ok (.invokevirtual 262, 3)) (K : ∀ μ', φ μ' → J g M R Q k' n' (WM g adr μ') (pc + 3) l (x :: st)) : J g M R Q k n (WM g adr μ) pc l (.ref (adr o) :: st) := by
  obtain ⟨r, hr⟩ : ∃ r : Option Value ⊕ String, r = .inl (some x) := ⟨_, rfl⟩
  rw [← hr] at hC
  exact J.callV (C := RX8) (y := yX8_undo) (My := mX8_undo) (As := []) (na := 0) (idx := 262) (P := PM g adr r φ) hC (by rw [hM]; exact t_1345) t_1346 t_1347 t_9 t_1348 ⟨rfl, by decide +kernel, by decide +kernel, by decide +kernel⟩ rfl hs.1 o (ci := 8) (q := (RX8, TX8, 20)) rfl rfl (WM_get ho (by decide)) (Nat.le_of_ble_eq_true hW) d ⟨by rw [hs.2.1.1]; exact hs.2.2.1, by rw [hs.2.1.2]; exact hs.2.2.2⟩ (fun v w' hp => by obtain ⟨μ', rfl, h1, h2⟩ := hp; rw [hr] at h1; cases h1; rw [hs.2.1.1, hs.2.1.2]; exact K μ' h2) (fun E w' hp => by obtain ⟨μ', rfl, h1, h2⟩ := hp; rw [hr] at h1; cases h1)
theorem cl_L_263 (hM : M.1 = RL) {o : Nat} (ho : kt o = 13) {Ry : Room} {k' n' : Nat} {x : Value} {φ : Mem → Prop} (hC : CT g yX7_save mX7_save Ry (WM g adr μ) (.ref (adr o) :: []) (PM g adr (.inl (some x)) φ)) (hs : (Ry.frames + 1 ≤ R.frames ∧ 8 + (1 + 11) + Ry.locals ≤ R.locals) ∧ (k + Ry.cells = k' ∧ n + Ry.slots = n') ∧ k' ≤ R.cells ∧ n' ≤ R.slots) (hW : Nat.ble ((st.map fun v => v.category).sum) 8 = true) (d : decode M.2.1 pc = .ok (.invokevirtual 263, 3)) (K : ∀ μ', φ μ' → J g M R Q k' n' (WM g adr μ') (pc + 3) l (x :: st)) : J g M R Q k n (WM g adr μ) pc l (.ref (adr o) :: st) := by
  obtain ⟨r, hr⟩ : ∃ r : Option Value ⊕ String, r = .inl (some x) := ⟨_, rfl⟩
  rw [← hr] at hC
  exact J.callV (C := RX7) (y := yX7_save) (My := mX7_save) (As := []) (na := 0) (idx := 263) (P := PM g adr r φ) hC (by rw [hM]; exact t_302) t_303 t_304 t_1 t_305 ⟨rfl, by decide +kernel, by decide +kernel, by decide +kernel⟩ rfl hs.1 o (ci := 7) (q := (RX7, TX7, 11)) rfl rfl (WM_get ho (by decide)) (Nat.le_of_ble_eq_true hW) d ⟨by rw [hs.2.1.1]; exact hs.2.2.1, by rw [hs.2.1.2]; exact hs.2.2.2⟩ (fun v w' hp => by obtain ⟨μ', rfl, h1, h2⟩ := hp; rw [hr] at h1; cases h1; rw [hs.2.1.1, hs.2.1.2]; exact K μ' h2) (fun E w' hp => by obtain ⟨μ', rfl, h1, h2⟩ := hp; rw [hr] at h1; cases h1)
theorem cx_L_263 (hM : M.1 = RL) {o : Nat} (ho : kt o = 13) {Ry : Room} {k' n' : Nat} {E : String} {φ : Mem → Prop} (hC : CT g yX7_save mX7_save Ry (WM g adr μ) (.ref (adr o) :: []) (PM g adr (.inr E) φ)) (hs : (Ry.frames + 1 ≤ R.frames ∧ 8 + (1 + 11) + Ry.locals ≤ R.locals) ∧ (k + Ry.cells = k' ∧ n + Ry.slots = n') ∧ k' ≤ R.cells ∧ n' ≤ R.slots) (hW : Nat.ble ((st.map fun v => v.category).sum) 8 = true) (d : decode M.2.1 pc = .ok (.invokevirtual 263, 3)) (K : ∀ μ', φ μ' → JX g M R Q k' n' (WM g adr μ') pc l st E) : J g M R Q k n (WM g adr μ) pc l (.ref (adr o) :: st) := by
  obtain ⟨r, hr⟩ : ∃ r : Option Value ⊕ String, r = .inr E := ⟨_, rfl⟩
  rw [← hr] at hC
  exact J.callV (C := RX7) (y := yX7_save) (My := mX7_save) (As := []) (na := 0) (idx := 263) (P := PM g adr r φ) hC (by rw [hM]; exact t_302) t_303 t_304 t_1 t_305 ⟨rfl, by decide +kernel, by decide +kernel, by decide +kernel⟩ rfl hs.1 o (ci := 7) (q := (RX7, TX7, 11)) rfl rfl (WM_get ho (by decide)) (Nat.le_of_ble_eq_true hW) d ⟨by rw [hs.2.1.1]; exact hs.2.2.1, by rw [hs.2.1.2]; exact hs.2.2.2⟩ (fun v w' hp => by obtain ⟨μ', rfl, h1, h2⟩ := hp; rw [hr] at h1; cases h1) (fun E w' hp => by obtain ⟨μ', rfl, h1, h2⟩ := hp; rw [hr] at h1; cases h1; rw [hs.2.1.1, hs.2.1.2]; exact K μ' h2)
theorem cl_L_266 (hM : M.1 = RL) {o : Nat} (ho : kt o = 14) {Ry : Room} {k' n' : Nat} {x : Value} {φ : Mem → Prop} (hC : CT g yX8_save mX8_save Ry (WM g adr μ) (.ref (adr o) :: []) (PM g adr (.inl (some x)) φ)) (hs : (Ry.frames + 1 ≤ R.frames ∧ 8 + (1 + 11) + Ry.locals ≤ R.locals) ∧ (k + Ry.cells = k' ∧ n + Ry.slots = n') ∧ k' ≤ R.cells ∧ n' ≤ R.slots) (hW : Nat.ble ((st.map fun v => v.category).sum) 8 = true) (d : decode M.2.1 pc = .ok (.invokevirtual 266, 3)) (K : ∀ μ', φ μ' → J g M R Q k' n' (WM g adr μ') (pc + 3) l (x :: st)) : J g M R Q k n (WM g adr μ) pc l (.ref (adr o) :: st) := by
  obtain ⟨r, hr⟩ : ∃ r : Option Value ⊕ String, r = .inl (some x) := ⟨_, rfl⟩
  rw [← hr] at hC
  exact J.callV (C := RX8) (y := yX8_save) (My := mX8_save) (As := []) (na := 0) (idx := 266) (P := PM g adr r φ) hC (by rw [hM]; exact t_1349) t_1350 t_1351 t_9 t_1352 ⟨rfl, by decide +kernel, by decide +kernel, by decide +kernel⟩ rfl hs.1 o (ci := 8) (q := (RX8, TX8, 20)) rfl rfl (WM_get ho (by decide)) (Nat.le_of_ble_eq_true hW) d ⟨by rw [hs.2.1.1]; exact hs.2.2.1, by rw [hs.2.1.2]; exact hs.2.2.2⟩ (fun v w' hp => by obtain ⟨μ', rfl, h1, h2⟩ := hp; rw [hr] at h1; cases h1; rw [hs.2.1.1, hs.2.1.2]; exact K μ' h2) (fun E w' hp => by obtain ⟨μ', rfl, h1, h2⟩ := hp; rw [hr] at h1; cases h1)
theorem cl_L_267 (hM : M.1 = RL) {a0 a1 : Value} {Ry : Room} {k' n' : Nat} {x : Value} {φ : Mem → Prop} (hC : CW g yL_restore mL_restore Ry (WM g adr μ) [a0, a1] (PM g adr (.inl (some x)) φ)) (hs : (Ry.frames + 1 ≤ R.frames ∧ 8 + (3 + 11) + Ry.locals ≤ R.locals) ∧ (k + Ry.cells = k' ∧ n + Ry.slots = n') ∧ k' ≤ R.cells ∧ n' ≤ R.slots) (hW : Nat.ble ((st.map fun v => v.category).sum) 8 = true) (d : decode M.2.1 pc = .ok (.invokestatic 267, 3)) (K : ∀ μ', φ μ' → J g M R Q k' n' (WM g adr μ') (pc + 3) l (x :: st)) : J g M R Q k n (WM g adr μ) pc l (a1 :: a0 :: st) := by
  obtain ⟨r, hr⟩ : ∃ r : Option Value ⊕ String, r = .inl (some x) := ⟨_, rfl⟩
  rw [← hr] at hC
  exact J.callSW (y := yL_restore) (My := mL_restore) (As := [a0, a1]) (na := 2) (idx := 267) (P := PM g adr r φ) hC (by rw [hM]; exact t_958) t_959 t_0 t_960 ⟨by decide +kernel, by decide +kernel, by decide +kernel⟩ rfl hs.1 (Nat.le_of_ble_eq_true hW) d ⟨by rw [hs.2.1.1]; exact hs.2.2.1, by rw [hs.2.1.2]; exact hs.2.2.2⟩ (fun v w' hp => by obtain ⟨μ', rfl, h1, h2⟩ := hp; rw [hr] at h1; cases h1; rw [hs.2.1.1, hs.2.1.2]; exact K μ' h2) (fun E w' hp => by obtain ⟨μ', rfl, h1, h2⟩ := hp; rw [hr] at h1; cases h1)
theorem cl_L_269 (hM : M.1 = RL) {o : Nat} (ho : kt o = 14) {Ry : Room} {k' n' : Nat} {x : Value} {φ : Mem → Prop} (hC : CT g yX8_restore mX8_restore Ry (WM g adr μ) (.ref (adr o) :: []) (PM g adr (.inl (some x)) φ)) (hs : (Ry.frames + 1 ≤ R.frames ∧ 8 + (1 + 11) + Ry.locals ≤ R.locals) ∧ (k + Ry.cells = k' ∧ n + Ry.slots = n') ∧ k' ≤ R.cells ∧ n' ≤ R.slots) (hW : Nat.ble ((st.map fun v => v.category).sum) 8 = true) (d : decode M.2.1 pc = .ok (.invokevirtual 269, 3)) (K : ∀ μ', φ μ' → J g M R Q k' n' (WM g adr μ') (pc + 3) l (x :: st)) : J g M R Q k n (WM g adr μ) pc l (.ref (adr o) :: st) := by
  obtain ⟨r, hr⟩ : ∃ r : Option Value ⊕ String, r = .inl (some x) := ⟨_, rfl⟩
  rw [← hr] at hC
  exact J.callV (C := RX8) (y := yX8_restore) (My := mX8_restore) (As := []) (na := 0) (idx := 269) (P := PM g adr r φ) hC (by rw [hM]; exact t_1353) t_1354 t_1355 t_9 t_1356 ⟨rfl, by decide +kernel, by decide +kernel, by decide +kernel⟩ rfl hs.1 o (ci := 8) (q := (RX8, TX8, 20)) rfl rfl (WM_get ho (by decide)) (Nat.le_of_ble_eq_true hW) d ⟨by rw [hs.2.1.1]; exact hs.2.2.1, by rw [hs.2.1.2]; exact hs.2.2.2⟩ (fun v w' hp => by obtain ⟨μ', rfl, h1, h2⟩ := hp; rw [hr] at h1; cases h1; rw [hs.2.1.1, hs.2.1.2]; exact K μ' h2) (fun E w' hp => by obtain ⟨μ', rfl, h1, h2⟩ := hp; rw [hr] at h1; cases h1)
theorem cl_X8_63 (hM : M.1 = RX8) {o : Nat} (ho : kt o = 14) {Ry : Room} {k' n' : Nat} {x : Value} {φ : Mem → Prop} (hC : CT g yX8_nothing mX8_nothing Ry (WM g adr μ) (.ref (adr o) :: []) (PM g adr (.inl (some x)) φ)) (hs : (Ry.frames + 1 ≤ R.frames ∧ 8 + (2 + 11) + Ry.locals ≤ R.locals) ∧ (k + Ry.cells = k' ∧ n + Ry.slots = n') ∧ k' ≤ R.cells ∧ n' ≤ R.slots) (hW : Nat.ble ((st.map fun v => v.category).sum) 8 = true) (d : decode M.2.1 pc = .ok (.invokevirtual 63, 3)) (K : ∀ μ', φ μ' → J g M R Q k' n' (WM g adr μ') (pc + 3) l (x :: st)) : J g M R Q k n (WM g adr μ) pc l (.ref (adr o) :: st) := by
  obtain ⟨r, hr⟩ : ∃ r : Option Value ⊕ String, r = .inl (some x) := ⟨_, rfl⟩
  rw [← hr] at hC
  exact J.callV (C := RX8) (y := yX8_nothing) (My := mX8_nothing) (As := []) (na := 0) (idx := 63) (P := PM g adr r φ) hC (by rw [hM]; exact t_1073) t_1075 s_24 t_9 t_1076 ⟨rfl, by decide +kernel, by decide +kernel, by decide +kernel⟩ rfl hs.1 o (ci := 8) (q := (RX8, TX8, 20)) rfl rfl (WM_get ho (by decide)) (Nat.le_of_ble_eq_true hW) d ⟨by rw [hs.2.1.1]; exact hs.2.2.1, by rw [hs.2.1.2]; exact hs.2.2.2⟩ (fun v w' hp => by obtain ⟨μ', rfl, h1, h2⟩ := hp; rw [hr] at h1; cases h1; rw [hs.2.1.1, hs.2.1.2]; exact K μ' h2) (fun E w' hp => by obtain ⟨μ', rfl, h1, h2⟩ := hp; rw [hr] at h1; cases h1)
theorem cl_X8_67 (hM : M.1 = RX8) {o : Nat} (ho : kt o = 14) {a0 a1 : Value} {Ry : Room} {k' n' : Nat} {φ : Mem → Prop} (hC : CT g yX8_then mX8_then Ry (WM g adr μ) (.ref (adr o) :: [a0, a1]) (PM g adr (.inl none) φ)) (hs : (Ry.frames + 1 ≤ R.frames ∧ 8 + (4 + 11) + Ry.locals ≤ R.locals) ∧ (k + Ry.cells = k' ∧ n + Ry.slots = n') ∧ k' ≤ R.cells ∧ n' ≤ R.slots) (hW : Nat.ble ((st.map fun v => v.category).sum) 8 = true) (d : decode M.2.1 pc = .ok (.invokevirtual 67, 3)) (K : ∀ μ', φ μ' → J g M R Q k' n' (WM g adr μ') (pc + 3) l st) : J g M R Q k n (WM g adr μ) pc l (a1 :: a0 :: .ref (adr o) :: st) := by
  obtain ⟨r, hr⟩ : ∃ r : Option Value ⊕ String, r = .inl none := ⟨_, rfl⟩
  rw [← hr] at hC
  exact J.callV (C := RX8) (y := yX8_then) (My := mX8_then) (As := [a0, a1]) (na := 2) (idx := 67) (P := PM g adr r φ) hC (by rw [hM]; exact t_1196) t_1198 s_40 t_9 t_1199 ⟨rfl, by decide +kernel, by decide +kernel, by decide +kernel⟩ rfl hs.1 o (ci := 8) (q := (RX8, TX8, 20)) rfl rfl (WM_get ho (by decide)) (Nat.le_of_ble_eq_true hW) d ⟨by rw [hs.2.1.1]; exact hs.2.2.1, by rw [hs.2.1.2]; exact hs.2.2.2⟩ (fun v w' hp => by obtain ⟨μ', rfl, h1, h2⟩ := hp; rw [hr] at h1; cases h1; rw [hs.2.1.1, hs.2.1.2]; exact K μ' h2) (fun E w' hp => by obtain ⟨μ', rfl, h1, h2⟩ := hp; rw [hr] at h1; cases h1)
theorem cl_X8_71 (hM : M.1 = RX8) {o : Nat} (ho : kt o = 14) {a0 a1 : Value} {Ry : Room} {k' n' : Nat} {x : Value} {φ : Mem → Prop} (hC : CT g yX8_times mX8_times Ry (WM g adr μ) (.ref (adr o) :: [a0, a1]) (PM g adr (.inl (some x)) φ)) (hs : (Ry.frames + 1 ≤ R.frames ∧ 8 + (5 + 11) + Ry.locals ≤ R.locals) ∧ (k + Ry.cells = k' ∧ n + Ry.slots = n') ∧ k' ≤ R.cells ∧ n' ≤ R.slots) (hW : Nat.ble ((st.map fun v => v.category).sum) 8 = true) (d : decode M.2.1 pc = .ok (.invokevirtual 71, 3)) (K : ∀ μ', φ μ' → J g M R Q k' n' (WM g adr μ') (pc + 3) l (x :: st)) : J g M R Q k n (WM g adr μ) pc l (a1 :: a0 :: .ref (adr o) :: st) := by
  obtain ⟨r, hr⟩ : ∃ r : Option Value ⊕ String, r = .inl (some x) := ⟨_, rfl⟩
  rw [← hr] at hC
  exact J.callV (C := RX8) (y := yX8_times) (My := mX8_times) (As := [a0, a1]) (na := 2) (idx := 71) (P := PM g adr r φ) hC (by rw [hM]; exact t_1192) t_1194 s_39 t_9 t_1195 ⟨rfl, by decide +kernel, by decide +kernel, by decide +kernel⟩ rfl hs.1 o (ci := 8) (q := (RX8, TX8, 20)) rfl rfl (WM_get ho (by decide)) (Nat.le_of_ble_eq_true hW) d ⟨by rw [hs.2.1.1]; exact hs.2.2.1, by rw [hs.2.1.2]; exact hs.2.2.2⟩ (fun v w' hp => by obtain ⟨μ', rfl, h1, h2⟩ := hp; rw [hr] at h1; cases h1; rw [hs.2.1.1, hs.2.1.2]; exact K μ' h2) (fun E w' hp => by obtain ⟨μ', rfl, h1, h2⟩ := hp; rw [hr] at h1; cases h1)
theorem cl_X8_75 (hM : M.1 = RX8) {o : Nat} (ho : kt o = 14) {a0 : Value} {Ry : Room} {k' n' : Nat} {x : Value} {φ : Mem → Prop} (hC : CT g yX8_inverse mX8_inverse Ry (WM g adr μ) (.ref (adr o) :: [a0]) (PM g adr (.inl (some x)) φ)) (hs : (Ry.frames + 1 ≤ R.frames ∧ 8 + (4 + 11) + Ry.locals ≤ R.locals) ∧ (k + Ry.cells = k' ∧ n + Ry.slots = n') ∧ k' ≤ R.cells ∧ n' ≤ R.slots) (hW : Nat.ble ((st.map fun v => v.category).sum) 8 = true) (d : decode M.2.1 pc = .ok (.invokevirtual 75, 3)) (K : ∀ μ', φ μ' → J g M R Q k' n' (WM g adr μ') (pc + 3) l (x :: st)) : J g M R Q k n (WM g adr μ) pc l (a0 :: .ref (adr o) :: st) := by
  obtain ⟨r, hr⟩ : ∃ r : Option Value ⊕ String, r = .inl (some x) := ⟨_, rfl⟩
  rw [← hr] at hC
  exact J.callV (C := RX8) (y := yX8_inverse) (My := mX8_inverse) (As := [a0]) (na := 1) (idx := 75) (P := PM g adr r φ) hC (by rw [hM]; exact t_1204) t_1206 s_42 t_9 t_1207 ⟨rfl, by decide +kernel, by decide +kernel, by decide +kernel⟩ rfl hs.1 o (ci := 8) (q := (RX8, TX8, 20)) rfl rfl (WM_get ho (by decide)) (Nat.le_of_ble_eq_true hW) d ⟨by rw [hs.2.1.1]; exact hs.2.2.1, by rw [hs.2.1.2]; exact hs.2.2.2⟩ (fun v w' hp => by obtain ⟨μ', rfl, h1, h2⟩ := hp; rw [hr] at h1; cases h1; rw [hs.2.1.1, hs.2.1.2]; exact K μ' h2) (fun E w' hp => by obtain ⟨μ', rfl, h1, h2⟩ := hp; rw [hr] at h1; cases h1)
theorem cl_X8_79 (hM : M.1 = RX8) {o : Nat} (ho : kt o = 14) {a0 : Value} {Ry : Room} {k' n' : Nat} {x : Value} {φ : Mem → Prop} (hC : CT g yX8_movedBy mX8_movedBy Ry (WM g adr μ) (.ref (adr o) :: [a0]) (PM g adr (.inl (some x)) φ)) (hs : (Ry.frames + 1 ≤ R.frames ∧ 8 + (4 + 11) + Ry.locals ≤ R.locals) ∧ (k + Ry.cells = k' ∧ n + Ry.slots = n') ∧ k' ≤ R.cells ∧ n' ≤ R.slots) (hW : Nat.ble ((st.map fun v => v.category).sum) 8 = true) (d : decode M.2.1 pc = .ok (.invokevirtual 79, 3)) (K : ∀ μ', φ μ' → J g M R Q k' n' (WM g adr μ') (pc + 3) l (x :: st)) : J g M R Q k n (WM g adr μ) pc l (a0 :: .ref (adr o) :: st) := by
  obtain ⟨r, hr⟩ : ∃ r : Option Value ⊕ String, r = .inl (some x) := ⟨_, rfl⟩
  rw [← hr] at hC
  exact J.callV (C := RX8) (y := yX8_movedBy) (My := mX8_movedBy) (As := [a0]) (na := 1) (idx := 79) (P := PM g adr r φ) hC (by rw [hM]; exact t_1223) t_1225 s_44 t_9 t_1226 ⟨rfl, by decide +kernel, by decide +kernel, by decide +kernel⟩ rfl hs.1 o (ci := 8) (q := (RX8, TX8, 20)) rfl rfl (WM_get ho (by decide)) (Nat.le_of_ble_eq_true hW) d ⟨by rw [hs.2.1.1]; exact hs.2.2.1, by rw [hs.2.1.2]; exact hs.2.2.2⟩ (fun v w' hp => by obtain ⟨μ', rfl, h1, h2⟩ := hp; rw [hr] at h1; cases h1; rw [hs.2.1.1, hs.2.1.2]; exact K μ' h2) (fun E w' hp => by obtain ⟨μ', rfl, h1, h2⟩ := hp; rw [hr] at h1; cases h1)
theorem cl_X8_82 (hM : M.1 = RX8) {o : Nat} (ho : kt o = 14) {a0 a1 a2 : Value} {Ry : Room} {k' n' : Nat} {x : Value} {φ : Mem → Prop} (hC : CT g yX8_move mX8_move Ry (WM g adr μ) (.ref (adr o) :: [a0, a1, a2]) (PM g adr (.inl (some x)) φ)) (hs : (Ry.frames + 1 ≤ R.frames ∧ 8 + (8 + 11) + Ry.locals ≤ R.locals) ∧ (k + Ry.cells = k' ∧ n + Ry.slots = n') ∧ k' ≤ R.cells ∧ n' ≤ R.slots) (hW : Nat.ble ((st.map fun v => v.category).sum) 8 = true) (d : decode M.2.1 pc = .ok (.invokevirtual 82, 3)) (K : ∀ μ', φ μ' → J g M R Q k' n' (WM g adr μ') (pc + 3) l (x :: st)) : J g M R Q k n (WM g adr μ) pc l (a2 :: a1 :: a0 :: .ref (adr o) :: st) := by
  obtain ⟨r, hr⟩ : ∃ r : Option Value ⊕ String, r = .inl (some x) := ⟨_, rfl⟩
  rw [← hr] at hC
  exact J.callV (C := RX8) (y := yX8_move) (My := mX8_move) (As := [a0, a1, a2]) (na := 3) (idx := 82) (P := PM g adr r φ) hC (by rw [hM]; exact t_1069) t_1071 s_23 t_9 t_1072 ⟨rfl, by decide +kernel, by decide +kernel, by decide +kernel⟩ rfl hs.1 o (ci := 8) (q := (RX8, TX8, 20)) rfl rfl (WM_get ho (by decide)) (Nat.le_of_ble_eq_true hW) d ⟨by rw [hs.2.1.1]; exact hs.2.2.1, by rw [hs.2.1.2]; exact hs.2.2.2⟩ (fun v w' hp => by obtain ⟨μ', rfl, h1, h2⟩ := hp; rw [hr] at h1; cases h1; rw [hs.2.1.1, hs.2.1.2]; exact K μ' h2) (fun E w' hp => by obtain ⟨μ', rfl, h1, h2⟩ := hp; rw [hr] at h1; cases h1)
theorem cl_X8_86 (hM : M.1 = RX8) {o : Nat} (ho : kt o = 14) {a0 : Value} {Ry : Room} {k' n' : Nat} {φ : Mem → Prop} (hC : CT g yX8_does mX8_does Ry (WM g adr μ) (.ref (adr o) :: [a0]) (PM g adr (.inl none) φ)) (hs : (Ry.frames + 1 ≤ R.frames ∧ 8 + (3 + 11) + Ry.locals ≤ R.locals) ∧ (k + Ry.cells = k' ∧ n + Ry.slots = n') ∧ k' ≤ R.cells ∧ n' ≤ R.slots) (hW : Nat.ble ((st.map fun v => v.category).sum) 8 = true) (d : decode M.2.1 pc = .ok (.invokevirtual 86, 3)) (K : ∀ μ', φ μ' → J g M R Q k' n' (WM g adr μ') (pc + 3) l st) : J g M R Q k n (WM g adr μ) pc l (a0 :: .ref (adr o) :: st) := by
  obtain ⟨r, hr⟩ : ∃ r : Option Value ⊕ String, r = .inl none := ⟨_, rfl⟩
  rw [← hr] at hC
  exact J.callV (C := RX8) (y := yX8_does) (My := mX8_does) (As := [a0]) (na := 1) (idx := 86) (P := PM g adr r φ) hC (by rw [hM]; exact t_1077) t_1079 s_25 t_9 t_1080 ⟨rfl, by decide +kernel, by decide +kernel, by decide +kernel⟩ rfl hs.1 o (ci := 8) (q := (RX8, TX8, 20)) rfl rfl (WM_get ho (by decide)) (Nat.le_of_ble_eq_true hW) d ⟨by rw [hs.2.1.1]; exact hs.2.2.1, by rw [hs.2.1.2]; exact hs.2.2.2⟩ (fun v w' hp => by obtain ⟨μ', rfl, h1, h2⟩ := hp; rw [hr] at h1; cases h1; rw [hs.2.1.1, hs.2.1.2]; exact K μ' h2) (fun E w' hp => by obtain ⟨μ', rfl, h1, h2⟩ := hp; rw [hr] at h1; cases h1)
theorem cl_X8_90 (hM : M.1 = RX8) {o : Nat} (ho : kt o = 14) {Ry : Room} {k' n' : Nat} {φ : Mem → Prop} (hC : CT g yX8_keep mX8_keep Ry (WM g adr μ) (.ref (adr o) :: []) (PM g adr (.inl none) φ)) (hs : (Ry.frames + 1 ≤ R.frames ∧ 8 + (1 + 11) + Ry.locals ≤ R.locals) ∧ (k + Ry.cells = k' ∧ n + Ry.slots = n') ∧ k' ≤ R.cells ∧ n' ≤ R.slots) (hW : Nat.ble ((st.map fun v => v.category).sum) 8 = true) (d : decode M.2.1 pc = .ok (.invokevirtual 90, 3)) (K : ∀ μ', φ μ' → J g M R Q k' n' (WM g adr μ') (pc + 3) l st) : J g M R Q k n (WM g adr μ) pc l (.ref (adr o) :: st) := by
  obtain ⟨r, hr⟩ : ∃ r : Option Value ⊕ String, r = .inl none := ⟨_, rfl⟩
  rw [← hr] at hC
  exact J.callV (C := RX8) (y := yX8_keep) (My := mX8_keep) (As := []) (na := 0) (idx := 90) (P := PM g adr r φ) hC (by rw [hM]; exact t_1049) t_1051 s_19 t_9 t_1052 ⟨rfl, by decide +kernel, by decide +kernel, by decide +kernel⟩ rfl hs.1 o (ci := 8) (q := (RX8, TX8, 20)) rfl rfl (WM_get ho (by decide)) (Nat.le_of_ble_eq_true hW) d ⟨by rw [hs.2.1.1]; exact hs.2.2.1, by rw [hs.2.1.2]; exact hs.2.2.2⟩ (fun v w' hp => by obtain ⟨μ', rfl, h1, h2⟩ := hp; rw [hr] at h1; cases h1; rw [hs.2.1.1, hs.2.1.2]; exact K μ' h2) (fun E w' hp => by obtain ⟨μ', rfl, h1, h2⟩ := hp; rw [hr] at h1; cases h1)
theorem cl_X8_93 (hM : M.1 = RX8) {a0 a1 a2 : Value} {Ry : Room} {k' n' : Nat} {x : Value} {φ : Mem → Prop} (hC : CT g yX8_in mX8_in Ry (WM g adr μ) [a0, a1, a2] (PM g adr (.inl (some x)) φ)) (hs : (Ry.frames + 1 ≤ R.frames ∧ 8 + (3 + 11) + Ry.locals ≤ R.locals) ∧ (k + Ry.cells = k' ∧ n + Ry.slots = n') ∧ k' ≤ R.cells ∧ n' ≤ R.slots) (hW : Nat.ble ((st.map fun v => v.category).sum) 8 = true) (d : decode M.2.1 pc = .ok (.invokestatic 93, 3)) (K : ∀ μ', φ μ' → J g M R Q k' n' (WM g adr μ') (pc + 3) l (x :: st)) : J g M R Q k n (WM g adr μ) pc l (a2 :: a1 :: a0 :: st) := by
  obtain ⟨r, hr⟩ : ∃ r : Option Value ⊕ String, r = .inl (some x) := ⟨_, rfl⟩
  rw [← hr] at hC
  exact J.callS (y := yX8_in) (My := mX8_in) (As := [a0, a1, a2]) (na := 3) (idx := 93) (P := PM g adr r φ) hC (by rw [hM]; exact t_1054) t_1055 (by rw [hM]; exact t_9) t_1056 ⟨(by rw [hM]; rfl), by decide +kernel, by decide +kernel, by decide +kernel⟩ rfl hs.1 (Nat.le_of_ble_eq_true hW) d ⟨by rw [hs.2.1.1]; exact hs.2.2.1, by rw [hs.2.1.2]; exact hs.2.2.2⟩ (fun v w' hp => by obtain ⟨μ', rfl, h1, h2⟩ := hp; rw [hr] at h1; cases h1; rw [hs.2.1.1, hs.2.1.2]; exact K μ' h2) (fun E w' hp => by obtain ⟨μ', rfl, h1, h2⟩ := hp; rw [hr] at h1; cases h1)
theorem cl_X8_97 (hM : M.1 = RX8) {o : Nat} (ho : kt o = 14) {a0 : Value} {Ry : Room} {k' n' : Nat} {x : Value} {φ : Mem → Prop} (hC : CT g yX8_fails mX8_fails Ry (WM g adr μ) (.ref (adr o) :: [a0]) (PM g adr (.inl (some x)) φ)) (hs : (Ry.frames + 1 ≤ R.frames ∧ 8 + (2 + 11) + Ry.locals ≤ R.locals) ∧ (k + Ry.cells = k' ∧ n + Ry.slots = n') ∧ k' ≤ R.cells ∧ n' ≤ R.slots) (hW : Nat.ble ((st.map fun v => v.category).sum) 8 = true) (d : decode M.2.1 pc = .ok (.invokevirtual 97, 3)) (K : ∀ μ', φ μ' → J g M R Q k' n' (WM g adr μ') (pc + 3) l (x :: st)) : J g M R Q k n (WM g adr μ) pc l (a0 :: .ref (adr o) :: st) := by
  obtain ⟨r, hr⟩ : ∃ r : Option Value ⊕ String, r = .inl (some x) := ⟨_, rfl⟩
  rw [← hr] at hC
  exact J.callV (C := RX8) (y := yX8_fails) (My := mX8_fails) (As := [a0]) (na := 1) (idx := 97) (P := PM g adr r φ) hC (by rw [hM]; exact t_1057) t_1059 s_20 t_9 t_1060 ⟨rfl, by decide +kernel, by decide +kernel, by decide +kernel⟩ rfl hs.1 o (ci := 8) (q := (RX8, TX8, 20)) rfl rfl (WM_get ho (by decide)) (Nat.le_of_ble_eq_true hW) d ⟨by rw [hs.2.1.1]; exact hs.2.2.1, by rw [hs.2.1.2]; exact hs.2.2.2⟩ (fun v w' hp => by obtain ⟨μ', rfl, h1, h2⟩ := hp; rw [hr] at h1; cases h1; rw [hs.2.1.1, hs.2.1.2]; exact K μ' h2) (fun E w' hp => by obtain ⟨μ', rfl, h1, h2⟩ := hp; rw [hr] at h1; cases h1)
theorem cl_X8_100 (hM : M.1 = RX8) {o : Nat} (ho : kt o = 14) {a0 : Value} {Ry : Room} {k' n' : Nat} {x : Value} {φ : Mem → Prop} (hC : CT g yX8_ends mX8_ends Ry (WM g adr μ) (.ref (adr o) :: [a0]) (PM g adr (.inl (some x)) φ)) (hs : (Ry.frames + 1 ≤ R.frames ∧ 8 + (2 + 11) + Ry.locals ≤ R.locals) ∧ (k + Ry.cells = k' ∧ n + Ry.slots = n') ∧ k' ≤ R.cells ∧ n' ≤ R.slots) (hW : Nat.ble ((st.map fun v => v.category).sum) 8 = true) (d : decode M.2.1 pc = .ok (.invokevirtual 100, 3)) (K : ∀ μ', φ μ' → J g M R Q k' n' (WM g adr μ') (pc + 3) l (x :: st)) : J g M R Q k n (WM g adr μ) pc l (a0 :: .ref (adr o) :: st) := by
  obtain ⟨r, hr⟩ : ∃ r : Option Value ⊕ String, r = .inl (some x) := ⟨_, rfl⟩
  rw [← hr] at hC
  exact J.callV (C := RX8) (y := yX8_ends) (My := mX8_ends) (As := [a0]) (na := 1) (idx := 100) (P := PM g adr r φ) hC (by rw [hM]; exact t_1061) t_1063 s_21 t_9 t_1064 ⟨rfl, by decide +kernel, by decide +kernel, by decide +kernel⟩ rfl hs.1 o (ci := 8) (q := (RX8, TX8, 20)) rfl rfl (WM_get ho (by decide)) (Nat.le_of_ble_eq_true hW) d ⟨by rw [hs.2.1.1]; exact hs.2.2.1, by rw [hs.2.1.2]; exact hs.2.2.2⟩ (fun v w' hp => by obtain ⟨μ', rfl, h1, h2⟩ := hp; rw [hr] at h1; cases h1; rw [hs.2.1.1, hs.2.1.2]; exact K μ' h2) (fun E w' hp => by obtain ⟨μ', rfl, h1, h2⟩ := hp; rw [hr] at h1; cases h1)
theorem cl_X8_103 (hM : M.1 = RX8) {o : Nat} (ho : kt o = 14) {a0 a1 a2 : Value} {Ry : Room} {k' n' : Nat} {φ : Mem → Prop} (hC : CT g yX8_moves mX8_moves Ry (WM g adr μ) (.ref (adr o) :: [a0, a1, a2]) (PM g adr (.inl none) φ)) (hs : (Ry.frames + 1 ≤ R.frames ∧ 8 + (5 + 11) + Ry.locals ≤ R.locals) ∧ (k + Ry.cells = k' ∧ n + Ry.slots = n') ∧ k' ≤ R.cells ∧ n' ≤ R.slots) (hW : Nat.ble ((st.map fun v => v.category).sum) 8 = true) (d : decode M.2.1 pc = .ok (.invokevirtual 103, 3)) (K : ∀ μ', φ μ' → J g M R Q k' n' (WM g adr μ') (pc + 3) l st) : J g M R Q k n (WM g adr μ) pc l (a2 :: a1 :: a0 :: .ref (adr o) :: st) := by
  obtain ⟨r, hr⟩ : ∃ r : Option Value ⊕ String, r = .inl none := ⟨_, rfl⟩
  rw [← hr] at hC
  exact J.callV (C := RX8) (y := yX8_moves) (My := mX8_moves) (As := [a0, a1, a2]) (na := 3) (idx := 103) (P := PM g adr r φ) hC (by rw [hM]; exact t_1065) t_1067 s_22 t_9 t_1068 ⟨rfl, by decide +kernel, by decide +kernel, by decide +kernel⟩ rfl hs.1 o (ci := 8) (q := (RX8, TX8, 20)) rfl rfl (WM_get ho (by decide)) (Nat.le_of_ble_eq_true hW) d ⟨by rw [hs.2.1.1]; exact hs.2.2.1, by rw [hs.2.1.2]; exact hs.2.2.2⟩ (fun v w' hp => by obtain ⟨μ', rfl, h1, h2⟩ := hp; rw [hr] at h1; cases h1; rw [hs.2.1.1, hs.2.1.2]; exact K μ' h2) (fun E w' hp => by obtain ⟨μ', rfl, h1, h2⟩ := hp; rw [hr] at h1; cases h1)
theorem cl_X8_107 (hM : M.1 = RX8) {o : Nat} (ho : kt o = 14) {Ry : Room} {k' n' : Nat} {x : Value} {φ : Mem → Prop} (hC : CT g yX8_home mX8_home Ry (WM g adr μ) (.ref (adr o) :: []) (PM g adr (.inl (some x)) φ)) (hs : (Ry.frames + 1 ≤ R.frames ∧ 8 + (3 + 11) + Ry.locals ≤ R.locals) ∧ (k + Ry.cells = k' ∧ n + Ry.slots = n') ∧ k' ≤ R.cells ∧ n' ≤ R.slots) (hW : Nat.ble ((st.map fun v => v.category).sum) 8 = true) (d : decode M.2.1 pc = .ok (.invokevirtual 107, 3)) (K : ∀ μ', φ μ' → J g M R Q k' n' (WM g adr μ') (pc + 3) l (x :: st)) : J g M R Q k n (WM g adr μ) pc l (.ref (adr o) :: st) := by
  obtain ⟨r, hr⟩ : ∃ r : Option Value ⊕ String, r = .inl (some x) := ⟨_, rfl⟩
  rw [← hr] at hC
  exact J.callV (C := RX8) (y := yX8_home) (My := mX8_home) (As := []) (na := 0) (idx := 107) (P := PM g adr r φ) hC (by rw [hM]; exact t_1081) t_1083 s_26 t_9 t_1084 ⟨rfl, by decide +kernel, by decide +kernel, by decide +kernel⟩ rfl hs.1 o (ci := 8) (q := (RX8, TX8, 20)) rfl rfl (WM_get ho (by decide)) (Nat.le_of_ble_eq_true hW) d ⟨by rw [hs.2.1.1]; exact hs.2.2.1, by rw [hs.2.1.2]; exact hs.2.2.2⟩ (fun v w' hp => by obtain ⟨μ', rfl, h1, h2⟩ := hp; rw [hr] at h1; cases h1; rw [hs.2.1.1, hs.2.1.2]; exact K μ' h2) (fun E w' hp => by obtain ⟨μ', rfl, h1, h2⟩ := hp; rw [hr] at h1; cases h1)
theorem cl_X8_110 (hM : M.1 = RX8) {o : Nat} (ho : kt o = 14) {a0 a1 a2 : Value} {Ry : Room} {k' n' : Nat} {x : Value} {φ : Mem → Prop} (hC : CT g yX8_refuse mX8_refuse Ry (WM g adr μ) (.ref (adr o) :: [a0, a1, a2]) (PM g adr (.inl (some x)) φ)) (hs : (Ry.frames + 1 ≤ R.frames ∧ 8 + (4 + 11) + Ry.locals ≤ R.locals) ∧ (k + Ry.cells = k' ∧ n + Ry.slots = n') ∧ k' ≤ R.cells ∧ n' ≤ R.slots) (hW : Nat.ble ((st.map fun v => v.category).sum) 8 = true) (d : decode M.2.1 pc = .ok (.invokevirtual 110, 3)) (K : ∀ μ', φ μ' → J g M R Q k' n' (WM g adr μ') (pc + 3) l (x :: st)) : J g M R Q k n (WM g adr μ) pc l (a2 :: a1 :: a0 :: .ref (adr o) :: st) := by
  obtain ⟨r, hr⟩ : ∃ r : Option Value ⊕ String, r = .inl (some x) := ⟨_, rfl⟩
  rw [← hr] at hC
  exact J.callV (C := RX8) (y := yX8_refuse) (My := mX8_refuse) (As := [a0, a1, a2]) (na := 3) (idx := 110) (P := PM g adr r φ) hC (by rw [hM]; exact t_1093) t_1095 s_27 t_9 t_1096 ⟨rfl, by decide +kernel, by decide +kernel, by decide +kernel⟩ rfl hs.1 o (ci := 8) (q := (RX8, TX8, 20)) rfl rfl (WM_get ho (by decide)) (Nat.le_of_ble_eq_true hW) d ⟨by rw [hs.2.1.1]; exact hs.2.2.1, by rw [hs.2.1.2]; exact hs.2.2.2⟩ (fun v w' hp => by obtain ⟨μ', rfl, h1, h2⟩ := hp; rw [hr] at h1; cases h1; rw [hs.2.1.1, hs.2.1.2]; exact K μ' h2) (fun E w' hp => by obtain ⟨μ', rfl, h1, h2⟩ := hp; rw [hr] at h1; cases h1)
theorem cl_X8_115 (hM : M.1 = RX8) {a0 : Value} {Ry : Room} {k' n' : Nat} {x : Value} {φ : Mem → Prop} (hC : CT g yX8_isSlot mX8_isSlot Ry (WM g adr μ) [a0] (PM g adr (.inl (some x)) φ)) (hs : (Ry.frames + 1 ≤ R.frames ∧ 8 + (1 + 11) + Ry.locals ≤ R.locals) ∧ (k + Ry.cells = k' ∧ n + Ry.slots = n') ∧ k' ≤ R.cells ∧ n' ≤ R.slots) (hW : Nat.ble ((st.map fun v => v.category).sum) 8 = true) (d : decode M.2.1 pc = .ok (.invokestatic 115, 3)) (K : ∀ μ', φ μ' → J g M R Q k' n' (WM g adr μ') (pc + 3) l (x :: st)) : J g M R Q k n (WM g adr μ) pc l (a0 :: st) := by
  obtain ⟨r, hr⟩ : ∃ r : Option Value ⊕ String, r = .inl (some x) := ⟨_, rfl⟩
  rw [← hr] at hC
  exact J.callS (y := yX8_isSlot) (My := mX8_isSlot) (As := [a0]) (na := 1) (idx := 115) (P := PM g adr r φ) hC (by rw [hM]; exact t_1110) t_1111 (by rw [hM]; exact t_9) t_1112 ⟨(by rw [hM]; rfl), by decide +kernel, by decide +kernel, by decide +kernel⟩ rfl hs.1 (Nat.le_of_ble_eq_true hW) d ⟨by rw [hs.2.1.1]; exact hs.2.2.1, by rw [hs.2.1.2]; exact hs.2.2.2⟩ (fun v w' hp => by obtain ⟨μ', rfl, h1, h2⟩ := hp; rw [hr] at h1; cases h1; rw [hs.2.1.1, hs.2.1.2]; exact K μ' h2) (fun E w' hp => by obtain ⟨μ', rfl, h1, h2⟩ := hp; rw [hr] at h1; cases h1)
theorem cl_X8_119 (hM : M.1 = RX8) {o : Nat} (ho : kt o = 14) {a0 : Value} {Ry : Room} {k' n' : Nat} {x : Value} {φ : Mem → Prop} (hC : CT g yX8_slotOf mX8_slotOf Ry (WM g adr μ) (.ref (adr o) :: [a0]) (PM g adr (.inl (some x)) φ)) (hs : (Ry.frames + 1 ≤ R.frames ∧ 8 + (3 + 11) + Ry.locals ≤ R.locals) ∧ (k + Ry.cells = k' ∧ n + Ry.slots = n') ∧ k' ≤ R.cells ∧ n' ≤ R.slots) (hW : Nat.ble ((st.map fun v => v.category).sum) 8 = true) (d : decode M.2.1 pc = .ok (.invokevirtual 119, 3)) (K : ∀ μ', φ μ' → J g M R Q k' n' (WM g adr μ') (pc + 3) l (x :: st)) : J g M R Q k n (WM g adr μ) pc l (a0 :: .ref (adr o) :: st) := by
  obtain ⟨r, hr⟩ : ∃ r : Option Value ⊕ String, r = .inl (some x) := ⟨_, rfl⟩
  rw [← hr] at hC
  exact J.callV (C := RX8) (y := yX8_slotOf) (My := mX8_slotOf) (As := [a0]) (na := 1) (idx := 119) (P := PM g adr r φ) hC (by rw [hM]; exact t_1117) t_1119 s_28 t_9 t_1120 ⟨rfl, by decide +kernel, by decide +kernel, by decide +kernel⟩ rfl hs.1 o (ci := 8) (q := (RX8, TX8, 20)) rfl rfl (WM_get ho (by decide)) (Nat.le_of_ble_eq_true hW) d ⟨by rw [hs.2.1.1]; exact hs.2.2.1, by rw [hs.2.1.2]; exact hs.2.2.2⟩ (fun v w' hp => by obtain ⟨μ', rfl, h1, h2⟩ := hp; rw [hr] at h1; cases h1; rw [hs.2.1.1, hs.2.1.2]; exact K μ' h2) (fun E w' hp => by obtain ⟨μ', rfl, h1, h2⟩ := hp; rw [hr] at h1; cases h1)
theorem cl_X8_122 (hM : M.1 = RX8) {o : Nat} (ho : kt o = 14) {a0 : Value} {Ry : Room} {k' n' : Nat} {x : Value} {φ : Mem → Prop} (hC : CT g yX8_colourIn mX8_colourIn Ry (WM g adr μ) (.ref (adr o) :: [a0]) (PM g adr (.inl (some x)) φ)) (hs : (Ry.frames + 1 ≤ R.frames ∧ 8 + (2 + 11) + Ry.locals ≤ R.locals) ∧ (k + Ry.cells = k' ∧ n + Ry.slots = n') ∧ k' ≤ R.cells ∧ n' ≤ R.slots) (hW : Nat.ble ((st.map fun v => v.category).sum) 8 = true) (d : decode M.2.1 pc = .ok (.invokevirtual 122, 3)) (K : ∀ μ', φ μ' → J g M R Q k' n' (WM g adr μ') (pc + 3) l (x :: st)) : J g M R Q k n (WM g adr μ) pc l (a0 :: .ref (adr o) :: st) := by
  obtain ⟨r, hr⟩ : ∃ r : Option Value ⊕ String, r = .inl (some x) := ⟨_, rfl⟩
  rw [← hr] at hC
  exact J.callV (C := RX8) (y := yX8_colourIn) (My := mX8_colourIn) (As := [a0]) (na := 1) (idx := 122) (P := PM g adr r φ) hC (by rw [hM]; exact t_1129) t_1131 s_29 t_9 t_1132 ⟨rfl, by decide +kernel, by decide +kernel, by decide +kernel⟩ rfl hs.1 o (ci := 8) (q := (RX8, TX8, 20)) rfl rfl (WM_get ho (by decide)) (Nat.le_of_ble_eq_true hW) d ⟨by rw [hs.2.1.1]; exact hs.2.2.1, by rw [hs.2.1.2]; exact hs.2.2.2⟩ (fun v w' hp => by obtain ⟨μ', rfl, h1, h2⟩ := hp; rw [hr] at h1; cases h1; rw [hs.2.1.1, hs.2.1.2]; exact K μ' h2) (fun E w' hp => by obtain ⟨μ', rfl, h1, h2⟩ := hp; rw [hr] at h1; cases h1)
theorem cl_X8_125 (hM : M.1 = RX8) {o : Nat} (ho : kt o = 14) {a0 : Value} {Ry : Room} {k' n' : Nat} {x : Value} {φ : Mem → Prop} (hC : CT g yX8_isOne mX8_isOne Ry (WM g adr μ) (.ref (adr o) :: [a0]) (PM g adr (.inl (some x)) φ)) (hs : (Ry.frames + 1 ≤ R.frames ∧ 8 + (4 + 11) + Ry.locals ≤ R.locals) ∧ (k + Ry.cells = k' ∧ n + Ry.slots = n') ∧ k' ≤ R.cells ∧ n' ≤ R.slots) (hW : Nat.ble ((st.map fun v => v.category).sum) 8 = true) (d : decode M.2.1 pc = .ok (.invokevirtual 125, 3)) (K : ∀ μ', φ μ' → J g M R Q k' n' (WM g adr μ') (pc + 3) l (x :: st)) : J g M R Q k n (WM g adr μ) pc l (a0 :: .ref (adr o) :: st) := by
  obtain ⟨r, hr⟩ : ∃ r : Option Value ⊕ String, r = .inl (some x) := ⟨_, rfl⟩
  rw [← hr] at hC
  exact J.callV (C := RX8) (y := yX8_isOne) (My := mX8_isOne) (As := [a0]) (na := 1) (idx := 125) (P := PM g adr r φ) hC (by rw [hM]; exact t_1137) t_1139 s_30 t_9 t_1140 ⟨rfl, by decide +kernel, by decide +kernel, by decide +kernel⟩ rfl hs.1 o (ci := 8) (q := (RX8, TX8, 20)) rfl rfl (WM_get ho (by decide)) (Nat.le_of_ble_eq_true hW) d ⟨by rw [hs.2.1.1]; exact hs.2.2.1, by rw [hs.2.1.2]; exact hs.2.2.2⟩ (fun v w' hp => by obtain ⟨μ', rfl, h1, h2⟩ := hp; rw [hr] at h1; cases h1; rw [hs.2.1.1, hs.2.1.2]; exact K μ' h2) (fun E w' hp => by obtain ⟨μ', rfl, h1, h2⟩ := hp; rw [hr] at h1; cases h1)
theorem cl_X8_128 (hM : M.1 = RX8) {o : Nat} (ho : kt o = 14) {Ry : Room} {k' n' : Nat} {x : Value} {φ : Mem → Prop} (hC : CT g yX8_seamMany mX8_seamMany Ry (WM g adr μ) (.ref (adr o) :: []) (PM g adr (.inl (some x)) φ)) (hs : (Ry.frames + 1 ≤ R.frames ∧ 8 + (5 + 11) + Ry.locals ≤ R.locals) ∧ (k + Ry.cells = k' ∧ n + Ry.slots = n') ∧ k' ≤ R.cells ∧ n' ≤ R.slots) (hW : Nat.ble ((st.map fun v => v.category).sum) 8 = true) (d : decode M.2.1 pc = .ok (.invokevirtual 128, 3)) (K : ∀ μ', φ μ' → J g M R Q k' n' (WM g adr μ') (pc + 3) l (x :: st)) : J g M R Q k n (WM g adr μ) pc l (.ref (adr o) :: st) := by
  obtain ⟨r, hr⟩ : ∃ r : Option Value ⊕ String, r = .inl (some x) := ⟨_, rfl⟩
  rw [← hr] at hC
  exact J.callV (C := RX8) (y := yX8_seamMany) (My := mX8_seamMany) (As := []) (na := 0) (idx := 128) (P := PM g adr r φ) hC (by rw [hM]; exact t_1145) t_1147 s_31 t_9 t_1148 ⟨rfl, by decide +kernel, by decide +kernel, by decide +kernel⟩ rfl hs.1 o (ci := 8) (q := (RX8, TX8, 20)) rfl rfl (WM_get ho (by decide)) (Nat.le_of_ble_eq_true hW) d ⟨by rw [hs.2.1.1]; exact hs.2.2.1, by rw [hs.2.1.2]; exact hs.2.2.2⟩ (fun v w' hp => by obtain ⟨μ', rfl, h1, h2⟩ := hp; rw [hr] at h1; cases h1; rw [hs.2.1.1, hs.2.1.2]; exact K μ' h2) (fun E w' hp => by obtain ⟨μ', rfl, h1, h2⟩ := hp; rw [hr] at h1; cases h1)
theorem cl_X8_131 (hM : M.1 = RX8) {a0 a1 : Value} {Ry : Room} {k' n' : Nat} {x : Value} {φ : Mem → Prop} (hC : CT g yX8_apart mX8_apart Ry (WM g adr μ) [a0, a1] (PM g adr (.inl (some x)) φ)) (hs : (Ry.frames + 1 ≤ R.frames ∧ 8 + (3 + 11) + Ry.locals ≤ R.locals) ∧ (k + Ry.cells = k' ∧ n + Ry.slots = n') ∧ k' ≤ R.cells ∧ n' ≤ R.slots) (hW : Nat.ble ((st.map fun v => v.category).sum) 8 = true) (d : decode M.2.1 pc = .ok (.invokestatic 131, 3)) (K : ∀ μ', φ μ' → J g M R Q k' n' (WM g adr μ') (pc + 3) l (x :: st)) : J g M R Q k n (WM g adr μ) pc l (a1 :: a0 :: st) := by
  obtain ⟨r, hr⟩ : ∃ r : Option Value ⊕ String, r = .inl (some x) := ⟨_, rfl⟩
  rw [← hr] at hC
  exact J.callS (y := yX8_apart) (My := mX8_apart) (As := [a0, a1]) (na := 2) (idx := 131) (P := PM g adr r φ) hC (by rw [hM]; exact t_1153) t_1154 (by rw [hM]; exact t_9) t_1155 ⟨(by rw [hM]; rfl), by decide +kernel, by decide +kernel, by decide +kernel⟩ rfl hs.1 (Nat.le_of_ble_eq_true hW) d ⟨by rw [hs.2.1.1]; exact hs.2.2.1, by rw [hs.2.1.2]; exact hs.2.2.2⟩ (fun v w' hp => by obtain ⟨μ', rfl, h1, h2⟩ := hp; rw [hr] at h1; cases h1; rw [hs.2.1.1, hs.2.1.2]; exact K μ' h2) (fun E w' hp => by obtain ⟨μ', rfl, h1, h2⟩ := hp; rw [hr] at h1; cases h1)
theorem cl_X8_144 (hM : M.1 = RX8) {o : Nat} (ho : kt o = 14) {a0 a1 : Value} {Ry : Room} {k' n' : Nat} {x : Value} {φ : Mem → Prop} (hC : CT g yX8_isHere mX8_isHere Ry (WM g adr μ) (.ref (adr o) :: [a0, a1]) (PM g adr (.inl (some x)) φ)) (hs : (Ry.frames + 1 ≤ R.frames ∧ 8 + (3 + 11) + Ry.locals ≤ R.locals) ∧ (k + Ry.cells = k' ∧ n + Ry.slots = n') ∧ k' ≤ R.cells ∧ n' ≤ R.slots) (hW : Nat.ble ((st.map fun v => v.category).sum) 8 = true) (d : decode M.2.1 pc = .ok (.invokevirtual 144, 3)) (K : ∀ μ', φ μ' → J g M R Q k' n' (WM g adr μ') (pc + 3) l (x :: st)) : J g M R Q k n (WM g adr μ) pc l (a1 :: a0 :: .ref (adr o) :: st) := by
  obtain ⟨r, hr⟩ : ∃ r : Option Value ⊕ String, r = .inl (some x) := ⟨_, rfl⟩
  rw [← hr] at hC
  exact J.callV (C := RX8) (y := yX8_isHere) (My := mX8_isHere) (As := [a0, a1]) (na := 2) (idx := 144) (P := PM g adr r φ) hC (by rw [hM]; exact t_1176) t_1178 s_35 t_9 t_1179 ⟨rfl, by decide +kernel, by decide +kernel, by decide +kernel⟩ rfl hs.1 o (ci := 8) (q := (RX8, TX8, 20)) rfl rfl (WM_get ho (by decide)) (Nat.le_of_ble_eq_true hW) d ⟨by rw [hs.2.1.1]; exact hs.2.2.1, by rw [hs.2.1.2]; exact hs.2.2.2⟩ (fun v w' hp => by obtain ⟨μ', rfl, h1, h2⟩ := hp; rw [hr] at h1; cases h1; rw [hs.2.1.1, hs.2.1.2]; exact K μ' h2) (fun E w' hp => by obtain ⟨μ', rfl, h1, h2⟩ := hp; rw [hr] at h1; cases h1)
theorem cl_X8_148 (hM : M.1 = RX8) {o : Nat} (ho : kt o = 14) {Ry : Room} {k' n' : Nat} {x : Value} {φ : Mem → Prop} (hC : CT g yX8_isItem mX8_isItem Ry (WM g adr μ) (.ref (adr o) :: []) (PM g adr (.inl (some x)) φ)) (hs : (Ry.frames + 1 ≤ R.frames ∧ 8 + (2 + 11) + Ry.locals ≤ R.locals) ∧ (k + Ry.cells = k' ∧ n + Ry.slots = n') ∧ k' ≤ R.cells ∧ n' ≤ R.slots) (hW : Nat.ble ((st.map fun v => v.category).sum) 8 = true) (d : decode M.2.1 pc = .ok (.invokevirtual 148, 3)) (K : ∀ μ', φ μ' → J g M R Q k' n' (WM g adr μ') (pc + 3) l (x :: st)) : J g M R Q k n (WM g adr μ) pc l (.ref (adr o) :: st) := by
  obtain ⟨r, hr⟩ : ∃ r : Option Value ⊕ String, r = .inl (some x) := ⟨_, rfl⟩
  rw [← hr] at hC
  exact J.callV (C := RX8) (y := yX8_isItem) (My := mX8_isItem) (As := []) (na := 0) (idx := 148) (P := PM g adr r φ) hC (by rw [hM]; exact t_1172) t_1174 s_34 t_9 t_1175 ⟨rfl, by decide +kernel, by decide +kernel, by decide +kernel⟩ rfl hs.1 o (ci := 8) (q := (RX8, TX8, 20)) rfl rfl (WM_get ho (by decide)) (Nat.le_of_ble_eq_true hW) d ⟨by rw [hs.2.1.1]; exact hs.2.2.1, by rw [hs.2.1.2]; exact hs.2.2.2⟩ (fun v w' hp => by obtain ⟨μ', rfl, h1, h2⟩ := hp; rw [hr] at h1; cases h1; rw [hs.2.1.1, hs.2.1.2]; exact K μ' h2) (fun E w' hp => by obtain ⟨μ', rfl, h1, h2⟩ := hp; rw [hr] at h1; cases h1)
theorem cl_X8_152 (hM : M.1 = RX8) {o : Nat} (ho : kt o = 14) {a0 : Value} {Ry : Room} {k' n' : Nat} {x : Value} {φ : Mem → Prop} (hC : CT g yX8_item mX8_item Ry (WM g adr μ) (.ref (adr o) :: [a0]) (PM g adr (.inl (some x)) φ)) (hs : (Ry.frames + 1 ≤ R.frames ∧ 8 + (12 + 11) + Ry.locals ≤ R.locals) ∧ (k + Ry.cells = k' ∧ n + Ry.slots = n') ∧ k' ≤ R.cells ∧ n' ≤ R.slots) (hW : Nat.ble ((st.map fun v => v.category).sum) 8 = true) (d : decode M.2.1 pc = .ok (.invokevirtual 152, 3)) (K : ∀ μ', φ μ' → J g M R Q k' n' (WM g adr μ') (pc + 3) l (x :: st)) : J g M R Q k n (WM g adr μ) pc l (a0 :: .ref (adr o) :: st) := by
  obtain ⟨r, hr⟩ : ∃ r : Option Value ⊕ String, r = .inl (some x) := ⟨_, rfl⟩
  rw [← hr] at hC
  exact J.callV (C := RX8) (y := yX8_item) (My := mX8_item) (As := [a0]) (na := 1) (idx := 152) (P := PM g adr r φ) hC (by rw [hM]; exact t_1180) t_1182 s_36 t_9 t_1183 ⟨rfl, by decide +kernel, by decide +kernel, by decide +kernel⟩ rfl hs.1 o (ci := 8) (q := (RX8, TX8, 20)) rfl rfl (WM_get ho (by decide)) (Nat.le_of_ble_eq_true hW) d ⟨by rw [hs.2.1.1]; exact hs.2.2.1, by rw [hs.2.1.2]; exact hs.2.2.2⟩ (fun v w' hp => by obtain ⟨μ', rfl, h1, h2⟩ := hp; rw [hr] at h1; cases h1; rw [hs.2.1.1, hs.2.1.2]; exact K μ' h2) (fun E w' hp => by obtain ⟨μ', rfl, h1, h2⟩ := hp; rw [hr] at h1; cases h1)
theorem cl_X8_155 (hM : M.1 = RX8) {o : Nat} (ho : kt o = 14) {a0 a1 : Value} {Ry : Room} {k' n' : Nat} {x : Value} {φ : Mem → Prop} (hC : CT g yX8_sign mX8_sign Ry (WM g adr μ) (.ref (adr o) :: [a0, a1]) (PM g adr (.inl (some x)) φ)) (hs : (Ry.frames + 1 ≤ R.frames ∧ 8 + (3 + 11) + Ry.locals ≤ R.locals) ∧ (k + Ry.cells = k' ∧ n + Ry.slots = n') ∧ k' ≤ R.cells ∧ n' ≤ R.slots) (hW : Nat.ble ((st.map fun v => v.category).sum) 8 = true) (d : decode M.2.1 pc = .ok (.invokevirtual 155, 3)) (K : ∀ μ', φ μ' → J g M R Q k' n' (WM g adr μ') (pc + 3) l (x :: st)) : J g M R Q k n (WM g adr μ) pc l (a1 :: a0 :: .ref (adr o) :: st) := by
  obtain ⟨r, hr⟩ : ∃ r : Option Value ⊕ String, r = .inl (some x) := ⟨_, rfl⟩
  rw [← hr] at hC
  exact J.callV (C := RX8) (y := yX8_sign) (My := mX8_sign) (As := [a0, a1]) (na := 2) (idx := 155) (P := PM g adr r φ) hC (by rw [hM]; exact t_1184) t_1186 s_37 t_9 t_1187 ⟨rfl, by decide +kernel, by decide +kernel, by decide +kernel⟩ rfl hs.1 o (ci := 8) (q := (RX8, TX8, 20)) rfl rfl (WM_get ho (by decide)) (Nat.le_of_ble_eq_true hW) d ⟨by rw [hs.2.1.1]; exact hs.2.2.1, by rw [hs.2.1.2]; exact hs.2.2.2⟩ (fun v w' hp => by obtain ⟨μ', rfl, h1, h2⟩ := hp; rw [hr] at h1; cases h1; rw [hs.2.1.1, hs.2.1.2]; exact K μ' h2) (fun E w' hp => by obtain ⟨μ', rfl, h1, h2⟩ := hp; rw [hr] at h1; cases h1)
theorem cl_X8_159 (hM : M.1 = RX8) {o : Nat} (ho : kt o = 14) {a0 : Value} {Ry : Room} {k' n' : Nat} {x : Value} {φ : Mem → Prop} (hC : CT g yX8_ofShelf mX8_ofShelf Ry (WM g adr μ) (.ref (adr o) :: [a0]) (PM g adr (.inl (some x)) φ)) (hs : (Ry.frames + 1 ≤ R.frames ∧ 8 + (3 + 11) + Ry.locals ≤ R.locals) ∧ (k + Ry.cells = k' ∧ n + Ry.slots = n') ∧ k' ≤ R.cells ∧ n' ≤ R.slots) (hW : Nat.ble ((st.map fun v => v.category).sum) 8 = true) (d : decode M.2.1 pc = .ok (.invokevirtual 159, 3)) (K : ∀ μ', φ μ' → J g M R Q k' n' (WM g adr μ') (pc + 3) l (x :: st)) : J g M R Q k n (WM g adr μ) pc l (a0 :: .ref (adr o) :: st) := by
  obtain ⟨r, hr⟩ : ∃ r : Option Value ⊕ String, r = .inl (some x) := ⟨_, rfl⟩
  rw [← hr] at hC
  exact J.callV (C := RX8) (y := yX8_ofShelf) (My := mX8_ofShelf) (As := [a0]) (na := 1) (idx := 159) (P := PM g adr r φ) hC (by rw [hM]; exact t_1188) t_1190 s_38 t_9 t_1191 ⟨rfl, by decide +kernel, by decide +kernel, by decide +kernel⟩ rfl hs.1 o (ci := 8) (q := (RX8, TX8, 20)) rfl rfl (WM_get ho (by decide)) (Nat.le_of_ble_eq_true hW) d ⟨by rw [hs.2.1.1]; exact hs.2.2.1, by rw [hs.2.1.2]; exact hs.2.2.2⟩ (fun v w' hp => by obtain ⟨μ', rfl, h1, h2⟩ := hp; rw [hr] at h1; cases h1; rw [hs.2.1.1, hs.2.1.2]; exact K μ' h2) (fun E w' hp => by obtain ⟨μ', rfl, h1, h2⟩ := hp; rw [hr] at h1; cases h1)
theorem cl_X8_162 (hM : M.1 = RX8) {o : Nat} (ho : kt o = 14) {a0 : Value} {Ry : Room} {k' n' : Nat} {x : Value} {φ : Mem → Prop} (hC : CT g yX8_sequence mX8_sequence Ry (WM g adr μ) (.ref (adr o) :: [a0]) (PM g adr (.inl (some x)) φ)) (hs : (Ry.frames + 1 ≤ R.frames ∧ 8 + (5 + 11) + Ry.locals ≤ R.locals) ∧ (k + Ry.cells = k' ∧ n + Ry.slots = n') ∧ k' ≤ R.cells ∧ n' ≤ R.slots) (hW : Nat.ble ((st.map fun v => v.category).sum) 8 = true) (d : decode M.2.1 pc = .ok (.invokevirtual 162, 3)) (K : ∀ μ', φ μ' → J g M R Q k' n' (WM g adr μ') (pc + 3) l (x :: st)) : J g M R Q k n (WM g adr μ) pc l (a0 :: .ref (adr o) :: st) := by
  obtain ⟨r, hr⟩ : ∃ r : Option Value ⊕ String, r = .inl (some x) := ⟨_, rfl⟩
  rw [← hr] at hC
  exact J.callV (C := RX8) (y := yX8_sequence) (My := mX8_sequence) (As := [a0]) (na := 1) (idx := 162) (P := PM g adr r φ) hC (by rw [hM]; exact t_1168) t_1170 s_33 t_9 t_1171 ⟨rfl, by decide +kernel, by decide +kernel, by decide +kernel⟩ rfl hs.1 o (ci := 8) (q := (RX8, TX8, 20)) rfl rfl (WM_get ho (by decide)) (Nat.le_of_ble_eq_true hW) d ⟨by rw [hs.2.1.1]; exact hs.2.2.1, by rw [hs.2.1.2]; exact hs.2.2.2⟩ (fun v w' hp => by obtain ⟨μ', rfl, h1, h2⟩ := hp; rw [hr] at h1; cases h1; rw [hs.2.1.1, hs.2.1.2]; exact K μ' h2) (fun E w' hp => by obtain ⟨μ', rfl, h1, h2⟩ := hp; rw [hr] at h1; cases h1)
theorem cl_X8_165 (hM : M.1 = RX8) {o : Nat} (ho : kt o = 14) {a0 a1 : Value} {Ry : Room} {k' n' : Nat} {x : Value} {φ : Mem → Prop} (hC : CT g yX8_commutator mX8_commutator Ry (WM g adr μ) (.ref (adr o) :: [a0, a1]) (PM g adr (.inl (some x)) φ)) (hs : (Ry.frames + 1 ≤ R.frames ∧ 8 + (4 + 11) + Ry.locals ≤ R.locals) ∧ (k + Ry.cells = k' ∧ n + Ry.slots = n') ∧ k' ≤ R.cells ∧ n' ≤ R.slots) (hW : Nat.ble ((st.map fun v => v.category).sum) 8 = true) (d : decode M.2.1 pc = .ok (.invokevirtual 165, 3)) (K : ∀ μ', φ μ' → J g M R Q k' n' (WM g adr μ') (pc + 3) l (x :: st)) : J g M R Q k n (WM g adr μ) pc l (a1 :: a0 :: .ref (adr o) :: st) := by
  obtain ⟨r, hr⟩ : ∃ r : Option Value ⊕ String, r = .inl (some x) := ⟨_, rfl⟩
  rw [← hr] at hC
  exact J.callV (C := RX8) (y := yX8_commutator) (My := mX8_commutator) (As := [a0, a1]) (na := 2) (idx := 165) (P := PM g adr r φ) hC (by rw [hM]; exact t_1200) t_1202 s_41 t_9 t_1203 ⟨rfl, by decide +kernel, by decide +kernel, by decide +kernel⟩ rfl hs.1 o (ci := 8) (q := (RX8, TX8, 20)) rfl rfl (WM_get ho (by decide)) (Nat.le_of_ble_eq_true hW) d ⟨by rw [hs.2.1.1]; exact hs.2.2.1, by rw [hs.2.1.2]; exact hs.2.2.2⟩ (fun v w' hp => by obtain ⟨μ', rfl, h1, h2⟩ := hp; rw [hr] at h1; cases h1; rw [hs.2.1.1, hs.2.1.2]; exact K μ' h2) (fun E w' hp => by obtain ⟨μ', rfl, h1, h2⟩ := hp; rw [hr] at h1; cases h1)
theorem cl_X8_168 (hM : M.1 = RX8) {o : Nat} (ho : kt o = 14) {a0 : Value} {Ry : Room} {k' n' : Nat} {x : Value} {φ : Mem → Prop} (hC : CT g yX8_readsText mX8_readsText Ry (WM g adr μ) (.ref (adr o) :: [a0]) (PM g adr (.inl (some x)) φ)) (hs : (Ry.frames + 1 ≤ R.frames ∧ 8 + (3 + 11) + Ry.locals ≤ R.locals) ∧ (k + Ry.cells = k' ∧ n + Ry.slots = n') ∧ k' ≤ R.cells ∧ n' ≤ R.slots) (hW : Nat.ble ((st.map fun v => v.category).sum) 8 = true) (d : decode M.2.1 pc = .ok (.invokevirtual 168, 3)) (K : ∀ μ', φ μ' → J g M R Q k' n' (WM g adr μ') (pc + 3) l (x :: st)) : J g M R Q k n (WM g adr μ) pc l (a0 :: .ref (adr o) :: st) := by
  obtain ⟨r, hr⟩ : ∃ r : Option Value ⊕ String, r = .inl (some x) := ⟨_, rfl⟩
  rw [← hr] at hC
  exact J.callV (C := RX8) (y := yX8_readsText) (My := mX8_readsText) (As := [a0]) (na := 1) (idx := 168) (P := PM g adr r φ) hC (by rw [hM]; exact t_1164) t_1166 s_32 t_9 t_1167 ⟨rfl, by decide +kernel, by decide +kernel, by decide +kernel⟩ rfl hs.1 o (ci := 8) (q := (RX8, TX8, 20)) rfl rfl (WM_get ho (by decide)) (Nat.le_of_ble_eq_true hW) d ⟨by rw [hs.2.1.1]; exact hs.2.2.1, by rw [hs.2.1.2]; exact hs.2.2.2⟩ (fun v w' hp => by obtain ⟨μ', rfl, h1, h2⟩ := hp; rw [hr] at h1; cases h1; rw [hs.2.1.1, hs.2.1.2]; exact K μ' h2) (fun E w' hp => by obtain ⟨μ', rfl, h1, h2⟩ := hp; rw [hr] at h1; cases h1)
theorem cl_X8_171 (hM : M.1 = RX8) {a0 : Value} {Ry : Room} {k' n' : Nat} {x : Value} {φ : Mem → Prop} (hC : CT g yX8_isShelf mX8_isShelf Ry (WM g adr μ) [a0] (PM g adr (.inl (some x)) φ)) (hs : (Ry.frames + 1 ≤ R.frames ∧ 8 + (1 + 11) + Ry.locals ≤ R.locals) ∧ (k + Ry.cells = k' ∧ n + Ry.slots = n') ∧ k' ≤ R.cells ∧ n' ≤ R.slots) (hW : Nat.ble ((st.map fun v => v.category).sum) 8 = true) (d : decode M.2.1 pc = .ok (.invokestatic 171, 3)) (K : ∀ μ', φ μ' → J g M R Q k' n' (WM g adr μ') (pc + 3) l (x :: st)) : J g M R Q k n (WM g adr μ) pc l (a0 :: st) := by
  obtain ⟨r, hr⟩ : ∃ r : Option Value ⊕ String, r = .inl (some x) := ⟨_, rfl⟩
  rw [← hr] at hC
  exact J.callS (y := yX8_isShelf) (My := mX8_isShelf) (As := [a0]) (na := 1) (idx := 171) (P := PM g adr r φ) hC (by rw [hM]; exact t_1216) t_1217 (by rw [hM]; exact t_9) t_1218 ⟨(by rw [hM]; rfl), by decide +kernel, by decide +kernel, by decide +kernel⟩ rfl hs.1 (Nat.le_of_ble_eq_true hW) d ⟨by rw [hs.2.1.1]; exact hs.2.2.1, by rw [hs.2.1.2]; exact hs.2.2.2⟩ (fun v w' hp => by obtain ⟨μ', rfl, h1, h2⟩ := hp; rw [hr] at h1; cases h1; rw [hs.2.1.1, hs.2.1.2]; exact K μ' h2) (fun E w' hp => by obtain ⟨μ', rfl, h1, h2⟩ := hp; rw [hr] at h1; cases h1)
theorem cl_X8_174 (hM : M.1 = RX8) {o : Nat} (ho : kt o = 14) {a0 a1 : Value} {Ry : Room} {k' n' : Nat} {x : Value} {φ : Mem → Prop} (hC : CT g yX8_puts mX8_puts Ry (WM g adr μ) (.ref (adr o) :: [a0, a1]) (PM g adr (.inl (some x)) φ)) (hs : (Ry.frames + 1 ≤ R.frames ∧ 8 + (3 + 11) + Ry.locals ≤ R.locals) ∧ (k + Ry.cells = k' ∧ n + Ry.slots = n') ∧ k' ≤ R.cells ∧ n' ≤ R.slots) (hW : Nat.ble ((st.map fun v => v.category).sum) 8 = true) (d : decode M.2.1 pc = .ok (.invokevirtual 174, 3)) (K : ∀ μ', φ μ' → J g M R Q k' n' (WM g adr μ') (pc + 3) l (x :: st)) : J g M R Q k n (WM g adr μ) pc l (a1 :: a0 :: .ref (adr o) :: st) := by
  obtain ⟨r, hr⟩ : ∃ r : Option Value ⊕ String, r = .inl (some x) := ⟨_, rfl⟩
  rw [← hr] at hC
  exact J.callV (C := RX8) (y := yX8_puts) (My := mX8_puts) (As := [a0, a1]) (na := 2) (idx := 174) (P := PM g adr r φ) hC (by rw [hM]; exact t_1219) t_1221 s_43 t_9 t_1222 ⟨rfl, by decide +kernel, by decide +kernel, by decide +kernel⟩ rfl hs.1 o (ci := 8) (q := (RX8, TX8, 20)) rfl rfl (WM_get ho (by decide)) (Nat.le_of_ble_eq_true hW) d ⟨by rw [hs.2.1.1]; exact hs.2.2.1, by rw [hs.2.1.2]; exact hs.2.2.2⟩ (fun v w' hp => by obtain ⟨μ', rfl, h1, h2⟩ := hp; rw [hr] at h1; cases h1; rw [hs.2.1.1, hs.2.1.2]; exact K μ' h2) (fun E w' hp => by obtain ⟨μ', rfl, h1, h2⟩ := hp; rw [hr] at h1; cases h1)
theorem cl_X8_177 (hM : M.1 = RX8) {o : Nat} (ho : kt o = 14) {a0 : Value} {Ry : Room} {k' n' : Nat} {x : Value} {φ : Mem → Prop} (hC : CT g yX8_isEmpty mX8_isEmpty Ry (WM g adr μ) (.ref (adr o) :: [a0]) (PM g adr (.inl (some x)) φ)) (hs : (Ry.frames + 1 ≤ R.frames ∧ 8 + (2 + 11) + Ry.locals ≤ R.locals) ∧ (k + Ry.cells = k' ∧ n + Ry.slots = n') ∧ k' ≤ R.cells ∧ n' ≤ R.slots) (hW : Nat.ble ((st.map fun v => v.category).sum) 8 = true) (d : decode M.2.1 pc = .ok (.invokevirtual 177, 3)) (K : ∀ μ', φ μ' → J g M R Q k' n' (WM g adr μ') (pc + 3) l (x :: st)) : J g M R Q k n (WM g adr μ) pc l (a0 :: .ref (adr o) :: st) := by
  obtain ⟨r, hr⟩ : ∃ r : Option Value ⊕ String, r = .inl (some x) := ⟨_, rfl⟩
  rw [← hr] at hC
  exact J.callV (C := RX8) (y := yX8_isEmpty) (My := mX8_isEmpty) (As := [a0]) (na := 1) (idx := 177) (P := PM g adr r φ) hC (by rw [hM]; exact t_1231) t_1233 s_45 t_9 t_1234 ⟨rfl, by decide +kernel, by decide +kernel, by decide +kernel⟩ rfl hs.1 o (ci := 8) (q := (RX8, TX8, 20)) rfl rfl (WM_get ho (by decide)) (Nat.le_of_ble_eq_true hW) d ⟨by rw [hs.2.1.1]; exact hs.2.2.1, by rw [hs.2.1.2]; exact hs.2.2.2⟩ (fun v w' hp => by obtain ⟨μ', rfl, h1, h2⟩ := hp; rw [hr] at h1; cases h1; rw [hs.2.1.1, hs.2.1.2]; exact K μ' h2) (fun E w' hp => by obtain ⟨μ', rfl, h1, h2⟩ := hp; rw [hr] at h1; cases h1)
theorem cl_X8_180 (hM : M.1 = RX8) {o : Nat} (ho : kt o = 14) {Ry : Room} {k' n' : Nat} {x : Value} {φ : Mem → Prop} (hC : CT g yX8_filledMany mX8_filledMany Ry (WM g adr μ) (.ref (adr o) :: []) (PM g adr (.inl (some x)) φ)) (hs : (Ry.frames + 1 ≤ R.frames ∧ 8 + (3 + 11) + Ry.locals ≤ R.locals) ∧ (k + Ry.cells = k' ∧ n + Ry.slots = n') ∧ k' ≤ R.cells ∧ n' ≤ R.slots) (hW : Nat.ble ((st.map fun v => v.category).sum) 8 = true) (d : decode M.2.1 pc = .ok (.invokevirtual 180, 3)) (K : ∀ μ', φ μ' → J g M R Q k' n' (WM g adr μ') (pc + 3) l (x :: st)) : J g M R Q k n (WM g adr μ) pc l (.ref (adr o) :: st) := by
  obtain ⟨r, hr⟩ : ∃ r : Option Value ⊕ String, r = .inl (some x) := ⟨_, rfl⟩
  rw [← hr] at hC
  exact J.callV (C := RX8) (y := yX8_filledMany) (My := mX8_filledMany) (As := []) (na := 0) (idx := 180) (P := PM g adr r φ) hC (by rw [hM]; exact t_1251) t_1253 s_46 t_9 t_1254 ⟨rfl, by decide +kernel, by decide +kernel, by decide +kernel⟩ rfl hs.1 o (ci := 8) (q := (RX8, TX8, 20)) rfl rfl (WM_get ho (by decide)) (Nat.le_of_ble_eq_true hW) d ⟨by rw [hs.2.1.1]; exact hs.2.2.1, by rw [hs.2.1.2]; exact hs.2.2.2⟩ (fun v w' hp => by obtain ⟨μ', rfl, h1, h2⟩ := hp; rw [hr] at h1; cases h1; rw [hs.2.1.1, hs.2.1.2]; exact K μ' h2) (fun E w' hp => by obtain ⟨μ', rfl, h1, h2⟩ := hp; rw [hr] at h1; cases h1)
theorem cl_X8_183 (hM : M.1 = RX8) {o : Nat} (ho : kt o = 14) {a0 a1 : Value} {Ry : Room} {k' n' : Nat} {x : Value} {φ : Mem → Prop} (hC : CT g yX8_goes mX8_goes Ry (WM g adr μ) (.ref (adr o) :: [a0, a1]) (PM g adr (.inl (some x)) φ)) (hs : (Ry.frames + 1 ≤ R.frames ∧ 8 + (3 + 11) + Ry.locals ≤ R.locals) ∧ (k + Ry.cells = k' ∧ n + Ry.slots = n') ∧ k' ≤ R.cells ∧ n' ≤ R.slots) (hW : Nat.ble ((st.map fun v => v.category).sum) 8 = true) (d : decode M.2.1 pc = .ok (.invokevirtual 183, 3)) (K : ∀ μ', φ μ' → J g M R Q k' n' (WM g adr μ') (pc + 3) l (x :: st)) : J g M R Q k n (WM g adr μ) pc l (a1 :: a0 :: .ref (adr o) :: st) := by
  obtain ⟨r, hr⟩ : ∃ r : Option Value ⊕ String, r = .inl (some x) := ⟨_, rfl⟩
  rw [← hr] at hC
  exact J.callV (C := RX8) (y := yX8_goes) (My := mX8_goes) (As := [a0, a1]) (na := 2) (idx := 183) (P := PM g adr r φ) hC (by rw [hM]; exact t_1259) t_1261 s_47 t_9 t_1262 ⟨rfl, by decide +kernel, by decide +kernel, by decide +kernel⟩ rfl hs.1 o (ci := 8) (q := (RX8, TX8, 20)) rfl rfl (WM_get ho (by decide)) (Nat.le_of_ble_eq_true hW) d ⟨by rw [hs.2.1.1]; exact hs.2.2.1, by rw [hs.2.1.2]; exact hs.2.2.2⟩ (fun v w' hp => by obtain ⟨μ', rfl, h1, h2⟩ := hp; rw [hr] at h1; cases h1; rw [hs.2.1.1, hs.2.1.2]; exact K μ' h2) (fun E w' hp => by obtain ⟨μ', rfl, h1, h2⟩ := hp; rw [hr] at h1; cases h1)
theorem cl_X8_186 (hM : M.1 = RX8) {a0 a1 : Value} {Ry : Room} {k' n' : Nat} {x : Value} {φ : Mem → Prop} (hC : CT g yX8_common mX8_common Ry (WM g adr μ) [a0, a1] (PM g adr (.inl (some x)) φ)) (hs : (Ry.frames + 1 ≤ R.frames ∧ 8 + (2 + 11) + Ry.locals ≤ R.locals) ∧ (k + Ry.cells = k' ∧ n + Ry.slots = n') ∧ k' ≤ R.cells ∧ n' ≤ R.slots) (hW : Nat.ble ((st.map fun v => v.category).sum) 8 = true) (d : decode M.2.1 pc = .ok (.invokestatic 186, 3)) (K : ∀ μ', φ μ' → J g M R Q k' n' (WM g adr μ') (pc + 3) l (x :: st)) : J g M R Q k n (WM g adr μ) pc l (a1 :: a0 :: st) := by
  obtain ⟨r, hr⟩ : ∃ r : Option Value ⊕ String, r = .inl (some x) := ⟨_, rfl⟩
  rw [← hr] at hC
  exact J.callS (y := yX8_common) (My := mX8_common) (As := [a0, a1]) (na := 2) (idx := 186) (P := PM g adr r φ) hC (by rw [hM]; exact t_1280) t_1281 (by rw [hM]; exact t_9) t_1282 ⟨(by rw [hM]; rfl), by decide +kernel, by decide +kernel, by decide +kernel⟩ rfl hs.1 (Nat.le_of_ble_eq_true hW) d ⟨by rw [hs.2.1.1]; exact hs.2.2.1, by rw [hs.2.1.2]; exact hs.2.2.2⟩ (fun v w' hp => by obtain ⟨μ', rfl, h1, h2⟩ := hp; rw [hr] at h1; cases h1; rw [hs.2.1.1, hs.2.1.2]; exact K μ' h2) (fun E w' hp => by obtain ⟨μ', rfl, h1, h2⟩ := hp; rw [hr] at h1; cases h1)
theorem cl_X8_189 (hM : M.1 = RX8) {o : Nat} (ho : kt o = 14) {a0 a1 : Value} {Ry : Room} {k' n' : Nat} {x : Value} {φ : Mem → Prop} (hC : CT g yX8_cycleOf mX8_cycleOf Ry (WM g adr μ) (.ref (adr o) :: [a0, a1]) (PM g adr (.inl (some x)) φ)) (hs : (Ry.frames + 1 ≤ R.frames ∧ 8 + (5 + 11) + Ry.locals ≤ R.locals) ∧ (k + Ry.cells = k' ∧ n + Ry.slots = n') ∧ k' ≤ R.cells ∧ n' ≤ R.slots) (hW : Nat.ble ((st.map fun v => v.category).sum) 8 = true) (d : decode M.2.1 pc = .ok (.invokevirtual 189, 3)) (K : ∀ μ', φ μ' → J g M R Q k' n' (WM g adr μ') (pc + 3) l (x :: st)) : J g M R Q k n (WM g adr μ) pc l (a1 :: a0 :: .ref (adr o) :: st) := by
  obtain ⟨r, hr⟩ : ∃ r : Option Value ⊕ String, r = .inl (some x) := ⟨_, rfl⟩
  rw [← hr] at hC
  exact J.callV (C := RX8) (y := yX8_cycleOf) (My := mX8_cycleOf) (As := [a0, a1]) (na := 2) (idx := 189) (P := PM g adr r φ) hC (by rw [hM]; exact t_1267) t_1269 s_48 t_9 t_1270 ⟨rfl, by decide +kernel, by decide +kernel, by decide +kernel⟩ rfl hs.1 o (ci := 8) (q := (RX8, TX8, 20)) rfl rfl (WM_get ho (by decide)) (Nat.le_of_ble_eq_true hW) d ⟨by rw [hs.2.1.1]; exact hs.2.2.1, by rw [hs.2.1.2]; exact hs.2.2.2⟩ (fun v w' hp => by obtain ⟨μ', rfl, h1, h2⟩ := hp; rw [hr] at h1; cases h1; rw [hs.2.1.1, hs.2.1.2]; exact K μ' h2) (fun E w' hp => by obtain ⟨μ', rfl, h1, h2⟩ := hp; rw [hr] at h1; cases h1)
theorem cl_X8_192 (hM : M.1 = RX8) {o : Nat} (ho : kt o = 14) {a0 a1 : Value} {Ry : Room} {k' n' : Nat} {x : Value} {φ : Mem → Prop} (hC : CT g yX8_isLowest mX8_isLowest Ry (WM g adr μ) (.ref (adr o) :: [a0, a1]) (PM g adr (.inl (some x)) φ)) (hs : (Ry.frames + 1 ≤ R.frames ∧ 8 + (5 + 11) + Ry.locals ≤ R.locals) ∧ (k + Ry.cells = k' ∧ n + Ry.slots = n') ∧ k' ≤ R.cells ∧ n' ≤ R.slots) (hW : Nat.ble ((st.map fun v => v.category).sum) 8 = true) (d : decode M.2.1 pc = .ok (.invokevirtual 192, 3)) (K : ∀ μ', φ μ' → J g M R Q k' n' (WM g adr μ') (pc + 3) l (x :: st)) : J g M R Q k n (WM g adr μ) pc l (a1 :: a0 :: .ref (adr o) :: st) := by
  obtain ⟨r, hr⟩ : ∃ r : Option Value ⊕ String, r = .inl (some x) := ⟨_, rfl⟩
  rw [← hr] at hC
  exact J.callV (C := RX8) (y := yX8_isLowest) (My := mX8_isLowest) (As := [a0, a1]) (na := 2) (idx := 192) (P := PM g adr r φ) hC (by rw [hM]; exact t_1271) t_1273 s_49 t_9 t_1274 ⟨rfl, by decide +kernel, by decide +kernel, by decide +kernel⟩ rfl hs.1 o (ci := 8) (q := (RX8, TX8, 20)) rfl rfl (WM_get ho (by decide)) (Nat.le_of_ble_eq_true hW) d ⟨by rw [hs.2.1.1]; exact hs.2.2.1, by rw [hs.2.1.2]; exact hs.2.2.2⟩ (fun v w' hp => by obtain ⟨μ', rfl, h1, h2⟩ := hp; rw [hr] at h1; cases h1; rw [hs.2.1.1, hs.2.1.2]; exact K μ' h2) (fun E w' hp => by obtain ⟨μ', rfl, h1, h2⟩ := hp; rw [hr] at h1; cases h1)
theorem cl_X8_201 (hM : M.1 = RX8) {o : Nat} (ho : kt o = 14) {a0 : Value} {Ry : Room} {k' n' : Nat} {x : Value} {φ : Mem → Prop} (hC : CT g yX8_order mX8_order Ry (WM g adr μ) (.ref (adr o) :: [a0]) (PM g adr (.inl (some x)) φ)) (hs : (Ry.frames + 1 ≤ R.frames ∧ 8 + (5 + 11) + Ry.locals ≤ R.locals) ∧ (k + Ry.cells = k' ∧ n + Ry.slots = n') ∧ k' ≤ R.cells ∧ n' ≤ R.slots) (hW : Nat.ble ((st.map fun v => v.category).sum) 8 = true) (d : decode M.2.1 pc = .ok (.invokevirtual 201, 3)) (K : ∀ μ', φ μ' → J g M R Q k' n' (WM g adr μ') (pc + 3) l (x :: st)) : J g M R Q k n (WM g adr μ) pc l (a0 :: .ref (adr o) :: st) := by
  obtain ⟨r, hr⟩ : ∃ r : Option Value ⊕ String, r = .inl (some x) := ⟨_, rfl⟩
  rw [← hr] at hC
  exact J.callV (C := RX8) (y := yX8_order) (My := mX8_order) (As := [a0]) (na := 1) (idx := 201) (P := PM g adr r φ) hC (by rw [hM]; exact t_1276) t_1278 s_50 t_9 t_1279 ⟨rfl, by decide +kernel, by decide +kernel, by decide +kernel⟩ rfl hs.1 o (ci := 8) (q := (RX8, TX8, 20)) rfl rfl (WM_get ho (by decide)) (Nat.le_of_ble_eq_true hW) d ⟨by rw [hs.2.1.1]; exact hs.2.2.1, by rw [hs.2.1.2]; exact hs.2.2.2⟩ (fun v w' hp => by obtain ⟨μ', rfl, h1, h2⟩ := hp; rw [hr] at h1; cases h1; rw [hs.2.1.1, hs.2.1.2]; exact K μ' h2) (fun E w' hp => by obtain ⟨μ', rfl, h1, h2⟩ := hp; rw [hr] at h1; cases h1)
theorem cl_X8_207 (hM : M.1 = RX8) {o : Nat} (ho : kt o = 14) {a0 : Value} {Ry : Room} {k' n' : Nat} {φ : Mem → Prop} (hC : CT g yX8_saysNumber mX8_saysNumber Ry (WM g adr μ) (.ref (adr o) :: [a0]) (PM g adr (.inl none) φ)) (hs : (Ry.frames + 1 ≤ R.frames ∧ 8 + (2 + 11) + Ry.locals ≤ R.locals) ∧ (k + Ry.cells = k' ∧ n + Ry.slots = n') ∧ k' ≤ R.cells ∧ n' ≤ R.slots) (hW : Nat.ble ((st.map fun v => v.category).sum) 8 = true) (d : decode M.2.1 pc = .ok (.invokevirtual 207, 3)) (K : ∀ μ', φ μ' → J g M R Q k' n' (WM g adr μ') (pc + 3) l st) : J g M R Q k n (WM g adr μ) pc l (a0 :: .ref (adr o) :: st) := by
  obtain ⟨r, hr⟩ : ∃ r : Option Value ⊕ String, r = .inl none := ⟨_, rfl⟩
  rw [← hr] at hC
  exact J.callV (C := RX8) (y := yX8_saysNumber) (My := mX8_saysNumber) (As := [a0]) (na := 1) (idx := 207) (P := PM g adr r φ) hC (by rw [hM]; exact t_1303) t_1305 s_51 t_9 t_1306 ⟨rfl, by decide +kernel, by decide +kernel, by decide +kernel⟩ rfl hs.1 o (ci := 8) (q := (RX8, TX8, 20)) rfl rfl (WM_get ho (by decide)) (Nat.le_of_ble_eq_true hW) d ⟨by rw [hs.2.1.1]; exact hs.2.2.1, by rw [hs.2.1.2]; exact hs.2.2.2⟩ (fun v w' hp => by obtain ⟨μ', rfl, h1, h2⟩ := hp; rw [hr] at h1; cases h1; rw [hs.2.1.1, hs.2.1.2]; exact K μ' h2) (fun E w' hp => by obtain ⟨μ', rfl, h1, h2⟩ := hp; rw [hr] at h1; cases h1)
theorem cl_X8_210 (hM : M.1 = RX8) {o : Nat} (ho : kt o = 14) {a0 : Value} {Ry : Room} {k' n' : Nat} {φ : Mem → Prop} (hC : CT g yX8_says mX8_says Ry (WM g adr μ) (.ref (adr o) :: [a0]) (PM g adr (.inl none) φ)) (hs : (Ry.frames + 1 ≤ R.frames ∧ 8 + (2 + 11) + Ry.locals ≤ R.locals) ∧ (k + Ry.cells = k' ∧ n + Ry.slots = n') ∧ k' ≤ R.cells ∧ n' ≤ R.slots) (hW : Nat.ble ((st.map fun v => v.category).sum) 8 = true) (d : decode M.2.1 pc = .ok (.invokevirtual 210, 3)) (K : ∀ μ', φ μ' → J g M R Q k' n' (WM g adr μ') (pc + 3) l st) : J g M R Q k n (WM g adr μ) pc l (a0 :: .ref (adr o) :: st) := by
  obtain ⟨r, hr⟩ : ∃ r : Option Value ⊕ String, r = .inl none := ⟨_, rfl⟩
  rw [← hr] at hC
  exact J.callV (C := RX8) (y := yX8_says) (My := mX8_says) (As := [a0]) (na := 1) (idx := 210) (P := PM g adr r φ) hC (by rw [hM]; exact t_1307) t_1309 s_52 t_9 t_1310 ⟨rfl, by decide +kernel, by decide +kernel, by decide +kernel⟩ rfl hs.1 o (ci := 8) (q := (RX8, TX8, 20)) rfl rfl (WM_get ho (by decide)) (Nat.le_of_ble_eq_true hW) d ⟨by rw [hs.2.1.1]; exact hs.2.2.1, by rw [hs.2.1.2]; exact hs.2.2.2⟩ (fun v w' hp => by obtain ⟨μ', rfl, h1, h2⟩ := hp; rw [hr] at h1; cases h1; rw [hs.2.1.1, hs.2.1.2]; exact K μ' h2) (fun E w' hp => by obtain ⟨μ', rfl, h1, h2⟩ := hp; rw [hr] at h1; cases h1)
theorem cl_X8_214 (hM : M.1 = RX8) {o : Nat} (ho : kt o = 14) {Ry : Room} {k' n' : Nat} {x : Value} {φ : Mem → Prop} (hC : CT g yX8_doneMany mX8_doneMany Ry (WM g adr μ) (.ref (adr o) :: []) (PM g adr (.inl (some x)) φ)) (hs : (Ry.frames + 1 ≤ R.frames ∧ 8 + (3 + 11) + Ry.locals ≤ R.locals) ∧ (k + Ry.cells = k' ∧ n + Ry.slots = n') ∧ k' ≤ R.cells ∧ n' ≤ R.slots) (hW : Nat.ble ((st.map fun v => v.category).sum) 8 = true) (d : decode M.2.1 pc = .ok (.invokevirtual 214, 3)) (K : ∀ μ', φ μ' → J g M R Q k' n' (WM g adr μ') (pc + 3) l (x :: st)) : J g M R Q k n (WM g adr μ) pc l (.ref (adr o) :: st) := by
  obtain ⟨r, hr⟩ : ∃ r : Option Value ⊕ String, r = .inl (some x) := ⟨_, rfl⟩
  rw [← hr] at hC
  exact J.callV (C := RX8) (y := yX8_doneMany) (My := mX8_doneMany) (As := []) (na := 0) (idx := 214) (P := PM g adr r φ) hC (by rw [hM]; exact t_1327) t_1329 s_53 t_9 t_1330 ⟨rfl, by decide +kernel, by decide +kernel, by decide +kernel⟩ rfl hs.1 o (ci := 8) (q := (RX8, TX8, 20)) rfl rfl (WM_get ho (by decide)) (Nat.le_of_ble_eq_true hW) d ⟨by rw [hs.2.1.1]; exact hs.2.2.1, by rw [hs.2.1.2]; exact hs.2.2.2⟩ (fun v w' hp => by obtain ⟨μ', rfl, h1, h2⟩ := hp; rw [hr] at h1; cases h1; rw [hs.2.1.1, hs.2.1.2]; exact K μ' h2) (fun E w' hp => by obtain ⟨μ', rfl, h1, h2⟩ := hp; rw [hr] at h1; cases h1)
end CC
end
section
/-! ===== printed: loads and stores of locals by their shape; constants ===== -/
section PT
variable {g : GP} {M : MI} {R : Room} {Q : QT} {k n pc : Nat} {w : va_W} {st : List Value} {t : List (Option Value)}
theorem J.il0 {v : Int32} (d : decode M.2.1 pc = .ok (.iload_n 0, 1)) (K : J g M R Q k n w (pc + 1) (some (.int v) :: t) (.int v :: st)) : J g M R Q k n w pc (some (.int v) :: t) st := J.iload_n (i := 0) d rfl K
theorem J.is0 {y : Option Value} {v : Int32} (d : decode M.2.1 pc = .ok (.istore_n 0, 1)) (hn : 0 < M.2.2.1) (K : J g M R Q k n w (pc + 1) (some (.int v) :: t) st) : J g M R Q k n w pc (y :: t) (.int v :: st) := J.istore_n (i := 0) d hn (Or.inl rfl) rfl K
theorem J.al0 {v : Nat} (d : decode M.2.1 pc = .ok (.aload_n 0, 1)) (K : J g M R Q k n w (pc + 1) (some (.ref v) :: t) (.ref v :: st)) : J g M R Q k n w pc (some (.ref v) :: t) st := J.aload_n (i := 0) d rfl K
theorem J.as0 {y : Option Value} {v : Nat} (d : decode M.2.1 pc = .ok (.astore_n 0, 1)) (hn : 0 < M.2.2.1) (K : J g M R Q k n w (pc + 1) (some (.ref v) :: t) st) : J g M R Q k n w pc (y :: t) (.ref v :: st) := J.astore_n (i := 0) d hn (Or.inl rfl) rfl K
theorem J.ii0 {z a : Nat} {zi : Int} (d : decode M.2.1 pc = .ok (.iinc 0 zi, 3)) (hz : Int32.ofInt zi = nI z) (hn : 0 < M.2.2.1) (K : J g M R Q k n w (pc + 3) (some (.int (nI (a + z))) :: t) st) : J g M R Q k n w pc (some (.int (nI a)) :: t) st := J.iincN (i := 0) d hz rfl hn (Or.inl rfl) rfl K
theorem J.il1 {x0 : Option Value} {v : Int32} (d : decode M.2.1 pc = .ok (.iload_n 1, 1)) (K : J g M R Q k n w (pc + 1) (x0 :: some (.int v) :: t) (.int v :: st)) : J g M R Q k n w pc (x0 :: some (.int v) :: t) st := J.iload_n (i := 1) d rfl K
theorem J.is1 {x0 : Option Value} {y : Option Value} {v : Int32} (d : decode M.2.1 pc = .ok (.istore_n 1, 1)) (hn : 1 < M.2.2.1) (hc : cat1 (some x0) = true) (K : J g M R Q k n w (pc + 1) (x0 :: some (.int v) :: t) st) : J g M R Q k n w pc (x0 :: y :: t) (.int v :: st) := J.istore_n (i := 1) d hn (Or.inr hc) rfl K
theorem J.al1 {x0 : Option Value} {v : Nat} (d : decode M.2.1 pc = .ok (.aload_n 1, 1)) (K : J g M R Q k n w (pc + 1) (x0 :: some (.ref v) :: t) (.ref v :: st)) : J g M R Q k n w pc (x0 :: some (.ref v) :: t) st := J.aload_n (i := 1) d rfl K
theorem J.as1 {x0 : Option Value} {y : Option Value} {v : Nat} (d : decode M.2.1 pc = .ok (.astore_n 1, 1)) (hn : 1 < M.2.2.1) (hc : cat1 (some x0) = true) (K : J g M R Q k n w (pc + 1) (x0 :: some (.ref v) :: t) st) : J g M R Q k n w pc (x0 :: y :: t) (.ref v :: st) := J.astore_n (i := 1) d hn (Or.inr hc) rfl K
theorem J.ii1 {x0 : Option Value} {z a : Nat} {zi : Int} (d : decode M.2.1 pc = .ok (.iinc 1 zi, 3)) (hz : Int32.ofInt zi = nI z) (hn : 1 < M.2.2.1) (hc : cat1 (some x0) = true) (K : J g M R Q k n w (pc + 3) (x0 :: some (.int (nI (a + z))) :: t) st) : J g M R Q k n w pc (x0 :: some (.int (nI a)) :: t) st := J.iincN (i := 1) d hz rfl hn (Or.inr hc) rfl K
theorem J.il2 {x0 x1 : Option Value} {v : Int32} (d : decode M.2.1 pc = .ok (.iload_n 2, 1)) (K : J g M R Q k n w (pc + 1) (x0 :: x1 :: some (.int v) :: t) (.int v :: st)) : J g M R Q k n w pc (x0 :: x1 :: some (.int v) :: t) st := J.iload_n (i := 2) d rfl K
theorem J.is2 {x0 x1 : Option Value} {y : Option Value} {v : Int32} (d : decode M.2.1 pc = .ok (.istore_n 2, 1)) (hn : 2 < M.2.2.1) (hc : cat1 (some x1) = true) (K : J g M R Q k n w (pc + 1) (x0 :: x1 :: some (.int v) :: t) st) : J g M R Q k n w pc (x0 :: x1 :: y :: t) (.int v :: st) := J.istore_n (i := 2) d hn (Or.inr hc) rfl K
theorem J.al2 {x0 x1 : Option Value} {v : Nat} (d : decode M.2.1 pc = .ok (.aload_n 2, 1)) (K : J g M R Q k n w (pc + 1) (x0 :: x1 :: some (.ref v) :: t) (.ref v :: st)) : J g M R Q k n w pc (x0 :: x1 :: some (.ref v) :: t) st := J.aload_n (i := 2) d rfl K
theorem J.as2 {x0 x1 : Option Value} {y : Option Value} {v : Nat} (d : decode M.2.1 pc = .ok (.astore_n 2, 1)) (hn : 2 < M.2.2.1) (hc : cat1 (some x1) = true) (K : J g M R Q k n w (pc + 1) (x0 :: x1 :: some (.ref v) :: t) st) : J g M R Q k n w pc (x0 :: x1 :: y :: t) (.ref v :: st) := J.astore_n (i := 2) d hn (Or.inr hc) rfl K
theorem J.ii2 {x0 x1 : Option Value} {z a : Nat} {zi : Int} (d : decode M.2.1 pc = .ok (.iinc 2 zi, 3)) (hz : Int32.ofInt zi = nI z) (hn : 2 < M.2.2.1) (hc : cat1 (some x1) = true) (K : J g M R Q k n w (pc + 3) (x0 :: x1 :: some (.int (nI (a + z))) :: t) st) : J g M R Q k n w pc (x0 :: x1 :: some (.int (nI a)) :: t) st := J.iincN (i := 2) d hz rfl hn (Or.inr hc) rfl K
theorem J.il3 {x0 x1 x2 : Option Value} {v : Int32} (d : decode M.2.1 pc = .ok (.iload_n 3, 1)) (K : J g M R Q k n w (pc + 1) (x0 :: x1 :: x2 :: some (.int v) :: t) (.int v :: st)) : J g M R Q k n w pc (x0 :: x1 :: x2 :: some (.int v) :: t) st := J.iload_n (i := 3) d rfl K
theorem J.is3 {x0 x1 x2 : Option Value} {y : Option Value} {v : Int32} (d : decode M.2.1 pc = .ok (.istore_n 3, 1)) (hn : 3 < M.2.2.1) (hc : cat1 (some x2) = true) (K : J g M R Q k n w (pc + 1) (x0 :: x1 :: x2 :: some (.int v) :: t) st) : J g M R Q k n w pc (x0 :: x1 :: x2 :: y :: t) (.int v :: st) := J.istore_n (i := 3) d hn (Or.inr hc) rfl K
theorem J.al3 {x0 x1 x2 : Option Value} {v : Nat} (d : decode M.2.1 pc = .ok (.aload_n 3, 1)) (K : J g M R Q k n w (pc + 1) (x0 :: x1 :: x2 :: some (.ref v) :: t) (.ref v :: st)) : J g M R Q k n w pc (x0 :: x1 :: x2 :: some (.ref v) :: t) st := J.aload_n (i := 3) d rfl K
theorem J.as3 {x0 x1 x2 : Option Value} {y : Option Value} {v : Nat} (d : decode M.2.1 pc = .ok (.astore_n 3, 1)) (hn : 3 < M.2.2.1) (hc : cat1 (some x2) = true) (K : J g M R Q k n w (pc + 1) (x0 :: x1 :: x2 :: some (.ref v) :: t) st) : J g M R Q k n w pc (x0 :: x1 :: x2 :: y :: t) (.ref v :: st) := J.astore_n (i := 3) d hn (Or.inr hc) rfl K
theorem J.ii3 {x0 x1 x2 : Option Value} {z a : Nat} {zi : Int} (d : decode M.2.1 pc = .ok (.iinc 3 zi, 3)) (hz : Int32.ofInt zi = nI z) (hn : 3 < M.2.2.1) (hc : cat1 (some x2) = true) (K : J g M R Q k n w (pc + 3) (x0 :: x1 :: x2 :: some (.int (nI (a + z))) :: t) st) : J g M R Q k n w pc (x0 :: x1 :: x2 :: some (.int (nI a)) :: t) st := J.iincN (i := 3) d hz rfl hn (Or.inr hc) rfl K
theorem J.il4 {x0 x1 x2 x3 : Option Value} {v : Int32} (d : decode M.2.1 pc = .ok (.iload 4, 2)) (K : J g M R Q k n w (pc + 2) (x0 :: x1 :: x2 :: x3 :: some (.int v) :: t) (.int v :: st)) : J g M R Q k n w pc (x0 :: x1 :: x2 :: x3 :: some (.int v) :: t) st := J.iload (i := 4) d rfl K
theorem J.is4 {x0 x1 x2 x3 : Option Value} {y : Option Value} {v : Int32} (d : decode M.2.1 pc = .ok (.istore 4, 2)) (hn : 4 < M.2.2.1) (hc : cat1 (some x3) = true) (K : J g M R Q k n w (pc + 2) (x0 :: x1 :: x2 :: x3 :: some (.int v) :: t) st) : J g M R Q k n w pc (x0 :: x1 :: x2 :: x3 :: y :: t) (.int v :: st) := J.istore (i := 4) d hn (Or.inr hc) rfl K
theorem J.al4 {x0 x1 x2 x3 : Option Value} {v : Nat} (d : decode M.2.1 pc = .ok (.aload 4, 2)) (K : J g M R Q k n w (pc + 2) (x0 :: x1 :: x2 :: x3 :: some (.ref v) :: t) (.ref v :: st)) : J g M R Q k n w pc (x0 :: x1 :: x2 :: x3 :: some (.ref v) :: t) st := J.aload (i := 4) d rfl K
theorem J.as4 {x0 x1 x2 x3 : Option Value} {y : Option Value} {v : Nat} (d : decode M.2.1 pc = .ok (.astore 4, 2)) (hn : 4 < M.2.2.1) (hc : cat1 (some x3) = true) (K : J g M R Q k n w (pc + 2) (x0 :: x1 :: x2 :: x3 :: some (.ref v) :: t) st) : J g M R Q k n w pc (x0 :: x1 :: x2 :: x3 :: y :: t) (.ref v :: st) := J.astore (i := 4) d hn (Or.inr hc) rfl K
theorem J.ii4 {x0 x1 x2 x3 : Option Value} {z a : Nat} {zi : Int} (d : decode M.2.1 pc = .ok (.iinc 4 zi, 3)) (hz : Int32.ofInt zi = nI z) (hn : 4 < M.2.2.1) (hc : cat1 (some x3) = true) (K : J g M R Q k n w (pc + 3) (x0 :: x1 :: x2 :: x3 :: some (.int (nI (a + z))) :: t) st) : J g M R Q k n w pc (x0 :: x1 :: x2 :: x3 :: some (.int (nI a)) :: t) st := J.iincN (i := 4) d hz rfl hn (Or.inr hc) rfl K
theorem J.il5 {x0 x1 x2 x3 x4 : Option Value} {v : Int32} (d : decode M.2.1 pc = .ok (.iload 5, 2)) (K : J g M R Q k n w (pc + 2) (x0 :: x1 :: x2 :: x3 :: x4 :: some (.int v) :: t) (.int v :: st)) : J g M R Q k n w pc (x0 :: x1 :: x2 :: x3 :: x4 :: some (.int v) :: t) st := J.iload (i := 5) d rfl K
theorem J.is5 {x0 x1 x2 x3 x4 : Option Value} {y : Option Value} {v : Int32} (d : decode M.2.1 pc = .ok (.istore 5, 2)) (hn : 5 < M.2.2.1) (hc : cat1 (some x4) = true) (K : J g M R Q k n w (pc + 2) (x0 :: x1 :: x2 :: x3 :: x4 :: some (.int v) :: t) st) : J g M R Q k n w pc (x0 :: x1 :: x2 :: x3 :: x4 :: y :: t) (.int v :: st) := J.istore (i := 5) d hn (Or.inr hc) rfl K
theorem J.al5 {x0 x1 x2 x3 x4 : Option Value} {v : Nat} (d : decode M.2.1 pc = .ok (.aload 5, 2)) (K : J g M R Q k n w (pc + 2) (x0 :: x1 :: x2 :: x3 :: x4 :: some (.ref v) :: t) (.ref v :: st)) : J g M R Q k n w pc (x0 :: x1 :: x2 :: x3 :: x4 :: some (.ref v) :: t) st := J.aload (i := 5) d rfl K
theorem J.as5 {x0 x1 x2 x3 x4 : Option Value} {y : Option Value} {v : Nat} (d : decode M.2.1 pc = .ok (.astore 5, 2)) (hn : 5 < M.2.2.1) (hc : cat1 (some x4) = true) (K : J g M R Q k n w (pc + 2) (x0 :: x1 :: x2 :: x3 :: x4 :: some (.ref v) :: t) st) : J g M R Q k n w pc (x0 :: x1 :: x2 :: x3 :: x4 :: y :: t) (.ref v :: st) := J.astore (i := 5) d hn (Or.inr hc) rfl K
theorem J.ii5 {x0 x1 x2 x3 x4 : Option Value} {z a : Nat} {zi : Int} (d : decode M.2.1 pc = .ok (.iinc 5 zi, 3)) (hz : Int32.ofInt zi = nI z) (hn : 5 < M.2.2.1) (hc : cat1 (some x4) = true) (K : J g M R Q k n w (pc + 3) (x0 :: x1 :: x2 :: x3 :: x4 :: some (.int (nI (a + z))) :: t) st) : J g M R Q k n w pc (x0 :: x1 :: x2 :: x3 :: x4 :: some (.int (nI a)) :: t) st := J.iincN (i := 5) d hz rfl hn (Or.inr hc) rfl K
theorem J.il6 {x0 x1 x2 x3 x4 x5 : Option Value} {v : Int32} (d : decode M.2.1 pc = .ok (.iload 6, 2)) (K : J g M R Q k n w (pc + 2) (x0 :: x1 :: x2 :: x3 :: x4 :: x5 :: some (.int v) :: t) (.int v :: st)) : J g M R Q k n w pc (x0 :: x1 :: x2 :: x3 :: x4 :: x5 :: some (.int v) :: t) st := J.iload (i := 6) d rfl K
theorem J.is6 {x0 x1 x2 x3 x4 x5 : Option Value} {y : Option Value} {v : Int32} (d : decode M.2.1 pc = .ok (.istore 6, 2)) (hn : 6 < M.2.2.1) (hc : cat1 (some x5) = true) (K : J g M R Q k n w (pc + 2) (x0 :: x1 :: x2 :: x3 :: x4 :: x5 :: some (.int v) :: t) st) : J g M R Q k n w pc (x0 :: x1 :: x2 :: x3 :: x4 :: x5 :: y :: t) (.int v :: st) := J.istore (i := 6) d hn (Or.inr hc) rfl K
theorem J.al6 {x0 x1 x2 x3 x4 x5 : Option Value} {v : Nat} (d : decode M.2.1 pc = .ok (.aload 6, 2)) (K : J g M R Q k n w (pc + 2) (x0 :: x1 :: x2 :: x3 :: x4 :: x5 :: some (.ref v) :: t) (.ref v :: st)) : J g M R Q k n w pc (x0 :: x1 :: x2 :: x3 :: x4 :: x5 :: some (.ref v) :: t) st := J.aload (i := 6) d rfl K
theorem J.as6 {x0 x1 x2 x3 x4 x5 : Option Value} {y : Option Value} {v : Nat} (d : decode M.2.1 pc = .ok (.astore 6, 2)) (hn : 6 < M.2.2.1) (hc : cat1 (some x5) = true) (K : J g M R Q k n w (pc + 2) (x0 :: x1 :: x2 :: x3 :: x4 :: x5 :: some (.ref v) :: t) st) : J g M R Q k n w pc (x0 :: x1 :: x2 :: x3 :: x4 :: x5 :: y :: t) (.ref v :: st) := J.astore (i := 6) d hn (Or.inr hc) rfl K
theorem J.ii6 {x0 x1 x2 x3 x4 x5 : Option Value} {z a : Nat} {zi : Int} (d : decode M.2.1 pc = .ok (.iinc 6 zi, 3)) (hz : Int32.ofInt zi = nI z) (hn : 6 < M.2.2.1) (hc : cat1 (some x5) = true) (K : J g M R Q k n w (pc + 3) (x0 :: x1 :: x2 :: x3 :: x4 :: x5 :: some (.int (nI (a + z))) :: t) st) : J g M R Q k n w pc (x0 :: x1 :: x2 :: x3 :: x4 :: x5 :: some (.int (nI a)) :: t) st := J.iincN (i := 6) d hz rfl hn (Or.inr hc) rfl K
theorem J.il7 {x0 x1 x2 x3 x4 x5 x6 : Option Value} {v : Int32} (d : decode M.2.1 pc = .ok (.iload 7, 2)) (K : J g M R Q k n w (pc + 2) (x0 :: x1 :: x2 :: x3 :: x4 :: x5 :: x6 :: some (.int v) :: t) (.int v :: st)) : J g M R Q k n w pc (x0 :: x1 :: x2 :: x3 :: x4 :: x5 :: x6 :: some (.int v) :: t) st := J.iload (i := 7) d rfl K
theorem J.is7 {x0 x1 x2 x3 x4 x5 x6 : Option Value} {y : Option Value} {v : Int32} (d : decode M.2.1 pc = .ok (.istore 7, 2)) (hn : 7 < M.2.2.1) (hc : cat1 (some x6) = true) (K : J g M R Q k n w (pc + 2) (x0 :: x1 :: x2 :: x3 :: x4 :: x5 :: x6 :: some (.int v) :: t) st) : J g M R Q k n w pc (x0 :: x1 :: x2 :: x3 :: x4 :: x5 :: x6 :: y :: t) (.int v :: st) := J.istore (i := 7) d hn (Or.inr hc) rfl K
theorem J.al7 {x0 x1 x2 x3 x4 x5 x6 : Option Value} {v : Nat} (d : decode M.2.1 pc = .ok (.aload 7, 2)) (K : J g M R Q k n w (pc + 2) (x0 :: x1 :: x2 :: x3 :: x4 :: x5 :: x6 :: some (.ref v) :: t) (.ref v :: st)) : J g M R Q k n w pc (x0 :: x1 :: x2 :: x3 :: x4 :: x5 :: x6 :: some (.ref v) :: t) st := J.aload (i := 7) d rfl K
theorem J.as7 {x0 x1 x2 x3 x4 x5 x6 : Option Value} {y : Option Value} {v : Nat} (d : decode M.2.1 pc = .ok (.astore 7, 2)) (hn : 7 < M.2.2.1) (hc : cat1 (some x6) = true) (K : J g M R Q k n w (pc + 2) (x0 :: x1 :: x2 :: x3 :: x4 :: x5 :: x6 :: some (.ref v) :: t) st) : J g M R Q k n w pc (x0 :: x1 :: x2 :: x3 :: x4 :: x5 :: x6 :: y :: t) (.ref v :: st) := J.astore (i := 7) d hn (Or.inr hc) rfl K
theorem J.ii7 {x0 x1 x2 x3 x4 x5 x6 : Option Value} {z a : Nat} {zi : Int} (d : decode M.2.1 pc = .ok (.iinc 7 zi, 3)) (hz : Int32.ofInt zi = nI z) (hn : 7 < M.2.2.1) (hc : cat1 (some x6) = true) (K : J g M R Q k n w (pc + 3) (x0 :: x1 :: x2 :: x3 :: x4 :: x5 :: x6 :: some (.int (nI (a + z))) :: t) st) : J g M R Q k n w pc (x0 :: x1 :: x2 :: x3 :: x4 :: x5 :: x6 :: some (.int (nI a)) :: t) st := J.iincN (i := 7) d hz rfl hn (Or.inr hc) rfl K
theorem J.il8 {x0 x1 x2 x3 x4 x5 x6 x7 : Option Value} {v : Int32} (d : decode M.2.1 pc = .ok (.iload 8, 2)) (K : J g M R Q k n w (pc + 2) (x0 :: x1 :: x2 :: x3 :: x4 :: x5 :: x6 :: x7 :: some (.int v) :: t) (.int v :: st)) : J g M R Q k n w pc (x0 :: x1 :: x2 :: x3 :: x4 :: x5 :: x6 :: x7 :: some (.int v) :: t) st := J.iload (i := 8) d rfl K
theorem J.is8 {x0 x1 x2 x3 x4 x5 x6 x7 : Option Value} {y : Option Value} {v : Int32} (d : decode M.2.1 pc = .ok (.istore 8, 2)) (hn : 8 < M.2.2.1) (hc : cat1 (some x7) = true) (K : J g M R Q k n w (pc + 2) (x0 :: x1 :: x2 :: x3 :: x4 :: x5 :: x6 :: x7 :: some (.int v) :: t) st) : J g M R Q k n w pc (x0 :: x1 :: x2 :: x3 :: x4 :: x5 :: x6 :: x7 :: y :: t) (.int v :: st) := J.istore (i := 8) d hn (Or.inr hc) rfl K
theorem J.al8 {x0 x1 x2 x3 x4 x5 x6 x7 : Option Value} {v : Nat} (d : decode M.2.1 pc = .ok (.aload 8, 2)) (K : J g M R Q k n w (pc + 2) (x0 :: x1 :: x2 :: x3 :: x4 :: x5 :: x6 :: x7 :: some (.ref v) :: t) (.ref v :: st)) : J g M R Q k n w pc (x0 :: x1 :: x2 :: x3 :: x4 :: x5 :: x6 :: x7 :: some (.ref v) :: t) st := J.aload (i := 8) d rfl K
theorem J.as8 {x0 x1 x2 x3 x4 x5 x6 x7 : Option Value} {y : Option Value} {v : Nat} (d : decode M.2.1 pc = .ok (.astore 8, 2)) (hn : 8 < M.2.2.1) (hc : cat1 (some x7) = true) (K : J g M R Q k n w (pc + 2) (x0 :: x1 :: x2 :: x3 :: x4 :: x5 :: x6 :: x7 :: some (.ref v) :: t) st) : J g M R Q k n w pc (x0 :: x1 :: x2 :: x3 :: x4 :: x5 :: x6 :: x7 :: y :: t) (.ref v :: st) := J.astore (i := 8) d hn (Or.inr hc) rfl K
theorem J.ii8 {x0 x1 x2 x3 x4 x5 x6 x7 : Option Value} {z a : Nat} {zi : Int} (d : decode M.2.1 pc = .ok (.iinc 8 zi, 3)) (hz : Int32.ofInt zi = nI z) (hn : 8 < M.2.2.1) (hc : cat1 (some x7) = true) (K : J g M R Q k n w (pc + 3) (x0 :: x1 :: x2 :: x3 :: x4 :: x5 :: x6 :: x7 :: some (.int (nI (a + z))) :: t) st) : J g M R Q k n w pc (x0 :: x1 :: x2 :: x3 :: x4 :: x5 :: x6 :: x7 :: some (.int (nI a)) :: t) st := J.iincN (i := 8) d hz rfl hn (Or.inr hc) rfl K
end PT
theorem kI_0 : Int32.ofInt 0 = nI 0 := by decide
theorem kI_1 : Int32.ofInt 1 = nI 1 := by decide
theorem kI_2 : Int32.ofInt 2 = nI 2 := by decide
theorem kI_3 : Int32.ofInt 3 = nI 3 := by decide
theorem kI_4 : Int32.ofInt 4 = nI 4 := by decide
theorem kI_5 : Int32.ofInt 5 = nI 5 := by decide
theorem kb_6 : (Int8.ofInt 6).toInt32 = nI 6 := by decide
theorem kb_7 : (Int8.ofInt 7).toInt32 = nI 7 := by decide
theorem kb_8 : (Int8.ofInt 8).toInt32 = nI 8 := by decide
theorem kb_9 : (Int8.ofInt 9).toInt32 = nI 9 := by decide
theorem kb_10 : (Int8.ofInt 10).toInt32 = nI 10 := by decide
theorem kb_11 : (Int8.ofInt 11).toInt32 = nI 11 := by decide
theorem kb_12 : (Int8.ofInt 12).toInt32 = nI 12 := by decide
theorem kb_16 : (Int8.ofInt 16).toInt32 = nI 16 := by decide
theorem kb_19 : (Int8.ofInt 19).toInt32 = nI 19 := by decide
theorem kb_20 : (Int8.ofInt 20).toInt32 = nI 20 := by decide
theorem kb_26 : (Int8.ofInt 26).toInt32 = nI 26 := by decide
theorem kb_31 : (Int8.ofInt 31).toInt32 = nI 31 := by decide
theorem kb_32 : (Int8.ofInt 32).toInt32 = nI 32 := by decide
theorem kb_39 : (Int8.ofInt 39).toInt32 = nI 39 := by decide
theorem kb_40 : (Int8.ofInt 40).toInt32 = nI 40 := by decide
theorem kb_41 : (Int8.ofInt 41).toInt32 = nI 41 := by decide
theorem kb_44 : (Int8.ofInt 44).toInt32 = nI 44 := by decide
theorem kb_48 : (Int8.ofInt 48).toInt32 = nI 48 := by decide
theorem kb_49 : (Int8.ofInt 49).toInt32 = nI 49 := by decide
theorem kb_50 : (Int8.ofInt 50).toInt32 = nI 50 := by decide
theorem kb_51 : (Int8.ofInt 51).toInt32 = nI 51 := by decide
theorem kb_52 : (Int8.ofInt 52).toInt32 = nI 52 := by decide
theorem kb_53 : (Int8.ofInt 53).toInt32 = nI 53 := by decide
theorem kb_54 : (Int8.ofInt 54).toInt32 = nI 54 := by decide
theorem kb_55 : (Int8.ofInt 55).toInt32 = nI 55 := by decide
theorem kb_56 : (Int8.ofInt 56).toInt32 = nI 56 := by decide
theorem kb_57 : (Int8.ofInt 57).toInt32 = nI 57 := by decide
theorem kb_58 : (Int8.ofInt 58).toInt32 = nI 58 := by decide
theorem kb_60 : (Int8.ofInt 60).toInt32 = nI 60 := by decide
theorem kb_63 : (Int8.ofInt 63).toInt32 = nI 63 := by decide
theorem kb_64 : (Int8.ofInt 64).toInt32 = nI 64 := by decide
theorem kb_72 : (Int8.ofInt 72).toInt32 = nI 72 := by decide
theorem kb_74 : (Int8.ofInt 74).toInt32 = nI 74 := by decide
theorem kb_75 : (Int8.ofInt 75).toInt32 = nI 75 := by decide
theorem kb_91 : (Int8.ofInt 91).toInt32 = nI 91 := by decide
theorem kb_93 : (Int8.ofInt 93).toInt32 = nI 93 := by decide
theorem kb_99 : (Int8.ofInt 99).toInt32 = nI 99 := by decide
theorem kb_100 : (Int8.ofInt 100).toInt32 = nI 100 := by decide
theorem kb_112 : (Int8.ofInt 112).toInt32 = nI 112 := by decide
theorem kb_114 : (Int8.ofInt 114).toInt32 = nI 114 := by decide
theorem kb_115 : (Int8.ofInt 115).toInt32 = nI 115 := by decide
theorem kb_117 : (Int8.ofInt 117).toInt32 = nI 117 := by decide
theorem kb_120 : (Int8.ofInt 120).toInt32 = nI 120 := by decide
theorem kb_121 : (Int8.ofInt 121).toInt32 = nI 121 := by decide
theorem kc_192 : (Int16.ofInt 192).toInt32 = nI 192 := by decide
theorem kc_200 : (Int16.ofInt 200).toInt32 = nI 200 := by decide
theorem kc_352 : (Int16.ofInt 352).toInt32 = nI 352 := by decide
theorem kc_2464 : (Int16.ofInt 2464).toInt32 = nI 2464 := by decide
theorem kc_9999 : (Int16.ofInt 9999).toInt32 = nI 9999 := by decide
theorem kc_6400 : (Int16.ofInt 6400).toInt32 = nI 6400 := by decide
theorem kc_120 : (Int16.ofInt 120).toInt32 = nI 120 := by decide
theorem kc_60 : (Int16.ofInt 60).toInt32 = nI 60 := by decide
theorem kc_2816 : (Int16.ofInt 2816).toInt32 = nI 2816 := by decide
theorem kc_128 : (Int16.ofInt 128).toInt32 = nI 128 := by decide
theorem kc_132 : (Int16.ofInt 132).toInt32 = nI 132 := by decide
def lsub : List (Option Value) → List (Option Value) → Prop
  | [], _ => True
  | none :: a, _ :: b => lsub a b
  | some x :: a, some y :: b => x = y ∧ lsub a b
  | _, _ => False
theorem lsub_at : ∀ (a b : List (Option Value)), lsub a b → ∀ (t : Nat) (v : Value), a[t]? = some (some v) → b[t]? = some (some v)
  | [], b, _, t, v, h => by simp at h
  | none :: a, [], h, _, _, _ => h.elim
  | some x :: a, [], h, _, _, _ => h.elim
  | none :: a, y :: b, h, t, v, ht => by
    cases t with
    | zero => simp at ht
    | succ t =>
      have h9 : lsub a b := h
      simpa using lsub_at a b h9 t v (by simpa using ht)
  | some x :: a, none :: b, h, _, _, _ => h.elim
  | some x :: a, some y :: b, h, t, v, ht => by
    obtain ⟨rfl, h⟩ := h
    cases t with
    | zero => simpa using ht
    | succ t => simpa using lsub_at a b h t v (by simpa using ht)
section PU
variable {g : GP} {M : MI} {R : Room} {Q : QT} {k n pc : Nat} {w : va_W} {st : List Value} {l : List (Option Value)}
theorem J.subL {l' : List (Option Value)} (h : lsub l' l) (K : J g M R Q k n w pc l' st) : J g M R Q k n w pc l st := K.sub (lsub_at l' l h)
/-- a truth value on the stack -/
theorem J.if_eqB {p : Prop} [Decidable p] {off : Int} {tgt : Nat} (d : decode M.2.1 pc = .ok (.ifCond .eq off, 3)) (ht : (pc : Int) + off = (tgt : Int)) (kt : ¬ p → J g M R Q k n w tgt l st) (kf : p → J g M R Q k n w (pc + 3) l st) : J g M R Q k n w pc l (.int (if p then nI 1 else nI 0) :: st) := by
  by_cases h : p
  · rw [if_pos h]; exact J.if_eqN d ht (by decide) (fun z => absurd z (by decide)) (fun _ => kf h)
  · rw [if_neg h]; exact J.if_eqN d ht (by decide) (fun _ => kt h) (fun z => absurd z (by decide))
theorem J.if_neB {p : Prop} [Decidable p] {off : Int} {tgt : Nat} (d : decode M.2.1 pc = .ok (.ifCond .ne off, 3)) (ht : (pc : Int) + off = (tgt : Int)) (kt : p → J g M R Q k n w tgt l st) (kf : ¬ p → J g M R Q k n w (pc + 3) l st) : J g M R Q k n w pc l (.int (if p then nI 1 else nI 0) :: st) := by
  by_cases h : p
  · rw [if_pos h]; exact J.if_neN d ht (by decide) (fun _ => kt h) (fun z => absurd z (by decide))
  · rw [if_neg h]; exact J.if_neN d ht (by decide) (fun z => absurd z (by decide)) (fun _ => kf h)
end PU
theorem i2cN {a : Nat} (h : a < 65536) : ((nI a).toUInt32 % 65536).toInt32 = nI a := by
  rw [pk_char, pk_tn (by omega), Nat.mod_eq_of_lt h]
theorem nar_c {a : Nat} (h : a < 65536) : vp_nar .char (nI a) = nI a := by
  rw [vp_nar_char]
  have h1 := i2cN h
  unfold nI at h1 ⊢
  sorry
end
