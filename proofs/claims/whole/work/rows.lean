section
-- ===== PART A: goes FIRST, ahead of the names: the tables' words, and 'selects' of the private methods out of them =====
/-- a private method of a class that the tables say can be made, by its rows of tables_1 -/
def lw_okq (q : MethodName × Nat) : Prop := (q.1.cls ≠ "java/lang/invoke/MethodHandle" ∧ q.1.cls ≠ "java/lang/invoke/VarHandle") ∧ Cond.instantiable q.1.cls q.2 ∈ tables_1 ∧ Cond.privateMethod q.1 ∈ tables_1 ∧ Cond.instanceMethod q.1 ∈ tables_1
theorem lw_p0 : lw_okq (⟨"PackLists$Text", "takeWord", "(IILPackLists$Rules;)Z"⟩, 6) := ⟨⟨by decide +kernel, by decide +kernel⟩, List.mem_of_getElem? (i := 27) (by decide +kernel), List.mem_of_getElem? (i := 268) (by decide +kernel), List.mem_of_getElem? (i := 269) (by decide +kernel)⟩
theorem lw_p1 : lw_okq (⟨"PackLists$Text", "kindOf", "(II)LPackLists$Kind;"⟩, 6) := ⟨⟨by decide +kernel, by decide +kernel⟩, List.mem_of_getElem? (i := 27) (by decide +kernel), List.mem_of_getElem? (i := 272) (by decide +kernel), List.mem_of_getElem? (i := 273) (by decide +kernel)⟩
theorem lw_p2 : lw_okq (⟨"PackLists$Text", "isWord", "(Ljava/lang/String;II)Z"⟩, 6) := ⟨⟨by decide +kernel, by decide +kernel⟩, List.mem_of_getElem? (i := 27) (by decide +kernel), List.mem_of_getElem? (i := 278) (by decide +kernel), List.mem_of_getElem? (i := 279) (by decide +kernel)⟩
theorem lw_p3 : lw_okq (⟨"PackLists$Text", "numberOf", "(II)I"⟩, 6) := ⟨⟨by decide +kernel, by decide +kernel⟩, List.mem_of_getElem? (i := 27) (by decide +kernel), List.mem_of_getElem? (i := 330) (by decide +kernel), List.mem_of_getElem? (i := 331) (by decide +kernel)⟩
theorem lw_p4 : lw_okq (⟨"PackLists$Text", "takeNumber", "(ILPackLists$Rules;)Z"⟩, 6) := ⟨⟨by decide +kernel, by decide +kernel⟩, List.mem_of_getElem? (i := 27) (by decide +kernel), List.mem_of_getElem? (i := 334) (by decide +kernel), List.mem_of_getElem? (i := 335) (by decide +kernel)⟩
theorem lw_p5 : lw_okq (⟨"PackLists$Text", "canStand", "(ILPackLists$Rules;)Z"⟩, 6) := ⟨⟨by decide +kernel, by decide +kernel⟩, List.mem_of_getElem? (i := 27) (by decide +kernel), List.mem_of_getElem? (i := 338) (by decide +kernel), List.mem_of_getElem? (i := 339) (by decide +kernel)⟩
theorem lw_p6 : lw_okq (⟨"PackLists$Rules", "placeOfMark", "(II)I"⟩, 11) := ⟨⟨by decide +kernel, by decide +kernel⟩, List.mem_of_getElem? (i := 180) (by decide +kernel), List.mem_of_getElem? (i := 365) (by decide +kernel), List.mem_of_getElem? (i := 366) (by decide +kernel)⟩
theorem lw_p7 : lw_okq (⟨"PackLists$Rules", "setMark", "(III)V"⟩, 11) := ⟨⟨by decide +kernel, by decide +kernel⟩, List.mem_of_getElem? (i := 180) (by decide +kernel), List.mem_of_getElem? (i := 381) (by decide +kernel), List.mem_of_getElem? (i := 382) (by decide +kernel)⟩
theorem lw_p8 : lw_okq (⟨"PackLists$Rules", "addNote", "(II)V"⟩, 11) := ⟨⟨by decide +kernel, by decide +kernel⟩, List.mem_of_getElem? (i := 180) (by decide +kernel), List.mem_of_getElem? (i := 388) (by decide +kernel), List.mem_of_getElem? (i := 389) (by decide +kernel)⟩
theorem lw_p9 : lw_okq (⟨"PackLists$Packer", "lineUp", "(LPackLists$Stock;)V"⟩, 10) := ⟨⟨by decide +kernel, by decide +kernel⟩, List.mem_of_getElem? (i := 111) (by decide +kernel), List.mem_of_getElem? (i := 437) (by decide +kernel), List.mem_of_getElem? (i := 438) (by decide +kernel)⟩
theorem lw_p10 : lw_okq (⟨"PackLists$Packer", "countWays", "(I)J"⟩, 10) := ⟨⟨by decide +kernel, by decide +kernel⟩, List.mem_of_getElem? (i := 111) (by decide +kernel), List.mem_of_getElem? (i := 449) (by decide +kernel), List.mem_of_getElem? (i := 450) (by decide +kernel)⟩
theorem lw_p11 : lw_okq (⟨"PackLists$Packer", "emptyBoxes", "()V"⟩, 10) := ⟨⟨by decide +kernel, by decide +kernel⟩, List.mem_of_getElem? (i := 111) (by decide +kernel), List.mem_of_getElem? (i := 453) (by decide +kernel), List.mem_of_getElem? (i := 454) (by decide +kernel)⟩
theorem lw_p12 : lw_okq (⟨"PackLists$Packer", "eachFitsAlone", "(LPackLists$Stock;LPackLists$Rules;)Z"⟩, 10) := ⟨⟨by decide +kernel, by decide +kernel⟩, List.mem_of_getElem? (i := 111) (by decide +kernel), List.mem_of_getElem? (i := 457) (by decide +kernel), List.mem_of_getElem? (i := 458) (by decide +kernel)⟩
theorem lw_p13 : lw_okq (⟨"PackLists$Packer", "fits", "(LPackLists$Stock;LPackLists$Rules;II)Z"⟩, 10) := ⟨⟨by decide +kernel, by decide +kernel⟩, List.mem_of_getElem? (i := 111) (by decide +kernel), List.mem_of_getElem? (i := 461) (by decide +kernel), List.mem_of_getElem? (i := 462) (by decide +kernel)⟩
theorem lw_p14 : lw_okq (⟨"PackLists$Packer", "putIn", "(LPackLists$Stock;II)V"⟩, 10) := ⟨⟨by decide +kernel, by decide +kernel⟩, List.mem_of_getElem? (i := 111) (by decide +kernel), List.mem_of_getElem? (i := 471) (by decide +kernel), List.mem_of_getElem? (i := 472) (by decide +kernel)⟩
theorem lw_p15 : lw_okq (⟨"PackLists$Packer", "takeOut", "(LPackLists$Stock;III)V"⟩, 10) := ⟨⟨by decide +kernel, by decide +kernel⟩, List.mem_of_getElem? (i := 111) (by decide +kernel), List.mem_of_getElem? (i := 475) (by decide +kernel), List.mem_of_getElem? (i := 476) (by decide +kernel)⟩
def lw_privs_1 : List (MethodName × Nat) := [(⟨"PackLists$Text", "takeWord", "(IILPackLists$Rules;)Z"⟩, 6), (⟨"PackLists$Text", "kindOf", "(II)LPackLists$Kind;"⟩, 6), (⟨"PackLists$Text", "isWord", "(Ljava/lang/String;II)Z"⟩, 6), (⟨"PackLists$Text", "numberOf", "(II)I"⟩, 6), (⟨"PackLists$Text", "takeNumber", "(ILPackLists$Rules;)Z"⟩, 6), (⟨"PackLists$Text", "canStand", "(ILPackLists$Rules;)Z"⟩, 6), (⟨"PackLists$Rules", "placeOfMark", "(II)I"⟩, 11), (⟨"PackLists$Rules", "setMark", "(III)V"⟩, 11), (⟨"PackLists$Rules", "addNote", "(II)V"⟩, 11), (⟨"PackLists$Packer", "lineUp", "(LPackLists$Stock;)V"⟩, 10), (⟨"PackLists$Packer", "countWays", "(I)J"⟩, 10), (⟨"PackLists$Packer", "emptyBoxes", "()V"⟩, 10), (⟨"PackLists$Packer", "eachFitsAlone", "(LPackLists$Stock;LPackLists$Rules;)Z"⟩, 10), (⟨"PackLists$Packer", "fits", "(LPackLists$Stock;LPackLists$Rules;II)Z"⟩, 10), (⟨"PackLists$Packer", "putIn", "(LPackLists$Stock;II)V"⟩, 10), (⟨"PackLists$Packer", "takeOut", "(LPackLists$Stock;III)V"⟩, 10)]
theorem lw_r1 : ∀ q ∈ lw_privs_1, lw_okq q := List.forall_mem_cons.mpr ⟨lw_p0, List.forall_mem_cons.mpr ⟨lw_p1, List.forall_mem_cons.mpr ⟨lw_p2, List.forall_mem_cons.mpr ⟨lw_p3, List.forall_mem_cons.mpr ⟨lw_p4, List.forall_mem_cons.mpr ⟨lw_p5, List.forall_mem_cons.mpr ⟨lw_p6, List.forall_mem_cons.mpr ⟨lw_p7, List.forall_mem_cons.mpr ⟨lw_p8, List.forall_mem_cons.mpr ⟨lw_p9, List.forall_mem_cons.mpr ⟨lw_p10, List.forall_mem_cons.mpr ⟨lw_p11, List.forall_mem_cons.mpr ⟨lw_p12, List.forall_mem_cons.mpr ⟨lw_p13, List.forall_mem_cons.mpr ⟨lw_p14, List.forall_mem_cons.mpr ⟨lw_p15, fun _ h => absurd h List.not_mem_nil⟩⟩⟩⟩⟩⟩⟩⟩⟩⟩⟩⟩⟩⟩⟩⟩
theorem lw_p16 : lw_okq (⟨"PackLists$Load", "pointsOfClass", "(LPackLists$Rules;I)I"⟩, 5) := ⟨⟨by decide +kernel, by decide +kernel⟩, List.mem_of_getElem? (i := 153) (by decide +kernel), List.mem_of_getElem? (i := 512) (by decide +kernel), List.mem_of_getElem? (i := 513) (by decide +kernel)⟩
theorem lw_p17 : lw_okq (⟨"PackLists$Load", "insert", "(LPackLists$Rules;I)V"⟩, 5) := ⟨⟨by decide +kernel, by decide +kernel⟩, List.mem_of_getElem? (i := 153) (by decide +kernel), List.mem_of_getElem? (i := 533) (by decide +kernel), List.mem_of_getElem? (i := 534) (by decide +kernel)⟩
theorem lw_p18 : lw_okq (⟨"PackLists$Load", "writeDecimals", "(I)V"⟩, 5) := ⟨⟨by decide +kernel, by decide +kernel⟩, List.mem_of_getElem? (i := 153) (by decide +kernel), List.mem_of_getElem? (i := 553) (by decide +kernel), List.mem_of_getElem? (i := 554) (by decide +kernel)⟩
theorem lw_p19 : lw_okq (⟨"PackLists$Load", "writeByte", "(I)V"⟩, 5) := ⟨⟨by decide +kernel, by decide +kernel⟩, List.mem_of_getElem? (i := 153) (by decide +kernel), List.mem_of_getElem? (i := 557) (by decide +kernel), List.mem_of_getElem? (i := 558) (by decide +kernel)⟩
theorem lw_p20 : lw_okq (⟨"PackListsModel", "clearNew", "()V"⟩, 46) := ⟨⟨by decide +kernel, by decide +kernel⟩, List.mem_of_getElem? (i := 611) (by decide +kernel), List.mem_of_getElem? (i := 617) (by decide +kernel), List.mem_of_getElem? (i := 618) (by decide +kernel)⟩
theorem lw_p21 : lw_okq (⟨"PackListsModel", "take", "()V"⟩, 46) := ⟨⟨by decide +kernel, by decide +kernel⟩, List.mem_of_getElem? (i := 611) (by decide +kernel), List.mem_of_getElem? (i := 621) (by decide +kernel), List.mem_of_getElem? (i := 622) (by decide +kernel)⟩
theorem lw_p22 : lw_okq (⟨"PackListsModel", "next", "()Z"⟩, 46) := ⟨⟨by decide +kernel, by decide +kernel⟩, List.mem_of_getElem? (i := 611) (by decide +kernel), List.mem_of_getElem? (i := 777) (by decide +kernel), List.mem_of_getElem? (i := 778) (by decide +kernel)⟩
theorem lw_p23 : lw_okq (⟨"PackListsModel", "sentence", "()I"⟩, 46) := ⟨⟨by decide +kernel, by decide +kernel⟩, List.mem_of_getElem? (i := 611) (by decide +kernel), List.mem_of_getElem? (i := 784) (by decide +kernel), List.mem_of_getElem? (i := 785) (by decide +kernel)⟩
theorem lw_p24 : lw_okq (⟨"PackListsModel", "is", "(J)Z"⟩, 46) := ⟨⟨by decide +kernel, by decide +kernel⟩, List.mem_of_getElem? (i := 611) (by decide +kernel), List.mem_of_getElem? (i := 789) (by decide +kernel), List.mem_of_getElem? (i := 790) (by decide +kernel)⟩
theorem lw_p25 : lw_okq (⟨"PackListsModel", "hasRoom", "()Z"⟩, 46) := ⟨⟨by decide +kernel, by decide +kernel⟩, List.mem_of_getElem? (i := 611) (by decide +kernel), List.mem_of_getElem? (i := 802) (by decide +kernel), List.mem_of_getElem? (i := 803) (by decide +kernel)⟩
theorem lw_p26 : lw_okq (⟨"PackListsModel", "numberAt", "()I"⟩, 46) := ⟨⟨by decide +kernel, by decide +kernel⟩, List.mem_of_getElem? (i := 611) (by decide +kernel), List.mem_of_getElem? (i := 809) (by decide +kernel), List.mem_of_getElem? (i := 810) (by decide +kernel)⟩
theorem lw_p27 : lw_okq (⟨"PackListsModel", "markOf", "(II)I"⟩, 46) := ⟨⟨by decide +kernel, by decide +kernel⟩, List.mem_of_getElem? (i := 611) (by decide +kernel), List.mem_of_getElem? (i := 820) (by decide +kernel), List.mem_of_getElem? (i := 821) (by decide +kernel)⟩
theorem lw_p28 : lw_okq (⟨"PackListsModel", "tell", "(IIII)V"⟩, 46) := ⟨⟨by decide +kernel, by decide +kernel⟩, List.mem_of_getElem? (i := 611) (by decide +kernel), List.mem_of_getElem? (i := 824) (by decide +kernel), List.mem_of_getElem? (i := 825) (by decide +kernel)⟩
theorem lw_p29 : lw_okq (⟨"PackListsModel", "isBottle", "(I)Z"⟩, 46) := ⟨⟨by decide +kernel, by decide +kernel⟩, List.mem_of_getElem? (i := 611) (by decide +kernel), List.mem_of_getElem? (i := 849) (by decide +kernel), List.mem_of_getElem? (i := 850) (by decide +kernel)⟩
theorem lw_p30 : lw_okq (⟨"PackListsModel", "isToBePacked", "(I)Z"⟩, 46) := ⟨⟨by decide +kernel, by decide +kernel⟩, List.mem_of_getElem? (i := 611) (by decide +kernel), List.mem_of_getElem? (i := 866) (by decide +kernel), List.mem_of_getElem? (i := 867) (by decide +kernel)⟩
theorem lw_p31 : lw_okq (⟨"PackListsModel", "used", "([I)I"⟩, 46) := ⟨⟨by decide +kernel, by decide +kernel⟩, List.mem_of_getElem? (i := 611) (by decide +kernel), List.mem_of_getElem? (i := 870) (by decide +kernel), List.mem_of_getElem? (i := 871) (by decide +kernel)⟩
def lw_privs_2 : List (MethodName × Nat) := [(⟨"PackLists$Load", "pointsOfClass", "(LPackLists$Rules;I)I"⟩, 5), (⟨"PackLists$Load", "insert", "(LPackLists$Rules;I)V"⟩, 5), (⟨"PackLists$Load", "writeDecimals", "(I)V"⟩, 5), (⟨"PackLists$Load", "writeByte", "(I)V"⟩, 5), (⟨"PackListsModel", "clearNew", "()V"⟩, 46), (⟨"PackListsModel", "take", "()V"⟩, 46), (⟨"PackListsModel", "next", "()Z"⟩, 46), (⟨"PackListsModel", "sentence", "()I"⟩, 46), (⟨"PackListsModel", "is", "(J)Z"⟩, 46), (⟨"PackListsModel", "hasRoom", "()Z"⟩, 46), (⟨"PackListsModel", "numberAt", "()I"⟩, 46), (⟨"PackListsModel", "markOf", "(II)I"⟩, 46), (⟨"PackListsModel", "tell", "(IIII)V"⟩, 46), (⟨"PackListsModel", "isBottle", "(I)Z"⟩, 46), (⟨"PackListsModel", "isToBePacked", "(I)Z"⟩, 46), (⟨"PackListsModel", "used", "([I)I"⟩, 46)]
theorem lw_r2 : ∀ q ∈ lw_privs_2, lw_okq q := List.forall_mem_cons.mpr ⟨lw_p16, List.forall_mem_cons.mpr ⟨lw_p17, List.forall_mem_cons.mpr ⟨lw_p18, List.forall_mem_cons.mpr ⟨lw_p19, List.forall_mem_cons.mpr ⟨lw_p20, List.forall_mem_cons.mpr ⟨lw_p21, List.forall_mem_cons.mpr ⟨lw_p22, List.forall_mem_cons.mpr ⟨lw_p23, List.forall_mem_cons.mpr ⟨lw_p24, List.forall_mem_cons.mpr ⟨lw_p25, List.forall_mem_cons.mpr ⟨lw_p26, List.forall_mem_cons.mpr ⟨lw_p27, List.forall_mem_cons.mpr ⟨lw_p28, List.forall_mem_cons.mpr ⟨lw_p29, List.forall_mem_cons.mpr ⟨lw_p30, List.forall_mem_cons.mpr ⟨lw_p31, fun _ h => absurd h List.not_mem_nil⟩⟩⟩⟩⟩⟩⟩⟩⟩⟩⟩⟩⟩⟩⟩⟩
theorem lw_p32 : lw_okq (⟨"PackListsModel", "keeps", "([I)Z"⟩, 46) := ⟨⟨by decide +kernel, by decide +kernel⟩, List.mem_of_getElem? (i := 611) (by decide +kernel), List.mem_of_getElem? (i := 874) (by decide +kernel), List.mem_of_getElem? (i := 875) (by decide +kernel)⟩
theorem lw_p33 : lw_okq (⟨"PackListsModel", "turn", "(I)Z"⟩, 46) := ⟨⟨by decide +kernel, by decide +kernel⟩, List.mem_of_getElem? (i := 611) (by decide +kernel), List.mem_of_getElem? (i := 878) (by decide +kernel), List.mem_of_getElem? (i := 879) (by decide +kernel)⟩
theorem lw_p34 : lw_okq (⟨"PackListsModel", "pointsOf", "(I)J"⟩, 46) := ⟨⟨by decide +kernel, by decide +kernel⟩, List.mem_of_getElem? (i := 611) (by decide +kernel), List.mem_of_getElem? (i := 898) (by decide +kernel), List.mem_of_getElem? (i := 899) (by decide +kernel)⟩
theorem lw_p35 : lw_okq (⟨"PackListsModel", "gramsOf", "(I)J"⟩, 46) := ⟨⟨by decide +kernel, by decide +kernel⟩, List.mem_of_getElem? (i := 611) (by decide +kernel), List.mem_of_getElem? (i := 902) (by decide +kernel), List.mem_of_getElem? (i := 903) (by decide +kernel)⟩
theorem lw_p36 : lw_okq (⟨"PackListsModel", "isLoaded", "(I)Z"⟩, 46) := ⟨⟨by decide +kernel, by decide +kernel⟩, List.mem_of_getElem? (i := 611) (by decide +kernel), List.mem_of_getElem? (i := 906) (by decide +kernel), List.mem_of_getElem? (i := 907) (by decide +kernel)⟩
theorem lw_p37 : lw_okq (⟨"PackListsModel", "placeOf", "(I)I"⟩, 46) := ⟨⟨by decide +kernel, by decide +kernel⟩, List.mem_of_getElem? (i := 611) (by decide +kernel), List.mem_of_getElem? (i := 921) (by decide +kernel), List.mem_of_getElem? (i := 922) (by decide +kernel)⟩
theorem lw_p38 : lw_okq (⟨"PackListsModel", "putNumber", "(J)V"⟩, 46) := ⟨⟨by decide +kernel, by decide +kernel⟩, List.mem_of_getElem? (i := 611) (by decide +kernel), List.mem_of_getElem? (i := 934) (by decide +kernel), List.mem_of_getElem? (i := 935) (by decide +kernel)⟩
theorem lw_p39 : lw_okq (⟨"PackListsModel", "put", "(I)V"⟩, 46) := ⟨⟨by decide +kernel, by decide +kernel⟩, List.mem_of_getElem? (i := 611) (by decide +kernel), List.mem_of_getElem? (i := 940) (by decide +kernel), List.mem_of_getElem? (i := 941) (by decide +kernel)⟩
def lw_privs_3 : List (MethodName × Nat) := [(⟨"PackListsModel", "keeps", "([I)Z"⟩, 46), (⟨"PackListsModel", "turn", "(I)Z"⟩, 46), (⟨"PackListsModel", "pointsOf", "(I)J"⟩, 46), (⟨"PackListsModel", "gramsOf", "(I)J"⟩, 46), (⟨"PackListsModel", "isLoaded", "(I)Z"⟩, 46), (⟨"PackListsModel", "placeOf", "(I)I"⟩, 46), (⟨"PackListsModel", "putNumber", "(J)V"⟩, 46), (⟨"PackListsModel", "put", "(I)V"⟩, 46)]
theorem lw_r3 : ∀ q ∈ lw_privs_3, lw_okq q := List.forall_mem_cons.mpr ⟨lw_p32, List.forall_mem_cons.mpr ⟨lw_p33, List.forall_mem_cons.mpr ⟨lw_p34, List.forall_mem_cons.mpr ⟨lw_p35, List.forall_mem_cons.mpr ⟨lw_p36, List.forall_mem_cons.mpr ⟨lw_p37, List.forall_mem_cons.mpr ⟨lw_p38, List.forall_mem_cons.mpr ⟨lw_p39, fun _ h => absurd h List.not_mem_nil⟩⟩⟩⟩⟩⟩⟩⟩
def lw_privs : List (MethodName × Nat) := lw_privs_1 ++ (lw_privs_2 ++ (lw_privs_3))
def lw_tbl : List Cond := k2_sels lw_privs ++ tables_1
theorem lw_privs_ok : ∀ q ∈ lw_privs, lw_okq q := by
  show ∀ q ∈ lw_privs_1 ++ (lw_privs_2 ++ (lw_privs_3)), lw_okq q
  exact List.forall_mem_append.mpr ⟨lw_r1, List.forall_mem_append.mpr ⟨lw_r2, lw_r3⟩⟩
end
section
theorem tb0 : ∀ w ∈ tables_1_1, w ∈ lw_tbl := fun _ h => List.mem_append_right _ (List.mem_append_left _ h)
theorem tb1 : ∀ w ∈ tables_1_2, w ∈ lw_tbl := fun _ h => List.mem_append_right _ (List.mem_append_right _ (List.mem_append_left _ h))
theorem tb2 : ∀ w ∈ tables_1_3, w ∈ lw_tbl := fun _ h => List.mem_append_right _ (List.mem_append_right _ (List.mem_append_right _ (List.mem_append_left _ h)))
theorem tb3 : ∀ w ∈ tables_1_4, w ∈ lw_tbl := fun _ h => List.mem_append_right _ (List.mem_append_right _ (List.mem_append_right _ (List.mem_append_right _ (List.mem_append_left _ h))))
theorem tb4 : ∀ w ∈ tables_1_5, w ∈ lw_tbl := fun _ h => List.mem_append_right _ (List.mem_append_right _ (List.mem_append_right _ (List.mem_append_right _ (List.mem_append_right _ (h)))))
def lw_gd : List Cond := lw_tbl.filter goodWord
theorem gd : ∀ w, w ∈ lw_tbl → goodWord w = true → w ∈ lw_gd := fun _ h g => List.mem_filter.mpr ⟨h, g⟩
theorem lw_allgood : ∀ w ∈ lw_gd, (w.onTables && w.keeps) = true ∨ ∃ ty, w = .arrayClass ty := fun w h => good_of_word (List.mem_filter.mp h).2
def R_PL : String := "PackLists"
def R_Kd : String := "PackLists$Kind"
def R_Rl : String := "PackLists$Rules"
def R_Tx : String := "PackLists$Text"
def R_St : String := "PackLists$Stock"
def R_Pk : String := "PackLists$Packer"
def R_Ld : String := "PackLists$Load"
def R_Md : String := "PackListsModel"
def R_Lw : String := "PackListsLaw"
def R_Ar : String := "java/util/Arrays"
def R_Sg : String := "java/lang/String"
def R_S1 : String := "java/lang/StringLatin1"
def R_En : String := "java/lang/Enum"
def R_Ma : String := "java/lang/Math"
def R_Sy : String := "java/lang/System"
def R_Ob : String := "java/lang/Object"
def R_S2 : String := "java/lang/StringUTF16"
def R_Pc : String := "jdk/internal/util/Preconditions"
def R_Sw : String := "PackLists$1"
def F_PL : u_T := fun k => match k with
  | 0 => ("PackLists", "text", "LPackLists$Text;", true)
  | 1 => ("PackLists", "stock", "LPackLists$Stock;", true)
  | 2 => ("PackLists", "packer", "LPackLists$Packer;", true)
  | 3 => ("PackLists", "load", "LPackLists$Load;", true)
  | 4 => ("PackLists", "now", "LPackLists$Rules;", false)
  | 5 => ("PackLists", "draft", "LPackLists$Rules;", false)
  | _ => ("PackLists", "untouched", "Z", false)
def t_PL : Nat → FieldType := fun k => match k with
  | 0 => .object "PackLists$Text"
  | 1 => .object "PackLists$Stock"
  | 2 => .object "PackLists$Packer"
  | 3 => .object "PackLists$Load"
  | 4 => .object "PackLists$Rules"
  | 5 => .object "PackLists$Rules"
  | _ => .boolean
theorem n_PL : ∀ a, a < 7 → ∀ b, b < 7 → a ≠ b → (F_PL a).2.1 ≠ (F_PL b).2.1 := by decide +kernel
theorem t_PL_ok : ∀ k, k < 7 → parseFieldDescriptor (F_PL k).2.2.1 = some (t_PL k) := by decide +kernel
theorem i0_PL : (u_ws R_PL F_PL 7).all (fun w => decide (w ∈ lw_tbl) && goodWord w) = true := by decide +kernel
theorem in_PL : ∀ w ∈ u_ws R_PL F_PL 7, w ∈ lw_gd := fun w h => by have h1 := List.all_eq_true.mp i0_PL w h; simp only [Bool.and_eq_true, decide_eq_true_eq] at h1; exact gd w h1.1 h1.2
def F_Tx : u_T := fun k => match k with
  | 0 => ("PackLists$Text", "bytes", "[I", true)
  | 1 => ("PackLists$Text", "length", "I", false)
  | 2 => ("PackLists$Text", "numbers", "[I", true)
  | 3 => ("PackLists$Text", "got", "I", false)
  | 4 => ("PackLists$Text", "open", "LPackLists$Kind;", false)
  | _ => ("PackLists$Text", "sentences", "I", false)
def t_Tx : Nat → FieldType := fun k => match k with
  | 0 => .array .int
  | 1 => .int
  | 2 => .array .int
  | 3 => .int
  | 4 => .object "PackLists$Kind"
  | _ => .int
theorem n_Tx : ∀ a, a < 6 → ∀ b, b < 6 → a ≠ b → (F_Tx a).2.1 ≠ (F_Tx b).2.1 := by decide +kernel
theorem t_Tx_ok : ∀ k, k < 6 → parseFieldDescriptor (F_Tx k).2.2.1 = some (t_Tx k) := by decide +kernel
theorem i0_Tx : (u_ws R_Tx F_Tx 6).all (fun w => decide (w ∈ lw_tbl) && goodWord w) = true := by decide +kernel
theorem in_Tx : ∀ w ∈ u_ws R_Tx F_Tx 6, w ∈ lw_gd := fun w h => by have h1 := List.all_eq_true.mp i0_Tx w h; simp only [Bool.and_eq_true, decide_eq_true_eq] at h1; exact gd w h1.1 h1.2
def F_St : u_T := fun k => match k with
  | 0 => ("PackLists$Stock", "classes", "[I", true)
  | 1 => ("PackLists$Stock", "grams", "[I", true)
  | 2 => ("PackLists$Stock", "steps", "[I", true)
  | 3 => ("PackLists$Stock", "reasons", "[I", true)
  | 4 => ("PackLists$Stock", "awayInOrder", "[I", true)
  | 5 => ("PackLists$Stock", "bottles", "I", false)
  | 6 => ("PackLists$Stock", "turnedAway", "I", false)
  | 7 => ("PackLists$Stock", "boxGrams", "[I", true)
  | 8 => ("PackLists$Stock", "boxBottles", "[I", true)
  | 9 => ("PackLists$Stock", "absorbers", "[I", true)
  | _ => ("PackLists$Stock", "boxes", "I", false)
def t_St : Nat → FieldType := fun k => match k with
  | 0 => .array .int
  | 1 => .array .int
  | 2 => .array .int
  | 3 => .array .int
  | 4 => .array .int
  | 5 => .int
  | 6 => .int
  | 7 => .array .int
  | 8 => .array .int
  | 9 => .array .int
  | _ => .int
theorem n_St : ∀ a, a < 11 → ∀ b, b < 11 → a ≠ b → (F_St a).2.1 ≠ (F_St b).2.1 := by decide +kernel
theorem t_St_ok : ∀ k, k < 11 → parseFieldDescriptor (F_St k).2.2.1 = some (t_St k) := by decide +kernel
theorem i0_St : (u_ws R_St F_St 11).all (fun w => decide (w ∈ lw_tbl) && goodWord w) = true := by decide +kernel
theorem in_St : ∀ w ∈ u_ws R_St F_St 11, w ∈ lw_gd := fun w h => by have h1 := List.all_eq_true.mp i0_St w h; simp only [Bool.and_eq_true, decide_eq_true_eq] at h1; exact gd w h1.1 h1.2
def F_Pk : u_T := fun k => match k with
  | 0 => ("PackLists$Packer", "gramsIn", "[I", true)
  | 1 => ("PackLists$Packer", "bottlesIn", "[I", true)
  | 2 => ("PackLists$Packer", "classesIn", "[I", true)
  | 3 => ("PackLists$Packer", "queue", "[I", true)
  | 4 => ("PackLists$Packer", "waiting", "I", false)
  | 5 => ("PackLists$Packer", "tried", "[I", true)
  | 6 => ("PackLists$Packer", "best", "[I", true)
  | 7 => ("PackLists$Packer", "fewest", "I", false)
  | 8 => ("PackLists$Packer", "boxes", "[I", true)
  | _ => ("PackLists$Packer", "found", "Z", false)
def t_Pk : Nat → FieldType := fun k => match k with
  | 0 => .array .int
  | 1 => .array .int
  | 2 => .array .int
  | 3 => .array .int
  | 4 => .int
  | 5 => .array .int
  | 6 => .array .int
  | 7 => .int
  | 8 => .array .int
  | _ => .boolean
theorem n_Pk : ∀ a, a < 10 → ∀ b, b < 10 → a ≠ b → (F_Pk a).2.1 ≠ (F_Pk b).2.1 := by decide +kernel
theorem t_Pk_ok : ∀ k, k < 10 → parseFieldDescriptor (F_Pk k).2.2.1 = some (t_Pk k) := by decide +kernel
theorem i0_Pk : (u_ws R_Pk F_Pk 10).all (fun w => decide (w ∈ lw_tbl) && goodWord w) = true := by decide +kernel
theorem in_Pk : ∀ w ∈ u_ws R_Pk F_Pk 10, w ∈ lw_gd := fun w h => by have h1 := List.all_eq_true.mp i0_Pk w h; simp only [Bool.and_eq_true, decide_eq_true_eq] at h1; exact gd w h1.1 h1.2
def F_Ld : u_T := fun k => match k with
  | 0 => ("PackLists$Load", "gramsOf", "[I", true)
  | 1 => ("PackLists$Load", "inOrder", "[I", true)
  | 2 => ("PackLists$Load", "count", "I", false)
  | 3 => ("PackLists$Load", "sheet", "[I", true)
  | _ => ("PackLists$Load", "written", "I", false)
def t_Ld : Nat → FieldType := fun k => match k with
  | 0 => .array .int
  | 1 => .array .int
  | 2 => .int
  | 3 => .array .int
  | _ => .int
theorem n_Ld : ∀ a, a < 5 → ∀ b, b < 5 → a ≠ b → (F_Ld a).2.1 ≠ (F_Ld b).2.1 := by decide +kernel
theorem t_Ld_ok : ∀ k, k < 5 → parseFieldDescriptor (F_Ld k).2.2.1 = some (t_Ld k) := by decide +kernel
theorem i0_Ld : (u_ws R_Ld F_Ld 5).all (fun w => decide (w ∈ lw_tbl) && goodWord w) = true := by decide +kernel
theorem in_Ld : ∀ w ∈ u_ws R_Ld F_Ld 5, w ∈ lw_gd := fun w h => by have h1 := List.all_eq_true.mp i0_Ld w h; simp only [Bool.and_eq_true, decide_eq_true_eq] at h1; exact gd w h1.1 h1.2
def F_Rl : u_T := fun k => match k with
  | 0 => ("PackLists$Rules", "apart", "[I", true)
  | 1 => ("PackLists$Rules", "perThousand", "[I", true)
  | 2 => ("PackLists$Rules", "ranks", "[I", true)
  | 3 => ("PackLists$Rules", "codes", "[I", true)
  | 4 => ("PackLists$Rules", "markCounts", "[I", true)
  | 5 => ("PackLists$Rules", "markGrams", "[I", true)
  | 6 => ("PackLists$Rules", "markSizes", "[I", true)
  | 7 => ("PackLists$Rules", "noteCounts", "[I", true)
  | 8 => ("PackLists$Rules", "notes", "[I", true)
  | 9 => ("PackLists$Rules", "outcomes", "[I", true)
  | _ => ("PackLists$Rules", "free", "I", false)
def t_Rl : Nat → FieldType := fun k => match k with
  | 0 => .array .int
  | 1 => .array .int
  | 2 => .array .int
  | 3 => .array .int
  | 4 => .array .int
  | 5 => .array .int
  | 6 => .array .int
  | 7 => .array .int
  | 8 => .array .int
  | 9 => .array .int
  | _ => .int
theorem n_Rl : ∀ a, a < 11 → ∀ b, b < 11 → a ≠ b → (F_Rl a).2.1 ≠ (F_Rl b).2.1 := by decide +kernel
theorem t_Rl_ok : ∀ k, k < 11 → parseFieldDescriptor (F_Rl k).2.2.1 = some (t_Rl k) := by decide +kernel
theorem i0_Rl : (u_ws R_Rl F_Rl 11).all (fun w => decide (w ∈ lw_tbl) && goodWord w) = true := by decide +kernel
theorem in_Rl : ∀ w ∈ u_ws R_Rl F_Rl 11, w ∈ lw_gd := fun w h => by have h1 := List.all_eq_true.mp i0_Rl w h; simp only [Bool.and_eq_true, decide_eq_true_eq] at h1; exact gd w h1.1 h1.2
def F_Md : u_T := fun k => match k with
  | 0 => ("PackListsModel", "text", "[I", true)
  | 1 => ("PackListsModel", "size", "I", false)
  | 2 => ("PackListsModel", "apart", "[Z", true)
  | 3 => ("PackListsModel", "points", "[I", true)
  | 4 => ("PackListsModel", "ranks", "[I", true)
  | 5 => ("PackListsModel", "codes", "[I", true)
  | 6 => ("PackListsModel", "free", "I", false)
  | 7 => ("PackListsModel", "markCounts", "[I", true)
  | 8 => ("PackListsModel", "markGrams", "[I", true)
  | 9 => ("PackListsModel", "markSizes", "[I", true)
  | 10 => ("PackListsModel", "noteCounts", "[I", true)
  | 11 => ("PackListsModel", "notes", "[I", true)
  | 12 => ("PackListsModel", "leads", "[I", true)
  | 13 => ("PackListsModel", "newApart", "[Z", true)
  | 14 => ("PackListsModel", "newPoints", "[I", true)
  | 15 => ("PackListsModel", "newRanks", "[I", true)
  | 16 => ("PackListsModel", "newCodes", "[I", true)
  | 17 => ("PackListsModel", "newFree", "I", false)
  | 18 => ("PackListsModel", "newMarkCounts", "[I", true)
  | 19 => ("PackListsModel", "newMarkGrams", "[I", true)
  | 20 => ("PackListsModel", "newMarkSizes", "[I", true)
  | 21 => ("PackListsModel", "newNoteCounts", "[I", true)
  | 22 => ("PackListsModel", "newNotes", "[I", true)
  | 23 => ("PackListsModel", "newLeads", "[I", true)
  | 24 => ("PackListsModel", "bottles", "I", false)
  | 25 => ("PackListsModel", "classes", "[I", true)
  | 26 => ("PackListsModel", "grams", "[J", true)
  | 27 => ("PackListsModel", "steps", "[I", true)
  | 28 => ("PackListsModel", "out", "[Z", true)
  | 29 => ("PackListsModel", "outs", "I", false)
  | 30 => ("PackListsModel", "outRows", "[I", true)
  | 31 => ("PackListsModel", "boxes", "I", false)
  | 32 => ("PackListsModel", "mosts", "[J", true)
  | 33 => ("PackListsModel", "counts", "[I", true)
  | 34 => ("PackListsModel", "absorbers", "[J", true)
  | 35 => ("PackListsModel", "isFound", "Z", false)
  | 36 => ("PackListsModel", "isProved", "Z", false)
  | 37 => ("PackListsModel", "found", "[I", true)
  | 38 => ("PackListsModel", "way", "[I", true)
  | 39 => ("PackListsModel", "list", "[I", true)
  | 40 => ("PackListsModel", "from", "I", false)
  | 41 => ("PackListsModel", "end", "I", false)
  | 42 => ("PackListsModel", "number", "I", false)
  | 43 => ("PackListsModel", "told", "[I", true)
  | 44 => ("PackListsModel", "left", "I", false)
  | _ => ("PackListsModel", "looked", "I", false)
def t_Md : Nat → FieldType := fun k => match k with
  | 0 => .array .int
  | 1 => .int
  | 2 => .array .boolean
  | 3 => .array .int
  | 4 => .array .int
  | 5 => .array .int
  | 6 => .int
  | 7 => .array .int
  | 8 => .array .int
  | 9 => .array .int
  | 10 => .array .int
  | 11 => .array .int
  | 12 => .array .int
  | 13 => .array .boolean
  | 14 => .array .int
  | 15 => .array .int
  | 16 => .array .int
  | 17 => .int
  | 18 => .array .int
  | 19 => .array .int
  | 20 => .array .int
  | 21 => .array .int
  | 22 => .array .int
  | 23 => .array .int
  | 24 => .int
  | 25 => .array .int
  | 26 => .array .long
  | 27 => .array .int
  | 28 => .array .boolean
  | 29 => .int
  | 30 => .array .int
  | 31 => .int
  | 32 => .array .long
  | 33 => .array .int
  | 34 => .array .long
  | 35 => .boolean
  | 36 => .boolean
  | 37 => .array .int
  | 38 => .array .int
  | 39 => .array .int
  | 40 => .int
  | 41 => .int
  | 42 => .int
  | 43 => .array .int
  | 44 => .int
  | _ => .int
theorem n_Md : ∀ a, a < 46 → ∀ b, b < 46 → a ≠ b → (F_Md a).2.1 ≠ (F_Md b).2.1 := by decide +kernel
theorem t_Md_ok : ∀ k, k < 46 → parseFieldDescriptor (F_Md k).2.2.1 = some (t_Md k) := by decide +kernel
theorem i0_Md : (u_ws R_Md F_Md 46).all (fun w => decide (w ∈ lw_tbl) && goodWord w) = true := by decide +kernel
theorem in_Md : ∀ w ∈ u_ws R_Md F_Md 46, w ∈ lw_gd := fun w h => by have h1 := List.all_eq_true.mp i0_Md w h; simp only [Bool.and_eq_true, decide_eq_true_eq] at h1; exact gd w h1.1 h1.2
abbrev vwCl : List vw_C := [(R_PL, F_PL, 7), (R_Tx, F_Tx, 6), (R_St, F_St, 11), (R_Pk, F_Pk, 10), (R_Ld, F_Ld, 5), (R_Rl, F_Rl, 11), (R_Md, F_Md, 46)]
abbrev b_PL_init : ByteArray := prog_1_method_1_code
def y_PL_init : MethodName := ⟨R_PL, "<init>", "()V"⟩
abbrev b_Tx_init : ByteArray := prog_8_method_1_code
def y_Tx_init : MethodName := ⟨R_Tx, "<init>", "()V"⟩
abbrev b_St_init : ByteArray := prog_7_method_1_code
def y_St_init : MethodName := ⟨R_St, "<init>", "()V"⟩
abbrev b_Pk_init : ByteArray := prog_5_method_1_code
def y_Pk_init : MethodName := ⟨R_Pk, "<init>", "()V"⟩
abbrev b_Ar_fill : ByteArray := prog_17_method_103_code
def y_Ar_fill : MethodName := ⟨R_Ar, "fill", "([II)V"⟩
abbrev b_Ld_init : ByteArray := prog_4_method_1_code
def y_Ld_init : MethodName := ⟨R_Ld, "<init>", "()V"⟩
abbrev b_Rl_init : ByteArray := prog_6_method_1_code
def y_Rl_init : MethodName := ⟨R_Rl, "<init>", "()V"⟩
abbrev b_PL_unit : ByteArray := prog_1_method_2_code
def y_PL_unit : MethodName := ⟨R_PL, "unit", "(I)Z"⟩
abbrev b_Tx_takeByte : ByteArray := prog_8_method_2_code
def y_Tx_takeByte : MethodName := ⟨R_Tx, "takeByte", "(I)Z"⟩
abbrev b_PL_rules : ByteArray := prog_1_method_3_code
def y_PL_rules : MethodName := ⟨R_PL, "rules", "()I"⟩
abbrev b_Rl_forget : ByteArray := prog_6_method_2_code
def y_Rl_forget : MethodName := ⟨R_Rl, "forget", "()V"⟩
abbrev b_Tx_read : ByteArray := prog_8_method_4_code
def y_Tx_read : MethodName := ⟨R_Tx, "read", "(LPackLists$Rules;)I"⟩
abbrev b_Tx_takeWord : ByteArray := prog_8_method_5_code
def y_Tx_takeWord : MethodName := ⟨R_Tx, "takeWord", "(IILPackLists$Rules;)Z"⟩
abbrev b_Tx_kindOf : ByteArray := prog_8_method_8_code
def y_Tx_kindOf : MethodName := ⟨R_Tx, "kindOf", "(II)LPackLists$Kind;"⟩
abbrev b_Tx_isWord : ByteArray := prog_8_method_9_code
def y_Tx_isWord : MethodName := ⟨R_Tx, "isWord", "(Ljava/lang/String;II)Z"⟩
abbrev b_Sg_length : ByteArray := prog_13_method_54_code
def y_Sg_length : MethodName := ⟨R_Sg, "length", "()I"⟩
abbrev b_Sg_coder : ByteArray := prog_13_method_152_code
def y_Sg_coder : MethodName := ⟨R_Sg, "coder", "()B"⟩
abbrev b_Sg_charAt : ByteArray := prog_13_method_56_code
def y_Sg_charAt : MethodName := ⟨R_Sg, "charAt", "(I)C"⟩
abbrev b_Sg_isLatin1 : ByteArray := prog_13_method_154_code
def y_Sg_isLatin1 : MethodName := ⟨R_Sg, "isLatin1", "()Z"⟩
abbrev b_S1_charAt : ByteArray := prog_14_method_2_code
def y_S1_charAt : MethodName := ⟨R_S1, "charAt", "([BI)C"⟩
abbrev b_Sg_checkIndex : ByteArray := prog_13_method_155_code
def y_Sg_checkIndex : MethodName := ⟨R_Sg, "checkIndex", "(II)V"⟩
abbrev b_Pc_checkIndex : ByteArray := prog_18_method_11_code
def y_Pc_checkIndex : MethodName := ⟨R_Pc, "checkIndex", "(IILjava/util/function/BiFunction;)I"⟩
abbrev b_S2_charAt : ByteArray := prog_15_method_83_code
def y_S2_charAt : MethodName := ⟨R_S2, "charAt", "([BI)C"⟩
abbrev b_S2_checkIndex : ByteArray := prog_15_method_91_code
def y_S2_checkIndex : MethodName := ⟨R_S2, "checkIndex", "(I[B)V"⟩
abbrev b_S2_length : ByteArray := prog_15_method_6_code
def y_S2_length : MethodName := ⟨R_S2, "length", "([B)I"⟩
abbrev b_S2_getChar : ByteArray := prog_15_method_5_code
def y_S2_getChar : MethodName := ⟨R_S2, "getChar", "([BI)C"⟩
abbrev b_Tx_numberOf : ByteArray := prog_8_method_10_code
def y_Tx_numberOf : MethodName := ⟨R_Tx, "numberOf", "(II)I"⟩
abbrev b_Tx_takeNumber : ByteArray := prog_8_method_6_code
def y_Tx_takeNumber : MethodName := ⟨R_Tx, "takeNumber", "(ILPackLists$Rules;)Z"⟩
abbrev b_Tx_canStand : ByteArray := prog_8_method_7_code
def y_Tx_canStand : MethodName := ⟨R_Tx, "canStand", "(ILPackLists$Rules;)Z"⟩
abbrev b_Kd_least : ByteArray := prog_3_method_5_code
def y_Kd_least : MethodName := ⟨R_Kd, "least", "(I)I"⟩
abbrev b_Kd_most : ByteArray := prog_3_method_4_code
def y_Kd_most : MethodName := ⟨R_Kd, "most", "(I)I"⟩
abbrev b_Rl_hasRoomForNote : ByteArray := prog_6_method_4_code
def y_Rl_hasRoomForNote : MethodName := ⟨R_Rl, "hasRoomForNote", "(I)Z"⟩
abbrev b_Rl_hasRoomForMark : ByteArray := prog_6_method_5_code
def y_Rl_hasRoomForMark : MethodName := ⟨R_Rl, "hasRoomForMark", "(II)Z"⟩
abbrev b_Rl_placeOfMark : ByteArray := prog_6_method_6_code
def y_Rl_placeOfMark : MethodName := ⟨R_Rl, "placeOfMark", "(II)I"⟩
abbrev b_Rl_learn : ByteArray := prog_6_method_3_code
def y_Rl_learn : MethodName := ⟨R_Rl, "learn", "(LPackLists$Kind;III)V"⟩
abbrev b_En_ordinal : ByteArray := prog_11_method_2_code
def y_En_ordinal : MethodName := ⟨R_En, "ordinal", "()I"⟩
abbrev b_Rl_setMark : ByteArray := prog_6_method_7_code
def y_Rl_setMark : MethodName := ⟨R_Rl, "setMark", "(III)V"⟩
abbrev b_Ma_max : ByteArray := prog_12_method_65_code
def y_Ma_max : MethodName := ⟨R_Ma, "max", "(II)I"⟩
abbrev b_Rl_addNote : ByteArray := prog_6_method_8_code
def y_Rl_addNote : MethodName := ⟨R_Rl, "addNote", "(II)V"⟩
abbrev b_Tx_clear : ByteArray := prog_8_method_3_code
def y_Tx_clear : MethodName := ⟨R_Tx, "clear", "()V"⟩
abbrev b_PL_bottle : ByteArray := prog_1_method_4_code
def y_PL_bottle : MethodName := ⟨R_PL, "bottle", "(IJ)I"⟩
abbrev b_PL_isClass : ByteArray := prog_1_method_22_code
def y_PL_isClass : MethodName := ⟨R_PL, "isClass", "(I)Z"⟩
abbrev b_St_addBottle : ByteArray := prog_7_method_6_code
def y_St_addBottle : MethodName := ⟨R_St, "addBottle", "(II)I"⟩
abbrev b_PL_box : ByteArray := prog_1_method_5_code
def y_PL_box : MethodName := ⟨R_PL, "box", "(IJI)I"⟩
abbrev b_PL_isBoxGrams : ByteArray := prog_1_method_23_code
def y_PL_isBoxGrams : MethodName := ⟨R_PL, "isBoxGrams", "(J)Z"⟩
abbrev b_St_addBox : ByteArray := prog_7_method_7_code
def y_St_addBox : MethodName := ⟨R_St, "addBox", "(II)I"⟩
abbrev b_PL_absorber : ByteArray := prog_1_method_6_code
def y_PL_absorber : MethodName := ⟨R_PL, "absorber", "(IJ)Z"⟩
abbrev b_St_hasBox : ByteArray := prog_7_method_3_code
def y_St_hasBox : MethodName := ⟨R_St, "hasBox", "(I)Z"⟩
abbrev b_PL_pack : ByteArray := prog_1_method_7_code
def y_PL_pack : MethodName := ⟨R_PL, "pack", "(J)I"⟩
abbrev b_Pk_search : ByteArray := prog_5_method_2_code
def y_Pk_search : MethodName := ⟨R_Pk, "search", "(LPackLists$Stock;LPackLists$Rules;J)I"⟩
abbrev b_Pk_lineUp : ByteArray := prog_5_method_4_code
def y_Pk_lineUp : MethodName := ⟨R_Pk, "lineUp", "(LPackLists$Stock;)V"⟩
abbrev b_St_isToBePacked : ByteArray := prog_7_method_5_code
def y_St_isToBePacked : MethodName := ⟨R_St, "isToBePacked", "(I)Z"⟩
abbrev b_St_isRefused : ByteArray := prog_7_method_4_code
def y_St_isRefused : MethodName := ⟨R_St, "isRefused", "(I)Z"⟩
abbrev b_Pk_countWays : ByteArray := prog_5_method_5_code
def y_Pk_countWays : MethodName := ⟨R_Pk, "countWays", "(I)J"⟩
abbrev b_Pk_emptyBoxes : ByteArray := prog_5_method_6_code
def y_Pk_emptyBoxes : MethodName := ⟨R_Pk, "emptyBoxes", "()V"⟩
abbrev b_Pk_eachFitsAlone : ByteArray := prog_5_method_7_code
def y_Pk_eachFitsAlone : MethodName := ⟨R_Pk, "eachFitsAlone", "(LPackLists$Stock;LPackLists$Rules;)Z"⟩
abbrev b_Pk_fits : ByteArray := prog_5_method_9_code
def y_Pk_fits : MethodName := ⟨R_Pk, "fits", "(LPackLists$Stock;LPackLists$Rules;II)Z"⟩
abbrev b_Pk_place : ByteArray := prog_5_method_8_code
def y_Pk_place : MethodName := ⟨R_Pk, "place", "(LPackLists$Packer;LPackLists$Stock;LPackLists$Rules;II)V"⟩
abbrev b_Pk_putIn : ByteArray := prog_5_method_10_code
def y_Pk_putIn : MethodName := ⟨R_Pk, "putIn", "(LPackLists$Stock;II)V"⟩
abbrev b_Pk_takeOut : ByteArray := prog_5_method_11_code
def y_Pk_takeOut : MethodName := ⟨R_Pk, "takeOut", "(LPackLists$Stock;III)V"⟩
abbrev b_PL_boxOf : ByteArray := prog_1_method_8_code
def y_PL_boxOf : MethodName := ⟨R_PL, "boxOf", "(I)I"⟩
abbrev b_St_hasBottle : ByteArray := prog_7_method_2_code
def y_St_hasBottle : MethodName := ⟨R_St, "hasBottle", "(I)Z"⟩
abbrev b_PL_proved : ByteArray := prog_1_method_9_code
def y_PL_proved : MethodName := ⟨R_PL, "proved", "()Z"⟩
abbrev b_PL_kept : ByteArray := prog_1_method_10_code
def y_PL_kept : MethodName := ⟨R_PL, "kept", "()Z"⟩
abbrev b_Pk_stillHolds : ByteArray := prog_5_method_3_code
def y_Pk_stillHolds : MethodName := ⟨R_Pk, "stillHolds", "(LPackLists$Stock;LPackLists$Rules;)Z"⟩
abbrev b_PL_points : ByteArray := prog_1_method_11_code
def y_PL_points : MethodName := ⟨R_PL, "points", "()J"⟩
abbrev b_Ld_gather : ByteArray := prog_4_method_2_code
def y_Ld_gather : MethodName := ⟨R_Ld, "gather", "(LPackLists$Stock;[I)V"⟩
abbrev b_Ld_pointsOfAll : ByteArray := prog_4_method_6_code
def y_Ld_pointsOfAll : MethodName := ⟨R_Ld, "pointsOfAll", "(LPackLists$Rules;)J"⟩
abbrev b_Ld_pointsOfClass : ByteArray := prog_4_method_5_code
def y_Ld_pointsOfClass : MethodName := ⟨R_Ld, "pointsOfClass", "(LPackLists$Rules;I)I"⟩
abbrev b_PL_exempt : ByteArray := prog_1_method_12_code
def y_PL_exempt : MethodName := ⟨R_PL, "exempt", "()Z"⟩
abbrev b_Ld_isFree : ByteArray := prog_4_method_7_code
def y_Ld_isFree : MethodName := ⟨R_Ld, "isFree", "(LPackLists$Rules;)Z"⟩
abbrev b_PL_name : ByteArray := prog_1_method_13_code
def y_PL_name : MethodName := ⟨R_PL, "name", "(I)I"⟩
abbrev b_Ld_sort : ByteArray := prog_4_method_3_code
def y_Ld_sort : MethodName := ⟨R_Ld, "sort", "(LPackLists$Rules;)V"⟩
abbrev b_Ld_insert : ByteArray := prog_4_method_4_code
def y_Ld_insert : MethodName := ⟨R_Ld, "insert", "(LPackLists$Rules;I)V"⟩
abbrev b_PL_order : ByteArray := prog_1_method_14_code
def y_PL_order : MethodName := ⟨R_PL, "order", "(I)I"⟩
abbrev b_Ld_bottleAt : ByteArray := prog_4_method_9_code
def y_Ld_bottleAt : MethodName := ⟨R_Ld, "bottleAt", "(LPackLists$Stock;[II)I"⟩
abbrev b_PL_paper : ByteArray := prog_1_method_15_code
def y_PL_paper : MethodName := ⟨R_PL, "paper", "(I)I"⟩
abbrev b_Ld_write : ByteArray := prog_4_method_10_code
def y_Ld_write : MethodName := ⟨R_Ld, "write", "(LPackLists$Rules;)V"⟩
abbrev b_Ld_writeDecimals : ByteArray := prog_4_method_11_code
def y_Ld_writeDecimals : MethodName := ⟨R_Ld, "writeDecimals", "(I)V"⟩
abbrev b_Ld_writeByte : ByteArray := prog_4_method_12_code
def y_Ld_writeByte : MethodName := ⟨R_Ld, "writeByte", "(I)V"⟩
abbrev b_PL_mark : ByteArray := prog_1_method_16_code
def y_PL_mark : MethodName := ⟨R_PL, "mark", "(I)I"⟩
abbrev b_Rl_markSize : ByteArray := prog_6_method_9_code
def y_Rl_markSize : MethodName := ⟨R_Rl, "markSize", "(II)I"⟩
abbrev b_PL_tunnel : ByteArray := prog_1_method_17_code
def y_PL_tunnel : MethodName := ⟨R_PL, "tunnel", "()I"⟩
abbrev b_Ld_greatestCode : ByteArray := prog_4_method_8_code
def y_Ld_greatestCode : MethodName := ⟨R_Ld, "greatestCode", "(LPackLists$Rules;)I"⟩
abbrev b_PL_note : ByteArray := prog_1_method_18_code
def y_PL_note : MethodName := ⟨R_PL, "note", "(II)I"⟩
abbrev b_Rl_noteAt : ByteArray := prog_6_method_10_code
def y_Rl_noteAt : MethodName := ⟨R_Rl, "noteAt", "(II)I"⟩
abbrev b_PL_refuse : ByteArray := prog_1_method_19_code
def y_PL_refuse : MethodName := ⟨R_PL, "refuse", "(II)I"⟩
abbrev b_St_turnAway : ByteArray := prog_7_method_8_code
def y_St_turnAway : MethodName := ⟨R_St, "turnAway", "(II)I"⟩
abbrev b_PL_refused : ByteArray := prog_1_method_20_code
def y_PL_refused : MethodName := ⟨R_PL, "refused", "(I)I"⟩
abbrev b_PL_test : ByteArray := prog_1_method_21_code
def y_PL_test : MethodName := ⟨R_PL, "test", "(III)I"⟩
abbrev b_Rl_outcomeOf : ByteArray := prog_6_method_11_code
def y_Rl_outcomeOf : MethodName := ⟨R_Rl, "outcomeOf", "(II)I"⟩
abbrev b_St_learn : ByteArray := prog_7_method_9_code
def y_St_learn : MethodName := ⟨R_St, "learn", "(II)I"⟩
abbrev b_Md_init : ByteArray := prog_10_method_1_code
def y_Md_init : MethodName := ⟨R_Md, "<init>", "()V"⟩
abbrev b_Md_clearNew : ByteArray := prog_10_method_7_code
def y_Md_clearNew : MethodName := ⟨R_Md, "clearNew", "()V"⟩
abbrev b_Md_take : ByteArray := prog_10_method_8_code
def y_Md_take : MethodName := ⟨R_Md, "take", "()V"⟩
abbrev b_Md_unit : ByteArray := prog_10_method_5_code
def y_Md_unit : MethodName := ⟨R_Md, "unit", "(I)Z"⟩
abbrev b_Md_isIn : ByteArray := prog_10_method_3_code
def y_Md_isIn : MethodName := ⟨R_Md, "isIn", "(JJJ)Z"⟩
abbrev b_Md_rules : ByteArray := prog_10_method_19_code
def y_Md_rules : MethodName := ⟨R_Md, "rules", "()I"⟩
abbrev b_Md_next : ByteArray := prog_10_method_9_code
def y_Md_next : MethodName := ⟨R_Md, "next", "()Z"⟩
abbrev b_Md_isBlank : ByteArray := prog_10_method_6_code
def y_Md_isBlank : MethodName := ⟨R_Md, "isBlank", "(I)Z"⟩
abbrev b_Md_sentence : ByteArray := prog_10_method_12_code
def y_Md_sentence : MethodName := ⟨R_Md, "sentence", "()I"⟩
abbrev b_Md_is : ByteArray := prog_10_method_10_code
def y_Md_is : MethodName := ⟨R_Md, "is", "(J)Z"⟩
abbrev b_Md_hasRoom : ByteArray := prog_10_method_17_code
def y_Md_hasRoom : MethodName := ⟨R_Md, "hasRoom", "()Z"⟩
abbrev b_Md_parts : ByteArray := prog_10_method_13_code
def y_Md_parts : MethodName := ⟨R_Md, "parts", "(I)I"⟩
abbrev b_Md_numberAt : ByteArray := prog_10_method_11_code
def y_Md_numberAt : MethodName := ⟨R_Md, "numberAt", "()I"⟩
abbrev b_Md_least : ByteArray := prog_10_method_14_code
def y_Md_least : MethodName := ⟨R_Md, "least", "(II)I"⟩
abbrev b_Md_greatest : ByteArray := prog_10_method_15_code
def y_Md_greatest : MethodName := ⟨R_Md, "greatest", "(II)I"⟩
abbrev b_Md_markOf : ByteArray := prog_10_method_16_code
def y_Md_markOf : MethodName := ⟨R_Md, "markOf", "(II)I"⟩
abbrev b_Md_tell : ByteArray := prog_10_method_18_code
def y_Md_tell : MethodName := ⟨R_Md, "tell", "(IIII)V"⟩
abbrev b_Md_bottle : ByteArray := prog_10_method_20_code
def y_Md_bottle : MethodName := ⟨R_Md, "bottle", "(IJ)I"⟩
abbrev b_Md_box : ByteArray := prog_10_method_21_code
def y_Md_box : MethodName := ⟨R_Md, "box", "(IJI)I"⟩
abbrev b_Md_absorber : ByteArray := prog_10_method_22_code
def y_Md_absorber : MethodName := ⟨R_Md, "absorber", "(IJ)Z"⟩
abbrev b_Md_refuse : ByteArray := prog_10_method_23_code
def y_Md_refuse : MethodName := ⟨R_Md, "refuse", "(II)I"⟩
abbrev b_Md_isBottle : ByteArray := prog_10_method_4_code
def y_Md_isBottle : MethodName := ⟨R_Md, "isBottle", "(I)Z"⟩
abbrev b_Md_refused : ByteArray := prog_10_method_24_code
def y_Md_refused : MethodName := ⟨R_Md, "refused", "(I)I"⟩
abbrev b_Md_test : ByteArray := prog_10_method_25_code
def y_Md_test : MethodName := ⟨R_Md, "test", "(III)I"⟩
abbrev b_Md_pack : ByteArray := prog_10_method_30_code
def y_Md_pack : MethodName := ⟨R_Md, "pack", "(J)I"⟩
abbrev b_Md_isToBePacked : ByteArray := prog_10_method_26_code
def y_Md_isToBePacked : MethodName := ⟨R_Md, "isToBePacked", "(I)Z"⟩
abbrev b_Md_used : ByteArray := prog_10_method_28_code
def y_Md_used : MethodName := ⟨R_Md, "used", "([I)I"⟩
abbrev b_Md_keeps : ByteArray := prog_10_method_27_code
def y_Md_keeps : MethodName := ⟨R_Md, "keeps", "([I)Z"⟩
abbrev b_Md_turn : ByteArray := prog_10_method_29_code
def y_Md_turn : MethodName := ⟨R_Md, "turn", "(I)Z"⟩
abbrev b_Md_boxOf : ByteArray := prog_10_method_31_code
def y_Md_boxOf : MethodName := ⟨R_Md, "boxOf", "(I)I"⟩
abbrev b_Md_proved : ByteArray := prog_10_method_32_code
def y_Md_proved : MethodName := ⟨R_Md, "proved", "()Z"⟩
abbrev b_Md_kept : ByteArray := prog_10_method_33_code
def y_Md_kept : MethodName := ⟨R_Md, "kept", "()Z"⟩
abbrev b_Md_points : ByteArray := prog_10_method_37_code
def y_Md_points : MethodName := ⟨R_Md, "points", "()J"⟩
abbrev b_Md_pointsOf : ByteArray := prog_10_method_36_code
def y_Md_pointsOf : MethodName := ⟨R_Md, "pointsOf", "(I)J"⟩
abbrev b_Md_gramsOf : ByteArray := prog_10_method_35_code
def y_Md_gramsOf : MethodName := ⟨R_Md, "gramsOf", "(I)J"⟩
abbrev b_Md_isLoaded : ByteArray := prog_10_method_34_code
def y_Md_isLoaded : MethodName := ⟨R_Md, "isLoaded", "(I)Z"⟩
abbrev b_Md_exempt : ByteArray := prog_10_method_38_code
def y_Md_exempt : MethodName := ⟨R_Md, "exempt", "()Z"⟩
abbrev b_Md_name : ByteArray := prog_10_method_40_code
def y_Md_name : MethodName := ⟨R_Md, "name", "(I)I"⟩
abbrev b_Md_placeOf : ByteArray := prog_10_method_39_code
def y_Md_placeOf : MethodName := ⟨R_Md, "placeOf", "(I)I"⟩
abbrev b_Md_order : ByteArray := prog_10_method_41_code
def y_Md_order : MethodName := ⟨R_Md, "order", "(I)I"⟩
abbrev b_Md_paper : ByteArray := prog_10_method_44_code
def y_Md_paper : MethodName := ⟨R_Md, "paper", "(I)I"⟩
abbrev b_Md_putNumber : ByteArray := prog_10_method_43_code
def y_Md_putNumber : MethodName := ⟨R_Md, "putNumber", "(J)V"⟩
abbrev b_Md_put : ByteArray := prog_10_method_42_code
def y_Md_put : MethodName := ⟨R_Md, "put", "(I)V"⟩
abbrev b_Md_mark : ByteArray := prog_10_method_45_code
def y_Md_mark : MethodName := ⟨R_Md, "mark", "(I)I"⟩
abbrev b_Md_tunnel : ByteArray := prog_10_method_46_code
def y_Md_tunnel : MethodName := ⟨R_Md, "tunnel", "()I"⟩
abbrev b_Md_note : ByteArray := prog_10_method_47_code
def y_Md_note : MethodName := ⟨R_Md, "note", "(II)I"⟩
theorem in_objI : Cond.instanceMethod Lib.objectInit ∈ lw_gd := (gd _ (tb0 _ (List.mem_of_getElem? (i := 24) rfl)) rfl)
theorem in_objC : Cond.code Lib.objectInit ⟨#[0xb1]⟩ 1 none ∈ lw_gd := (gd _ (tb0 _ (List.mem_of_getElem? (i := 25) rfl)) rfl)
theorem in_mmaxS : Cond.static Lib.Math.max.name ∈ lw_gd := (gd _ (tb1 _ (List.mem_of_getElem? (i := 145) rfl)) rfl)
theorem in_mI : Cond.initialized "java/lang/Math" ∈ lw_gd := (gd _ (tb0 _ (List.mem_of_getElem? (i := 16) rfl)) rfl)
theorem in_mmaxC : Cond.code Lib.Math.max.name Lib.Math.max.code 2 (some .int) ∈ lw_gd := (gd _ (tb1 _ (List.mem_of_getElem? (i := 146) rfl)) rfl)
theorem in_cpN : Cond.native arraycopyName ∈ lw_gd := (gd _ (tb1 _ (List.mem_of_getElem? (i := 229) rfl)) rfl)
theorem in_cpS : Cond.static arraycopyName ∈ lw_gd := (gd _ (tb1 _ (List.mem_of_getElem? (i := 228) rfl)) rfl)
theorem in_cpI : Cond.initialized "java/lang/System" ∈ lw_gd := (gd _ (tb0 _ (List.mem_of_getElem? (i := 17) rfl)) rfl)
theorem in_aint : Cond.arrayClass .int ∈ lw_gd := (gd _ (tb0 _ (List.mem_of_getElem? (i := 51) rfl)) rfl)
theorem in_aboolean : Cond.arrayClass .boolean ∈ lw_gd := (gd _ (tb3 _ (List.mem_of_getElem? (i := 42) rfl)) rfl)
theorem in_along : Cond.arrayClass .long ∈ lw_gd := (gd _ (tb3 _ (List.mem_of_getElem? (i := 43) rfl)) rfl)
end
section
/-! the layer wk: a goal holds the world, the place, the locals and the stack as data; a row an instruction -/
/-- the things that a world's frame keeps: closed under moves of the tables, under writes elsewhere, and for fewer free cells -/
def wk_ok (gx : (Nat → Prop) → State → Heap → Prop) : Prop := ((∀ (A : Nat → Prop) (u U : State) (H : Heap), u.WarmedH U.vm → gx A u H → gx A U H) ∧ (∀ (A : Nat → Prop) (u U : State) (H : Heap), U.vm = u.vm → gx A u H → gx A U H)) ∧ (∀ (A : Nat → Prop) (U : State) (H H1 : Heap), gx A U H → (∀ a : Nat, a < H.size → ¬ A a → H1[a]? = H[a]?) → gx A U H1) ∧ (∀ (A B : Nat → Prop) (U : State) (H : Heap), gx A U H → (∀ q, B q → A q) → gx B U H)
abbrev wk_S (p : Program) (s : State) (m : MethodId) (args : Array Value) (c : Code) (D : va_G) (A : Nat → Prop) (nL : Nat) (cc : ByteArray) (own : String) (tys : List (ClassId × FieldType)) (gx : (Nat → Prop) → State → Heap → Prop) : Prop :=
  CallFix p m c cc nL s args lw_gd own ∧ va_K D vwCl tys s ∧ (∀ q, s.heap.size ≤ q → A q) ∧ gx A s s.heap ∧ wk_ok gx
def wk_G (p : Program) (l : Launch) (e : Env) (R : Room) (s : State) (m : MethodId) (args : Array Value) (below : List Frame) (meth : Method) (c : Code) (Q : State → Prop) (D : va_G) (A : Nat → Prop) (nL cells slots : Nat) (ws : va_W) (pc : Nat) (lv : List (Nat × Value)) (st : List Value) : Prop :=
  ∀ (H : Heap) (locs : List Loc) (ls : Array Slot), va_P D vwCl ws H → va_D A ws → va_S A s.heap H locs → lv_has ls nL lv → W p l e R s m args below meth c H locs cells slots Q (F0 m pc ls st)
/-- a contract's end, any kind of answer -/
def wk_Q {ρ τ : Type} (inj : ρ → Option Value) (post : ρ → τ → Prop) (B : τ → State → Prop) (A : Nat → Prop) : Array Value → State → Outcome → State → Prop := fun _ st oc t => (∃ (r : ρ) (u : τ), oc = .returned (inj r) ∧ post r u ∧ B u t) ∧ va_F A st t
def wk_B {τ : Type} (D : va_G) (tys : List (ClassId × FieldType)) (w' : τ → va_W) (A : Nat → Prop) : τ → State → Prop := fun u t => va_P D vwCl (w' u) t.heap ∧ va_K D vwCl tys t ∧ va_D A (w' u)
def wk_Pc (D : va_G) (tys : List (ClassId × FieldType)) (gx : (Nat → Prop) → State → Heap → Prop) (as : List Value) (w : va_W) (sz : Nat) : Array Value → State → Prop := va_Pc as (fun U => U.heap.size = sz ∧ va_P D vwCl w U.heap ∧ va_K D vwCl tys U ∧ va_D (fun _ => True) w ∧ gx (va_A w sz) U U.heap)
/-- a method's contract: from the world w to the world w' u, with an answer r, so that post r u -/
def wk_C {ρ τ : Type} (l : Launch) (D : va_G) (tys : List (ClassId × FieldType)) (gx : (Nat → Prop) → State → Heap → Prop) (y : MethodName) (code : ByteArray) (maxL : Nat) (ret : Option FieldType) (fr lo mc ms : Nat) (as : List Value) (w : va_W) (inj : ρ → Option Value) (post : ρ → τ → Prop) (w' : τ → va_W) : Prop :=
  ∀ sz : Nat, Met l y (Cond.code y code maxL ret :: lw_gd) { frames := fr, cells := mc, slots := ms, locals := lo } (wk_Pc D tys gx as w sz) (wk_Q inj post (wk_B D tys w' (va_A w sz)) (va_A w sz)) mc ms (va_A w sz)
abbrev wk_i : Int32 → Option Value := fun r => some (.int r)
abbrev wk_l : Int64 → Option Value := fun r => some (.long r)
abbrev wk_v : Unit → Option Value := fun _ => none
abbrev wk_r : Nat → Option Value := fun r => some (.ref r)
/-- the words of a call -/
abbrev wk_V (own : String) (idx : Nat) (C : String) (y : MethodName) (code : ByteArray) (maxL : Nat) (ret : Option FieldType) (n : Nat) : Prop :=
  Cond.code y code maxL ret ∈ lw_gd ∧ Cond.initialized y.cls ∈ lw_gd ∧ Cond.methodLink own idx y ∈ lw_gd ∧ (y.cls ≠ "java/lang/invoke/MethodHandle" ∧ y.cls ≠ "java/lang/invoke/VarHandle" ∧ (parseMethodDescriptor y.desc).map (fun d => d.parameters.length) = some n) ∧ Cond.instanceMethod y ∈ lw_gd ∧ Cond.selects C y y ∈ lw_gd
abbrev wk_T (own : String) (idx : Nat) (y : MethodName) (code : ByteArray) (maxL : Nat) (ret : Option FieldType) (n : Nat) : Prop :=
  Cond.code y code maxL ret ∈ lw_gd ∧ Cond.initialized y.cls ∈ lw_gd ∧ Cond.methodLink own idx y ∈ lw_gd ∧ (y.cls ≠ "java/lang/invoke/MethodHandle" ∧ y.cls ≠ "java/lang/invoke/VarHandle" ∧ (parseMethodDescriptor y.desc).map (fun d => d.parameters.length) = some n) ∧ Cond.static y ∈ lw_gd
abbrev wk_N (own : String) (idx : Nat) (y : MethodName) (code : ByteArray) (maxL : Nat) (n : Nat) : Prop :=
  Cond.code y code maxL none ∈ lw_gd ∧ Cond.initialized y.cls ∈ lw_gd ∧ Cond.methodLink own idx y ∈ lw_gd ∧ (y.cls ≠ "java/lang/invoke/MethodHandle" ∧ y.cls ≠ "java/lang/invoke/VarHandle" ∧ (parseMethodDescriptor y.desc).map (fun d => d.parameters.length) = some n) ∧ Cond.instanceMethod y ∈ lw_gd ∧ y.name = "<init>"
abbrev wk_NN (own : String) (idx : Nat) (y : MethodName) (code : ByteArray) (maxL : Nat) (host : String) (n : Nat) : Prop :=
  Cond.code y code maxL none ∈ lw_gd ∧ Cond.initialized y.cls ∈ lw_gd ∧ (own = own ∧ idx = idx ∧ host = host) ∧ (y.cls ≠ "java/lang/invoke/MethodHandle" ∧ y.cls ≠ "java/lang/invoke/VarHandle" ∧ (parseMethodDescriptor y.desc).map (fun d => d.parameters.length) = some n) ∧ Cond.instanceMethod y ∈ lw_gd ∧ y.name = "<init>"
theorem wk_good {y : MethodName} {code : ByteArray} {maxL : Nat} {ret : Option FieldType} (h : Cond.code y code maxL ret ∈ lw_gd) : GoodIn lw_gd (Cond.code y code maxL ret :: lw_gd) := fun w hw => by
  rcases List.mem_cons.mp hw with rfl | hw
  · exact ⟨h, lw_allgood _ h⟩
  · exact ⟨hw, lw_allgood _ hw⟩
theorem wk_blind {D : va_G} {tys : List (ClassId × FieldType)} {gx : (Nat → Prop) → State → Heap → Prop} (hg : wk_ok gx) {as : List Value} {w : va_W} {sz : Nat} : FrameBlind (wk_Pc D tys gx as w sz) := fun a U g mk q => by
  obtain ⟨q0, q1, qP, qK, qD, qX⟩ := q
  exact ⟨q0, q1, qP, va_K.moved (u := U) (U := U.calling g mk a) (Vm.Alike.refl U.vm) qK, qD, hg.1.2 _ U (U.calling g mk a) _ rfl qX⟩
set_option maxHeartbeats 4000000 in
/-- a method's beginning -/
theorem wk_meth {ρ τ : Type} {l : Launch} {D : va_G} {tys : List (ClassId × FieldType)} {gx : (Nat → Prop) → State → Heap → Prop} {y : MethodName} {code : ByteArray} {maxL : Nat} {ret : Option FieldType} {fr lo mc ms : Nat} {as : List Value} {w : va_W} {inj : ρ → Option Value} {post : ρ → τ → Prop} {w' : τ → va_W} {own : String} (lv0 : List (Nat × Value))
    (hy : plainName y.cls = true) (ho : y.cls = own) (hlen : (lg_sl as).length ≤ maxL) (hlv : lv_args 0 as = lv0) (hg : wk_ok gx)
    (body : ∀ (p : Program) (e : Env) (R : Room) (s : State) (m : MethodId) (args : Array Value) (below : List Frame) (meth : Method) (c : Code) (Q : State → Prop) (A : Nat → Prop), R = { frames := fr, cells := mc, slots := ms, locals := lo } → Q = MQ below (wk_Q inj post (wk_B D tys w' A) A) args s mc ms A → wk_S p s m args c D A maxL code own tys gx → meth.sig.returnType = ret → meth.locks = false → meth.name = y.name →
      wk_G p l e R s m args below meth c Q D A maxL 0 0 w 0 lv0 []) :
    wk_C l D tys gx y code maxL ret fr lo mc ms as w inj post w' := by
  intro sz
  refine Met.ofW (cc := code) (maxL := maxL) (ret := ret) hy rfl ?_
  intro p e s m args below meth c s₁ B hml hv
  obtain ⟨rfl, hsz, hP, hK, hD0, hX⟩ := hv
  subst hsz
  have hts := atoms_spec (ws := Cond.code y code maxL ret :: lw_gd) B.pre
  have hown : s.vm.findClass own = some m.cls := by rw [← ho]; exact findClass_of_methodNamed B.named
  have hl := lv_entry as (n := maxL) hlen
  rw [lg_entry_eq]
  rw [hlv] at hl
  exact body p e _ s m as.toArray below meth c _ (va_A w s.heap.size) rfl rfl ⟨⟨B.exec, B.bytes, hml, hown, fun w h => hts w (List.mem_cons_of_mem _ h)⟩, hK, fun q h => Or.inr h, hX, hg⟩ B.returns B.notSynchronized (name_of_methodNamed B.named B.method).1 s.heap [] _ hP hD0.self va_S.rf hl
section WK
variable {p : Program} {l : Launch} {e : Env} {R : Room} {s : State} {m : MethodId} {args : Array Value} {below : List Frame} {meth : Method} {c : Code} {Q : State → Prop} {D : va_G} {A : Nat → Prop} {nL cells slots : Nat}
variable {cc : ByteArray} {own : String} {tys : List (ClassId × FieldType)} {gx : (Nat → Prop) → State → Heap → Prop}
variable {ws ws' : va_W} {pc : Nat} {lv lv' : List (Nat × Value)} {rest st0 : List Value} {a : Nat}
theorem wk_iconst (S : wk_S p s m args c D A nL cc own tys gx) {n : Int} {v : Int32} (hdg : decode cc pc = .ok (.iconst n, 1)) (hv : Int32.ofInt n = v) (kk : wk_G p l e R s m args below meth c Q D A nL cells slots ws (pc + 1) lv (.int v :: rest)) : wk_G p l e R s m args below meth c Q D A nL cells slots ws (pc) lv (rest) := fun H locs ls hP hD hS hl => lv_iconst S.1.1 S.1.2.1 hdg hv (kk H locs ls hP hD hS hl)
theorem wk_bipush (S : wk_S p s m args c D A nL cc own tys gx) {n : Int} {v : Int32} (hdg : decode cc pc = .ok (.bipush n, 2)) (hv : (Int8.ofInt n).toInt32 = v) (kk : wk_G p l e R s m args below meth c Q D A nL cells slots ws (pc + 2) lv (.int v :: rest)) : wk_G p l e R s m args below meth c Q D A nL cells slots ws (pc) lv (rest) := fun H locs ls hP hD hS hl => lv_bipush S.1.1 S.1.2.1 hdg hv (kk H locs ls hP hD hS hl)
theorem wk_sipush (S : wk_S p s m args c D A nL cc own tys gx) {n : Int} {v : Int32} (hdg : decode cc pc = .ok (.sipush n, 3)) (hv : (Int16.ofInt n).toInt32 = v) (kk : wk_G p l e R s m args below meth c Q D A nL cells slots ws (pc + 3) lv (.int v :: rest)) : wk_G p l e R s m args below meth c Q D A nL cells slots ws (pc) lv (rest) := fun H locs ls hP hD hS hl => lv_sipush S.1.1 S.1.2.1 hdg hv (kk H locs ls hP hD hS hl)
theorem wk_lconst (S : wk_S p s m args c D A nL cc own tys gx) {n : Fin 2} {v : Int64} (hdg : decode cc pc = .ok (.lconst n, 1)) (hv : Int64.ofNat (n : Nat) = v) (kk : wk_G p l e R s m args below meth c Q D A nL cells slots ws (pc + 1) lv (.long v :: rest)) : wk_G p l e R s m args below meth c Q D A nL cells slots ws (pc) lv (rest) := fun H locs ls hP hD hS hl => lv_lconst S.1.1 S.1.2.1 hdg hv (kk H locs ls hP hD hS hl)
theorem wk_ldc (S : wk_S p s m args c D A nL cc own tys gx) {idx : Nat} {v : Int32} (hw : Cond.constant own idx v ∈ lw_gd) (hdg : decode cc pc = .ok (.ldc idx, 2)) (kk : wk_G p l e R s m args below meth c Q D A nL cells slots ws (pc + 2) lv (.int v :: rest)) : wk_G p l e R s m args below meth c Q D A nL cells slots ws (pc) lv (rest) := fun H locs ls hP hD hS hl => lv_ldc S.1.1 S.1.2.1 S.1.2.2.2.1 (S.1.2.2.2.2 _ hw) hdg (kk H locs ls hP hD hS hl)
theorem wk_ldc2 (S : wk_S p s m args c D A nL cc own tys gx) {idx : Nat} {v : Int64} (hw : Cond.constantLong own idx v ∈ lw_gd) (hdg : decode cc pc = .ok (.ldc2_w idx, 3)) (kk : wk_G p l e R s m args below meth c Q D A nL cells slots ws (pc + 3) lv (.long v :: rest)) : wk_G p l e R s m args below meth c Q D A nL cells slots ws (pc) lv (rest) := fun H locs ls hP hD hS hl => lv_ldc2 S.1.1 S.1.2.1 S.1.2.2.2.1 (S.1.2.2.2.2 _ hw) hdg (kk H locs ls hP hD hS hl)
theorem wk_null (S : wk_S p s m args c D A nL cc own tys gx) (hdg : decode cc pc = .ok (.aconst_null, 1)) (kk : wk_G p l e R s m args below meth c Q D A nL cells slots ws (pc + 1) lv (.null :: rest)) : wk_G p l e R s m args below meth c Q D A nL cells slots ws (pc) lv (rest) := fun H locs ls hP hD hS hl => lv_null S.1.1 S.1.2.1 hdg (kk H locs ls hP hD hS hl)
theorem wk_iload_n (S : wk_S p s m args c D A nL cc own tys gx) {k : Fin 4} (j : Nat) {i : Nat} {x : Int32} (hdg : decode cc pc = .ok (.iload_n k, 1)) (hi : (k : Nat) = i) (hj : lv[j]? = some (i, .int x)) (kk : wk_G p l e R s m args below meth c Q D A nL cells slots ws (pc + 1) lv (.int x :: rest)) : wk_G p l e R s m args below meth c Q D A nL cells slots ws (pc) lv (rest) := fun H locs ls hP hD hS hl => lv_iload_n S.1.1 S.1.2.1 hdg hi (lv_at hl j hj) (kk H locs ls hP hD hS hl)
theorem wk_iload (S : wk_S p s m args c D A nL cc own tys gx) (j : Nat) {i : Nat} {x : Int32} (hdg : decode cc pc = .ok (.iload i, 2)) (hj : lv[j]? = some (i, .int x)) (kk : wk_G p l e R s m args below meth c Q D A nL cells slots ws (pc + 2) lv (.int x :: rest)) : wk_G p l e R s m args below meth c Q D A nL cells slots ws (pc) lv (rest) := fun H locs ls hP hD hS hl => lv_iload S.1.1 S.1.2.1 hdg (lv_at hl j hj) (kk H locs ls hP hD hS hl)
theorem wk_lload_n (S : wk_S p s m args c D A nL cc own tys gx) {k : Fin 4} (j : Nat) {i : Nat} {x : Int64} (hdg : decode cc pc = .ok (.lload_n k, 1)) (hi : (k : Nat) = i) (hj : lv[j]? = some (i, .long x)) (kk : wk_G p l e R s m args below meth c Q D A nL cells slots ws (pc + 1) lv (.long x :: rest)) : wk_G p l e R s m args below meth c Q D A nL cells slots ws (pc) lv (rest) := fun H locs ls hP hD hS hl => lv_lload_n S.1.1 S.1.2.1 hdg hi (lv_at hl j hj) (kk H locs ls hP hD hS hl)
theorem wk_lload (S : wk_S p s m args c D A nL cc own tys gx) (j : Nat) {i : Nat} {x : Int64} (hdg : decode cc pc = .ok (.lload i, 2)) (hj : lv[j]? = some (i, .long x)) (kk : wk_G p l e R s m args below meth c Q D A nL cells slots ws (pc + 2) lv (.long x :: rest)) : wk_G p l e R s m args below meth c Q D A nL cells slots ws (pc) lv (rest) := fun H locs ls hP hD hS hl => lv_lload S.1.1 S.1.2.1 hdg (lv_at hl j hj) (kk H locs ls hP hD hS hl)
theorem wk_aload_n (S : wk_S p s m args c D A nL cc own tys gx) {k : Fin 4} (j : Nat) {i : Nat} {x : Nat} (hdg : decode cc pc = .ok (.aload_n k, 1)) (hi : (k : Nat) = i) (hj : lv[j]? = some (i, .ref x)) (kk : wk_G p l e R s m args below meth c Q D A nL cells slots ws (pc + 1) lv (.ref x :: rest)) : wk_G p l e R s m args below meth c Q D A nL cells slots ws (pc) lv (rest) := fun H locs ls hP hD hS hl => lv_aload_n S.1.1 S.1.2.1 hdg hi (lv_at hl j hj) (kk H locs ls hP hD hS hl)
theorem wk_aload (S : wk_S p s m args c D A nL cc own tys gx) (j : Nat) {i : Nat} {x : Nat} (hdg : decode cc pc = .ok (.aload i, 2)) (hj : lv[j]? = some (i, .ref x)) (kk : wk_G p l e R s m args below meth c Q D A nL cells slots ws (pc + 2) lv (.ref x :: rest)) : wk_G p l e R s m args below meth c Q D A nL cells slots ws (pc) lv (rest) := fun H locs ls hP hD hS hl => lv_aload S.1.1 S.1.2.1 hdg (lv_at hl j hj) (kk H locs ls hP hD hS hl)
theorem wk_aload_nN (S : wk_S p s m args c D A nL cc own tys gx) {k : Fin 4} (j : Nat) {i : Nat} (hdg : decode cc pc = .ok (.aload_n k, 1)) (hi : (k : Nat) = i) (hj : lv[j]? = some (i, .null)) (kk : wk_G p l e R s m args below meth c Q D A nL cells slots ws (pc + 1) lv (.null :: rest)) : wk_G p l e R s m args below meth c Q D A nL cells slots ws (pc) lv (rest) := fun H locs ls hP hD hS hl => lv_aload_nN S.1.1 S.1.2.1 hdg hi (lv_at hl j hj) (kk H locs ls hP hD hS hl)
theorem wk_aloadN (S : wk_S p s m args c D A nL cc own tys gx) (j : Nat) {i : Nat} (hdg : decode cc pc = .ok (.aload i, 2)) (hj : lv[j]? = some (i, .null)) (kk : wk_G p l e R s m args below meth c Q D A nL cells slots ws (pc + 2) lv (.null :: rest)) : wk_G p l e R s m args below meth c Q D A nL cells slots ws (pc) lv (rest) := fun H locs ls hP hD hS hl => lv_aloadN S.1.1 S.1.2.1 hdg (lv_at hl j hj) (kk H locs ls hP hD hS hl)
theorem wk_istore_n (S : wk_S p s m args c D A nL cc own tys gx) {k : Fin 4} {i : Nat} {x : Int32} (hdg : decode cc pc = .ok (.istore_n k, 1)) (hi : (k : Nat) = i) (hn : i < nL) (hf : (i, Value.int x) :: lv.filter (fun q => !(q.1 == i) && !(q.1 + 1 == i && q.2.category == 2)) = lv') (kk : wk_G p l e R s m args below meth c Q D A nL cells slots ws (pc + 1) lv' (rest)) : wk_G p l e R s m args below meth c Q D A nL cells slots ws (pc) lv (Value.int x :: rest) := fun H locs ls hP hD hS hl => lv_istore_n S.1.1 S.1.2.1 hdg hi hl hn hf (fun ls hl => kk H locs ls hP hD hS hl)
theorem wk_istore (S : wk_S p s m args c D A nL cc own tys gx) {i : Nat} {x : Int32} (hdg : decode cc pc = .ok (.istore i, 2)) (hn : i < nL) (hf : (i, Value.int x) :: lv.filter (fun q => !(q.1 == i) && !(q.1 + 1 == i && q.2.category == 2)) = lv') (kk : wk_G p l e R s m args below meth c Q D A nL cells slots ws (pc + 2) lv' (rest)) : wk_G p l e R s m args below meth c Q D A nL cells slots ws (pc) lv (Value.int x :: rest) := fun H locs ls hP hD hS hl => lv_istore S.1.1 S.1.2.1 hdg hl hn hf (fun ls hl => kk H locs ls hP hD hS hl)
theorem wk_lstore_n (S : wk_S p s m args c D A nL cc own tys gx) {k : Fin 4} {i : Nat} {x : Int64} (hdg : decode cc pc = .ok (.lstore_n k, 1)) (hi : (k : Nat) = i) (hn : i + 1 < nL) (hf : (i, Value.long x) :: lv.filter (fun q => !(q.1 == i) && (!(q.1 == i + 1) && !(q.1 + 1 == i && q.2.category == 2))) = lv') (kk : wk_G p l e R s m args below meth c Q D A nL cells slots ws (pc + 1) lv' (rest)) : wk_G p l e R s m args below meth c Q D A nL cells slots ws (pc) lv (Value.long x :: rest) := fun H locs ls hP hD hS hl => lv_lstore_n S.1.1 S.1.2.1 hdg hi hl hn hf (fun ls hl => kk H locs ls hP hD hS hl)
theorem wk_lstore (S : wk_S p s m args c D A nL cc own tys gx) {i : Nat} {x : Int64} (hdg : decode cc pc = .ok (.lstore i, 2)) (hn : i + 1 < nL) (hf : (i, Value.long x) :: lv.filter (fun q => !(q.1 == i) && (!(q.1 == i + 1) && !(q.1 + 1 == i && q.2.category == 2))) = lv') (kk : wk_G p l e R s m args below meth c Q D A nL cells slots ws (pc + 2) lv' (rest)) : wk_G p l e R s m args below meth c Q D A nL cells slots ws (pc) lv (Value.long x :: rest) := fun H locs ls hP hD hS hl => lv_lstore S.1.1 S.1.2.1 hdg hl hn hf (fun ls hl => kk H locs ls hP hD hS hl)
theorem wk_astore_n (S : wk_S p s m args c D A nL cc own tys gx) {k : Fin 4} {i : Nat} {x : Nat} (hdg : decode cc pc = .ok (.astore_n k, 1)) (hi : (k : Nat) = i) (hn : i < nL) (hf : (i, Value.ref x) :: lv.filter (fun q => !(q.1 == i) && !(q.1 + 1 == i && q.2.category == 2)) = lv') (kk : wk_G p l e R s m args below meth c Q D A nL cells slots ws (pc + 1) lv' (rest)) : wk_G p l e R s m args below meth c Q D A nL cells slots ws (pc) lv (Value.ref x :: rest) := fun H locs ls hP hD hS hl => lv_astore_n S.1.1 S.1.2.1 hdg hi hl hn hf (fun ls hl => kk H locs ls hP hD hS hl)
theorem wk_astore (S : wk_S p s m args c D A nL cc own tys gx) {i : Nat} {x : Nat} (hdg : decode cc pc = .ok (.astore i, 2)) (hn : i < nL) (hf : (i, Value.ref x) :: lv.filter (fun q => !(q.1 == i) && !(q.1 + 1 == i && q.2.category == 2)) = lv') (kk : wk_G p l e R s m args below meth c Q D A nL cells slots ws (pc + 2) lv' (rest)) : wk_G p l e R s m args below meth c Q D A nL cells slots ws (pc) lv (Value.ref x :: rest) := fun H locs ls hP hD hS hl => lv_astore S.1.1 S.1.2.1 hdg hl hn hf (fun ls hl => kk H locs ls hP hD hS hl)
theorem wk_astore_nN (S : wk_S p s m args c D A nL cc own tys gx) {k : Fin 4} {i : Nat} (hdg : decode cc pc = .ok (.astore_n k, 1)) (hi : (k : Nat) = i) (hn : i < nL) (hf : (i, Value.null) :: lv.filter (fun q => !(q.1 == i) && !(q.1 + 1 == i && q.2.category == 2)) = lv') (kk : wk_G p l e R s m args below meth c Q D A nL cells slots ws (pc + 1) lv' (rest)) : wk_G p l e R s m args below meth c Q D A nL cells slots ws (pc) lv (.null :: rest) := fun H locs ls hP hD hS hl => lv_astore_nN S.1.1 S.1.2.1 hdg hi hl hn hf (fun ls hl => kk H locs ls hP hD hS hl)
theorem wk_iinc (S : wk_S p s m args c D A nL cc own tys gx) (j : Nat) {i : Nat} {n : Int} {x v : Int32} (hdg : decode cc pc = .ok (.iinc i n, 3)) (hj : lv[j]? = some (i, .int x)) (hv : x + Int32.ofInt n = v) (hn : i < nL) (hf : (i, Value.int v) :: lv.filter (fun q => !(q.1 == i) && !(q.1 + 1 == i && q.2.category == 2)) = lv') (kk : wk_G p l e R s m args below meth c Q D A nL cells slots ws (pc + 3) lv' (rest)) : wk_G p l e R s m args below meth c Q D A nL cells slots ws (pc) lv (rest) := fun H locs ls hP hD hS hl => lv_iinc S.1.1 S.1.2.1 hdg hl hj hv hn hf (fun ls hl => kk H locs ls hP hD hS hl)
theorem wk_iincN (S : wk_S p s m args c D A nL cc own tys gx) (j : Nat) {i : Nat} {n : Int} {x d : Nat} (hdg : decode cc pc = .ok (.iinc i n, 3)) (hd : Int32.ofInt n = nI d) (hj : lv[j]? = some (i, .int (nI x))) (hn : i < nL) (hf : (i, Value.int (nI (x + d))) :: lv.filter (fun q => !(q.1 == i) && !(q.1 + 1 == i && q.2.category == 2)) = lv') (kk : wk_G p l e R s m args below meth c Q D A nL cells slots ws (pc + 3) lv' (rest)) : wk_G p l e R s m args below meth c Q D A nL cells slots ws (pc) lv (rest) := fun H locs ls hP hD hS hl => lv_iinc S.1.1 S.1.2.1 hdg hl hj (by rw [hd, nI_add]) hn hf (fun ls hl => kk H locs ls hP hD hS hl)
theorem wk_iincM (S : wk_S p s m args c D A nL cc own tys gx) (j : Nat) {i : Nat} {n : Int} {x : Nat} (hdg : decode cc pc = .ok (.iinc i n, 3)) (hd : Int32.ofInt n = -1) (h0 : 0 < x) (hj : lv[j]? = some (i, .int (nI x))) (hn : i < nL) (hf : (i, Value.int (nI (x - 1))) :: lv.filter (fun q => !(q.1 == i) && !(q.1 + 1 == i && q.2.category == 2)) = lv') (kk : wk_G p l e R s m args below meth c Q D A nL cells slots ws (pc + 3) lv' (rest)) : wk_G p l e R s m args below meth c Q D A nL cells slots ws (pc) lv (rest) := fun H locs ls hP hD hS hl => lv_iinc S.1.1 S.1.2.1 hdg hl hj (by rw [hd, sb_m1 h0]) hn hf (fun ls hl => kk H locs ls hP hD hS hl)
theorem wk_lv (ks : List Nat) (h : lv_pick lv ks = lv') (kk : wk_G p l e R s m args below meth c Q D A nL cells slots ws (pc) lv' (rest)) : wk_G p l e R s m args below meth c Q D A nL cells slots ws (pc) lv (rest) := fun H locs ls hP hD hS hl => kk H locs ls hP hD hS (lv_sub hl ks h)
theorem wk_lvc (lv' : List (Nat × Value)) (ks : List Nat) (h : lv_pick lv ks = lv') (kk : wk_G p l e R s m args below meth c Q D A nL cells slots ws (pc) lv' (rest)) : wk_G p l e R s m args below meth c Q D A nL cells slots ws (pc) lv (rest) := fun H locs ls hP hD hS hl => kk H locs ls hP hD hS (lv_sub hl ks h)
theorem wk_lveq (h : lv = lv') (kk : wk_G p l e R s m args below meth c Q D A nL cells slots ws (pc) lv' (rest)) : wk_G p l e R s m args below meth c Q D A nL cells slots ws (pc) lv (rest) := by rw [h]; exact kk
theorem wk_weq (h : ws = ws') (kk : wk_G p l e R s m args below meth c Q D A nL cells slots ws' (pc) lv (rest)) : wk_G p l e R s m args below meth c Q D A nL cells slots ws (pc) lv (rest) := by rw [h]; exact kk
theorem wk_top {x y : Int32} (h : x = y) (kk : wk_G p l e R s m args below meth c Q D A nL cells slots ws (pc) lv (.int y :: rest)) : wk_G p l e R s m args below meth c Q D A nL cells slots ws (pc) lv (.int x :: rest) := by rw [h]; exact kk
theorem wk_topl {x y : Int64} (h : x = y) (kk : wk_G p l e R s m args below meth c Q D A nL cells slots ws (pc) lv (.long y :: rest)) : wk_G p l e R s m args below meth c Q D A nL cells slots ws (pc) lv (.long x :: rest) := by rw [h]; exact kk
theorem wk_to {x : Int32} (kk : ∀ y : Int32, y = x → wk_G p l e R s m args below meth c Q D A nL cells slots ws (pc) lv (.int y :: rest)) : wk_G p l e R s m args below meth c Q D A nL cells slots ws (pc) lv (.int x :: rest) := kk x rfl
theorem wk_tol {x : Int64} (kk : ∀ y : Int64, y = x → wk_G p l e R s m args below meth c Q D A nL cells slots ws (pc) lv (.long y :: rest)) : wk_G p l e R s m args below meth c Q D A nL cells slots ws (pc) lv (.long x :: rest) := kk x rfl
theorem wk_st {st' : List Value} (h : rest = st') (kk : wk_G p l e R s m args below meth c Q D A nL cells slots ws (pc) lv (st')) : wk_G p l e R s m args below meth c Q D A nL cells slots ws (pc) lv (rest) := by rw [h]; exact kk
theorem wk_wd {k n : Nat} (h1 : cells ≤ k) (h2 : slots ≤ n) (kk : wk_G p l e R s m args below meth c Q D A nL k n ws (pc) lv (rest)) : wk_G p l e R s m args below meth c Q D A nL cells slots ws (pc) lv (rest) := fun H locs ls hP hD hS hl => W.widen h1 h2 (kk H locs ls hP hD hS hl)
theorem wk_ws (is : List Nat) (hn : va_nd is = true) (h : is.map (fun i => ws[i]?) = ws'.map some) (h2 : is.filterMap (fun i => ws[i]?) = ws') (kk : wk_G p l e R s m args below meth c Q D A nL cells slots ws' (pc) lv (rest)) : wk_G p l e R s m args below meth c Q D A nL cells slots ws (pc) lv (rest) := fun H locs ls hP hD hS hl => kk H locs ls (hP.sub is h2) (hD.sub is hn h) hS hl
theorem wk_iadd (S : wk_S p s m args c D A nL cc own tys gx) {x y : Int32} (hdg : decode cc pc = .ok (.iadd, 1)) (kk : wk_G p l e R s m args below meth c Q D A nL cells slots ws (pc + 1) lv (.int (x + y) :: rest)) : wk_G p l e R s m args below meth c Q D A nL cells slots ws (pc) lv (.int y :: .int x :: rest) := fun H locs ls hP hD hS hl => lv_iadd S.1.1 S.1.2.1 hdg (kk H locs ls hP hD hS hl)
theorem wk_isub (S : wk_S p s m args c D A nL cc own tys gx) {x y : Int32} (hdg : decode cc pc = .ok (.isub, 1)) (kk : wk_G p l e R s m args below meth c Q D A nL cells slots ws (pc + 1) lv (.int (x - y) :: rest)) : wk_G p l e R s m args below meth c Q D A nL cells slots ws (pc) lv (.int y :: .int x :: rest) := fun H locs ls hP hD hS hl => lv_isub S.1.1 S.1.2.1 hdg (kk H locs ls hP hD hS hl)
theorem wk_imul (S : wk_S p s m args c D A nL cc own tys gx) {x y : Int32} (hdg : decode cc pc = .ok (.imul, 1)) (kk : wk_G p l e R s m args below meth c Q D A nL cells slots ws (pc + 1) lv (.int (x * y) :: rest)) : wk_G p l e R s m args below meth c Q D A nL cells slots ws (pc) lv (.int y :: .int x :: rest) := fun H locs ls hP hD hS hl => lv_imul S.1.1 S.1.2.1 hdg (kk H locs ls hP hD hS hl)
theorem wk_iand (S : wk_S p s m args c D A nL cc own tys gx) {x y : Int32} (hdg : decode cc pc = .ok (.iand, 1)) (kk : wk_G p l e R s m args below meth c Q D A nL cells slots ws (pc + 1) lv (.int (x &&& y) :: rest)) : wk_G p l e R s m args below meth c Q D A nL cells slots ws (pc) lv (.int y :: .int x :: rest) := fun H locs ls hP hD hS hl => lv_iand S.1.1 S.1.2.1 hdg (kk H locs ls hP hD hS hl)
theorem wk_ior (S : wk_S p s m args c D A nL cc own tys gx) {x y : Int32} (hdg : decode cc pc = .ok (.ior, 1)) (kk : wk_G p l e R s m args below meth c Q D A nL cells slots ws (pc + 1) lv (.int (x ||| y) :: rest)) : wk_G p l e R s m args below meth c Q D A nL cells slots ws (pc) lv (.int y :: .int x :: rest) := fun H locs ls hP hD hS hl => lv_ior S.1.1 S.1.2.1 hdg (kk H locs ls hP hD hS hl)
theorem wk_ixor (S : wk_S p s m args c D A nL cc own tys gx) {x y : Int32} (hdg : decode cc pc = .ok (.ixor, 1)) (kk : wk_G p l e R s m args below meth c Q D A nL cells slots ws (pc + 1) lv (.int (x ^^^ y) :: rest)) : wk_G p l e R s m args below meth c Q D A nL cells slots ws (pc) lv (.int y :: .int x :: rest) := fun H locs ls hP hD hS hl => lv_ixor S.1.1 S.1.2.1 hdg (kk H locs ls hP hD hS hl)
theorem wk_ishl (S : wk_S p s m args c D A nL cc own tys gx) {x y : Int32} (hdg : decode cc pc = .ok (.ishl, 1)) (kk : wk_G p l e R s m args below meth c Q D A nL cells slots ws (pc + 1) lv (.int (x <<< (y &&& 31)) :: rest)) : wk_G p l e R s m args below meth c Q D A nL cells slots ws (pc) lv (.int y :: .int x :: rest) := fun H locs ls hP hD hS hl => lv_ishl S.1.1 S.1.2.1 hdg (kk H locs ls hP hD hS hl)
theorem wk_ishr (S : wk_S p s m args c D A nL cc own tys gx) {x y : Int32} (hdg : decode cc pc = .ok (.ishr, 1)) (kk : wk_G p l e R s m args below meth c Q D A nL cells slots ws (pc + 1) lv (.int (x >>> (y &&& 31)) :: rest)) : wk_G p l e R s m args below meth c Q D A nL cells slots ws (pc) lv (.int y :: .int x :: rest) := fun H locs ls hP hD hS hl => lv_ishr S.1.1 S.1.2.1 hdg (kk H locs ls hP hD hS hl)
theorem wk_idiv (S : wk_S p s m args c D A nL cc own tys gx) {x y : Int32} (hdg : decode cc pc = .ok (.idiv, 1)) (hne : ¬ y = 0) (kk : wk_G p l e R s m args below meth c Q D A nL cells slots ws (pc + 1) lv (.int (x / y) :: rest)) : wk_G p l e R s m args below meth c Q D A nL cells slots ws (pc) lv (.int y :: .int x :: rest) := fun H locs ls hP hD hS hl => lv_idiv S.1.1 S.1.2.1 hdg hne (kk H locs ls hP hD hS hl)
theorem wk_irem (S : wk_S p s m args c D A nL cc own tys gx) {x y : Int32} (hdg : decode cc pc = .ok (.irem, 1)) (hne : ¬ y = 0) (kk : wk_G p l e R s m args below meth c Q D A nL cells slots ws (pc + 1) lv (.int (x - x / y * y) :: rest)) : wk_G p l e R s m args below meth c Q D A nL cells slots ws (pc) lv (.int y :: .int x :: rest) := fun H locs ls hP hD hS hl => lv_irem S.1.1 S.1.2.1 hdg hne (kk H locs ls hP hD hS hl)
theorem wk_ineg (S : wk_S p s m args c D A nL cc own tys gx) {x : Int32} (hdg : decode cc pc = .ok (.ineg, 1)) (kk : wk_G p l e R s m args below meth c Q D A nL cells slots ws (pc + 1) lv (.int (-x) :: rest)) : wk_G p l e R s m args below meth c Q D A nL cells slots ws (pc) lv (.int x :: rest) := fun H locs ls hP hD hS hl => lv_ineg S.1.1 S.1.2.1 hdg (kk H locs ls hP hD hS hl)
theorem wk_ladd (S : wk_S p s m args c D A nL cc own tys gx) {x y : Int64} (hdg : decode cc pc = .ok (.ladd, 1)) (kk : wk_G p l e R s m args below meth c Q D A nL cells slots ws (pc + 1) lv (.long (x + y) :: rest)) : wk_G p l e R s m args below meth c Q D A nL cells slots ws (pc) lv (.long y :: .long x :: rest) := fun H locs ls hP hD hS hl => lv_ladd S.1.1 S.1.2.1 hdg (kk H locs ls hP hD hS hl)
theorem wk_lsub (S : wk_S p s m args c D A nL cc own tys gx) {x y : Int64} (hdg : decode cc pc = .ok (.lsub, 1)) (kk : wk_G p l e R s m args below meth c Q D A nL cells slots ws (pc + 1) lv (.long (x - y) :: rest)) : wk_G p l e R s m args below meth c Q D A nL cells slots ws (pc) lv (.long y :: .long x :: rest) := fun H locs ls hP hD hS hl => lv_lsub S.1.1 S.1.2.1 hdg (kk H locs ls hP hD hS hl)
theorem wk_lmul (S : wk_S p s m args c D A nL cc own tys gx) {x y : Int64} (hdg : decode cc pc = .ok (.lmul, 1)) (kk : wk_G p l e R s m args below meth c Q D A nL cells slots ws (pc + 1) lv (.long (x * y) :: rest)) : wk_G p l e R s m args below meth c Q D A nL cells slots ws (pc) lv (.long y :: .long x :: rest) := fun H locs ls hP hD hS hl => lv_lmul S.1.1 S.1.2.1 hdg (kk H locs ls hP hD hS hl)
theorem wk_land (S : wk_S p s m args c D A nL cc own tys gx) {x y : Int64} (hdg : decode cc pc = .ok (.land, 1)) (kk : wk_G p l e R s m args below meth c Q D A nL cells slots ws (pc + 1) lv (.long (x &&& y) :: rest)) : wk_G p l e R s m args below meth c Q D A nL cells slots ws (pc) lv (.long y :: .long x :: rest) := fun H locs ls hP hD hS hl => lv_land S.1.1 S.1.2.1 hdg (kk H locs ls hP hD hS hl)
theorem wk_lor (S : wk_S p s m args c D A nL cc own tys gx) {x y : Int64} (hdg : decode cc pc = .ok (.lor, 1)) (kk : wk_G p l e R s m args below meth c Q D A nL cells slots ws (pc + 1) lv (.long (x ||| y) :: rest)) : wk_G p l e R s m args below meth c Q D A nL cells slots ws (pc) lv (.long y :: .long x :: rest) := fun H locs ls hP hD hS hl => lv_lor S.1.1 S.1.2.1 hdg (kk H locs ls hP hD hS hl)
theorem wk_lshl (S : wk_S p s m args c D A nL cc own tys gx) {x v : Int64} {y : Int32} (hdg : decode cc pc = .ok (.lshl, 1)) (hv : x <<< (y.toInt64 &&& 63) = v) (kk : wk_G p l e R s m args below meth c Q D A nL cells slots ws (pc + 1) lv (.long v :: rest)) : wk_G p l e R s m args below meth c Q D A nL cells slots ws (pc) lv (.int y :: .long x :: rest) := fun H locs ls hP hD hS hl => lv_lshl S.1.1 S.1.2.1 hdg hv (kk H locs ls hP hD hS hl)
theorem wk_i2l (S : wk_S p s m args c D A nL cc own tys gx) {x : Int32} {v : Int64} (hdg : decode cc pc = .ok (.i2l, 1)) (hv : x.toInt64 = v) (kk : wk_G p l e R s m args below meth c Q D A nL cells slots ws (pc + 1) lv (.long v :: rest)) : wk_G p l e R s m args below meth c Q D A nL cells slots ws (pc) lv (.int x :: rest) := fun H locs ls hP hD hS hl => lv_i2l S.1.1 S.1.2.1 hdg hv (kk H locs ls hP hD hS hl)
theorem wk_l2i (S : wk_S p s m args c D A nL cc own tys gx) {x : Int64} {v : Int32} (hdg : decode cc pc = .ok (.l2i, 1)) (hv : x.toInt32 = v) (kk : wk_G p l e R s m args below meth c Q D A nL cells slots ws (pc + 1) lv (.int v :: rest)) : wk_G p l e R s m args below meth c Q D A nL cells slots ws (pc) lv (.long x :: rest) := fun H locs ls hP hD hS hl => lv_l2i S.1.1 S.1.2.1 hdg hv (kk H locs ls hP hD hS hl)
theorem wk_lcmp (S : wk_S p s m args c D A nL cc own tys gx) {x y : Int64} (hdg : decode cc pc = .ok (.lcmp, 1)) (kk : wk_G p l e R s m args below meth c Q D A nL cells slots ws (pc + 1) lv (.int (lg_cmp x y) :: rest)) : wk_G p l e R s m args below meth c Q D A nL cells slots ws (pc) lv (.long y :: .long x :: rest) := fun H locs ls hP hD hS hl => W.lcmp S.1.1 S.1.2.1 hdg (kk H locs ls hP hD hS hl)
theorem wk_iaddN (S : wk_S p s m args c D A nL cc own tys gx) {x y : Nat} (hdg : decode cc pc = .ok (.iadd, 1)) (kk : wk_G p l e R s m args below meth c Q D A nL cells slots ws (pc + 1) lv (.int (nI (x + y)) :: rest)) : wk_G p l e R s m args below meth c Q D A nL cells slots ws (pc) lv (.int (nI y) :: .int (nI x) :: rest) := fun H locs ls hP hD hS hl => lv_iadd S.1.1 S.1.2.1 hdg (by rw [nI_add]; exact (kk H locs ls hP hD hS hl))
theorem wk_isubN (S : wk_S p s m args c D A nL cc own tys gx) {x y : Nat} (hdg : decode cc pc = .ok (.isub, 1)) (h : y ≤ x) (kk : wk_G p l e R s m args below meth c Q D A nL cells slots ws (pc + 1) lv (.int (nI (x - y)) :: rest)) : wk_G p l e R s m args below meth c Q D A nL cells slots ws (pc) lv (.int (nI y) :: .int (nI x) :: rest) := fun H locs ls hP hD hS hl => lv_isub S.1.1 S.1.2.1 hdg (by rw [pk_sub h]; exact (kk H locs ls hP hD hS hl))
theorem wk_imulN (S : wk_S p s m args c D A nL cc own tys gx) {x y : Nat} (hdg : decode cc pc = .ok (.imul, 1)) (kk : wk_G p l e R s m args below meth c Q D A nL cells slots ws (pc + 1) lv (.int (nI (x * y)) :: rest)) : wk_G p l e R s m args below meth c Q D A nL cells slots ws (pc) lv (.int (nI y) :: .int (nI x) :: rest) := fun H locs ls hP hD hS hl => lv_imul S.1.1 S.1.2.1 hdg (by rw [pk_mul]; exact (kk H locs ls hP hD hS hl))
theorem wk_idivN (S : wk_S p s m args c D A nL cc own tys gx) {x y : Nat} (hdg : decode cc pc = .ok (.idiv, 1)) (hx : x < 2 ^ 31) (h0 : 0 < y) (hy : y < 2 ^ 31) (kk : wk_G p l e R s m args below meth c Q D A nL cells slots ws (pc + 1) lv (.int (nI (x / y)) :: rest)) : wk_G p l e R s m args below meth c Q D A nL cells slots ws (pc) lv (.int (nI y) :: .int (nI x) :: rest) := fun H locs ls hP hD hS hl => lv_idiv S.1.1 S.1.2.1 hdg (nI_ne0 h0 hy) (by rw [pk_div hx h0 hy]; exact (kk H locs ls hP hD hS hl))
theorem wk_iremN (S : wk_S p s m args c D A nL cc own tys gx) {x y : Nat} (hdg : decode cc pc = .ok (.irem, 1)) (hx : x < 2 ^ 31) (h0 : 0 < y) (hy : y < 2 ^ 31) (kk : wk_G p l e R s m args below meth c Q D A nL cells slots ws (pc + 1) lv (.int (nI (x % y)) :: rest)) : wk_G p l e R s m args below meth c Q D A nL cells slots ws (pc) lv (.int (nI y) :: .int (nI x) :: rest) := fun H locs ls hP hD hS hl => lv_irem S.1.1 S.1.2.1 hdg (nI_ne0 h0 hy) (by rw [pk_rem hx h0 hy]; exact (kk H locs ls hP hD hS hl))
theorem wk_laddN (S : wk_S p s m args c D A nL cc own tys gx) {x y : Nat} (hdg : decode cc pc = .ok (.ladd, 1)) (kk : wk_G p l e R s m args below meth c Q D A nL cells slots ws (pc + 1) lv (.long (lN (x + y)) :: rest)) : wk_G p l e R s m args below meth c Q D A nL cells slots ws (pc) lv (.long (lN y) :: .long (lN x) :: rest) := fun H locs ls hP hD hS hl => lv_ladd S.1.1 S.1.2.1 hdg (by rw [lN_add]; exact (kk H locs ls hP hD hS hl))
theorem wk_lmulN (S : wk_S p s m args c D A nL cc own tys gx) {x y : Nat} (hdg : decode cc pc = .ok (.lmul, 1)) (kk : wk_G p l e R s m args below meth c Q D A nL cells slots ws (pc + 1) lv (.long (lN (x * y)) :: rest)) : wk_G p l e R s m args below meth c Q D A nL cells slots ws (pc) lv (.long (lN y) :: .long (lN x) :: rest) := fun H locs ls hP hD hS hl => lv_lmul S.1.1 S.1.2.1 hdg (by rw [lN_mul]; exact (kk H locs ls hP hD hS hl))
theorem wk_i2lN (S : wk_S p s m args c D A nL cc own tys gx) {x : Nat} (hdg : decode cc pc = .ok (.i2l, 1)) (hx : x < 2 ^ 31) (kk : wk_G p l e R s m args below meth c Q D A nL cells slots ws (pc + 1) lv (.long (lN x) :: rest)) : wk_G p l e R s m args below meth c Q D A nL cells slots ws (pc) lv (.int (nI x) :: rest) := fun H locs ls hP hD hS hl => lv_i2l S.1.1 S.1.2.1 hdg (nI_l hx) (kk H locs ls hP hD hS hl)
theorem wk_l2iN (S : wk_S p s m args c D A nL cc own tys gx) {x : Nat} (hdg : decode cc pc = .ok (.l2i, 1)) (kk : wk_G p l e R s m args below meth c Q D A nL cells slots ws (pc + 1) lv (.int (nI x) :: rest)) : wk_G p l e R s m args below meth c Q D A nL cells slots ws (pc) lv (.long (lN x) :: rest) := fun H locs ls hP hD hS hl => lv_l2i S.1.1 S.1.2.1 hdg (lN_i x) (kk H locs ls hP hD hS hl)
theorem wk_dup (S : wk_S p s m args c D A nL cc own tys gx) {v : Value} (hdg : decode cc pc = .ok (.dup, 1)) (hv : v.category = 1) (kk : wk_G p l e R s m args below meth c Q D A nL cells slots ws (pc + 1) lv (v :: v :: rest)) : wk_G p l e R s m args below meth c Q D A nL cells slots ws (pc) lv (v :: rest) := fun H locs ls hP hD hS hl => lv_dup S.1.1 S.1.2.1 hdg hv (kk H locs ls hP hD hS hl)
theorem wk_pop (S : wk_S p s m args c D A nL cc own tys gx) {v : Value} (hdg : decode cc pc = .ok (.pop, 1)) (hv : v.category = 1) (kk : wk_G p l e R s m args below meth c Q D A nL cells slots ws (pc + 1) lv (rest)) : wk_G p l e R s m args below meth c Q D A nL cells slots ws (pc) lv (v :: rest) := fun H locs ls hP hD hS hl => lv_pop S.1.1 S.1.2.1 hdg hv (kk H locs ls hP hD hS hl)
theorem wk_dup_x1 (S : wk_S p s m args c D A nL cc own tys gx) {v w : Value} (hdg : decode cc pc = .ok (.dup_x1, 1)) (hv : v.category = 1) (hw : w.category = 1) (kk : wk_G p l e R s m args below meth c Q D A nL cells slots ws (pc + 1) lv (v :: w :: v :: rest)) : wk_G p l e R s m args below meth c Q D A nL cells slots ws (pc) lv (v :: w :: rest) := fun H locs ls hP hD hS hl => lv_dup_x1 S.1.1 S.1.2.1 hdg hv hw (kk H locs ls hP hD hS hl)
theorem wk_dup_x2 (S : wk_S p s m args c D A nL cc own tys gx) {v w z : Value} (hdg : decode cc pc = .ok (.dup_x2, 1)) (hv : v.category = 1) (hw : w.category = 1) (hz : z.category = 1) (kk : wk_G p l e R s m args below meth c Q D A nL cells slots ws (pc + 1) lv (v :: w :: z :: v :: rest)) : wk_G p l e R s m args below meth c Q D A nL cells slots ws (pc) lv (v :: w :: z :: rest) := fun H locs ls hP hD hS hl => lv_dup_x2 S.1.1 S.1.2.1 hdg hv hw hz (kk H locs ls hP hD hS hl)
theorem wk_dup2 (S : wk_S p s m args c D A nL cc own tys gx) {v w : Value} (hdg : decode cc pc = .ok (.dup2, 1)) (hv : v.category = 1) (hw : w.category = 1) (kk : wk_G p l e R s m args below meth c Q D A nL cells slots ws (pc + 1) lv (v :: w :: v :: w :: rest)) : wk_G p l e R s m args below meth c Q D A nL cells slots ws (pc) lv (v :: w :: rest) := fun H locs ls hP hD hS hl => lv_dup2_11 S.1.1 S.1.2.1 hdg hv hw (kk H locs ls hP hD hS hl)
theorem wk_goto (S : wk_S p s m args c D A nL cc own tys gx) {off : Int} {tgt : Nat} (hdg : decode cc pc = .ok (.goto off, 3)) (ht : (pc : Int) + off = (tgt : Int)) (kk : wk_G p l e R s m args below meth c Q D A nL cells slots ws (tgt) lv (rest)) : wk_G p l e R s m args below meth c Q D A nL cells slots ws (pc) lv (rest) := fun H locs ls hP hD hS hl => lv_goto S.1.1 S.1.2.1 hdg ht (kk H locs ls hP hD hS hl)
theorem wk_if_eq (S : wk_S p s m args c D A nL cc own tys gx) {x : Int32} {off : Int} {tgt : Nat} (hdg : decode cc pc = .ok (.ifCond .eq off, 3)) (ht : (pc : Int) + off = (tgt : Int)) (kt : x = 0 → wk_G p l e R s m args below meth c Q D A nL cells slots ws (tgt) lv (rest)) (kf : ¬ x = 0 → wk_G p l e R s m args below meth c Q D A nL cells slots ws (pc + 3) lv (rest)) : wk_G p l e R s m args below meth c Q D A nL cells slots ws (pc) lv (.int x :: rest) := fun H locs ls hP hD hS hl => lv_if_eq S.1.1 S.1.2.1 hdg ht (fun h => kt h H locs ls hP hD hS hl) (fun h => kf h H locs ls hP hD hS hl)
theorem wk_icmp_eq (S : wk_S p s m args c D A nL cc own tys gx) {x y : Int32} {off : Int} {tgt : Nat} (hdg : decode cc pc = .ok (.if_icmp .eq off, 3)) (ht : (pc : Int) + off = (tgt : Int)) (kt : x = y → wk_G p l e R s m args below meth c Q D A nL cells slots ws (tgt) lv (rest)) (kf : ¬ x = y → wk_G p l e R s m args below meth c Q D A nL cells slots ws (pc + 3) lv (rest)) : wk_G p l e R s m args below meth c Q D A nL cells slots ws (pc) lv (.int y :: .int x :: rest) := fun H locs ls hP hD hS hl => lv_icmp_eq S.1.1 S.1.2.1 hdg ht (fun h => kt h H locs ls hP hD hS hl) (fun h => kf h H locs ls hP hD hS hl)
theorem wk_if_ne (S : wk_S p s m args c D A nL cc own tys gx) {x : Int32} {off : Int} {tgt : Nat} (hdg : decode cc pc = .ok (.ifCond .ne off, 3)) (ht : (pc : Int) + off = (tgt : Int)) (kt : ¬ x = 0 → wk_G p l e R s m args below meth c Q D A nL cells slots ws (tgt) lv (rest)) (kf : x = 0 → wk_G p l e R s m args below meth c Q D A nL cells slots ws (pc + 3) lv (rest)) : wk_G p l e R s m args below meth c Q D A nL cells slots ws (pc) lv (.int x :: rest) := fun H locs ls hP hD hS hl => lv_if_ne S.1.1 S.1.2.1 hdg ht (fun h => kt h H locs ls hP hD hS hl) (fun h => kf h H locs ls hP hD hS hl)
theorem wk_icmp_ne (S : wk_S p s m args c D A nL cc own tys gx) {x y : Int32} {off : Int} {tgt : Nat} (hdg : decode cc pc = .ok (.if_icmp .ne off, 3)) (ht : (pc : Int) + off = (tgt : Int)) (kt : ¬ x = y → wk_G p l e R s m args below meth c Q D A nL cells slots ws (tgt) lv (rest)) (kf : x = y → wk_G p l e R s m args below meth c Q D A nL cells slots ws (pc + 3) lv (rest)) : wk_G p l e R s m args below meth c Q D A nL cells slots ws (pc) lv (.int y :: .int x :: rest) := fun H locs ls hP hD hS hl => lv_icmp_ne S.1.1 S.1.2.1 hdg ht (fun h => kt h H locs ls hP hD hS hl) (fun h => kf h H locs ls hP hD hS hl)
theorem wk_if_lt (S : wk_S p s m args c D A nL cc own tys gx) {x : Int32} {off : Int} {tgt : Nat} (hdg : decode cc pc = .ok (.ifCond .lt off, 3)) (ht : (pc : Int) + off = (tgt : Int)) (kt : x < 0 → wk_G p l e R s m args below meth c Q D A nL cells slots ws (tgt) lv (rest)) (kf : ¬ x < 0 → wk_G p l e R s m args below meth c Q D A nL cells slots ws (pc + 3) lv (rest)) : wk_G p l e R s m args below meth c Q D A nL cells slots ws (pc) lv (.int x :: rest) := fun H locs ls hP hD hS hl => lv_if_lt S.1.1 S.1.2.1 hdg ht (fun h => kt h H locs ls hP hD hS hl) (fun h => kf h H locs ls hP hD hS hl)
theorem wk_icmp_lt (S : wk_S p s m args c D A nL cc own tys gx) {x y : Int32} {off : Int} {tgt : Nat} (hdg : decode cc pc = .ok (.if_icmp .lt off, 3)) (ht : (pc : Int) + off = (tgt : Int)) (kt : x < y → wk_G p l e R s m args below meth c Q D A nL cells slots ws (tgt) lv (rest)) (kf : ¬ x < y → wk_G p l e R s m args below meth c Q D A nL cells slots ws (pc + 3) lv (rest)) : wk_G p l e R s m args below meth c Q D A nL cells slots ws (pc) lv (.int y :: .int x :: rest) := fun H locs ls hP hD hS hl => lv_icmp_lt S.1.1 S.1.2.1 hdg ht (fun h => kt h H locs ls hP hD hS hl) (fun h => kf h H locs ls hP hD hS hl)
theorem wk_if_ge (S : wk_S p s m args c D A nL cc own tys gx) {x : Int32} {off : Int} {tgt : Nat} (hdg : decode cc pc = .ok (.ifCond .ge off, 3)) (ht : (pc : Int) + off = (tgt : Int)) (kt : 0 ≤ x → wk_G p l e R s m args below meth c Q D A nL cells slots ws (tgt) lv (rest)) (kf : ¬ 0 ≤ x → wk_G p l e R s m args below meth c Q D A nL cells slots ws (pc + 3) lv (rest)) : wk_G p l e R s m args below meth c Q D A nL cells slots ws (pc) lv (.int x :: rest) := fun H locs ls hP hD hS hl => lv_if_ge S.1.1 S.1.2.1 hdg ht (fun h => kt h H locs ls hP hD hS hl) (fun h => kf h H locs ls hP hD hS hl)
theorem wk_icmp_ge (S : wk_S p s m args c D A nL cc own tys gx) {x y : Int32} {off : Int} {tgt : Nat} (hdg : decode cc pc = .ok (.if_icmp .ge off, 3)) (ht : (pc : Int) + off = (tgt : Int)) (kt : y ≤ x → wk_G p l e R s m args below meth c Q D A nL cells slots ws (tgt) lv (rest)) (kf : ¬ y ≤ x → wk_G p l e R s m args below meth c Q D A nL cells slots ws (pc + 3) lv (rest)) : wk_G p l e R s m args below meth c Q D A nL cells slots ws (pc) lv (.int y :: .int x :: rest) := fun H locs ls hP hD hS hl => lv_icmp_ge S.1.1 S.1.2.1 hdg ht (fun h => kt h H locs ls hP hD hS hl) (fun h => kf h H locs ls hP hD hS hl)
theorem wk_if_gt (S : wk_S p s m args c D A nL cc own tys gx) {x : Int32} {off : Int} {tgt : Nat} (hdg : decode cc pc = .ok (.ifCond .gt off, 3)) (ht : (pc : Int) + off = (tgt : Int)) (kt : 0 < x → wk_G p l e R s m args below meth c Q D A nL cells slots ws (tgt) lv (rest)) (kf : ¬ 0 < x → wk_G p l e R s m args below meth c Q D A nL cells slots ws (pc + 3) lv (rest)) : wk_G p l e R s m args below meth c Q D A nL cells slots ws (pc) lv (.int x :: rest) := fun H locs ls hP hD hS hl => lv_if_gt S.1.1 S.1.2.1 hdg ht (fun h => kt h H locs ls hP hD hS hl) (fun h => kf h H locs ls hP hD hS hl)
theorem wk_icmp_gt (S : wk_S p s m args c D A nL cc own tys gx) {x y : Int32} {off : Int} {tgt : Nat} (hdg : decode cc pc = .ok (.if_icmp .gt off, 3)) (ht : (pc : Int) + off = (tgt : Int)) (kt : y < x → wk_G p l e R s m args below meth c Q D A nL cells slots ws (tgt) lv (rest)) (kf : ¬ y < x → wk_G p l e R s m args below meth c Q D A nL cells slots ws (pc + 3) lv (rest)) : wk_G p l e R s m args below meth c Q D A nL cells slots ws (pc) lv (.int y :: .int x :: rest) := fun H locs ls hP hD hS hl => lv_icmp_gt S.1.1 S.1.2.1 hdg ht (fun h => kt h H locs ls hP hD hS hl) (fun h => kf h H locs ls hP hD hS hl)
theorem wk_if_le (S : wk_S p s m args c D A nL cc own tys gx) {x : Int32} {off : Int} {tgt : Nat} (hdg : decode cc pc = .ok (.ifCond .le off, 3)) (ht : (pc : Int) + off = (tgt : Int)) (kt : x ≤ 0 → wk_G p l e R s m args below meth c Q D A nL cells slots ws (tgt) lv (rest)) (kf : ¬ x ≤ 0 → wk_G p l e R s m args below meth c Q D A nL cells slots ws (pc + 3) lv (rest)) : wk_G p l e R s m args below meth c Q D A nL cells slots ws (pc) lv (.int x :: rest) := fun H locs ls hP hD hS hl => lv_if_le S.1.1 S.1.2.1 hdg ht (fun h => kt h H locs ls hP hD hS hl) (fun h => kf h H locs ls hP hD hS hl)
theorem wk_icmp_le (S : wk_S p s m args c D A nL cc own tys gx) {x y : Int32} {off : Int} {tgt : Nat} (hdg : decode cc pc = .ok (.if_icmp .le off, 3)) (ht : (pc : Int) + off = (tgt : Int)) (kt : x ≤ y → wk_G p l e R s m args below meth c Q D A nL cells slots ws (tgt) lv (rest)) (kf : ¬ x ≤ y → wk_G p l e R s m args below meth c Q D A nL cells slots ws (pc + 3) lv (rest)) : wk_G p l e R s m args below meth c Q D A nL cells slots ws (pc) lv (.int y :: .int x :: rest) := fun H locs ls hP hD hS hl => lv_icmp_le S.1.1 S.1.2.1 hdg ht (fun h => kt h H locs ls hP hD hS hl) (fun h => kf h H locs ls hP hD hS hl)
theorem wk_icmp_eqN (S : wk_S p s m args c D A nL cc own tys gx) {x y : Nat} {off : Int} {tgt : Nat} (hdg : decode cc pc = .ok (.if_icmp .eq off, 3)) (ht : (pc : Int) + off = (tgt : Int)) (hx : x < 2 ^ 31) (hy : y < 2 ^ 31) (kt : x = y → wk_G p l e R s m args below meth c Q D A nL cells slots ws (tgt) lv (rest)) (kf : x ≠ y → wk_G p l e R s m args below meth c Q D A nL cells slots ws (pc + 3) lv (rest)) : wk_G p l e R s m args below meth c Q D A nL cells slots ws (pc) lv (.int (nI y) :: .int (nI x) :: rest) := wk_icmp_eq S hdg ht (fun h => kt ((nI_eq hx hy).mp h)) (fun h => kf (fun z => h ((nI_eq hx hy).mpr z)))
theorem wk_icmp_neN (S : wk_S p s m args c D A nL cc own tys gx) {x y : Nat} {off : Int} {tgt : Nat} (hdg : decode cc pc = .ok (.if_icmp .ne off, 3)) (ht : (pc : Int) + off = (tgt : Int)) (hx : x < 2 ^ 31) (hy : y < 2 ^ 31) (kt : x ≠ y → wk_G p l e R s m args below meth c Q D A nL cells slots ws (tgt) lv (rest)) (kf : x = y → wk_G p l e R s m args below meth c Q D A nL cells slots ws (pc + 3) lv (rest)) : wk_G p l e R s m args below meth c Q D A nL cells slots ws (pc) lv (.int (nI y) :: .int (nI x) :: rest) := wk_icmp_ne S hdg ht (fun h => kt (fun z => h ((nI_eq hx hy).mpr z))) (fun h => kf ((nI_eq hx hy).mp h))
theorem wk_icmp_ltN (S : wk_S p s m args c D A nL cc own tys gx) {x y : Nat} {off : Int} {tgt : Nat} (hdg : decode cc pc = .ok (.if_icmp .lt off, 3)) (ht : (pc : Int) + off = (tgt : Int)) (hx : x < 2 ^ 31) (hy : y < 2 ^ 31) (kt : x < y → wk_G p l e R s m args below meth c Q D A nL cells slots ws (tgt) lv (rest)) (kf : y ≤ x → wk_G p l e R s m args below meth c Q D A nL cells slots ws (pc + 3) lv (rest)) : wk_G p l e R s m args below meth c Q D A nL cells slots ws (pc) lv (.int (nI y) :: .int (nI x) :: rest) := wk_icmp_lt S hdg ht (fun h => kt ((nI_ltI hx hy).mp h)) (fun h => kf (Nat.le_of_not_lt (fun z => h ((nI_ltI hx hy).mpr z))))
theorem wk_icmp_geN (S : wk_S p s m args c D A nL cc own tys gx) {x y : Nat} {off : Int} {tgt : Nat} (hdg : decode cc pc = .ok (.if_icmp .ge off, 3)) (ht : (pc : Int) + off = (tgt : Int)) (hx : x < 2 ^ 31) (hy : y < 2 ^ 31) (kt : y ≤ x → wk_G p l e R s m args below meth c Q D A nL cells slots ws (tgt) lv (rest)) (kf : x < y → wk_G p l e R s m args below meth c Q D A nL cells slots ws (pc + 3) lv (rest)) : wk_G p l e R s m args below meth c Q D A nL cells slots ws (pc) lv (.int (nI y) :: .int (nI x) :: rest) := wk_icmp_ge S hdg ht (fun h => kt ((nI_leI hy hx).mp h)) (fun h => kf (Nat.lt_of_not_le (fun z => h ((nI_leI hy hx).mpr z))))
theorem wk_icmp_gtN (S : wk_S p s m args c D A nL cc own tys gx) {x y : Nat} {off : Int} {tgt : Nat} (hdg : decode cc pc = .ok (.if_icmp .gt off, 3)) (ht : (pc : Int) + off = (tgt : Int)) (hx : x < 2 ^ 31) (hy : y < 2 ^ 31) (kt : y < x → wk_G p l e R s m args below meth c Q D A nL cells slots ws (tgt) lv (rest)) (kf : x ≤ y → wk_G p l e R s m args below meth c Q D A nL cells slots ws (pc + 3) lv (rest)) : wk_G p l e R s m args below meth c Q D A nL cells slots ws (pc) lv (.int (nI y) :: .int (nI x) :: rest) := wk_icmp_gt S hdg ht (fun h => kt ((nI_ltI hy hx).mp h)) (fun h => kf (Nat.le_of_not_lt (fun z => h ((nI_ltI hy hx).mpr z))))
theorem wk_icmp_leN (S : wk_S p s m args c D A nL cc own tys gx) {x y : Nat} {off : Int} {tgt : Nat} (hdg : decode cc pc = .ok (.if_icmp .le off, 3)) (ht : (pc : Int) + off = (tgt : Int)) (hx : x < 2 ^ 31) (hy : y < 2 ^ 31) (kt : x ≤ y → wk_G p l e R s m args below meth c Q D A nL cells slots ws (tgt) lv (rest)) (kf : y < x → wk_G p l e R s m args below meth c Q D A nL cells slots ws (pc + 3) lv (rest)) : wk_G p l e R s m args below meth c Q D A nL cells slots ws (pc) lv (.int (nI y) :: .int (nI x) :: rest) := wk_icmp_le S hdg ht (fun h => kt ((nI_leI hx hy).mp h)) (fun h => kf (Nat.lt_of_not_le (fun z => h ((nI_leI hx hy).mpr z))))
theorem wk_if_eqN (S : wk_S p s m args c D A nL cc own tys gx) {x : Nat} {off : Int} {tgt : Nat} (hdg : decode cc pc = .ok (.ifCond .eq off, 3)) (ht : (pc : Int) + off = (tgt : Int)) (hx : x < 2 ^ 31) (kt : x = 0 → wk_G p l e R s m args below meth c Q D A nL cells slots ws (tgt) lv (rest)) (kf : x ≠ 0 → wk_G p l e R s m args below meth c Q D A nL cells slots ws (pc + 3) lv (rest)) : wk_G p l e R s m args below meth c Q D A nL cells slots ws (pc) lv (.int (nI x) :: rest) := have h9 : (0 : Nat) < 2 ^ 31 := by decide
  wk_if_eq S hdg ht (fun h => kt ((nI_eq hx h9).mp (h.trans nI_0.symm))) (fun h => kf (fun z => h (((nI_eq hx h9).mpr z).trans nI_0)))
theorem wk_if_neN (S : wk_S p s m args c D A nL cc own tys gx) {x : Nat} {off : Int} {tgt : Nat} (hdg : decode cc pc = .ok (.ifCond .ne off, 3)) (ht : (pc : Int) + off = (tgt : Int)) (hx : x < 2 ^ 31) (kt : x ≠ 0 → wk_G p l e R s m args below meth c Q D A nL cells slots ws (tgt) lv (rest)) (kf : x = 0 → wk_G p l e R s m args below meth c Q D A nL cells slots ws (pc + 3) lv (rest)) : wk_G p l e R s m args below meth c Q D A nL cells slots ws (pc) lv (.int (nI x) :: rest) := have h9 : (0 : Nat) < 2 ^ 31 := by decide
  wk_if_ne S hdg ht (fun h => kt (fun z => h (((nI_eq hx h9).mpr z).trans nI_0))) (fun h => kf ((nI_eq hx h9).mp (h.trans nI_0.symm)))
theorem wk_if_gtN (S : wk_S p s m args c D A nL cc own tys gx) {x : Nat} {off : Int} {tgt : Nat} (hdg : decode cc pc = .ok (.ifCond .gt off, 3)) (ht : (pc : Int) + off = (tgt : Int)) (hx : x < 2 ^ 31) (kt : 0 < x → wk_G p l e R s m args below meth c Q D A nL cells slots ws (tgt) lv (rest)) (kf : x = 0 → wk_G p l e R s m args below meth c Q D A nL cells slots ws (pc + 3) lv (rest)) : wk_G p l e R s m args below meth c Q D A nL cells slots ws (pc) lv (.int (nI x) :: rest) := have h9 : (0 : Nat) < 2 ^ 31 := by decide
  wk_if_gt S hdg ht (fun h => kt ((nI_ltI h9 hx).mp (by rw [nI_0]; exact h))) (fun h => kf (Nat.eq_zero_of_not_pos (fun z => h (by rw [← nI_0]; exact (nI_ltI h9 hx).mpr z))))
theorem wk_if_leN (S : wk_S p s m args c D A nL cc own tys gx) {x : Nat} {off : Int} {tgt : Nat} (hdg : decode cc pc = .ok (.ifCond .le off, 3)) (ht : (pc : Int) + off = (tgt : Int)) (hx : x < 2 ^ 31) (kt : x = 0 → wk_G p l e R s m args below meth c Q D A nL cells slots ws (tgt) lv (rest)) (kf : 0 < x → wk_G p l e R s m args below meth c Q D A nL cells slots ws (pc + 3) lv (rest)) : wk_G p l e R s m args below meth c Q D A nL cells slots ws (pc) lv (.int (nI x) :: rest) := have h9 : (0 : Nat) < 2 ^ 31 := by decide
  wk_if_le S hdg ht (fun h => kt (Nat.eq_zero_of_not_pos (fun z => absurd h (nI_nle z hx)))) (fun h => kf (Nat.pos_of_ne_zero (fun z => h (by rw [z, nI_0]; decide))))
theorem wk_if_ltN (S : wk_S p s m args c D A nL cc own tys gx) {x : Nat} {off : Int} {tgt : Nat} (hdg : decode cc pc = .ok (.ifCond .lt off, 3)) (ht : (pc : Int) + off = (tgt : Int)) (hx : x < 2 ^ 31) (kk : wk_G p l e R s m args below meth c Q D A nL cells slots ws (pc + 3) lv (rest)) : wk_G p l e R s m args below meth c Q D A nL cells slots ws (pc) lv (.int (nI x) :: rest) := wk_if_lt S hdg ht (fun h => absurd h (nI_pos hx)) (fun _ => kk)
theorem wk_if_geN (S : wk_S p s m args c D A nL cc own tys gx) {x : Nat} {off : Int} {tgt : Nat} (hdg : decode cc pc = .ok (.ifCond .ge off, 3)) (ht : (pc : Int) + off = (tgt : Int)) (hx : x < 2 ^ 31) (kk : wk_G p l e R s m args below meth c Q D A nL cells slots ws (tgt) lv (rest)) : wk_G p l e R s m args below meth c Q D A nL cells slots ws (pc) lv (.int (nI x) :: rest) := wk_if_ge S hdg ht (fun _ => kk) (fun h => absurd (nI_pos' hx) h)
theorem wk_cmp_eq (S : wk_S p s m args c D A nL cc own tys gx) {x y : Int64} {off : Int} {tgt : Nat} (hdg : decode cc pc = .ok (.ifCond .eq off, 3)) (ht : (pc : Int) + off = (tgt : Int)) (kt : x = y → wk_G p l e R s m args below meth c Q D A nL cells slots ws (tgt) lv (rest)) (kf : ¬ x = y → wk_G p l e R s m args below meth c Q D A nL cells slots ws (pc + 3) lv (rest)) : wk_G p l e R s m args below meth c Q D A nL cells slots ws (pc) lv (.int (lg_cmp x y) :: rest) := wk_if_eq S hdg ht (fun h => kt ((lg_cmp_eq x y).mp h)) (fun h => kf (fun z => h ((lg_cmp_eq x y).mpr z)))
theorem wk_cmp_ne (S : wk_S p s m args c D A nL cc own tys gx) {x y : Int64} {off : Int} {tgt : Nat} (hdg : decode cc pc = .ok (.ifCond .ne off, 3)) (ht : (pc : Int) + off = (tgt : Int)) (kt : ¬ x = y → wk_G p l e R s m args below meth c Q D A nL cells slots ws (tgt) lv (rest)) (kf : x = y → wk_G p l e R s m args below meth c Q D A nL cells slots ws (pc + 3) lv (rest)) : wk_G p l e R s m args below meth c Q D A nL cells slots ws (pc) lv (.int (lg_cmp x y) :: rest) := wk_if_ne S hdg ht (fun h => kt (fun z => h ((lg_cmp_eq x y).mpr z))) (fun h => kf ((lg_cmp_eq x y).mp h))
theorem wk_cmp_lt (S : wk_S p s m args c D A nL cc own tys gx) {x y : Int64} {off : Int} {tgt : Nat} (hdg : decode cc pc = .ok (.ifCond .lt off, 3)) (ht : (pc : Int) + off = (tgt : Int)) (kt : x < y → wk_G p l e R s m args below meth c Q D A nL cells slots ws (tgt) lv (rest)) (kf : ¬ x < y → wk_G p l e R s m args below meth c Q D A nL cells slots ws (pc + 3) lv (rest)) : wk_G p l e R s m args below meth c Q D A nL cells slots ws (pc) lv (.int (lg_cmp x y) :: rest) := wk_if_lt S hdg ht (fun h => kt ((lg_cmp_lt x y).mp h)) (fun h => kf (fun z => h ((lg_cmp_lt x y).mpr z)))
theorem wk_cmp_ge (S : wk_S p s m args c D A nL cc own tys gx) {x y : Int64} {off : Int} {tgt : Nat} (hdg : decode cc pc = .ok (.ifCond .ge off, 3)) (ht : (pc : Int) + off = (tgt : Int)) (kt : y ≤ x → wk_G p l e R s m args below meth c Q D A nL cells slots ws (tgt) lv (rest)) (kf : ¬ y ≤ x → wk_G p l e R s m args below meth c Q D A nL cells slots ws (pc + 3) lv (rest)) : wk_G p l e R s m args below meth c Q D A nL cells slots ws (pc) lv (.int (lg_cmp x y) :: rest) := wk_if_ge S hdg ht (fun h => kt ((lg_cmp_ge x y).mp h)) (fun h => kf (fun z => h ((lg_cmp_ge x y).mpr z)))
theorem wk_cmp_gt (S : wk_S p s m args c D A nL cc own tys gx) {x y : Int64} {off : Int} {tgt : Nat} (hdg : decode cc pc = .ok (.ifCond .gt off, 3)) (ht : (pc : Int) + off = (tgt : Int)) (kt : y < x → wk_G p l e R s m args below meth c Q D A nL cells slots ws (tgt) lv (rest)) (kf : ¬ y < x → wk_G p l e R s m args below meth c Q D A nL cells slots ws (pc + 3) lv (rest)) : wk_G p l e R s m args below meth c Q D A nL cells slots ws (pc) lv (.int (lg_cmp x y) :: rest) := wk_if_gt S hdg ht (fun h => kt ((lg_cmp_gt x y).mp h)) (fun h => kf (fun z => h ((lg_cmp_gt x y).mpr z)))
theorem wk_cmp_le (S : wk_S p s m args c D A nL cc own tys gx) {x y : Int64} {off : Int} {tgt : Nat} (hdg : decode cc pc = .ok (.ifCond .le off, 3)) (ht : (pc : Int) + off = (tgt : Int)) (kt : x ≤ y → wk_G p l e R s m args below meth c Q D A nL cells slots ws (tgt) lv (rest)) (kf : ¬ x ≤ y → wk_G p l e R s m args below meth c Q D A nL cells slots ws (pc + 3) lv (rest)) : wk_G p l e R s m args below meth c Q D A nL cells slots ws (pc) lv (.int (lg_cmp x y) :: rest) := wk_if_le S hdg ht (fun h => kt ((lg_cmp_le x y).mp h)) (fun h => kf (fun z => h ((lg_cmp_le x y).mpr z)))
theorem wk_cmp_eqN (S : wk_S p s m args c D A nL cc own tys gx) {x y : Nat} {off : Int} {tgt : Nat} (hdg : decode cc pc = .ok (.ifCond .eq off, 3)) (ht : (pc : Int) + off = (tgt : Int)) (hx : x < 2 ^ 63) (hy : y < 2 ^ 63) (kt : x = y → wk_G p l e R s m args below meth c Q D A nL cells slots ws (tgt) lv (rest)) (kf : x ≠ y → wk_G p l e R s m args below meth c Q D A nL cells slots ws (pc + 3) lv (rest)) : wk_G p l e R s m args below meth c Q D A nL cells slots ws (pc) lv (.int (lg_cmp (lN x) (lN y)) :: rest) := wk_cmp_eq S hdg ht (fun h => kt ((pk_lEQ hx hy).mp h)) (fun h => kf (fun z => h ((pk_lEQ hx hy).mpr z)))
theorem wk_cmp_neN (S : wk_S p s m args c D A nL cc own tys gx) {x y : Nat} {off : Int} {tgt : Nat} (hdg : decode cc pc = .ok (.ifCond .ne off, 3)) (ht : (pc : Int) + off = (tgt : Int)) (hx : x < 2 ^ 63) (hy : y < 2 ^ 63) (kt : x ≠ y → wk_G p l e R s m args below meth c Q D A nL cells slots ws (tgt) lv (rest)) (kf : x = y → wk_G p l e R s m args below meth c Q D A nL cells slots ws (pc + 3) lv (rest)) : wk_G p l e R s m args below meth c Q D A nL cells slots ws (pc) lv (.int (lg_cmp (lN x) (lN y)) :: rest) := wk_cmp_ne S hdg ht (fun h => kt (fun z => h ((pk_lEQ hx hy).mpr z))) (fun h => kf ((pk_lEQ hx hy).mp h))
theorem wk_cmp_ltN (S : wk_S p s m args c D A nL cc own tys gx) {x y : Nat} {off : Int} {tgt : Nat} (hdg : decode cc pc = .ok (.ifCond .lt off, 3)) (ht : (pc : Int) + off = (tgt : Int)) (hx : x < 2 ^ 63) (hy : y < 2 ^ 63) (kt : x < y → wk_G p l e R s m args below meth c Q D A nL cells slots ws (tgt) lv (rest)) (kf : y ≤ x → wk_G p l e R s m args below meth c Q D A nL cells slots ws (pc + 3) lv (rest)) : wk_G p l e R s m args below meth c Q D A nL cells slots ws (pc) lv (.int (lg_cmp (lN x) (lN y)) :: rest) := wk_cmp_lt S hdg ht (fun h => kt ((pk_lLT hx hy).mp h)) (fun h => kf (Nat.le_of_not_lt (fun z => h ((pk_lLT hx hy).mpr z))))
theorem wk_cmp_geN (S : wk_S p s m args c D A nL cc own tys gx) {x y : Nat} {off : Int} {tgt : Nat} (hdg : decode cc pc = .ok (.ifCond .ge off, 3)) (ht : (pc : Int) + off = (tgt : Int)) (hx : x < 2 ^ 63) (hy : y < 2 ^ 63) (kt : y ≤ x → wk_G p l e R s m args below meth c Q D A nL cells slots ws (tgt) lv (rest)) (kf : x < y → wk_G p l e R s m args below meth c Q D A nL cells slots ws (pc + 3) lv (rest)) : wk_G p l e R s m args below meth c Q D A nL cells slots ws (pc) lv (.int (lg_cmp (lN x) (lN y)) :: rest) := wk_cmp_ge S hdg ht (fun h => kt ((pk_lLE hy hx).mp h)) (fun h => kf (Nat.lt_of_not_le (fun z => h ((pk_lLE hy hx).mpr z))))
theorem wk_cmp_gtN (S : wk_S p s m args c D A nL cc own tys gx) {x y : Nat} {off : Int} {tgt : Nat} (hdg : decode cc pc = .ok (.ifCond .gt off, 3)) (ht : (pc : Int) + off = (tgt : Int)) (hx : x < 2 ^ 63) (hy : y < 2 ^ 63) (kt : y < x → wk_G p l e R s m args below meth c Q D A nL cells slots ws (tgt) lv (rest)) (kf : x ≤ y → wk_G p l e R s m args below meth c Q D A nL cells slots ws (pc + 3) lv (rest)) : wk_G p l e R s m args below meth c Q D A nL cells slots ws (pc) lv (.int (lg_cmp (lN x) (lN y)) :: rest) := wk_cmp_gt S hdg ht (fun h => kt ((pk_lLT hy hx).mp h)) (fun h => kf (Nat.le_of_not_lt (fun z => h ((pk_lLT hy hx).mpr z))))
theorem wk_cmp_leN (S : wk_S p s m args c D A nL cc own tys gx) {x y : Nat} {off : Int} {tgt : Nat} (hdg : decode cc pc = .ok (.ifCond .le off, 3)) (ht : (pc : Int) + off = (tgt : Int)) (hx : x < 2 ^ 63) (hy : y < 2 ^ 63) (kt : x ≤ y → wk_G p l e R s m args below meth c Q D A nL cells slots ws (tgt) lv (rest)) (kf : y < x → wk_G p l e R s m args below meth c Q D A nL cells slots ws (pc + 3) lv (rest)) : wk_G p l e R s m args below meth c Q D A nL cells slots ws (pc) lv (.int (lg_cmp (lN x) (lN y)) :: rest) := wk_cmp_le S hdg ht (fun h => kt ((pk_lLE hx hy).mp h)) (fun h => kf (Nat.lt_of_not_le (fun z => h ((pk_lLE hx hy).mpr z))))
theorem wk_ldivN (S : wk_S p s m args c D A nL cc own tys gx) {x y : Nat} (hdg : decode cc pc = .ok (.ldiv, 1)) (hx : x < 2 ^ 63) (h0 : 0 < y) (hy : y < 2 ^ 63) (kk : wk_G p l e R s m args below meth c Q D A nL cells slots ws (pc + 1) lv (.long (lN (x / y)) :: rest)) : wk_G p l e R s m args below meth c Q D A nL cells slots ws (pc) lv (.long (lN y) :: .long (lN x) :: rest) := fun H locs ls hP hD hS hl => lv_ldiv S.1.1 S.1.2.1 hdg (fun z => absurd ((pk_lEQ hy (by decide)).mp (z.trans (show (0 : Int64) = lN 0 from rfl))) (Nat.pos_iff_ne_zero.mp h0)) (by rw [pk_lDiv hx h0 hy]; exact (kk H locs ls hP hD hS hl))
theorem wk_lremN (S : wk_S p s m args c D A nL cc own tys gx) {x y : Nat} (hdg : decode cc pc = .ok (.lrem, 1)) (hx : x < 2 ^ 63) (h0 : 0 < y) (hy : y < 2 ^ 63) (kk : wk_G p l e R s m args below meth c Q D A nL cells slots ws (pc + 1) lv (.long (lN (x % y)) :: rest)) : wk_G p l e R s m args below meth c Q D A nL cells slots ws (pc) lv (.long (lN y) :: .long (lN x) :: rest) := fun H locs ls hP hD hS hl => lv_lrem S.1.1 S.1.2.1 hdg (fun z => absurd ((pk_lEQ hy (by decide)).mp (z.trans (show (0 : Int64) = lN 0 from rfl))) (Nat.pos_iff_ne_zero.mp h0)) (by rw [pk_lRem hx h0 hy]; exact (kk H locs ls hP hD hS hl))
def bI (b : Bool) : Int32 := if b then 1 else 0
theorem wk_if_eqB (S : wk_S p s m args c D A nL cc own tys gx) {b : Bool} {off : Int} {tgt : Nat} (hdg : decode cc pc = .ok (.ifCond .eq off, 3)) (ht : (pc : Int) + off = (tgt : Int)) (kt : b = false → wk_G p l e R s m args below meth c Q D A nL cells slots ws (tgt) lv (rest)) (kf : b = true → wk_G p l e R s m args below meth c Q D A nL cells slots ws (pc + 3) lv (rest)) : wk_G p l e R s m args below meth c Q D A nL cells slots ws (pc) lv (.int (bI b) :: rest) := wk_if_eq S hdg ht (fun h => kt (by cases b; rfl; exact absurd h (by decide))) (fun h => kf (by cases b; exact absurd rfl h; rfl))
theorem wk_if_neB (S : wk_S p s m args c D A nL cc own tys gx) {b : Bool} {off : Int} {tgt : Nat} (hdg : decode cc pc = .ok (.ifCond .ne off, 3)) (ht : (pc : Int) + off = (tgt : Int)) (kt : b = true → wk_G p l e R s m args below meth c Q D A nL cells slots ws (tgt) lv (rest)) (kf : b = false → wk_G p l e R s m args below meth c Q D A nL cells slots ws (pc + 3) lv (rest)) : wk_G p l e R s m args below meth c Q D A nL cells slots ws (pc) lv (.int (bI b) :: rest) := wk_if_ne S hdg ht (fun h => kt (by cases b; exact absurd rfl h; rfl)) (fun h => kf (by cases b; rfl; exact absurd h (by decide)))
theorem wk_tblI (S : wk_S p s m args c D A nL cc own tys gx) {dflt lo hi : Int} {offs : Array Int} {len : Nat} {x : Int32} {off : Int} {tgt : Nat} (hdg : decode cc pc = .ok (.tableswitch dflt lo hi offs, len)) (h1 : ¬ x.toInt < lo) (h2 : ¬ hi < x.toInt) (ho : offs[(x.toInt - lo).toNat]? = some off) (ht : (pc : Int) + off = (tgt : Int)) (kk : wk_G p l e R s m args below meth c Q D A nL cells slots ws (tgt) lv (rest)) : wk_G p l e R s m args below meth c Q D A nL cells slots ws (pc) lv (.int x :: rest) := fun H locs ls hP hD hS hl => lv_tableIn S.1.1 S.1.2.1 hdg h1 h2 ho ht (kk H locs ls hP hD hS hl)
theorem wk_tblO (S : wk_S p s m args c D A nL cc own tys gx) {dflt lo hi : Int} {offs : Array Int} {len : Nat} {x : Int32} {tgt : Nat} (hdg : decode cc pc = .ok (.tableswitch dflt lo hi offs, len)) (h : x.toInt < lo ∨ hi < x.toInt) (ht : (pc : Int) + dflt = (tgt : Int)) (kk : wk_G p l e R s m args below meth c Q D A nL cells slots ws (tgt) lv (rest)) : wk_G p l e R s m args below meth c Q D A nL cells slots ws (pc) lv (.int x :: rest) := fun H locs ls hP hD hS hl => lv_tableOut S.1.1 S.1.2.1 hdg h ht (kk H locs ls hP hD hS hl)
theorem wk_ifnull (S : wk_S p s m args c D A nL cc own tys gx) {x : Nat} {off : Int} (hdg : decode cc pc = .ok (.ifnull off, 3)) (kk : wk_G p l e R s m args below meth c Q D A nL cells slots ws (pc + 3) lv (rest)) : wk_G p l e R s m args below meth c Q D A nL cells slots ws (pc) lv (.ref x :: rest) := fun H locs ls hP hD hS hl => lv_ifnull S.1.1 S.1.2.1 hdg (kk H locs ls hP hD hS hl)
theorem wk_ifnullN (S : wk_S p s m args c D A nL cc own tys gx) {off : Int} {tgt : Nat} (hdg : decode cc pc = .ok (.ifnull off, 3)) (ht : (pc : Int) + off = (tgt : Int)) (kk : wk_G p l e R s m args below meth c Q D A nL cells slots ws (tgt) lv (rest)) : wk_G p l e R s m args below meth c Q D A nL cells slots ws (pc) lv (.null :: rest) := fun H locs ls hP hD hS hl => lv_ifnullN S.1.1 S.1.2.1 hdg ht (kk H locs ls hP hD hS hl)
theorem wk_ifnonnull (S : wk_S p s m args c D A nL cc own tys gx) {x : Nat} {off : Int} {tgt : Nat} (hdg : decode cc pc = .ok (.ifnonnull off, 3)) (ht : (pc : Int) + off = (tgt : Int)) (kk : wk_G p l e R s m args below meth c Q D A nL cells slots ws (tgt) lv (rest)) : wk_G p l e R s m args below meth c Q D A nL cells slots ws (pc) lv (.ref x :: rest) := fun H locs ls hP hD hS hl => lv_ifnonnull S.1.1 S.1.2.1 hdg ht (kk H locs ls hP hD hS hl)
theorem wk_ifnonnullN (S : wk_S p s m args c D A nL cc own tys gx) {off : Int} (hdg : decode cc pc = .ok (.ifnonnull off, 3)) (kk : wk_G p l e R s m args below meth c Q D A nL cells slots ws (pc + 3) lv (rest)) : wk_G p l e R s m args below meth c Q D A nL cells slots ws (pc) lv (.null :: rest) := fun H locs ls hP hD hS hl => lv_ifnonnullN S.1.1 S.1.2.1 hdg (kk H locs ls hP hD hS hl)
theorem wk_get (S : wk_S p s m args c D A nL cc own tys gx) {C ref nm ds : String} {T : u_T} {N index : Nat} {fs : List Value} {v : Value} (ci k q0 : Nat) (hin : ∀ w ∈ u_ws C T N, w ∈ lw_gd) (hc : vwCl[ci]? = some (C, T, N)) (hk : k < N) (hT : ((T k).1, (T k).2.1, (T k).2.2.1) = (ref, nm, ds)) (hlink : Cond.fieldLink own index ref nm ds ∈ lw_gd) (hdg : decode cc pc = .ok (.getfield index, 3)) (he : ws[q0]? = some (a, .inr (ci, fs))) (hv : fs[k]? = some v) (kk : wk_G p l e R s m args below meth c Q D A nL cells slots ws (pc + 3) lv (v :: rest)) : wk_G p l e R s m args below meth c Q D A nL cells slots ws (pc) lv (.ref a :: rest) := by
  obtain ⟨h7, h8⟩ := Prod.mk.inj hT
  obtain ⟨h8, h9⟩ := Prod.mk.inj h8
  subst h7
  subst h8
  subst h9
  exact fun H locs ls hP hD hS hl => va_get S.1.1 S.1.2.1 S.1.2.2.2.2 hin S.1.2.2.2.1 S.2.1 hP q0 he hc k hk (S.1.2.2.2.2 _ hlink) (fun _ h9 => h9) hv hdg (kk H locs ls hP hD hS hl)
theorem wk_put (S : wk_S p s m args c D A nL cc own tys gx) {C ref nm ds : String} {T : u_T} {N index : Nat} {fs : List Value} {v : Value} {ty : FieldType} (ci k q0 : Nat) (hin : ∀ w ∈ u_ws C T N, w ∈ lw_gd) (ty0 : Nat → FieldType) (hty : ∀ k, k < N → parseFieldDescriptor (T k).2.2.1 = some (ty0 k)) (hnm : ∀ a, a < N → ∀ b, b < N → a ≠ b → (T a).2.1 ≠ (T b).2.1) (hc : vwCl[ci]? = some (C, T, N)) (hk : k < N) (hT : T k = (ref, nm, ds, false)) (hlink : Cond.fieldLink own index ref nm ds ∈ lw_gd) (hd : parseFieldDescriptor ds = some ty) (hdg : decode cc pc = .ok (.putfield index, 3)) (he : ws[q0]? = some (a, .inr (ci, fs))) (hn : narrow ty v = v) (hfit : fits ty v = true) (hl9 : k < fs.length) (hw : ws.set q0 (a, .inr (ci, fs.set k v)) = ws') (kk : wk_G p l e R s m args below meth c Q D A nL cells slots ws' (pc + 3) lv (rest)) : wk_G p l e R s m args below meth c Q D A nL cells slots ws (pc) lv (v :: .ref a :: rest) := fun H locs ls hP hD hS hl => by
  subst hw
  exact va_put S.1.1 S.1.2.1 S.1.2.2.2.2 hin ty0 hty hnm S.1.2.2.2.1 S.2.1 hP hD hS q0 he hc k hk (by rw [hT]; exact S.1.2.2.2.2 _ hlink) (by rw [hT]; exact fun _ h9 => h9) (by rw [hT]) (by rw [hT]; exact hd) hn hfit hl9 hdg (fun H1 locs1 hP hD hS => kk H1 locs1 ls hP hD hS hl)
theorem wk_putF (S : wk_S p s m args c D A nL cc own tys gx) {C nm ds : String} {T : u_T} {N index : Nat} {fs : List Value} {v : Value} {ty : FieldType} (hin2 : meth.name = "<init>") (ci k q0 : Nat) (hin : ∀ w ∈ u_ws C T N, w ∈ lw_gd) (ty0 : Nat → FieldType) (hty : ∀ k, k < N → parseFieldDescriptor (T k).2.2.1 = some (ty0 k)) (hnm : ∀ a, a < N → ∀ b, b < N → a ≠ b → (T a).2.1 ≠ (T b).2.1) (hc : vwCl[ci]? = some (C, T, N)) (hk : k < N) (hT : T k = (own, nm, ds, true)) (hlink : Cond.fieldLink own index own nm ds ∈ lw_gd) (hd : parseFieldDescriptor ds = some ty) (hdg : decode cc pc = .ok (.putfield index, 3)) (he : ws[q0]? = some (a, .inr (ci, fs))) (hn : narrow ty v = v) (hfit : fits ty v = true) (hl9 : k < fs.length) (hw : ws.set q0 (a, .inr (ci, fs.set k v)) = ws') (kk : wk_G p l e R s m args below meth c Q D A nL cells slots ws' (pc + 3) lv (rest)) : wk_G p l e R s m args below meth c Q D A nL cells slots ws (pc) lv (v :: .ref a :: rest) := fun H locs ls hP hD hS hl => by
  subst hw
  exact va_putF S.1.1 S.1.2.1 S.1.2.2.2.2 hin ty0 hty hnm S.1.2.2.2.1 S.2.1 hP hD hS q0 he hc k hk (by rw [hT]; exact S.1.2.2.2.2 _ hlink) (by rw [hT]; exact fun _ h9 => h9) (by rw [hT]) hin2 (by rw [hT]) (by rw [hT]; exact hd) hn hfit hl9 hdg (fun H1 locs1 hP hD hS => kk H1 locs1 ls hP hD hS hl)
theorem wk_iald (S : wk_S p s m args c D A nL cc own tys gx) (q0 t0 : Nat) {cA : ClassId} {n j : Nat} {f : Nat → Int32} (hdg : decode cc pc = .ok (.iaload, 1)) (ha : ws[q0]? = some (a, .inl (cA, n, .inl f))) (ht : tys[t0]? = some (cA, .int)) (hj : j < n) (hn : n < 2 ^ 31) (kk : wk_G p l e R s m args below meth c Q D A nL cells slots ws (pc + 1) lv (.int (f j) :: rest)) : wk_G p l e R s m args below meth c Q D A nL cells slots ws (pc) lv (.int (nI j) :: .ref a :: rest) := fun H locs ls hP hD hS hl => va_iald S.1.1 S.1.2.1 S.2.1 hP q0 t0 ha ht (vp_in_nI hj hn) hdg (by rw [nI_clamp (Nat.lt_trans hj hn)]; exact (kk H locs ls hP hD hS hl))
theorem wk_iast (S : wk_S p s m args c D A nL cc own tys gx) (q0 t0 : Nat) {cA : ClassId} {n j : Nat} {f : Nat → Int32} {x : Int32} (hdg : decode cc pc = .ok (.iastore, 1)) (ha : ws[q0]? = some (a, .inl (cA, n, .inl f))) (ht : tys[t0]? = some (cA, .int)) (hj : j < n) (hn : n < 2 ^ 31) (hw : ws.set q0 (a, .inl (cA, n, .inl (upd f j x))) = ws') (kk : wk_G p l e R s m args below meth c Q D A nL cells slots ws' (pc + 1) lv (rest)) : wk_G p l e R s m args below meth c Q D A nL cells slots ws (pc) lv (.int x :: .int (nI j) :: .ref a :: rest) := fun H locs ls hP hD hS hl => by
  subst hw
  refine va_iast S.1.1 S.1.2.1 S.2.1 hP hD hS q0 t0 ha ht (vp_in_nI hj hn) hdg (fun H1 locs1 hP hD hS => ?_)
  rw [nI_clamp (Nat.lt_trans hj hn)] at hP hD
  exact kk H1 locs1 ls hP hD hS hl
theorem wk_alen (S : wk_S p s m args c D A nL cc own tys gx) (q0 t0 : Nat) {cA : ClassId} {x : vp_A} {ty : FieldType} (hdg : decode cc pc = .ok (.arraylength, 1)) (ha : ws[q0]? = some (a, .inl (cA, x))) (ht : tys[t0]? = some (cA, ty)) (kk : wk_G p l e R s m args below meth c Q D A nL cells slots ws (pc + 1) lv (.int (nI x.1) :: rest)) : wk_G p l e R s m args below meth c Q D A nL cells slots ws (pc) lv (.ref a :: rest) := fun H locs ls hP hD hS hl => va_alen S.1.1 S.1.2.1 S.2.1 hP q0 t0 ha ht rfl hdg (kk H locs ls hP hD hS hl)
/-- an array's contents, all of them numbers -/
def nF (g : Nat → Nat) : Nat → Int32 := fun k => nI (g k)
theorem nF_up (g : Nat → Nat) (j v : Nat) : upd (nF g) j (nI v) = nF (va_up g j v) := by
  funext k
  unfold upd nF va_up
  by_cases h : k = j
  · rw [if_pos h, if_pos h]
  · rw [if_neg h, if_neg h]
theorem wk_ialdN (S : wk_S p s m args c D A nL cc own tys gx) (q0 t0 : Nat) {cA : ClassId} {n j : Nat} {g : Nat → Nat} (hdg : decode cc pc = .ok (.iaload, 1)) (ha : ws[q0]? = some (a, .inl (cA, n, .inl (nF g)))) (ht : tys[t0]? = some (cA, .int)) (hj : j < n) (hn : n < 2 ^ 31) (kk : wk_G p l e R s m args below meth c Q D A nL cells slots ws (pc + 1) lv (.int (nI (g j)) :: rest)) : wk_G p l e R s m args below meth c Q D A nL cells slots ws (pc) lv (.int (nI j) :: .ref a :: rest) := wk_iald S q0 t0 hdg ha ht hj hn kk
theorem wk_iastN (S : wk_S p s m args c D A nL cc own tys gx) (q0 t0 : Nat) {cA : ClassId} {n j v : Nat} {g : Nat → Nat} (hdg : decode cc pc = .ok (.iastore, 1)) (ha : ws[q0]? = some (a, .inl (cA, n, .inl (nF g)))) (ht : tys[t0]? = some (cA, .int)) (hj : j < n) (hn : n < 2 ^ 31) (hw : ws.set q0 (a, .inl (cA, n, .inl (nF (va_up g j v)))) = ws') (kk : wk_G p l e R s m args below meth c Q D A nL cells slots ws' (pc + 1) lv (rest)) : wk_G p l e R s m args below meth c Q D A nL cells slots ws (pc) lv (.int (nI v) :: .int (nI j) :: .ref a :: rest) := wk_iast S q0 t0 hdg ha ht hj hn (by rw [nF_up]; exact hw) kk
/-- a number, or NONE: 0 is NONE, n + 1 is n -/
def zI (n : Nat) : Int32 := nI n - 1
theorem zI_0 : zI 0 = -1 := by decide
theorem zI_s (n : Nat) : zI (n + 1) = nI n := nI_pred n
theorem zI_p {n : Nat} (h : n ≠ 0) : zI n = nI (n - 1) := by
  obtain ⟨k, rfl⟩ : ∃ k, n = k + 1 := ⟨n - 1, by omega⟩
  exact zI_s k
theorem zI_lt {n : Nat} (hn : n < 2 ^ 31) : zI n < 0 ↔ n = 0 := by
  by_cases h : n = 0
  · subst h; exact ⟨fun _ => rfl, fun _ => by decide⟩
  · rw [zI_p h]; exact ⟨fun z => absurd z (nI_pos (by omega)), fun z => absurd z h⟩
theorem zI_ne {n : Nat} (hn : n < 2 ^ 31) : zI n = -1 ↔ n = 0 := by
  by_cases h : n = 0
  · subst h; exact ⟨fun _ => rfl, fun _ => by decide⟩
  · refine ⟨fun z => absurd ((zI_lt hn).mp (by rw [z]; decide)) h, fun z => absurd z h⟩
theorem zI_dec {n : Nat} (h : n ≠ 0) : zI n + (-1) = zI (n - 1) := by
  obtain ⟨k, rfl⟩ : ∃ k, n = k + 1 := ⟨n - 1, by omega⟩
  rw [zI_s]
  show nI k + (-1) = nI k - 1
  rw [Int32.sub_eq_add_neg]
def zF (g : Nat → Nat) : Nat → Int32 := fun k => zI (g k)
theorem zF_up (g : Nat → Nat) (j v : Nat) : upd (zF g) j (zI v) = zF (va_up g j v) := by
  funext k
  unfold upd zF va_up
  by_cases h : k = j
  · rw [if_pos h, if_pos h]
  · rw [if_neg h, if_neg h]
theorem nI_and (a b : Nat) : nI a &&& nI b = nI (a &&& b) := by
  apply Int32.toBitVec_inj.1
  show BitVec.ofNat 32 a &&& BitVec.ofNat 32 b = BitVec.ofNat 32 (a &&& b)
  apply BitVec.eq_of_getLsbD_eq
  intro i hi
  simp [hi]
theorem nI_or (a b : Nat) : nI a ||| nI b = nI (a ||| b) := by
  apply Int32.toBitVec_inj.1
  show BitVec.ofNat 32 a ||| BitVec.ofNat 32 b = BitVec.ofNat 32 (a ||| b)
  apply BitVec.eq_of_getLsbD_eq
  intro i hi
  simp [hi]
theorem nI_bit : ∀ c, c < 31 → nI 1 <<< (nI c &&& 31) = nI (2 ^ c) := by decide +kernel
theorem wk_iandN (S : wk_S p s m args c D A nL cc own tys gx) {x y : Nat} (hdg : decode cc pc = .ok (.iand, 1)) (kk : wk_G p l e R s m args below meth c Q D A nL cells slots ws (pc + 1) lv (.int (nI (x &&& y)) :: rest)) : wk_G p l e R s m args below meth c Q D A nL cells slots ws (pc) lv (.int (nI y) :: .int (nI x) :: rest) := fun H locs ls hP hD hS hl => lv_iand S.1.1 S.1.2.1 hdg (by rw [nI_and]; exact (kk H locs ls hP hD hS hl))
theorem wk_iorN (S : wk_S p s m args c D A nL cc own tys gx) {x y : Nat} (hdg : decode cc pc = .ok (.ior, 1)) (kk : wk_G p l e R s m args below meth c Q D A nL cells slots ws (pc + 1) lv (.int (nI (x ||| y)) :: rest)) : wk_G p l e R s m args below meth c Q D A nL cells slots ws (pc) lv (.int (nI y) :: .int (nI x) :: rest) := fun H locs ls hP hD hS hl => lv_ior S.1.1 S.1.2.1 hdg (by rw [nI_or]; exact (kk H locs ls hP hD hS hl))
theorem wk_ishlN (S : wk_S p s m args c D A nL cc own tys gx) {x : Nat} (hdg : decode cc pc = .ok (.ishl, 1)) (hx : x < 31) (kk : wk_G p l e R s m args below meth c Q D A nL cells slots ws (pc + 1) lv (.int (nI (2 ^ x)) :: rest)) : wk_G p l e R s m args below meth c Q D A nL cells slots ws (pc) lv (.int (nI x) :: .int (nI 1) :: rest) := fun H locs ls hP hD hS hl => lv_ishl S.1.1 S.1.2.1 hdg (by rw [nI_bit x hx]; exact (kk H locs ls hP hD hS hl))
theorem s_l31 : ∀ n, n < 31 → ((nI n &&& 31).toBitVec.smod 32).toNat = n := by decide +kernel
theorem wk_ishrN (S : wk_S p s m args c D A nL cc own tys gx) {x y : Nat} (hdg : decode cc pc = .ok (.ishr, 1)) (hx : x < 2 ^ 31) (hy : y < 31) (kk : wk_G p l e R s m args below meth c Q D A nL cells slots ws (pc + 1) lv (.int (nI (x / 2 ^ y)) :: rest)) : wk_G p l e R s m args below meth c Q D A nL cells slots ws (pc) lv (.int (nI y) :: .int (nI x) :: rest) := fun H locs ls hP hD hS hl => lv_ishr S.1.1 S.1.2.1 hdg (by rw [pk_shrN hx _ y (s_l31 y hy)]; exact (kk H locs ls hP hD hS hl))
theorem wk_icmp_eqY (S : wk_S p s m args c D A nL cc own tys gx) {x : Nat} {off : Int} {tgt : Nat} (hdg : decode cc pc = .ok (.if_icmp .eq off, 3)) (ht : (pc : Int) + off = (tgt : Int)) (hx : x < 2 ^ 31) (kt : x = 0 → wk_G p l e R s m args below meth c Q D A nL cells slots ws (tgt) lv (rest)) (kf : x ≠ 0 → wk_G p l e R s m args below meth c Q D A nL cells slots ws (pc + 3) lv (rest)) : wk_G p l e R s m args below meth c Q D A nL cells slots ws (pc) lv (.int (-1) :: .int (zI x) :: rest) := wk_icmp_eq S hdg ht (fun h => kt ((zI_ne hx).mp h)) (fun h => kf (fun z => h ((zI_ne hx).mpr z)))
theorem wk_icmp_neY (S : wk_S p s m args c D A nL cc own tys gx) {x : Nat} {off : Int} {tgt : Nat} (hdg : decode cc pc = .ok (.if_icmp .ne off, 3)) (ht : (pc : Int) + off = (tgt : Int)) (hx : x < 2 ^ 31) (kt : x ≠ 0 → wk_G p l e R s m args below meth c Q D A nL cells slots ws (tgt) lv (rest)) (kf : x = 0 → wk_G p l e R s m args below meth c Q D A nL cells slots ws (pc + 3) lv (rest)) : wk_G p l e R s m args below meth c Q D A nL cells slots ws (pc) lv (.int (-1) :: .int (zI x) :: rest) := wk_icmp_ne S hdg ht (fun h => kt (fun z => h ((zI_ne hx).mpr z))) (fun h => kf ((zI_ne hx).mp h))
theorem wk_if_ltY (S : wk_S p s m args c D A nL cc own tys gx) {x : Nat} {off : Int} {tgt : Nat} (hdg : decode cc pc = .ok (.ifCond .lt off, 3)) (ht : (pc : Int) + off = (tgt : Int)) (hx : x < 2 ^ 31) (kt : x = 0 → wk_G p l e R s m args below meth c Q D A nL cells slots ws (tgt) lv (rest)) (kf : x ≠ 0 → wk_G p l e R s m args below meth c Q D A nL cells slots ws (pc + 3) lv (rest)) : wk_G p l e R s m args below meth c Q D A nL cells slots ws (pc) lv (.int (zI x) :: rest) := wk_if_lt S hdg ht (fun h => kt ((zI_lt hx).mp h)) (fun h => kf (fun z => h ((zI_lt hx).mpr z)))
theorem wk_if_geY (S : wk_S p s m args c D A nL cc own tys gx) {x : Nat} {off : Int} {tgt : Nat} (hdg : decode cc pc = .ok (.ifCond .ge off, 3)) (ht : (pc : Int) + off = (tgt : Int)) (hx : x < 2 ^ 31) (kt : x ≠ 0 → wk_G p l e R s m args below meth c Q D A nL cells slots ws (tgt) lv (rest)) (kf : x = 0 → wk_G p l e R s m args below meth c Q D A nL cells slots ws (pc + 3) lv (rest)) : wk_G p l e R s m args below meth c Q D A nL cells slots ws (pc) lv (.int (zI x) :: rest) := wk_if_ge S hdg ht (fun h => kt (fun z => by rw [z] at h; exact absurd h (by decide))) (fun h => kf (Classical.byContradiction (fun z => h (by rw [zI_p z]; exact nI_pos' (by omega)))))
theorem zI_inj {x y : Nat} (hx : x < 2 ^ 31) (hy : y < 2 ^ 31) : zI x = zI y ↔ x = y := by
  by_cases h1 : x = 0
  · by_cases h2 : y = 0
    · subst h1; subst h2; simp
    · subst h1
      rw [zI_0]
      exact ⟨fun z => absurd ((zI_ne hy).mp z.symm) h2, fun z => absurd z.symm h2⟩
  · by_cases h2 : y = 0
    · subst h2
      rw [zI_0, zI_ne hx]
    · rw [zI_p h1, zI_p h2, nI_eq (by omega) (by omega)]
      omega
theorem zI_eqN {x y : Nat} (hx : x < 2 ^ 31) (hy : y + 1 < 2 ^ 31) : zI x = nI y ↔ x = y + 1 := by
  rw [← zI_s y]
  exact zI_inj hx hy
theorem wk_icmp_eqYN (S : wk_S p s m args c D A nL cc own tys gx) {x y : Nat} {off : Int} {tgt : Nat} (hdg : decode cc pc = .ok (.if_icmp .eq off, 3)) (ht : (pc : Int) + off = (tgt : Int)) (hx : x < 2 ^ 31) (hy : y + 1 < 2 ^ 31) (kt : x = y + 1 → wk_G p l e R s m args below meth c Q D A nL cells slots ws (tgt) lv (rest)) (kf : x ≠ y + 1 → wk_G p l e R s m args below meth c Q D A nL cells slots ws (pc + 3) lv (rest)) : wk_G p l e R s m args below meth c Q D A nL cells slots ws (pc) lv (.int (nI y) :: .int (zI x) :: rest) := wk_icmp_eq S hdg ht (fun h => kt ((zI_eqN hx hy).mp h)) (fun h => kf (fun z => h ((zI_eqN hx hy).mpr z)))
theorem wk_icmp_neYN (S : wk_S p s m args c D A nL cc own tys gx) {x y : Nat} {off : Int} {tgt : Nat} (hdg : decode cc pc = .ok (.if_icmp .ne off, 3)) (ht : (pc : Int) + off = (tgt : Int)) (hx : x < 2 ^ 31) (hy : y + 1 < 2 ^ 31) (kt : x ≠ y + 1 → wk_G p l e R s m args below meth c Q D A nL cells slots ws (tgt) lv (rest)) (kf : x = y + 1 → wk_G p l e R s m args below meth c Q D A nL cells slots ws (pc + 3) lv (rest)) : wk_G p l e R s m args below meth c Q D A nL cells slots ws (pc) lv (.int (nI y) :: .int (zI x) :: rest) := wk_icmp_ne S hdg ht (fun h => kt (fun z => h ((zI_eqN hx hy).mpr z))) (fun h => kf ((zI_eqN hx hy).mp h))
theorem wk_icmp_eqYY (S : wk_S p s m args c D A nL cc own tys gx) {x y : Nat} {off : Int} {tgt : Nat} (hdg : decode cc pc = .ok (.if_icmp .eq off, 3)) (ht : (pc : Int) + off = (tgt : Int)) (hx : x < 2 ^ 31) (hy : y < 2 ^ 31) (kt : x = y → wk_G p l e R s m args below meth c Q D A nL cells slots ws (tgt) lv (rest)) (kf : x ≠ y → wk_G p l e R s m args below meth c Q D A nL cells slots ws (pc + 3) lv (rest)) : wk_G p l e R s m args below meth c Q D A nL cells slots ws (pc) lv (.int (zI y) :: .int (zI x) :: rest) := wk_icmp_eq S hdg ht (fun h => kt ((zI_inj hx hy).mp h)) (fun h => kf (fun z => h ((zI_inj hx hy).mpr z)))
theorem wk_icmp_neYY (S : wk_S p s m args c D A nL cc own tys gx) {x y : Nat} {off : Int} {tgt : Nat} (hdg : decode cc pc = .ok (.if_icmp .ne off, 3)) (ht : (pc : Int) + off = (tgt : Int)) (hx : x < 2 ^ 31) (hy : y < 2 ^ 31) (kt : x ≠ y → wk_G p l e R s m args below meth c Q D A nL cells slots ws (tgt) lv (rest)) (kf : x = y → wk_G p l e R s m args below meth c Q D A nL cells slots ws (pc + 3) lv (rest)) : wk_G p l e R s m args below meth c Q D A nL cells slots ws (pc) lv (.int (zI y) :: .int (zI x) :: rest) := wk_icmp_ne S hdg ht (fun h => kt (fun z => h ((zI_inj hx hy).mpr z))) (fun h => kf ((zI_inj hx hy).mp h))
theorem wk_iastY (S : wk_S p s m args c D A nL cc own tys gx) (q0 t0 : Nat) {cA : ClassId} {n j v : Nat} {g : Nat → Nat} (hdg : decode cc pc = .ok (.iastore, 1)) (ha : ws[q0]? = some (a, .inl (cA, n, .inl (zF g)))) (ht : tys[t0]? = some (cA, .int)) (hj : j < n) (hn : n < 2 ^ 31) (hw : ws.set q0 (a, .inl (cA, n, .inl (zF (va_up g j (v))))) = ws') (kk : wk_G p l e R s m args below meth c Q D A nL cells slots ws' (pc + 1) lv (rest)) : wk_G p l e R s m args below meth c Q D A nL cells slots ws (pc) lv (.int (zI v) :: .int (nI j) :: .ref a :: rest) := wk_iast S q0 t0 hdg ha ht hj hn (by rw [zF_up]; exact hw) kk
theorem wk_iastYN (S : wk_S p s m args c D A nL cc own tys gx) (q0 t0 : Nat) {cA : ClassId} {n j v : Nat} {g : Nat → Nat} (hdg : decode cc pc = .ok (.iastore, 1)) (ha : ws[q0]? = some (a, .inl (cA, n, .inl (zF g)))) (ht : tys[t0]? = some (cA, .int)) (hj : j < n) (hn : n < 2 ^ 31) (hw : ws.set q0 (a, .inl (cA, n, .inl (zF (va_up g j (v + 1))))) = ws') (kk : wk_G p l e R s m args below meth c Q D A nL cells slots ws' (pc + 1) lv (rest)) : wk_G p l e R s m args below meth c Q D A nL cells slots ws (pc) lv (.int (nI v) :: .int (nI j) :: .ref a :: rest) := wk_iast S q0 t0 hdg ha ht hj hn (by rw [← zI_s, zF_up]; exact hw) kk
theorem wk_iastY0 (S : wk_S p s m args c D A nL cc own tys gx) (q0 t0 : Nat) {cA : ClassId} {n j : Nat} {g : Nat → Nat} (hdg : decode cc pc = .ok (.iastore, 1)) (ha : ws[q0]? = some (a, .inl (cA, n, .inl (zF g)))) (ht : tys[t0]? = some (cA, .int)) (hj : j < n) (hn : n < 2 ^ 31) (hw : ws.set q0 (a, .inl (cA, n, .inl (zF (va_up g j (0))))) = ws') (kk : wk_G p l e R s m args below meth c Q D A nL cells slots ws' (pc + 1) lv (rest)) : wk_G p l e R s m args below meth c Q D A nL cells slots ws (pc) lv (.int (-1) :: .int (nI j) :: .ref a :: rest) := wk_iast S q0 t0 hdg ha ht hj hn (by rw [← zI_0, zF_up]; exact hw) kk
/-- what a lead says: 0 nothing, below 11 a step, else a kind -/
def lI (o : Nat) : Int32 := if o = 0 then -100 else if o ≤ 10 then nI (o - 1) else -1 - nI (o - 11)
def lI_F (g : Nat → Nat) : Nat → Int32 := fun k => lI (g k)
theorem lI_up (g : Nat → Nat) (j v : Nat) : upd (lI_F g) j (lI v) = lI_F (va_up g j v) := by
  funext k
  unfold upd lI_F va_up
  by_cases h : k = j
  · rw [if_pos h, if_pos h]
  · rw [if_neg h, if_neg h]
theorem lI_no : ∀ o, o ≤ 19 → (lI o = -100 ↔ o = 0) := by decide +kernel
theorem lI_lt : ∀ o, o ≤ 19 → (lI o < 0 ↔ o = 0 ∨ 10 < o) := by decide +kernel
theorem lI_st {o : Nat} (h0 : o ≠ 0) (h : o ≤ 10) : lI o = nI (o - 1) := by rw [lI, if_neg h0, if_pos h]
theorem lI_kd : ∀ o, o ≤ 19 → 10 < o → (-1 : Int32) - lI o = zI (o - 10) := by decide +kernel
theorem wk_icmp_eqD (S : wk_S p s m args c D A nL cc own tys gx) {x : Nat} {off : Int} {tgt : Nat} (hdg : decode cc pc = .ok (.if_icmp .eq off, 3)) (ht : (pc : Int) + off = (tgt : Int)) (hx : x ≤ 19) (kt : x = 0 → wk_G p l e R s m args below meth c Q D A nL cells slots ws (tgt) lv (rest)) (kf : x ≠ 0 → wk_G p l e R s m args below meth c Q D A nL cells slots ws (pc + 3) lv (rest)) : wk_G p l e R s m args below meth c Q D A nL cells slots ws (pc) lv (.int (-100) :: .int (lI x) :: rest) := wk_icmp_eq S hdg ht (fun h => kt ((lI_no x hx).mp h)) (fun h => kf (fun z => h ((lI_no x hx).mpr z)))
theorem wk_icmp_neD (S : wk_S p s m args c D A nL cc own tys gx) {x : Nat} {off : Int} {tgt : Nat} (hdg : decode cc pc = .ok (.if_icmp .ne off, 3)) (ht : (pc : Int) + off = (tgt : Int)) (hx : x ≤ 19) (kt : x ≠ 0 → wk_G p l e R s m args below meth c Q D A nL cells slots ws (tgt) lv (rest)) (kf : x = 0 → wk_G p l e R s m args below meth c Q D A nL cells slots ws (pc + 3) lv (rest)) : wk_G p l e R s m args below meth c Q D A nL cells slots ws (pc) lv (.int (-100) :: .int (lI x) :: rest) := wk_icmp_ne S hdg ht (fun h => kt (fun z => h ((lI_no x hx).mpr z))) (fun h => kf ((lI_no x hx).mp h))
theorem wk_if_ltD (S : wk_S p s m args c D A nL cc own tys gx) {x : Nat} {off : Int} {tgt : Nat} (hdg : decode cc pc = .ok (.ifCond .lt off, 3)) (ht : (pc : Int) + off = (tgt : Int)) (hx : x ≤ 19) (kt : (x = 0 ∨ 10 < x) → wk_G p l e R s m args below meth c Q D A nL cells slots ws (tgt) lv (rest)) (kf : ¬ (x = 0 ∨ 10 < x) → wk_G p l e R s m args below meth c Q D A nL cells slots ws (pc + 3) lv (rest)) : wk_G p l e R s m args below meth c Q D A nL cells slots ws (pc) lv (.int (lI x) :: rest) := wk_if_lt S hdg ht (fun h => kt ((lI_lt x hx).mp h)) (fun h => kf (fun z => h ((lI_lt x hx).mpr z)))
theorem wk_ialdD (S : wk_S p s m args c D A nL cc own tys gx) (q0 t0 : Nat) {cA : ClassId} {n j : Nat} {g : Nat → Nat} (hdg : decode cc pc = .ok (.iaload, 1)) (ha : ws[q0]? = some (a, .inl (cA, n, .inl (lI_F g)))) (ht : tys[t0]? = some (cA, .int)) (hj : j < n) (hn : n < 2 ^ 31) (kk : wk_G p l e R s m args below meth c Q D A nL cells slots ws (pc + 1) lv (.int (lI (g j)) :: rest)) : wk_G p l e R s m args below meth c Q D A nL cells slots ws (pc) lv (.int (nI j) :: .ref a :: rest) := wk_iald S q0 t0 hdg ha ht hj hn kk
theorem wk_iastD (S : wk_S p s m args c D A nL cc own tys gx) (q0 t0 : Nat) {cA : ClassId} {n j v : Nat} {g : Nat → Nat} (hdg : decode cc pc = .ok (.iastore, 1)) (ha : ws[q0]? = some (a, .inl (cA, n, .inl (lI_F g)))) (ht : tys[t0]? = some (cA, .int)) (hj : j < n) (hn : n < 2 ^ 31) (hw : ws.set q0 (a, .inl (cA, n, .inl (lI_F (va_up g j v)))) = ws') (kk : wk_G p l e R s m args below meth c Q D A nL cells slots ws' (pc + 1) lv (rest)) : wk_G p l e R s m args below meth c Q D A nL cells slots ws (pc) lv (.int (lI v) :: .int (nI j) :: .ref a :: rest) := wk_iast S q0 t0 hdg ha ht hj hn (by rw [lI_up]; exact hw) kk
theorem wk_ialdY (S : wk_S p s m args c D A nL cc own tys gx) (q0 t0 : Nat) {cA : ClassId} {n j : Nat} {g : Nat → Nat} (hdg : decode cc pc = .ok (.iaload, 1)) (ha : ws[q0]? = some (a, .inl (cA, n, .inl (zF g)))) (ht : tys[t0]? = some (cA, .int)) (hj : j < n) (hn : n < 2 ^ 31) (kk : wk_G p l e R s m args below meth c Q D A nL cells slots ws (pc + 1) lv (.int (zI (g j)) :: rest)) : wk_G p l e R s m args below meth c Q D A nL cells slots ws (pc) lv (.int (nI j) :: .ref a :: rest) := wk_iald S q0 t0 hdg ha ht hj hn kk
/-- contents: truth values; long numbers -/
def bF (g : Nat → Bool) : Nat → Int32 := fun k => bI (g k)
theorem bF_up (g : Nat → Bool) (j : Nat) (v : Bool) : upd (bF g) j (bI v) = bF (va_up g j v) := by
  funext k
  unfold upd bF va_up
  by_cases h : k = j
  · rw [if_pos h, if_pos h]
  · rw [if_neg h, if_neg h]
theorem bI_nar (b : Bool) : vp_nar .boolean (bI b) = bI b := by cases b <;> rfl
def lF (g : Nat → Nat) : Nat → Int64 := fun k => lN (g k)
theorem lF_up (g : Nat → Nat) (j v : Nat) : vp_updL (lF g) j (lN v) = lF (va_up g j v) := by
  funext k
  unfold vp_updL lF va_up
  by_cases h : k = j
  · rw [if_pos h, if_pos h]
  · rw [if_neg h, if_neg h]
theorem wk_zald (S : wk_S p s m args c D A nL cc own tys gx) (q0 t0 : Nat) {cA : ClassId} {n j : Nat} {g : Nat → Bool} (hdg : decode cc pc = .ok (.baload, 1)) (ha : ws[q0]? = some (a, .inl (cA, n, .inl (bF g)))) (ht : tys[t0]? = some (cA, .boolean)) (hj : j < n) (hn : n < 2 ^ 31) (kk : wk_G p l e R s m args below meth c Q D A nL cells slots ws (pc + 1) lv (.int (bI (g j)) :: rest)) : wk_G p l e R s m args below meth c Q D A nL cells slots ws (pc) lv (.int (nI j) :: .ref a :: rest) := fun H locs ls hP hD hS hl => va_zald S.1.1 S.1.2.1 S.2.1 hP q0 t0 ha ht (vp_in_nI hj hn) hdg (by rw [nI_clamp (Nat.lt_trans hj hn)]; exact (kk H locs ls hP hD hS hl))
theorem wk_zast (S : wk_S p s m args c D A nL cc own tys gx) (q0 t0 : Nat) {cA : ClassId} {n j : Nat} {g : Nat → Bool} {v : Bool} (hdg : decode cc pc = .ok (.bastore, 1)) (ha : ws[q0]? = some (a, .inl (cA, n, .inl (bF g)))) (ht : tys[t0]? = some (cA, .boolean)) (hj : j < n) (hn : n < 2 ^ 31) (hw : ws.set q0 (a, .inl (cA, n, .inl (bF (va_up g j v)))) = ws') (kk : wk_G p l e R s m args below meth c Q D A nL cells slots ws' (pc + 1) lv (rest)) : wk_G p l e R s m args below meth c Q D A nL cells slots ws (pc) lv (.int (bI v) :: .int (nI j) :: .ref a :: rest) := fun H locs ls hP hD hS hl => by
  subst hw
  refine va_zast S.1.1 S.1.2.1 S.2.1 hP hD hS q0 t0 ha ht (vp_in_nI hj hn) hdg (fun H1 locs1 hP hD hS => ?_)
  rw [nI_clamp (Nat.lt_trans hj hn), bI_nar, bF_up] at hP hD
  exact kk H1 locs1 ls hP hD hS hl
theorem wk_lald (S : wk_S p s m args c D A nL cc own tys gx) (q0 t0 : Nat) {cA : ClassId} {n j : Nat} {g : Nat → Nat} (hdg : decode cc pc = .ok (.laload, 1)) (ha : ws[q0]? = some (a, .inl (cA, n, .inr (.inl (lF g))))) (ht : tys[t0]? = some (cA, .long)) (hj : j < n) (hn : n < 2 ^ 31) (kk : wk_G p l e R s m args below meth c Q D A nL cells slots ws (pc + 1) lv (.long (lN (g j)) :: rest)) : wk_G p l e R s m args below meth c Q D A nL cells slots ws (pc) lv (.int (nI j) :: .ref a :: rest) := fun H locs ls hP hD hS hl => va_lald S.1.1 S.1.2.1 S.2.1 hP q0 t0 ha ht (vp_in_nI hj hn) hdg (by rw [nI_clamp (Nat.lt_trans hj hn)]; exact (kk H locs ls hP hD hS hl))
theorem wk_last (S : wk_S p s m args c D A nL cc own tys gx) (q0 t0 : Nat) {cA : ClassId} {n j v : Nat} {g : Nat → Nat} (hdg : decode cc pc = .ok (.lastore, 1)) (ha : ws[q0]? = some (a, .inl (cA, n, .inr (.inl (lF g))))) (ht : tys[t0]? = some (cA, .long)) (hj : j < n) (hn : n < 2 ^ 31) (hw : ws.set q0 (a, .inl (cA, n, .inr (.inl (lF (va_up g j v))))) = ws') (kk : wk_G p l e R s m args below meth c Q D A nL cells slots ws' (pc + 1) lv (rest)) : wk_G p l e R s m args below meth c Q D A nL cells slots ws (pc) lv (.long (lN v) :: .int (nI j) :: .ref a :: rest) := fun H locs ls hP hD hS hl => by
  subst hw
  refine va_last S.1.1 S.1.2.1 S.2.1 hP hD hS q0 t0 ha ht (vp_in_nI hj hn) hdg (fun H1 locs1 hP hD hS => ?_)
  rw [nI_clamp (Nat.lt_trans hj hn), lF_up] at hP hD
  exact kk H1 locs1 ls hP hD hS hl
theorem wk_iincZ (S : wk_S p s m args c D A nL cc own tys gx) (j : Nat) {i : Nat} {n : Int} {x : Nat} (hdg : decode cc pc = .ok (.iinc i n, 3)) (hd : Int32.ofInt n = -1) (h0 : x ≠ 0) (hj : lv[j]? = some (i, .int (zI x))) (hn : i < nL) (hf : (i, Value.int (zI (x - 1))) :: lv.filter (fun q => !(q.1 == i) && !(q.1 + 1 == i && q.2.category == 2)) = lv') (kk : wk_G p l e R s m args below meth c Q D A nL cells slots ws (pc + 3) lv' (rest)) : wk_G p l e R s m args below meth c Q D A nL cells slots ws (pc) lv (rest) := fun H locs ls hP hD hS hl => lv_iinc S.1.1 S.1.2.1 hdg hl hj (by rw [hd]; exact zI_dec h0) hn hf (fun ls hl => kk H locs ls hP hD hS hl)
theorem wk_arr {cA : ClassId} {n : Nat} {f g : Nat → Int32} (h : ∀ k, k < n → f k = g k) : vp_cell cA (n, .inl f) = vp_cell cA (n, .inl g) := by
  show arrV cA n (fun j => .int (f j)) = arrV cA n (fun j => .int (g j))
  unfold arrV
  congr 1
  apply Array.ext
  · simp
  · intro i h1 h2
    simp at h1 h2 ⊢
    rw [h i (by omega)]
theorem wk_ext (q0 : Nat) {cA : ClassId} {n : Nat} {f g : Nat → Int32} (ha : ws[q0]? = some (a, .inl (cA, n, .inl f))) (h : ∀ k, k < n → f k = g k) (hw : ws.set q0 (a, .inl (cA, n, .inl g)) = ws') (kk : wk_G p l e R s m args below meth c Q D A nL cells slots ws' (pc) lv (rest)) : wk_G p l e R s m args below meth c Q D A nL cells slots ws (pc) lv (rest) := by
  intro H locs ls hP hD hS hl
  subst hw
  refine kk H locs ls ?_ ?_ hS hl
  · intro k q hq
    by_cases e : q0 = k
    · subst e
      rw [List.getElem?_set_self (by have := (List.getElem?_eq_some_iff.mp ha).1; exact this)] at hq
      cases hq
      have h1 := hP q0 _ ha
      show H[a]? = some (vp_cell cA (n, .inl g))
      rw [← wk_arr h]
      exact h1
    · rw [List.getElem?_set_ne e] at hq
      exact hP k q hq
  · exact va_D.set hD ha
theorem wk_new (S : wk_S p s m args c D A nL cc own tys gx) {C : String} {T : u_T} {N index : Nat} {fs : List Value} (ci : Nat) (hin : ∀ w ∈ u_ws C T N, w ∈ lw_gd) (ty : Nat → FieldType) (hty : ∀ k, k < N → parseFieldDescriptor (T k).2.2.1 = some (ty k)) (hc : vwCl[ci]? = some (C, T, N)) (hcl : Cond.classLink own index C ∈ lw_gd) (hinst : Cond.instantiable C N ∈ lw_gd) (hini : Cond.initialized C ∈ lw_gd) (hfs : ∀ j, j < N → defaultValue (ty j) = vp_V fs j) (hcells : cells + 1 ≤ R.cells) (hslots : slots + N ≤ R.slots) (hdg : decode cc pc = .ok (.new index, 3)) (kk : ∀ q : Nat, wk_G p l e R s m args below meth c Q D A nL (cells + 1) (slots + N) (ws ++ [(q, .inr (ci, fs))]) (pc + 3) lv (.ref q :: rest)) : wk_G p l e R s m args below meth c Q D A nL cells slots ws (pc) lv (rest) := fun H locs ls hP hD hS hl => va_new S.1.1 S.1.2.1 S.1.2.2.2.2 hin ty hty S.1.2.2.2.1 (S.1.2.2.2.2 _ hcl) (S.1.2.2.2.2 _ hinst) (S.1.2.2.2.2 _ hini) S.2.1 hP hD hS S.2.2.1 hc hfs hcells hslots hdg (fun q H1 hP hD hS => kk q H1 locs ls hP hD hS hl)
theorem wk_newi (S : wk_S p s m args c D A nL cc own tys gx) (t0 : Nat) {cA : ClassId} {n : Nat} (harr : Cond.arrayClass .int ∈ lw_gd) (ht : tys[t0]? = some (cA, .int)) (hn : n < 100000) (hcells : cells + 1 ≤ R.cells) (hslots : slots + n ≤ R.slots) (hdg : decode cc pc = .ok (.newarray .int, 2)) (kk : ∀ q : Nat, wk_G p l e R s m args below meth c Q D A nL (cells + 1) (slots + n) (ws ++ [(q, .inl (cA, n, .inl (nF (fun _ => 0))))]) (pc + 2) lv (.ref q :: rest)) : wk_G p l e R s m args below meth c Q D A nL cells slots ws (pc) lv (.int (nI n) :: rest) := fun H locs ls hP hD hS hl => by
  refine va_newa S.1.1 S.1.2.1 (atype := .int) (ty := .int) (N' := n) (a0 := (n, .inl (nF (fun _ => 0)))) (S.1.2.2.2.2 _ harr) rfl S.2.1 hP hD hS S.2.2.1 (fun cA => rfl) (nI_pos (by omega)) (nI_clamp (by omega)) (by show n * 4 ≤ 536870912; omega) hcells hslots hdg (fun q cB H1 hK hP hD hS => ?_)
  have e1 := (hK.2 tys.length (cB, .int) (by simp)).2
  have e2 := (S.2.1.2 t0 (cA, .int) ht).2
  have e3 : cB = cA := Option.some.inj ((show s.vm.findClass _ = some cB from e1).symm.trans e2)
  subst e3
  exact kk q H1 locs ls hP hD hS hl
theorem wk_obj (S : wk_S p s m args c D A nL cc own tys gx) {idx : Nat} {x : Nat} (hlink : Cond.methodLink own idx Lib.objectInit ∈ lw_gd) (hinst : Cond.instanceMethod Lib.objectInit ∈ lw_gd) (hcode : Cond.code Lib.objectInit ⟨#[0xb1]⟩ 1 none ∈ lw_gd) (hdg : decode cc pc = .ok (.invokespecial idx, 3)) (hfr : 1 ≤ R.frames) (hlo : (rest.map fun v => v.category).sum + 12 ≤ R.locals) (kk : wk_G p l e R s m args below meth c Q D A nL cells slots ws (pc + 3) lv (rest)) : wk_G p l e R s m args below meth c Q D A nL cells slots ws (pc) lv (.ref x :: rest) := fun H locs ls hP hD hS hl => W.objInit S.1.1 S.1.2.1 S.1.2.2.2.1 (S.1.2.2.2.2 _ hlink) (S.1.2.2.2.2 _ hinst) (S.1.2.2.2.2 _ hcode) rfl (by rw [S.1.2.2.1]; exact hl.1) rfl hdg hfr (by show 2 * 0 + _ + 12 ≤ _; rw [Nat.mul_zero, Nat.zero_add]; exact hlo) (kk H locs ls hP hD hS hl)
theorem wk_mmax (S : wk_S p s m args c D A nL cc own tys gx) {idx : Nat} {x y : Int32} (hlink : Cond.methodLink own idx Lib.Math.max.name ∈ lw_gd) (hstat : Cond.static Lib.Math.max.name ∈ lw_gd) (hini : Cond.initialized "java/lang/Math" ∈ lw_gd) (hcode : Cond.code Lib.Math.max.name Lib.Math.max.code 2 (some .int) ∈ lw_gd) (hfr : 1 ≤ R.frames) (hlo : (rest.map fun v => v.category).sum + 13 ≤ R.locals) (hcs : cells ≤ R.cells) (hss : slots ≤ R.slots) (hdg : decode cc pc = .ok (.invokestatic idx, 3)) (kk : wk_G p l e R s m args below meth c Q D A nL cells slots ws (pc + 3) lv (.int (if x < y then y else x) :: rest)) : wk_G p l e R s m args below meth c Q D A nL cells slots ws (pc) lv (.int y :: .int x :: rest) := fun H locs ls hP hD hS hl => va_mmax S.1.1 S.1.2.1 (by rw [S.1.2.2.1]; exact hl.1.symm) S.1.2.2.2.1 (S.1.2.2.2.2 _ hlink) (S.1.2.2.2.2 _ hstat) (S.1.2.2.2.2 _ hini) (S.1.2.2.2.2 _ hcode) hfr hlo hcs hss hdg (kk H locs ls hP hD hS hl)
theorem wk_mmin (S : wk_S p s m args c D A nL cc own tys gx) {idx : Nat} {x y : Int32} (hlink : Cond.methodLink own idx Lib.Math.min.name ∈ lw_gd) (hstat : Cond.static Lib.Math.min.name ∈ lw_gd) (hini : Cond.initialized "java/lang/Math" ∈ lw_gd) (hcode : Cond.code Lib.Math.min.name Lib.Math.min.code 2 (some .int) ∈ lw_gd) (hfr : 1 ≤ R.frames) (hlo : (rest.map fun v => v.category).sum + 13 ≤ R.locals) (hcs : cells ≤ R.cells) (hss : slots ≤ R.slots) (hdg : decode cc pc = .ok (.invokestatic idx, 3)) (kk : wk_G p l e R s m args below meth c Q D A nL cells slots ws (pc + 3) lv (.int (if y < x then y else x) :: rest)) : wk_G p l e R s m args below meth c Q D A nL cells slots ws (pc) lv (.int y :: .int x :: rest) := fun H locs ls hP hD hS hl => va_mmin S.1.1 S.1.2.1 (by rw [S.1.2.2.1]; exact hl.1.symm) S.1.2.2.2.1 (S.1.2.2.2.2 _ hlink) (S.1.2.2.2.2 _ hstat) (S.1.2.2.2.2 _ hini) (S.1.2.2.2.2 _ hcode) hfr hlo hcs hss hdg (kk H locs ls hP hD hS hl)
theorem wk_copy (S : wk_S p s m args c D A nL cc own tys gx) {idx : Nat} (q0 q1 t0 : Nat) {a0 : Nat} {cA : ClassId} {n0 n1 sp dp n : Nat} {f g : Nat → Int32} (hlink : Cond.methodLink own idx arraycopyName ∈ lw_gd) (hnat : Cond.native arraycopyName ∈ lw_gd) (hstat : Cond.static arraycopyName ∈ lw_gd) (hini : Cond.initialized "java/lang/System" ∈ lw_gd) (ha0 : ws[q0]? = some (a0, .inl (cA, n0, .inl f))) (ha1 : ws[q1]? = some (a, .inl (cA, n1, .inl g))) (ht : tys[t0]? = some (cA, .int)) (h4 : sp + n ≤ n0) (h5 : dp + n ≤ n1) (hn0 : n0 < 2 ^ 31) (hn1 : n1 < 2 ^ 31) (hfr : 1 ≤ R.frames) (hlo : (rest.map fun v => v.category).sum + (nativeFrameWords "java/lang/System" "arraycopy" 5 + 11) ≤ R.locals) (hdg : decode cc pc = .ok (.invokestatic idx, 3)) (hw : ws.set q1 (a, .inl (cA, n1, .inl (va_cpy f g sp dp n))) = ws') (kk : wk_G p l e R s m args below meth c Q D A nL cells slots ws' (pc + 3) lv (rest)) : wk_G p l e R s m args below meth c Q D A nL cells slots ws (pc) lv (.int (nI n) :: .int (nI dp) :: .ref a :: .int (nI sp) :: .ref a0 :: rest) := fun H locs ls hP hD hS hl => by
  subst hw
  have e1 : (nI sp).toNatClampNeg = sp := nI_clamp (by omega)
  have e2 : (nI dp).toNatClampNeg = dp := nI_clamp (by omega)
  have e3 : (nI n).toNatClampNeg = n := nI_clamp (by omega)
  refine va_copyi S.1.1 S.1.2.1 (by rw [S.1.2.2.1]; exact hl.1.symm) S.1.2.2.2.1 (S.1.2.2.2.2 _ hlink) (S.1.2.2.2.2 _ hnat) (S.1.2.2.2.2 _ hstat) (S.1.2.2.2.2 _ hini) S.2.1 hP hD hS q0 q1 t0 t0 ha0 ha1 ht ht rfl (nI_pos (by omega)) (nI_pos (by omega)) (nI_pos (by omega)) (by rw [e1, e3]; exact h4) (by rw [e2, e3]; exact h5) (fun i _ => rfl) hfr hlo hdg (fun H1 locs1 hP hD hS => ?_)
  rw [e1, e2, e3] at hP hD
  exact kk H1 locs1 ls hP hD hS hl
theorem wk_iret {τ : Type} {post : Int32 → τ → Prop} {w' : τ → va_W} (S : wk_S p s m args c D A nL cc own tys gx) (hr : meth.sig.returnType = some .int) (hk : meth.locks = false) {v : Int32} (u : τ) (hdg : decode cc pc = .ok (.ireturn, 1)) (hw : ws = w' u) (hp : post v u) : wk_G p l e R s m args below meth c (MQ below (wk_Q wk_i post (wk_B D tys w' A) A) args s cells slots A) D A nL cells slots ws pc lv [.int v] := fun H locs ls hP hD hS hl => W.iret S.1.1 S.1.2.1 hr (fun t ht hW => ⟨⟨v, u, rfl, hp, by rw [ht]; rw [← hw]; exact hP, va_K.moved hW.alike S.2.1, by rw [← hw]; exact hD⟩, hS.F ht⟩) hS.2.2 hdg hk
theorem wk_zret {τ : Type} {post : Int32 → τ → Prop} {w' : τ → va_W} (S : wk_S p s m args c D A nL cc own tys gx) (hr : meth.sig.returnType = some .boolean) (hk : meth.locks = false) {v : Int32} (u : τ) (hdg : decode cc pc = .ok (.ireturn, 1)) (hn : narrow .boolean (.int v) = .int v) (hw : ws = w' u) (hp : post v u) : wk_G p l e R s m args below meth c (MQ below (wk_Q wk_i post (wk_B D tys w' A) A) args s cells slots A) D A nL cells slots ws pc lv [.int v] := fun H locs ls hP hD hS hl => W.zret S.1.1 S.1.2.1 hr hn (fun t ht hW => ⟨⟨v, u, rfl, hp, by rw [ht]; rw [← hw]; exact hP, va_K.moved hW.alike S.2.1, by rw [← hw]; exact hD⟩, hS.F ht⟩) hS.2.2 hdg hk
theorem wk_lret {τ : Type} {post : Int64 → τ → Prop} {w' : τ → va_W} (S : wk_S p s m args c D A nL cc own tys gx) (hr : meth.sig.returnType = some .long) (hk : meth.locks = false) {v : Int64} (u : τ) (hdg : decode cc pc = .ok (.lreturn, 1)) (hw : ws = w' u) (hp : post v u) : wk_G p l e R s m args below meth c (MQ below (wk_Q wk_l post (wk_B D tys w' A) A) args s cells slots A) D A nL cells slots ws pc lv [.long v] := fun H locs ls hP hD hS hl => W.lret S.1.1 S.1.2.1 hr (fun t ht hW => ⟨⟨v, u, rfl, hp, by rw [ht]; rw [← hw]; exact hP, va_K.moved hW.alike S.2.1, by rw [← hw]; exact hD⟩, hS.F ht⟩) hS.2.2 hdg hk
theorem wk_vret {τ : Type} {post : Unit → τ → Prop} {w' : τ → va_W} (S : wk_S p s m args c D A nL cc own tys gx) (hr : meth.sig.returnType = none) (hk : meth.locks = false) (u : τ) (hdg : decode cc pc = .ok (.return_, 1)) (hw : ws = w' u) (hp : post () u) : wk_G p l e R s m args below meth c (MQ below (wk_Q wk_v post (wk_B D tys w' A) A) args s cells slots A) D A nL cells slots ws pc lv [] := fun H locs ls hP hD hS hl => W.vret S.1.1 S.1.2.1 hr (fun t ht hW => ⟨⟨(), u, rfl, hp, by rw [ht]; rw [← hw]; exact hP, va_K.moved hW.alike S.2.1, by rw [← hw]; exact hD⟩, hS.F ht⟩) hS.2.2 hdg hk
theorem wk_methI {τ : Type} {l : Launch} {D : va_G} {tys : List (ClassId × FieldType)} {gx : (Nat → Prop) → State → Heap → Prop} {y : MethodName} {code : ByteArray} {maxL : Nat} {fr lo mc ms : Nat} {as : List Value} {w : va_W} {post : Int32 → τ → Prop} {w' : τ → va_W} {own : String} (lv0 : List (Nat × Value)) (hy : plainName y.cls = true) (ho : y.cls = own) (hlen : (lg_sl as).length ≤ maxL) (hlv : lv_args 0 as = lv0) (hg : wk_ok gx) (body : ∀ (p : Program) (e : Env) (R : Room) (s : State) (m : MethodId) (args : Array Value) (below : List Frame) (meth : Method) (c : Code) (Q : State → Prop) (A : Nat → Prop), R = { frames := fr, cells := mc, slots := ms, locals := lo } → wk_S p s m args c D A maxL code own tys gx → meth.name = y.name → (∀ {ws : va_W} {pc : Nat} {lv : List (Nat × Value)} (v : Int32) (u : τ), decode code pc = .ok (.ireturn, 1) → ws = w' u → post v u → wk_G p l e R s m args below meth c Q D A maxL mc ms ws pc lv [.int v]) → wk_G p l e R s m args below meth c Q D A maxL 0 0 w 0 lv0 []) : wk_C l D tys gx y code maxL (some .int) fr lo mc ms as w wk_i post w' := wk_meth lv0 hy ho hlen hlv hg (fun p e R s m args below meth c Q A hR hQe S hr hk hnm => by subst hQe; exact body p e R s m args below meth c _ A hR S hnm (fun v u d h1 h2 => wk_iret S hr hk u d h1 h2))
theorem wk_methZ {τ : Type} {l : Launch} {D : va_G} {tys : List (ClassId × FieldType)} {gx : (Nat → Prop) → State → Heap → Prop} {y : MethodName} {code : ByteArray} {maxL : Nat} {fr lo mc ms : Nat} {as : List Value} {w : va_W} {post : Int32 → τ → Prop} {w' : τ → va_W} {own : String} (lv0 : List (Nat × Value)) (hy : plainName y.cls = true) (ho : y.cls = own) (hlen : (lg_sl as).length ≤ maxL) (hlv : lv_args 0 as = lv0) (hg : wk_ok gx) (body : ∀ (p : Program) (e : Env) (R : Room) (s : State) (m : MethodId) (args : Array Value) (below : List Frame) (meth : Method) (c : Code) (Q : State → Prop) (A : Nat → Prop), R = { frames := fr, cells := mc, slots := ms, locals := lo } → wk_S p s m args c D A maxL code own tys gx → meth.name = y.name → (∀ {ws : va_W} {pc : Nat} {lv : List (Nat × Value)} (v : Int32) (u : τ), decode code pc = .ok (.ireturn, 1) → narrow .boolean (.int v) = .int v → ws = w' u → post v u → wk_G p l e R s m args below meth c Q D A maxL mc ms ws pc lv [.int v]) → wk_G p l e R s m args below meth c Q D A maxL 0 0 w 0 lv0 []) : wk_C l D tys gx y code maxL (some .boolean) fr lo mc ms as w wk_i post w' := wk_meth lv0 hy ho hlen hlv hg (fun p e R s m args below meth c Q A hR hQe S hr hk hnm => by subst hQe; exact body p e R s m args below meth c _ A hR S hnm (fun v u d hz h1 h2 => wk_zret S hr hk u d hz h1 h2))
theorem wk_methL {τ : Type} {l : Launch} {D : va_G} {tys : List (ClassId × FieldType)} {gx : (Nat → Prop) → State → Heap → Prop} {y : MethodName} {code : ByteArray} {maxL : Nat} {fr lo mc ms : Nat} {as : List Value} {w : va_W} {post : Int64 → τ → Prop} {w' : τ → va_W} {own : String} (lv0 : List (Nat × Value)) (hy : plainName y.cls = true) (ho : y.cls = own) (hlen : (lg_sl as).length ≤ maxL) (hlv : lv_args 0 as = lv0) (hg : wk_ok gx) (body : ∀ (p : Program) (e : Env) (R : Room) (s : State) (m : MethodId) (args : Array Value) (below : List Frame) (meth : Method) (c : Code) (Q : State → Prop) (A : Nat → Prop), R = { frames := fr, cells := mc, slots := ms, locals := lo } → wk_S p s m args c D A maxL code own tys gx → meth.name = y.name → (∀ {ws : va_W} {pc : Nat} {lv : List (Nat × Value)} (v : Int64) (u : τ), decode code pc = .ok (.lreturn, 1) → ws = w' u → post v u → wk_G p l e R s m args below meth c Q D A maxL mc ms ws pc lv [.long v]) → wk_G p l e R s m args below meth c Q D A maxL 0 0 w 0 lv0 []) : wk_C l D tys gx y code maxL (some .long) fr lo mc ms as w wk_l post w' := wk_meth lv0 hy ho hlen hlv hg (fun p e R s m args below meth c Q A hR hQe S hr hk hnm => by subst hQe; exact body p e R s m args below meth c _ A hR S hnm (fun v u d h1 h2 => wk_lret S hr hk u d h1 h2))
theorem wk_methV {τ : Type} {l : Launch} {D : va_G} {tys : List (ClassId × FieldType)} {gx : (Nat → Prop) → State → Heap → Prop} {y : MethodName} {code : ByteArray} {maxL : Nat} {fr lo mc ms : Nat} {as : List Value} {w : va_W} {post : Unit → τ → Prop} {w' : τ → va_W} {own : String} (lv0 : List (Nat × Value)) (hy : plainName y.cls = true) (ho : y.cls = own) (hlen : (lg_sl as).length ≤ maxL) (hlv : lv_args 0 as = lv0) (hg : wk_ok gx) (body : ∀ (p : Program) (e : Env) (R : Room) (s : State) (m : MethodId) (args : Array Value) (below : List Frame) (meth : Method) (c : Code) (Q : State → Prop) (A : Nat → Prop), R = { frames := fr, cells := mc, slots := ms, locals := lo } → wk_S p s m args c D A maxL code own tys gx → meth.name = y.name → (∀ {ws : va_W} {pc : Nat} {lv : List (Nat × Value)} (u : τ), decode code pc = .ok (.return_, 1) → ws = w' u → post () u → wk_G p l e R s m args below meth c Q D A maxL mc ms ws pc lv []) → wk_G p l e R s m args below meth c Q D A maxL 0 0 w 0 lv0 []) : wk_C l D tys gx y code maxL none fr lo mc ms as w wk_v post w' := wk_meth lv0 hy ho hlen hlv hg (fun p e R s m args below meth c Q A hR hQe S hr hk hnm => by subst hQe; exact body p e R s m args below meth c _ A hR S hnm (fun u d h1 h2 => wk_vret S hr hk u d h1 h2))
theorem bI_z (b : Bool) : narrow .boolean (.int (bI b)) = .int (bI b) := by cases b <;> rfl
/-- behind a call: the answer, the callee's new world in its place, all else as it was -/
theorem wk_run {ρ τ : Type} {inj : ρ → Option Value} {post : ρ → τ → Prop} {w wr : va_W} {w' wN : τ → va_W} {mc ms : Nat} {av : Array Value} (S : wk_S p s m args c D A nL cc own tys gx)
    (hr : ∀ (H : Heap) (locs : List Loc) (ls : Array Slot), va_P D vwCl w H → va_D A w → (∀ q, va_A w H.size q → A q) → va_S A s.heap H locs → ls.size = nL → va_Run p l e R s m args below meth c H locs cells slots mc ms (F0 m pc ls st0) rest (wk_Q inj post (wk_B D tys w' (va_A w H.size)) (va_A w H.size) av) (va_A w H.size))
    (isC isR isN : List Nat) (hC : isC.map (fun i => ws[i]?) = w.map some) (hC2 : isC.filterMap (fun i => ws[i]?) = w) (hR : isR.map (fun i => ws[i]?) = wr.map some) (hnC : va_nd isC = true) (hnR : va_nd isR = true) (hnN : va_nd isN = true) (hdis : ∀ i ∈ isR, i ∉ isC)
    (hN : ∀ u : τ, isN.map (fun i => (wr ++ w' u)[i]?) = (wN u).map some) (hN2 : ∀ u : τ, isN.filterMap (fun i => (wr ++ w' u)[i]?) = wN u)
    (kk : ∀ (r : ρ) (u : τ), post r u → wk_G p l e R s m args below meth c Q D A nL (cells + mc) (slots + ms) (wN u) (pc + 3) lv ((inj r).toList ++ rest)) : wk_G p l e R s m args below meth c Q D A nL cells slots ws (pc) lv (st0) := by
  intro H locs ls hP hD hS hl
  have hFc := va_free (wc := w) hD hS S.2.2.1 isC hC
  intro T hT X
  obtain ⟨v, st₀, t, T', L, h0, X', hL, e1, e2, ⟨⟨r, u, hv, hp, hB⟩, hz, hk⟩, st⟩ := hr H locs ls (hP.sub isC hC2) (hD.sub isC hnC hC) hFc hS hl.1 T hT X
  cases hv
  rw [h0] at hz hk
  obtain ⟨hP1, hK1, hD1⟩ := hB
  obtain ⟨hPj, hDj⟩ := va_join (H1 := T'.heap) hP hD isC isR hC hR hnR hdis (fun q h1 h2 => by rw [e1]; exact hk q h1 h2) hFc (by rw [e1]; exact hP1) hD1
  obtain ⟨t2, a1, b1⟩ := kk r u hp T'.heap (locs ++ L) ls (hPj.sub isN (hN2 u)) (hDj.sub isN hnN (hN u))
    ⟨Nat.le_trans hS.1 (by rw [e1]; exact hz), fun q h1 h2 => by rw [e1, hk q (Nat.lt_of_lt_of_le h1 hS.1) (fun z => h2 (hFc q z))]; exact hS.2.1 q h1 h2, fun q hq => by
      rcases List.mem_append.mp hq with h | h
      · exact hS.2.2 q h
      · exact hFc _ (hL q h)⟩ hl T' rfl X'
  exact ⟨t2, st t2 a1, b1⟩
theorem wk_gxc {w : va_W} (S : wk_S p s m args c D A nL cc own tys gx) {H : Heap} {locs : List Loc} (hF : ∀ q, va_A w H.size q → A q) (hS : va_S A s.heap H locs) {U : State} (hU : U.heap = H) (hW : s.WarmedH U.vm) : gx (va_A w H.size) U U.heap := by
  rw [hU]
  exact S.2.2.2.2.1.1 _ s U _ hW (S.2.2.2.2.2.2 A _ s H (S.2.2.2.2.2.1 A s s.heap H S.2.2.2.1 hS.2.1) hF)
/-- the receiver is a cell of the callee's world -/
theorem wk_rcv {w : va_W} (S : wk_S p s m args c D A nL cc own tys gx) {C : String} {b : Nat} (qr ci : Nat) {r0 : vw_C} {fs : List Value} (hc : vwCl[ci]? = some r0) (hC : r0.1 = C) (he : w[qr]? = some (b, .inr (ci, fs))) : ∀ (H : Heap) (locs : List Loc), va_P D vwCl w H → va_S A s.heap H locs → ∃ cell : Cell, H[b]? = some cell ∧ cell.vm.isStatics = false ∧ s.vm.findClass C = some cell.cls := fun H locs hP hS => hC ▸ va_recv S.2.1 hP hc he
theorem wk_rV {ρ τ : Type} {inj : ρ → Option Value} {post : ρ → τ → Prop} {w : va_W} {w' : τ → va_W} {mc ms fr lo maxL idx n b : Nat} {y : MethodName} {code : ByteArray} {ret : Option FieldType} {As : List Value} {C : String} (S : wk_S p s m args c D A nL cc own tys gx) (hM : wk_C l D tys gx y code maxL ret fr lo mc ms (.ref b :: As) w inj post w') (hw : wk_V own idx C y code maxL ret n) (hrv : ∀ (H : Heap) (locs : List Loc), va_P D vwCl w H → va_S A s.heap H locs → ∃ cell : Cell, H[b]? = some cell ∧ cell.vm.isStatics = false ∧ s.vm.findClass C = some cell.cls)
    (hn : As.length = n) (hst : st0 = As.reverse ++ .ref b :: rest) (hrm : (rest.map fun v => v.category).sum ≤ 8) (hR : fr + 1 ≤ R.frames ∧ 8 + (maxL + 11) + lo ≤ R.locals) (hcs : cells + mc ≤ R.cells ∧ slots + ms ≤ R.slots) (hdg : decode cc pc = .ok (.invokevirtual idx, 3)) : ∀ (H : Heap) (locs : List Loc) (ls : Array Slot), va_P D vwCl w H → va_D A w → (∀ q, va_A w H.size q → A q) → va_S A s.heap H locs → ls.size = nL → va_Run p l e R s m args below meth c H locs cells slots mc ms (F0 m pc ls st0) rest (wk_Q inj post (wk_B D tys w' (va_A w H.size)) (va_A w H.size) (Value.ref b :: As).toArray) (va_A w H.size) := by
  intro H locs ls hPw hDw hF hS hls
  subst hst
  exact va_runV S.1 (hM H.size) ⟨callB_of n S.1.2.2.2.2 (wk_good hw.1) rfl rfl rfl (S.1.2.2.2.2 _ hw.2.1) (S.1.2.2.2.2 _ hw.2.2.1) hw.2.2.2.1 hR, S.1.2.2.2.2 _ hw.2.2.2.2.1, S.1.2.2.2.2 _ hw.2.2.2.2.2⟩
    ⟨wk_blind S.2.2.2.2, hrv H locs hPw hS, fun U hU hW => ⟨rfl, by rw [hU], by rw [hU]; exact hPw, va_K.moved hW.alike S.2.1, hDw.weaken (fun _ _ _ _ => trivial), wk_gxc S hF hS hU hW⟩⟩ rfl hn hls rfl (lv_room hrm) hdg hcs
theorem wk_rS {ρ τ : Type} {inj : ρ → Option Value} {post : ρ → τ → Prop} {w : va_W} {w' : τ → va_W} {mc ms fr lo maxL idx n : Nat} {y : MethodName} {code : ByteArray} {ret : Option FieldType} {As : List Value} (S : wk_S p s m args c D A nL cc own tys gx) (hM : wk_C l D tys gx y code maxL ret fr lo mc ms As w inj post w') (hw : wk_T own idx y code maxL ret n)
    (hn : As.length = n) (hst : st0 = As.reverse ++ rest) (hrm : (rest.map fun v => v.category).sum ≤ 8) (hR : fr + 1 ≤ R.frames ∧ 8 + (maxL + 11) + lo ≤ R.locals) (hcs : cells + mc ≤ R.cells ∧ slots + ms ≤ R.slots) (hdg : decode cc pc = .ok (.invokestatic idx, 3)) : ∀ (H : Heap) (locs : List Loc) (ls : Array Slot), va_P D vwCl w H → va_D A w → (∀ q, va_A w H.size q → A q) → va_S A s.heap H locs → ls.size = nL → va_Run p l e R s m args below meth c H locs cells slots mc ms (F0 m pc ls st0) rest (wk_Q inj post (wk_B D tys w' (va_A w H.size)) (va_A w H.size) As.toArray) (va_A w H.size) := by
  intro H locs ls hPw hDw hF hS hls
  subst hst
  exact va_runS S.1 (hM H.size) ⟨callB_of n S.1.2.2.2.2 (wk_good hw.1) rfl rfl rfl (S.1.2.2.2.2 _ hw.2.1) (S.1.2.2.2.2 _ hw.2.2.1) hw.2.2.2.1 hR, S.1.2.2.2.2 _ hw.2.2.2.2⟩
    ⟨wk_blind S.2.2.2.2, fun U hU hW => ⟨rfl, by rw [hU], by rw [hU]; exact hPw, va_K.moved hW.alike S.2.1, hDw.weaken (fun _ _ _ _ => trivial), wk_gxc S hF hS hU hW⟩⟩ rfl hn hls rfl (lv_room hrm) hdg hcs
theorem wk_rI {ρ τ : Type} {inj : ρ → Option Value} {post : ρ → τ → Prop} {w : va_W} {w' : τ → va_W} {mc ms fr lo maxL idx n b : Nat} {y : MethodName} {code : ByteArray} {ret : Option FieldType} {As : List Value} (S : wk_S p s m args c D A nL cc own tys gx) (hM : wk_C l D tys gx y code maxL none fr lo mc ms (.ref b :: As) w inj post w') (hw : wk_N own idx y code maxL n)
    (hn : As.length = n) (hst : st0 = As.reverse ++ .ref b :: rest) (hrm : (rest.map fun v => v.category).sum ≤ 8) (hR : fr + 1 ≤ R.frames ∧ 8 + (maxL + 11) + lo ≤ R.locals) (hcs : cells + mc ≤ R.cells ∧ slots + ms ≤ R.slots) (hdg : decode cc pc = .ok (.invokespecial idx, 3)) : ∀ (H : Heap) (locs : List Loc) (ls : Array Slot), va_P D vwCl w H → va_D A w → (∀ q, va_A w H.size q → A q) → va_S A s.heap H locs → ls.size = nL → va_Run p l e R s m args below meth c H locs cells slots mc ms (F0 m pc ls st0) rest (wk_Q inj post (wk_B D tys w' (va_A w H.size)) (va_A w H.size) (Value.ref b :: As).toArray) (va_A w H.size) := by
  intro H locs ls hPw hDw hF hS hls
  subst hst
  exact va_runI S.1 (hM H.size) ⟨callB_of n S.1.2.2.2.2 (wk_good hw.1) rfl rfl rfl (S.1.2.2.2.2 _ hw.2.1) (S.1.2.2.2.2 _ hw.2.2.1) hw.2.2.2.1 hR, hw.2.2.2.2.2, S.1.2.2.2.2 _ hw.2.2.2.2.1⟩
    ⟨wk_blind S.2.2.2.2, fun U hU hW => ⟨rfl, by rw [hU], by rw [hU]; exact hPw, va_K.moved hW.alike S.2.1, hDw.weaken (fun _ _ _ _ => trivial), wk_gxc S hF hS hU hW⟩⟩ rfl hn hls rfl (lv_room hrm) hdg hcs
theorem wk_rIN {ρ τ : Type} {inj : ρ → Option Value} {post : ρ → τ → Prop} {w : va_W} {w' : τ → va_W} {mc ms fr lo maxL idx n b : Nat} {y : MethodName} {code : ByteArray} {ret : Option FieldType} {As : List Value} {host : String} (S : wk_S p s m args c D A nL cc own tys gx) (hM : wk_C l D tys gx y code maxL none fr lo mc ms (.ref b :: As) w inj post w') (hw : wk_NN own idx y code maxL host n) (hlk : va_Nw (.methodLinkNest own idx y host) s)
    (hn : As.length = n) (hst : st0 = As.reverse ++ .ref b :: rest) (hrm : (rest.map fun v => v.category).sum ≤ 8) (hR : fr + 1 ≤ R.frames ∧ 8 + (maxL + 11) + lo ≤ R.locals) (hcs : cells + mc ≤ R.cells ∧ slots + ms ≤ R.slots) (hdg : decode cc pc = .ok (.invokespecial idx, 3)) : ∀ (H : Heap) (locs : List Loc) (ls : Array Slot), va_P D vwCl w H → va_D A w → (∀ q, va_A w H.size q → A q) → va_S A s.heap H locs → ls.size = nL → va_Run p l e R s m args below meth c H locs cells slots mc ms (F0 m pc ls st0) rest (wk_Q inj post (wk_B D tys w' (va_A w H.size)) (va_A w H.size) (Value.ref b :: As).toArray) (va_A w H.size) := by
  intro H locs ls hPw hDw hF hS hls
  subst hst
  exact va_runIN S.1 (hM H.size) ⟨va_cnB n S.1.2.2.2.2 (wk_good hw.1) rfl rfl rfl hlk (S.1.2.2.2.2 _ hw.2.1) hw.2.2.2.1 hR, hw.2.2.2.2.2, S.1.2.2.2.2 _ hw.2.2.2.2.1⟩
    ⟨wk_blind S.2.2.2.2, fun U hU hW => ⟨rfl, by rw [hU], by rw [hU]; exact hPw, va_K.moved hW.alike S.2.1, hDw.weaken (fun _ _ _ _ => trivial), wk_gxc S hF hS hU hW⟩⟩ rfl hn hls rfl (lv_room hrm) hdg hcs
end WK
end
section
/-! what the worlds hold: statics (by now none), classes of arrays, index tests -/
abbrev GzT : Type := Unit
def gX (_ : GzT) : (Nat → Prop) → State → Heap → Prop := fun _ _ _ => True
theorem gX_ok (z : GzT) : wk_ok (gX z) := ⟨⟨fun _ _ _ _ _ h => h, fun _ _ _ _ _ h => h⟩, fun _ _ _ _ h _ => h, fun _ _ _ _ h _ => h⟩
abbrev CiT : Type := ClassId × ClassId × ClassId
abbrev tyK (cI : CiT) : List (ClassId × FieldType) := [(cI.1, .int), (cI.2.1, .boolean), (cI.2.2, .long)]
/-- whether b is a place below n -/
def ixI (n : Nat) (b : Int32) : Bool := decide (¬ b < 0) && decide (¬ nI n ≤ b)
theorem ixI_a {n : Nat} {b : Int32} (h : b < 0) : ixI n b = false := by simp [ixI, h]
theorem ixI_b {n : Nat} {b : Int32} (h : nI n ≤ b) : ixI n b = false := by simp [ixI, h]
theorem ixI_c {n : Nat} {b : Int32} (h1 : ¬ b < 0) (h2 : ¬ nI n ≤ b) : ixI n b = true := by simp [ixI, h1, h2]
theorem ix_of {n : Nat} {b : Int32} (h1 : ¬ b < 0) (h2 : ¬ nI n ≤ b) (hn : n < 2 ^ 31) : ∃ j, j < n ∧ b = nI j := by
  rcases pk_ix b hn with h | h | h
  · exact absurd h h1
  · exact absurd h h2
  · exact h
theorem ixI_of {n : Nat} {b : Int32} (h : ixI n b = true) (hn : n < 2 ^ 31) : ∃ j, j < n ∧ b = nI j := by
  by_cases h1 : b < 0
  · rw [ixI_a h1] at h; cases h
  · by_cases h2 : nI n ≤ b
    · rw [ixI_b h2] at h; cases h
    · exact ix_of h1 h2 hn
theorem ixI_nI {n j : Nat} (hn : n < 2 ^ 31) (hj : j < 2 ^ 31) : ixI n (nI j) = decide (j < n) := by
  by_cases h : j < n
  · rw [ixI_c (nI_pos hj) (nI_ge h hn)]; simp [h]
  · rw [ixI_b (nI_le (by omega) hj)]; simp [h]
theorem bI_f {b : Bool} (h : b = false) : nI 0 = bI b := by rw [h]; rfl
theorem bI_t {b : Bool} (h : b = true) : nI 1 = bI b := by rw [h]; rfl
/-! pure numbers: what both sides come to -/
/-- whether v is within least .. most -/
def lxI (v l m : Int64) : Bool := decide (l ≤ v) && decide (v ≤ m)
theorem lx_ix {u : Int32} {k : Nat} (hk : k + 1 < 2 ^ 31) : lxI u.toInt64 (lN 0) (lN k) = ixI (k + 1) u := by
  have e0 : (lN 0).toInt = 0 := lN_toInt (by omega)
  have e1 : (lN k).toInt = (k : Int) := lN_toInt (by omega)
  have e2 : u.toInt64.toInt = u.toInt := Int32.toInt_toInt64 u
  have e3 : (nI (k + 1)).toInt = ((k + 1 : Nat) : Int) := nI_toInt (by omega)
  unfold lxI ixI
  rw [Bool.eq_iff_iff]
  simp only [Bool.and_eq_true, decide_eq_true_eq, Int64.le_iff_toInt_le, Int32.le_iff_toInt_le, Int32.lt_iff_toInt_lt, e0, e1, e2, e3]
  have e4 : (0 : Int32).toInt = 0 := rfl
  rw [e4]
  omega
theorem lx_of {v : Int64} {a b : Nat} (h : lxI v (lN a) (lN b) = true) (ha : a < 2 ^ 31) (hb : b < 2 ^ 31) : ∃ n, a ≤ n ∧ n ≤ b ∧ v = lN n := by
  unfold lxI at h
  simp only [Bool.and_eq_true, decide_eq_true_eq] at h
  obtain ⟨h1, h2⟩ := h
  have hp : ¬ v < 0 := by
    rw [Int64.le_iff_toInt_le, lN_toInt ha] at h1
    rw [Int64.lt_iff_toInt_lt]
    have e4 : (0 : Int64).toInt = 0 := rfl
    rw [e4]
    omega
  obtain ⟨k, hk, rfl⟩ := pk_lOf hp
  exact ⟨k, (pk_lLE (by omega) hk).mp h1, (pk_lLE hk (by omega)).mp h2, rfl⟩
/-- the grams of a kind of bottles among the first n that are loaded -/
def goN (cl gr bx : Nat → Nat) (c : Nat) : Nat → Nat
  | 0 => 0
  | n + 1 => goN cl gr bx c n + (if bx n ≠ 0 ∧ cl n = c + 1 then gr n else 0)
theorem goN_le {cl gr bx : Nat → Nat} {c : Nat} (h : ∀ b, gr b ≤ 100000) : ∀ n, goN cl gr bx c n ≤ 100000 * n
  | 0 => Nat.le_refl _
  | n + 1 => by
    have h1 := goN_le (cl := cl) (bx := bx) (c := c) h n
    have h2 := h n
    unfold goN
    split <;> omega
/-- points of the kinds below n -/
def ptN (pt go : Nat → Nat) : Nat → Nat
  | 0 => 0
  | n + 1 => ptN pt go n + (go n + 999) / 1000 * pt n
theorem ptN_le {pt go : Nat → Nat} (h1 : ∀ c, pt c ≤ 1000) (h2 : ∀ c, go c ≤ 800000) : ∀ n, ptN pt go n ≤ 801000 * n
  | 0 => Nat.le_refl _
  | n + 1 => by
    have h3 := ptN_le h1 h2 n
    have h4 := h2 n
    have h5 : (go n + 999) / 1000 * pt n ≤ 801 * 1000 := Nat.mul_le_mul (by omega) (h1 n)
    unfold ptN
    omega
/-- how many kinds of the load stand before c, of those below n -/
def plN (rk go : Nat → Nat) (c : Nat) : Nat → Nat
  | 0 => 0
  | d + 1 => plN rk go c d + (if (rk d < rk c ∨ (rk d = rk c ∧ d < c)) ∧ 0 < go d then 1 else 0)
theorem plN_le {rk go : Nat → Nat} {c : Nat} : ∀ n, plN rk go c n ≤ n
  | 0 => Nat.le_refl _
  | n + 1 => by
    have h3 := plN_le (rk := rk) (go := go) (c := c) n
    unfold plN
    split <;> omega
/-- the kind at place k (0: none, else one more), sought from c on in r steps -/
def nmS (rk go : Nat → Nat) (k : Int32) : Nat → Nat → Nat
  | 0, _ => 0
  | r + 1, c => if 0 < go c ∧ nI (plN rk go c 9) = k then c + 1 else nmS rk go k r (c + 1)
theorem nmS_le {rk go : Nat → Nat} {k : Int32} : ∀ r c, nmS rk go k r c ≤ c + r
  | 0, c => by unfold nmS; omega
  | r + 1, c => by
    have h := nmS_le (rk := rk) (go := go) (k := k) r (c + 1)
    unfold nmS
    split <;> omega
/-- the bottles of a kind x: the k-th from s on -/
def obS (cl bx : Nat → Nat) (x : Nat) (k : Int32) : Nat → Nat → Nat → Nat × Nat
  | 0, _, s => (0, s)
  | r + 1, b, s => if bx b ≠ 0 ∧ cl b = x then (if nI s = k then (b + 1, s) else obS cl bx x k r (b + 1) (s + 1)) else obS cl bx x k r (b + 1) s
def odS (cl bx : Nat → Nat) (nb : Nat) (nm : Nat → Nat) (k : Int32) : Nat → Nat → Nat → Nat
  | 0, _, _ => 0
  | r + 1, i, s => if (obS cl bx (nm i) k nb 0 s).1 ≠ 0 then (obS cl bx (nm i) k nb 0 s).1 else odS cl bx nb nm k r (i + 1) (obS cl bx (nm i) k nb 0 s).2
theorem nmS_y {rk go : Nat → Nat} {k : Int32} : nmS rk go k 9 0 ≤ 9 := nmS_le 9 0
/-- the k-th of n things (0: none, else one more) -/
def pick (n : Nat) (f : Nat → Nat) (k : Int32) : Nat := if ixI n k then f k.toNatClampNeg + 1 else 0
theorem pick_a {n : Nat} {f : Nat → Nat} {k : Int32} (h : k < 0) : pick n f k = 0 := by rw [pick, ixI_a h]; rfl
theorem pick_b {n : Nat} {f : Nat → Nat} {k : Int32} (h : nI n ≤ k) : pick n f k = 0 := by rw [pick, ixI_b h]; rfl
theorem pick_in {n j : Nat} {f : Nat → Nat} (h : j < n) (hn : n < 2 ^ 31) : pick n f (nI j) = f j + 1 := by
  rw [pick, ixI_nI hn (by omega), if_pos (by simpa using h), nI_clamp (by omega)]
/-- the same, of things that are numbers or none already -/
def pickY (n : Nat) (f : Nat → Nat) (k : Int32) : Nat := if ixI n k then f k.toNatClampNeg else 0
theorem pickY_f {n : Nat} {f : Nat → Nat} {k : Int32} (h : ixI n k = false) : pickY n f k = 0 := by rw [pickY, h]; rfl
theorem pickY_in {n j : Nat} {f : Nat → Nat} (h : j < n) (hn : n < 2 ^ 31) : pickY n f (nI j) = f j := by
  rw [pickY, ixI_nI hn (by omega), if_pos (by simpa using h), nI_clamp (by omega)]
/-- a note -/
def ntN (nc nt : Nat → Nat) (l i : Int32) : Nat := if ixI 4 l then pick (nc l.toNatClampNeg) (fun j => nt (8 * l.toNatClampNeg + j)) i else 0
theorem ntN_f {nc nt : Nat → Nat} {l i : Int32} (h : ixI 4 l = false) : ntN nc nt l i = 0 := by rw [ntN, h]; rfl
theorem ntN_in {nc nt : Nat → Nat} {L : Nat} {i : Int32} (h : L < 4) : ntN nc nt (nI L) i = pick (nc L) (fun j => nt (8 * L + j)) i := by
  rw [ntN, ixI_nI (by decide) (by omega), if_pos (by simpa using h), nI_clamp (by omega)]
/-- the last of the first n marks of c that a grams reach -/
def mkS (mg mz : Nat → Nat) (c a : Nat) : Nat → Nat
  | 0 => 0
  | i + 1 => if mg (6 * c + i) ≤ a then mz (6 * c + i) else mkS mg mz c a i
def mkN (mc mg mz go : Nat → Nat) (k : Int32) : Nat := pick 9 (fun c => if 0 < go c then mkS mg mz c (go c) (mc c) else 0) k
/-- the greatest code of the first n kinds -/
def tnS (cd go : Nat → Nat) : Nat → Nat
  | 0 => 0
  | c + 1 => if 0 < go c ∧ tnS cd go c < cd c then cd c else tnS cd go c
theorem tnS_le {cd go : Nat → Nat} (h : ∀ c, cd c ≤ 5) : ∀ n, tnS cd go n ≤ 5
  | 0 => Nat.zero_le _
  | n + 1 => by
    have h3 := tnS_le (go := go) h n
    have h4 := h n
    rw [tnS]
    split <;> omega
/-- a row of bytes is written: how far the one that is looked for still is, and what was met there -/
def putL : Int32 × Int32 → List Nat → Int32 × Int32
  | p, [] => p
  | p, u :: us => putL (p.1 - 1, if p.1 = 0 then nI u else p.2) us
theorem putL_app (p : Int32 × Int32) (a b : List Nat) : putL p (a ++ b) = putL (putL p a) b := by
  induction a generalizing p with
  | nil => rfl
  | cons x xs ih => exact ih _
/-- decimals, from the place k down -/
def dgL (v : Nat) : Nat → List Nat
  | 0 => [48 + v % 10]
  | k + 1 => (48 + v / 10 ^ (k + 1) % 10) :: dgL v k
/-- the first place from k on (f steps) above which nothing stands -/
def dgK (v : Nat) : Nat → Nat → Nat
  | 0, k => k
  | f + 1, k => if 9 < v / 10 ^ k then dgK v f (k + 1) else k
def decs (v : Nat) : List Nat := dgL v (dgK v 9 0)
def lineB (c g p : Nat) : List Nat := decs c ++ (32 :: (decs g ++ (32 :: (decs p ++ [10]))))
/-- the paper from place k on, f lines at most -/
def papL (nm go pt : Nat → Nat) : Nat → Nat → List Nat
  | 0, _ => []
  | f + 1, k => if nm k = 0 then [] else lineB (nm k - 1) (go (nm k - 1)) ((go (nm k - 1) + 999) / 1000 * pt (nm k - 1)) ++ papL nm go pt f (k + 1)
/-- raw numbers as numbers -/
def gN (g : Int64) : Nat := g.toInt.toNat
theorem gN_l {n : Nat} (h : n < 2 ^ 63) : gN (lN n) = n := by rw [gN, pk_lT h]; rfl
def yN (x : Int32) : Nat := (x.toInt + 1).toNat
theorem yN_z {n : Nat} (h : n < 2 ^ 31) : yN (zI n) = n := by
  by_cases h0 : n = 0
  · subst h0; decide
  · rw [yN, zI_p h0, nI_toInt (by omega)]
    omega
def clOk (x : Int32) : Bool := decide (x = -1) || ixI 9 x
theorem clOk_lx (x : Int32) : lxI x.toInt64 (-1) (lN 8) = clOk x := by
  have e1 : (lN 8).toInt = (8 : Int) := lN_toInt (by omega)
  have e2 : x.toInt64.toInt = x.toInt := Int32.toInt_toInt64 x
  have e3 : (nI 9).toInt = ((9 : Nat) : Int) := nI_toInt (by omega)
  have e4 : (0 : Int32).toInt = 0 := rfl
  have e5 : (-1 : Int64).toInt = -1 := rfl
  have e6 : (-1 : Int32).toInt = -1 := rfl
  unfold lxI clOk ixI
  rw [Bool.eq_iff_iff]
  simp only [Bool.and_eq_true, Bool.or_eq_true, decide_eq_true_eq, Int64.le_iff_toInt_le, Int32.le_iff_toInt_le, Int32.lt_iff_toInt_lt, ← Int32.toInt_inj, e1, e2, e3, e4, e5, e6]
  omega
theorem clOk_of {x : Int32} (h : clOk x = true) : ∃ n, n ≤ 9 ∧ x = zI n := by
  unfold clOk at h
  rw [Bool.or_eq_true, decide_eq_true_eq] at h
  rcases h with h | h
  · exact ⟨0, by omega, by rw [h, zI_0]⟩
  · obtain ⟨j, hj, rfl⟩ := ixI_of h (by decide)
    exact ⟨j + 1, by omega, (zI_s j).symm⟩
def unS (tx : Nat → Nat) (sz : Nat) (pv : Bool) (u : Int32) : Bool × (Nat → Nat) × Nat × Bool := if ixI 256 u = true ∧ sz ≠ 1500 then (true, va_up tx sz u.toNatClampNeg, sz + 1, false) else (false, tx, sz, pv)
def boS (cl gr : Nat → Nat) (nb : Nat) (pv : Bool) (x : Int32) (g : Int64) : Nat × (Nat → Nat) × (Nat → Nat) × Nat × Bool := if nb ≠ 8 ∧ clOk x = true ∧ lxI g (lN 1) (lN 100000) = true then (nb + 1, va_up cl nb (yN x), va_up gr nb (gN g), nb + 1, false) else (0, cl, gr, nb, pv)
def bxS (bg bb : Nat → Nat) (nx : Nat) (pv : Bool) (kd : Int32) (g : Int64) (n : Int32) : Nat × (Nat → Nat) × (Nat → Nat) × Nat × Bool := if nx ≠ 5 ∧ ixI 4 kd = true ∧ lxI g (lN 0) (lN 1000000) = true ∧ ixI 9 n = true then (nx + 1, va_up bg nx (gN g), va_up bb nx n.toNatClampNeg, nx + 1, false) else (0, bg, bb, nx, pv)
def abS (ab : Nat → Nat) (pv : Bool) (nx : Nat) (b : Int32) (g : Int64) : Bool × (Nat → Nat) × Bool := if ixI nx b = true ∧ lxI g (lN 0) (lN 1000000) = true then (true, va_up ab b.toNatClampNeg (gN g), false) else (false, ab, pv)
def rsOk (q : Int32) : Bool := lxI q.toInt64 (lN 1) (lN 9)
theorem rsOk_of {q : Int32} (h : rsOk q = true) : ∃ n, (1 ≤ n ∧ n ≤ 9) ∧ q = nI n := by
  obtain ⟨n, h1, h2, h3⟩ := lx_of h (by decide) (by decide)
  refine ⟨n, ⟨h1, h2⟩, ?_⟩
  rw [← lN_i, ← h3]
  exact (Int32.toInt32_toInt64 q).symm
def reS (ot : Nat → Bool) (aw : Nat → Nat) (na : Nat) (pv : Bool) (nb : Nat) (b q : Int32) : Nat × (Nat → Bool) × (Nat → Nat) × Nat × Bool := if ixI nb b = true ∧ rsOk q = true ∧ ot b.toNatClampNeg = false then (na + 2, va_up ot b.toNatClampNeg true, va_up aw na (10 * b.toNatClampNeg + q.toNatClampNeg), na + 1, false) else (0, ot, aw, na, pv)
def tsS (cl sp oc : Nat → Nat) (pv : Bool) (nb : Nat) (b t r : Int32) : Int32 × (Nat → Nat) × (Nat → Nat) × Bool :=
  if ixI nb b = true ∧ cl b.toNatClampNeg = 0 ∧ nI (sp b.toNatClampNeg) = t ∧ ixI 4 r = true ∧ oc (4 * sp b.toNatClampNeg + r.toNatClampNeg) ≠ 0 then
    (lI (oc (4 * sp b.toNatClampNeg + r.toNatClampNeg)), if oc (4 * sp b.toNatClampNeg + r.toNatClampNeg) ≤ 10 then cl else va_up cl b.toNatClampNeg (oc (4 * sp b.toNatClampNeg + r.toNatClampNeg) - 10), if oc (4 * sp b.toNatClampNeg + r.toNatClampNeg) ≤ 10 then va_up sp b.toNatClampNeg (oc (4 * sp b.toNatClampNeg + r.toNatClampNeg) - 1) else sp, false)
  else (-100, cl, sp, pv)
/-- places below k are v, those behind as they were; the same with a copy -/
def fillN {α : Type} (k : Nat) (v : α) (g : Nat → α) : Nat → α := fun j => if j < k then v else g j
theorem fill_0 {α : Type} (v : α) (g : Nat → α) : g = fillN 0 v g := by funext j; simp [fillN]
theorem fill_up {α : Type} (k : Nat) (v : α) (g : Nat → α) : va_up (fillN k v g) k v = fillN (k + 1) v g := by
  funext j
  unfold va_up fillN
  by_cases h : j = k
  · rw [if_pos h, if_pos (by omega)]
  · rw [if_neg h]
    by_cases h2 : j < k
    · rw [if_pos h2, if_pos (by omega)]
    · rw [if_neg h2, if_neg (by omega)]
theorem fill_in {α : Type} {k : Nat} {v : α} {g : Nat → α} {j : Nat} (h : j < k) : fillN k v g j = v := if_pos h
def cpN {α : Type} (k : Nat) (f g : Nat → α) : Nat → α := fun j => if j < k then f j else g j
theorem cp_0 {α : Type} (f g : Nat → α) : g = cpN 0 f g := by funext j; simp [cpN]
theorem cp_up {α : Type} (k : Nat) (f g : Nat → α) : va_up (cpN k f g) k (f k) = cpN (k + 1) f g := by
  funext j
  unfold va_up cpN
  by_cases h : j = k
  · rw [if_pos h, if_pos (by omega), h]
  · rw [if_neg h]
    by_cases h2 : j < k
    · rw [if_pos h2, if_pos (by omega)]
    · rw [if_neg h2, if_neg (by omega)]
theorem cp_in {α : Type} {k : Nat} {f g : Nat → α} {j : Nat} (h : j < k) : cpN k f g j = f j := if_pos h
def nmF (rk go : Nat → Nat) : Nat → Nat := fun i => nmS rk go (nI i) 9 0
theorem plN_lt {rk go : Nat → Nat} {c : Nat} : ∀ n, c < n → plN rk go c n + 1 ≤ n
  | 0, h => absurd h (Nat.not_lt_zero _)
  | n + 1, h => by
    rw [plN]
    by_cases e : c = n
    · have h1 := plN_le (rk := rk) (go := go) (c := c) n
      rw [if_neg (by subst e; omega)]
      omega
    · have h1 := plN_lt (rk := rk) (go := go) (c := c) n (by omega)
      split <;> omega
theorem nmS_lt {rk go : Nat → Nat} {i : Nat} (hi : i < 2 ^ 31) : ∀ r c, c + r ≤ 9 → nmS rk go (nI i) r c ≠ 0 → i < 9
  | 0, _, _, h => absurd rfl h
  | r + 1, c, hc, h => by
    rw [nmS] at h
    by_cases q : 0 < go c ∧ nI (plN rk go c 9) = nI i
    · have h1 := plN_lt (rk := rk) (go := go) (c := c) 9 (by omega)
      have h2 := (nI_eq (by omega) hi).mp q.2
      omega
    · rw [if_neg q] at h
      exact nmS_lt hi r (c + 1) (by omega) h
theorem nmF_lt {rk go : Nat → Nat} {i : Nat} (hi : i < 2 ^ 31) (h : nmF rk go i ≠ 0) : i < 9 := nmS_lt hi 9 0 (by omega) h
theorem nmF_le {rk go : Nat → Nat} {i : Nat} : nmF rk go i ≤ 9 := nmS_le 9 0
def pw : Nat → Nat
  | 0 => 0
  | j + 1 => 10 ^ j
theorem pw_div (j : Nat) : pw (j + 1) / 10 = pw j := by
  cases j with
  | zero => rfl
  | succ j => show 10 ^ (j + 1) / 10 = 10 ^ j; rw [Nat.pow_succ]; exact Nat.mul_div_cancel _ (by decide)
theorem p10 {k : Nat} (h : k ≤ 9) : 10 ^ k ≤ 1000000000 := Nat.pow_le_pow_right (by decide) h
theorem p10_0 (k : Nat) : 0 < 10 ^ k := Nat.pow_pos (by decide)
def dgJ (v : Nat) : Nat → List Nat
  | 0 => []
  | j + 1 => dgL v j
theorem dgJ_s (v j : Nat) : dgJ v (j + 1) = (48 + v / 10 ^ j % 10) :: dgJ v j := by
  cases j with
  | zero => simp [dgJ, dgL]
  | succ j => rfl
theorem dgK_le {v : Nat} : ∀ f k, dgK v f k ≤ k + f
  | 0, _ => Nat.le_refl _
  | f + 1, k => by
    have h := dgK_le (v := v) f (k + 1)
    rw [dgK]
    split <;> omega
abbrev wSt (a : Nat → Nat) (cI : CiT) (cl : (Nat → Nat)) (gr : (Nat → Nat)) (sp : (Nat → Nat)) (rs : (Nat → Nat)) (aw : (Nat → Nat)) (nb : Nat) (na : Nat) (bg : (Nat → Nat)) (bb : (Nat → Nat)) (ab : (Nat → Nat)) (nx : Nat) : va_W := [(a 0, .inr (2, [.ref (a 1), .ref (a 2), .ref (a 3), .ref (a 4), .ref (a 5), .int (nI (nb)), .int (nI (na)), .ref (a 6), .ref (a 7), .ref (a 8), .int (nI (nx))])), (a 1, .inl (cI.1, 8, .inl (zF (cl)))), (a 2, .inl (cI.1, 8, .inl (nF (gr)))), (a 3, .inl (cI.1, 8, .inl (nF (sp)))), (a 4, .inl (cI.1, 8, .inl (nF (rs)))), (a 5, .inl (cI.1, 8, .inl (nF (aw)))), (a 6, .inl (cI.1, 5, .inl (nF (bg)))), (a 7, .inl (cI.1, 5, .inl (nF (bb)))), (a 8, .inl (cI.1, 5, .inl (nF (ab))))]
abbrev wRl (a : Nat → Nat) (cI : CiT) (ap : (Nat → Nat)) (pt : (Nat → Nat)) (rk : (Nat → Nat)) (cd : (Nat → Nat)) (mc : (Nat → Nat)) (mg : (Nat → Nat)) (mz : (Nat → Nat)) (nc : (Nat → Nat)) (nt : (Nat → Nat)) (oc : (Nat → Nat)) (fr : Nat) : va_W := [(a 0, .inr (5, [.ref (a 1), .ref (a 2), .ref (a 3), .ref (a 4), .ref (a 5), .ref (a 6), .ref (a 7), .ref (a 8), .ref (a 9), .ref (a 10), .int (nI (fr))])), (a 1, .inl (cI.1, 9, .inl (nF (ap)))), (a 2, .inl (cI.1, 9, .inl (nF (pt)))), (a 3, .inl (cI.1, 9, .inl (nF (rk)))), (a 4, .inl (cI.1, 9, .inl (nF (cd)))), (a 5, .inl (cI.1, 9, .inl (nF (mc)))), (a 6, .inl (cI.1, 54, .inl (nF (mg)))), (a 7, .inl (cI.1, 54, .inl (nF (mz)))), (a 8, .inl (cI.1, 4, .inl (nF (nc)))), (a 9, .inl (cI.1, 32, .inl (nF (nt)))), (a 10, .inl (cI.1, 40, .inl (zF (oc))))]
abbrev wBx (a : Nat → Nat) (cI : CiT) (bx : (Nat → Nat)) : va_W := [(a 0, .inl (cI.1, 8, .inl (zF (bx))))]
abbrev wPk (a : Nat → Nat) (cI : CiT) (x0 : Nat) (gi : (Nat → Nat)) (bi : (Nat → Nat)) (ki : (Nat → Nat)) (qu : (Nat → Nat)) (wt : Nat) (tr : (Nat → Nat)) (be : (Nat → Nat)) (fw : Nat) (fd : Bool) : va_W := [(a 0, .inr (3, [.ref (a 1), .ref (a 2), .ref (a 3), .ref (a 4), .int (nI (wt)), .ref (a 5), .ref (a 6), .int (nI (fw)), .ref (x0), .int (bI (fd))])), (a 1, .inl (cI.1, 5, .inl (nF (gi)))), (a 2, .inl (cI.1, 5, .inl (nF (bi)))), (a 3, .inl (cI.1, 5, .inl (nF (ki)))), (a 4, .inl (cI.1, 8, .inl (nF (qu)))), (a 5, .inl (cI.1, 8, .inl (zF (tr)))), (a 6, .inl (cI.1, 8, .inl (zF (be))))]
abbrev wLd (a : Nat → Nat) (cI : CiT) (go : (Nat → Nat)) (io : (Nat → Nat)) (ct : Nat) (sh : (Nat → Nat)) (wr : Nat) : va_W := [(a 0, .inr (4, [.ref (a 1), .ref (a 2), .int (nI (ct)), .ref (a 3), .int (nI (wr))])), (a 1, .inl (cI.1, 9, .inl (nF (go)))), (a 2, .inl (cI.1, 9, .inl (nF (io)))), (a 3, .inl (cI.1, 162, .inl (nF (sh))))]
abbrev wAi (a : Nat → Nat) (cI : CiT) (n : Nat) (f : (Nat → Int32)) : va_W := [(a 0, .inl (cI.1, n, .inl (f)))]
abbrev wMd (a : Nat → Nat) (cI : CiT) (tx : (Nat → Nat)) (sz : Nat) (ap : (Nat → Bool)) (pt : (Nat → Nat)) (rk : (Nat → Nat)) (cd : (Nat → Nat)) (fr : Nat) (mc : (Nat → Nat)) (mg : (Nat → Nat)) (mz : (Nat → Nat)) (nc : (Nat → Nat)) (nt : (Nat → Nat)) (ld : (Nat → Nat)) (qap : (Nat → Bool)) (qpt : (Nat → Nat)) (qrk : (Nat → Nat)) (qcd : (Nat → Nat)) (qfr : Nat) (qmc : (Nat → Nat)) (qmg : (Nat → Nat)) (qmz : (Nat → Nat)) (qnc : (Nat → Nat)) (qnt : (Nat → Nat)) (qld : (Nat → Nat)) (nb : Nat) (cl : (Nat → Nat)) (gr : (Nat → Nat)) (sp : (Nat → Nat)) (ot : (Nat → Bool)) (na : Nat) (aw : (Nat → Nat)) (nx : Nat) (bg : (Nat → Nat)) (bb : (Nat → Nat)) (ab : (Nat → Nat)) (fd : Bool) (pv : Bool) (bx : (Nat → Nat)) (wy : (Nat → Nat)) (li : (Nat → Nat)) (fm : Nat) (en : Nat) (nu : Nat) (td : (Nat → Nat)) (lf : Int32) (lk : Int32) : va_W := [(a 0, .inr (6, [.ref (a 1), .int (nI (sz)), .ref (a 2), .ref (a 3), .ref (a 4), .ref (a 5), .int (nI (fr)), .ref (a 6), .ref (a 7), .ref (a 8), .ref (a 9), .ref (a 10), .ref (a 11), .ref (a 12), .ref (a 13), .ref (a 14), .ref (a 15), .int (nI (qfr)), .ref (a 16), .ref (a 17), .ref (a 18), .ref (a 19), .ref (a 20), .ref (a 21), .int (nI (nb)), .ref (a 22), .ref (a 23), .ref (a 24), .ref (a 25), .int (nI (na)), .ref (a 26), .int (nI (nx)), .ref (a 27), .ref (a 28), .ref (a 29), .int (bI (fd)), .int (bI (pv)), .ref (a 30), .ref (a 31), .ref (a 32), .int (nI (fm)), .int (nI (en)), .int (nI (nu)), .ref (a 33), .int (lf), .int (lk)])), (a 1, .inl (cI.1, 1500, .inl (nF (tx)))), (a 2, .inl (cI.2.1, 81, .inl (bF (ap)))), (a 3, .inl (cI.1, 9, .inl (nF (pt)))), (a 4, .inl (cI.1, 9, .inl (nF (rk)))), (a 5, .inl (cI.1, 9, .inl (nF (cd)))), (a 6, .inl (cI.1, 9, .inl (nF (mc)))), (a 7, .inl (cI.1, 54, .inl (nF (mg)))), (a 8, .inl (cI.1, 54, .inl (nF (mz)))), (a 9, .inl (cI.1, 4, .inl (nF (nc)))), (a 10, .inl (cI.1, 32, .inl (nF (nt)))), (a 11, .inl (cI.1, 40, .inl (lI_F (ld)))), (a 12, .inl (cI.2.1, 81, .inl (bF (qap)))), (a 13, .inl (cI.1, 9, .inl (nF (qpt)))), (a 14, .inl (cI.1, 9, .inl (nF (qrk)))), (a 15, .inl (cI.1, 9, .inl (nF (qcd)))), (a 16, .inl (cI.1, 9, .inl (nF (qmc)))), (a 17, .inl (cI.1, 54, .inl (nF (qmg)))), (a 18, .inl (cI.1, 54, .inl (nF (qmz)))), (a 19, .inl (cI.1, 4, .inl (nF (qnc)))), (a 20, .inl (cI.1, 32, .inl (nF (qnt)))), (a 21, .inl (cI.1, 40, .inl (lI_F (qld)))), (a 22, .inl (cI.1, 8, .inl (zF (cl)))), (a 23, .inl (cI.2.2, 8, .inr (.inl (lF (gr))))), (a 24, .inl (cI.1, 8, .inl (nF (sp)))), (a 25, .inl (cI.2.1, 8, .inl (bF (ot)))), (a 26, .inl (cI.1, 8, .inl (nF (aw)))), (a 27, .inl (cI.2.2, 5, .inr (.inl (lF (bg))))), (a 28, .inl (cI.1, 5, .inl (nF (bb)))), (a 29, .inl (cI.2.2, 5, .inr (.inl (lF (ab))))), (a 30, .inl (cI.1, 8, .inl (zF (bx)))), (a 31, .inl (cI.1, 8, .inl (zF (wy)))), (a 32, .inl (cI.1, 8, .inl (nF (li)))), (a 33, .inl (cI.1, 3, .inl (zF (td))))]
end
section
theorem fl_St_36 : Cond.fieldLink R_St 36 R_St "bottles" "I" ∈ lw_gd := (gd _ (tb0 _ (List.mem_of_getElem? (i := 71) rfl)) rfl)
theorem d_St_hasBottle_0 : decode b_St_hasBottle 0 = .ok (.iload_n 1, 1) := by decide +kernel
theorem d_St_hasBottle_1 : decode b_St_hasBottle 1 = .ok (.ifCond .lt 15, 3) := by decide +kernel
theorem d_St_hasBottle_4 : decode b_St_hasBottle 4 = .ok (.iload_n 1, 1) := by decide +kernel
theorem d_St_hasBottle_5 : decode b_St_hasBottle 5 = .ok (.aload_n 0, 1) := by decide +kernel
theorem d_St_hasBottle_6 : decode b_St_hasBottle 6 = .ok (.getfield 36, 3) := by decide +kernel
theorem d_St_hasBottle_9 : decode b_St_hasBottle 9 = .ok (.if_icmp .ge 7, 3) := by decide +kernel
theorem d_St_hasBottle_12 : decode b_St_hasBottle 12 = .ok (.iconst 1, 1) := by decide +kernel
theorem d_St_hasBottle_13 : decode b_St_hasBottle 13 = .ok (.goto 4, 3) := by decide +kernel
theorem d_St_hasBottle_16 : decode b_St_hasBottle 16 = .ok (.iconst 0, 1) := by decide +kernel
theorem d_St_hasBottle_17 : decode b_St_hasBottle 17 = .ok (.ireturn, 1) := by decide +kernel
theorem fl_St_40 : Cond.fieldLink R_St 40 R_St "boxes" "I" ∈ lw_gd := (gd _ (tb0 _ (List.mem_of_getElem? (i := 85) rfl)) rfl)
theorem d_St_hasBox_0 : decode b_St_hasBox 0 = .ok (.iload_n 1, 1) := by decide +kernel
theorem d_St_hasBox_1 : decode b_St_hasBox 1 = .ok (.ifCond .lt 15, 3) := by decide +kernel
theorem d_St_hasBox_4 : decode b_St_hasBox 4 = .ok (.iload_n 1, 1) := by decide +kernel
theorem d_St_hasBox_5 : decode b_St_hasBox 5 = .ok (.aload_n 0, 1) := by decide +kernel
theorem d_St_hasBox_6 : decode b_St_hasBox 6 = .ok (.getfield 40, 3) := by decide +kernel
theorem d_St_hasBox_9 : decode b_St_hasBox 9 = .ok (.if_icmp .ge 7, 3) := by decide +kernel
theorem d_St_hasBox_12 : decode b_St_hasBox 12 = .ok (.iconst 1, 1) := by decide +kernel
theorem d_St_hasBox_13 : decode b_St_hasBox 13 = .ok (.goto 4, 3) := by decide +kernel
theorem d_St_hasBox_16 : decode b_St_hasBox 16 = .ok (.iconst 0, 1) := by decide +kernel
theorem d_St_hasBox_17 : decode b_St_hasBox 17 = .ok (.ireturn, 1) := by decide +kernel
theorem fl_St_21 : Cond.fieldLink R_St 21 R_St "reasons" "[I" ∈ lw_gd := (gd _ (tb0 _ (List.mem_of_getElem? (i := 67) rfl)) rfl)
theorem d_St_isRefused_0 : decode b_St_isRefused 0 = .ok (.aload_n 0, 1) := by decide +kernel
theorem d_St_isRefused_1 : decode b_St_isRefused 1 = .ok (.getfield 21, 3) := by decide +kernel
theorem d_St_isRefused_4 : decode b_St_isRefused 4 = .ok (.iload_n 1, 1) := by decide +kernel
theorem d_St_isRefused_5 : decode b_St_isRefused 5 = .ok (.iaload, 1) := by decide +kernel
theorem d_St_isRefused_6 : decode b_St_isRefused 6 = .ok (.ifCond .eq 7, 3) := by decide +kernel
theorem d_St_isRefused_9 : decode b_St_isRefused 9 = .ok (.iconst 1, 1) := by decide +kernel
theorem d_St_isRefused_10 : decode b_St_isRefused 10 = .ok (.goto 4, 3) := by decide +kernel
theorem d_St_isRefused_13 : decode b_St_isRefused 13 = .ok (.iconst 0, 1) := by decide +kernel
theorem d_St_isRefused_14 : decode b_St_isRefused 14 = .ok (.ireturn, 1) := by decide +kernel
theorem mv_St_43 : wk_V R_St 43 R_St y_St_isRefused b_St_isRefused 2 (some .boolean) 1 := ⟨(gd _ (tb1 _ (List.mem_of_getElem? (i := 207) rfl)) rfl), (gd _ (tb0 _ (List.mem_of_getElem? (i := 3) rfl)) rfl), (gd _ (tb1 _ (List.mem_of_getElem? (i := 204) rfl)) rfl), (by decide +kernel), (gd _ (tb1 _ (List.mem_of_getElem? (i := 205) rfl)) rfl), (gd _ (tb1 _ (List.mem_of_getElem? (i := 206) rfl)) rfl)⟩
theorem fl_St_9 : Cond.fieldLink R_St 9 R_St "classes" "[I" ∈ lw_gd := (gd _ (tb0 _ (List.mem_of_getElem? (i := 58) rfl)) rfl)
theorem d_St_isToBePacked_0 : decode b_St_isToBePacked 0 = .ok (.aload_n 0, 1) := by decide +kernel
theorem d_St_isToBePacked_1 : decode b_St_isToBePacked 1 = .ok (.iload_n 1, 1) := by decide +kernel
theorem d_St_isToBePacked_2 : decode b_St_isToBePacked 2 = .ok (.invokevirtual 43, 3) := by decide +kernel
theorem d_St_isToBePacked_5 : decode b_St_isToBePacked 5 = .ok (.ifCond .ne 17, 3) := by decide +kernel
theorem d_St_isToBePacked_8 : decode b_St_isToBePacked 8 = .ok (.aload_n 0, 1) := by decide +kernel
theorem d_St_isToBePacked_9 : decode b_St_isToBePacked 9 = .ok (.getfield 9, 3) := by decide +kernel
theorem d_St_isToBePacked_12 : decode b_St_isToBePacked 12 = .ok (.iload_n 1, 1) := by decide +kernel
theorem d_St_isToBePacked_13 : decode b_St_isToBePacked 13 = .ok (.iaload, 1) := by decide +kernel
theorem d_St_isToBePacked_14 : decode b_St_isToBePacked 14 = .ok (.iconst (-1), 1) := by decide +kernel
theorem d_St_isToBePacked_15 : decode b_St_isToBePacked 15 = .ok (.if_icmp .eq 7, 3) := by decide +kernel
theorem d_St_isToBePacked_18 : decode b_St_isToBePacked 18 = .ok (.iconst 1, 1) := by decide +kernel
theorem d_St_isToBePacked_19 : decode b_St_isToBePacked 19 = .ok (.goto 4, 3) := by decide +kernel
theorem d_St_isToBePacked_22 : decode b_St_isToBePacked 22 = .ok (.iconst 0, 1) := by decide +kernel
theorem d_St_isToBePacked_23 : decode b_St_isToBePacked 23 = .ok (.ireturn, 1) := by decide +kernel
theorem fl_St_15 : Cond.fieldLink R_St 15 R_St "grams" "[I" ∈ lw_gd := (gd _ (tb0 _ (List.mem_of_getElem? (i := 62) rfl)) rfl)
theorem d_St_addBottle_0 : decode b_St_addBottle 0 = .ok (.aload_n 0, 1) := by decide +kernel
theorem d_St_addBottle_1 : decode b_St_addBottle 1 = .ok (.getfield 9, 3) := by decide +kernel
theorem d_St_addBottle_4 : decode b_St_addBottle 4 = .ok (.aload_n 0, 1) := by decide +kernel
theorem d_St_addBottle_5 : decode b_St_addBottle 5 = .ok (.getfield 36, 3) := by decide +kernel
theorem d_St_addBottle_8 : decode b_St_addBottle 8 = .ok (.iload_n 1, 1) := by decide +kernel
theorem d_St_addBottle_9 : decode b_St_addBottle 9 = .ok (.iastore, 1) := by decide +kernel
theorem d_St_addBottle_10 : decode b_St_addBottle 10 = .ok (.aload_n 0, 1) := by decide +kernel
theorem d_St_addBottle_11 : decode b_St_addBottle 11 = .ok (.getfield 15, 3) := by decide +kernel
theorem d_St_addBottle_14 : decode b_St_addBottle 14 = .ok (.aload_n 0, 1) := by decide +kernel
theorem d_St_addBottle_15 : decode b_St_addBottle 15 = .ok (.getfield 36, 3) := by decide +kernel
theorem d_St_addBottle_18 : decode b_St_addBottle 18 = .ok (.iload_n 2, 1) := by decide +kernel
theorem d_St_addBottle_19 : decode b_St_addBottle 19 = .ok (.iastore, 1) := by decide +kernel
theorem d_St_addBottle_20 : decode b_St_addBottle 20 = .ok (.aload_n 0, 1) := by decide +kernel
theorem d_St_addBottle_21 : decode b_St_addBottle 21 = .ok (.dup, 1) := by decide +kernel
theorem d_St_addBottle_22 : decode b_St_addBottle 22 = .ok (.getfield 36, 3) := by decide +kernel
theorem d_St_addBottle_25 : decode b_St_addBottle 25 = .ok (.iconst 1, 1) := by decide +kernel
theorem d_St_addBottle_26 : decode b_St_addBottle 26 = .ok (.iadd, 1) := by decide +kernel
theorem d_St_addBottle_27 : decode b_St_addBottle 27 = .ok (.putfield 36, 3) := by decide +kernel
theorem d_St_addBottle_30 : decode b_St_addBottle 30 = .ok (.aload_n 0, 1) := by decide +kernel
theorem d_St_addBottle_31 : decode b_St_addBottle 31 = .ok (.getfield 36, 3) := by decide +kernel
theorem d_St_addBottle_34 : decode b_St_addBottle 34 = .ok (.iconst 1, 1) := by decide +kernel
theorem d_St_addBottle_35 : decode b_St_addBottle 35 = .ok (.isub, 1) := by decide +kernel
theorem d_St_addBottle_36 : decode b_St_addBottle 36 = .ok (.ireturn, 1) := by decide +kernel
theorem fl_St_27 : Cond.fieldLink R_St 27 R_St "boxGrams" "[I" ∈ lw_gd := (gd _ (tb0 _ (List.mem_of_getElem? (i := 77) rfl)) rfl)
theorem fl_St_30 : Cond.fieldLink R_St 30 R_St "boxBottles" "[I" ∈ lw_gd := (gd _ (tb0 _ (List.mem_of_getElem? (i := 79) rfl)) rfl)
theorem d_St_addBox_0 : decode b_St_addBox 0 = .ok (.aload_n 0, 1) := by decide +kernel
theorem d_St_addBox_1 : decode b_St_addBox 1 = .ok (.getfield 27, 3) := by decide +kernel
theorem d_St_addBox_4 : decode b_St_addBox 4 = .ok (.aload_n 0, 1) := by decide +kernel
theorem d_St_addBox_5 : decode b_St_addBox 5 = .ok (.getfield 40, 3) := by decide +kernel
theorem d_St_addBox_8 : decode b_St_addBox 8 = .ok (.iload_n 1, 1) := by decide +kernel
theorem d_St_addBox_9 : decode b_St_addBox 9 = .ok (.iastore, 1) := by decide +kernel
theorem d_St_addBox_10 : decode b_St_addBox 10 = .ok (.aload_n 0, 1) := by decide +kernel
theorem d_St_addBox_11 : decode b_St_addBox 11 = .ok (.getfield 30, 3) := by decide +kernel
theorem d_St_addBox_14 : decode b_St_addBox 14 = .ok (.aload_n 0, 1) := by decide +kernel
theorem d_St_addBox_15 : decode b_St_addBox 15 = .ok (.getfield 40, 3) := by decide +kernel
theorem d_St_addBox_18 : decode b_St_addBox 18 = .ok (.iload_n 2, 1) := by decide +kernel
theorem d_St_addBox_19 : decode b_St_addBox 19 = .ok (.iastore, 1) := by decide +kernel
theorem d_St_addBox_20 : decode b_St_addBox 20 = .ok (.aload_n 0, 1) := by decide +kernel
theorem d_St_addBox_21 : decode b_St_addBox 21 = .ok (.dup, 1) := by decide +kernel
theorem d_St_addBox_22 : decode b_St_addBox 22 = .ok (.getfield 40, 3) := by decide +kernel
theorem d_St_addBox_25 : decode b_St_addBox 25 = .ok (.iconst 1, 1) := by decide +kernel
theorem d_St_addBox_26 : decode b_St_addBox 26 = .ok (.iadd, 1) := by decide +kernel
theorem d_St_addBox_27 : decode b_St_addBox 27 = .ok (.putfield 40, 3) := by decide +kernel
theorem d_St_addBox_30 : decode b_St_addBox 30 = .ok (.aload_n 0, 1) := by decide +kernel
theorem d_St_addBox_31 : decode b_St_addBox 31 = .ok (.getfield 40, 3) := by decide +kernel
theorem d_St_addBox_34 : decode b_St_addBox 34 = .ok (.iconst 1, 1) := by decide +kernel
theorem d_St_addBox_35 : decode b_St_addBox 35 = .ok (.isub, 1) := by decide +kernel
theorem d_St_addBox_36 : decode b_St_addBox 36 = .ok (.ireturn, 1) := by decide +kernel
theorem fl_St_24 : Cond.fieldLink R_St 24 R_St "awayInOrder" "[I" ∈ lw_gd := (gd _ (tb0 _ (List.mem_of_getElem? (i := 69) rfl)) rfl)
theorem fl_St_47 : Cond.fieldLink R_St 47 R_St "turnedAway" "I" ∈ lw_gd := (gd _ (tb0 _ (List.mem_of_getElem? (i := 75) rfl)) rfl)
theorem d_St_turnAway_0 : decode b_St_turnAway 0 = .ok (.aload_n 0, 1) := by decide +kernel
theorem d_St_turnAway_1 : decode b_St_turnAway 1 = .ok (.getfield 21, 3) := by decide +kernel
theorem d_St_turnAway_4 : decode b_St_turnAway 4 = .ok (.iload_n 1, 1) := by decide +kernel
theorem d_St_turnAway_5 : decode b_St_turnAway 5 = .ok (.iload_n 2, 1) := by decide +kernel
theorem d_St_turnAway_6 : decode b_St_turnAway 6 = .ok (.iastore, 1) := by decide +kernel
theorem d_St_turnAway_7 : decode b_St_turnAway 7 = .ok (.aload_n 0, 1) := by decide +kernel
theorem d_St_turnAway_8 : decode b_St_turnAway 8 = .ok (.getfield 24, 3) := by decide +kernel
theorem d_St_turnAway_11 : decode b_St_turnAway 11 = .ok (.aload_n 0, 1) := by decide +kernel
theorem d_St_turnAway_12 : decode b_St_turnAway 12 = .ok (.getfield 47, 3) := by decide +kernel
theorem d_St_turnAway_15 : decode b_St_turnAway 15 = .ok (.iload_n 1, 1) := by decide +kernel
theorem d_St_turnAway_16 : decode b_St_turnAway 16 = .ok (.iastore, 1) := by decide +kernel
theorem d_St_turnAway_17 : decode b_St_turnAway 17 = .ok (.aload_n 0, 1) := by decide +kernel
theorem d_St_turnAway_18 : decode b_St_turnAway 18 = .ok (.dup, 1) := by decide +kernel
theorem d_St_turnAway_19 : decode b_St_turnAway 19 = .ok (.getfield 47, 3) := by decide +kernel
theorem d_St_turnAway_22 : decode b_St_turnAway 22 = .ok (.iconst 1, 1) := by decide +kernel
theorem d_St_turnAway_23 : decode b_St_turnAway 23 = .ok (.iadd, 1) := by decide +kernel
theorem d_St_turnAway_24 : decode b_St_turnAway 24 = .ok (.putfield 47, 3) := by decide +kernel
theorem d_St_turnAway_27 : decode b_St_turnAway 27 = .ok (.aload_n 0, 1) := by decide +kernel
theorem d_St_turnAway_28 : decode b_St_turnAway 28 = .ok (.getfield 47, 3) := by decide +kernel
theorem d_St_turnAway_31 : decode b_St_turnAway 31 = .ok (.ireturn, 1) := by decide +kernel
set_option maxHeartbeats 4000000 in
set_option maxRecDepth 100000 in
theorem c_St_hasBottle (l : Launch) (D : va_G) (cI : CiT) (z : GzT) (a : Nat → Nat) (cl : (Nat → Nat)) (gr : (Nat → Nat)) (sp : (Nat → Nat)) (rs : (Nat → Nat)) (aw : (Nat → Nat)) (nb : Nat) (na : Nat) (bg : (Nat → Nat)) (bb : (Nat → Nat)) (ab : (Nat → Nat)) (nx : Nat) (b : Int32) : wk_C l D (tyK cI) (gX z) y_St_hasBottle b_St_hasBottle 2 (some .boolean) 0 0 0 0 [.ref (a 0), .int (b)] (wSt a cI cl gr sp rs aw nb na bg bb ab nx) wk_i (fun (r : Int32) (_ : Unit) => r = (bI (ixI nb b))) (fun _ => (wSt a cI cl gr sp rs aw nb na bg bb ab nx)) := by
  refine wk_methZ (own := R_St) [(0, .ref (a 0)), (1, .int (b))] (by decide) rfl (Nat.le_of_ble_eq_true rfl) rfl (gX_ok z) (fun p_ e_ R_ s_ m_ ar_ be_ me_ co_ Q_ A_ hR_ S_ hnm_ hQ_ => ?_)
  refine wk_iload_n (pc := 0) S_ 1 d_St_hasBottle_0 rfl rfl ?_
  refine wk_if_lt (pc := 1) (tgt := 16) S_ d_St_hasBottle_1 (by decide) (fun h1 => ?_) (fun h1 => ?_)
  · -- taken
    refine wk_iconst (pc := 16) (v := (nI (0))) S_ d_St_hasBottle_16 (by decide) ?_
    exact hQ_ (nI (0)) () d_St_hasBottle_17 rfl rfl (bI_f (by simp [ixI, h1]))
  · -- on
    refine wk_iload_n (pc := 4) S_ 1 d_St_hasBottle_4 rfl rfl ?_
    refine wk_aload_n (pc := 5) S_ 0 d_St_hasBottle_5 rfl rfl ?_
    refine wk_get (pc := 6) (v := .int (nI (nb))) S_ 2 5 0 in_St rfl (by decide) rfl fl_St_36 d_St_hasBottle_6 rfl rfl ?_
    refine wk_icmp_ge (pc := 9) (tgt := 16) S_ d_St_hasBottle_9 (by decide) (fun h9 => ?_) (fun h9 => ?_)
    · -- taken
      refine wk_iconst (pc := 16) (v := (nI (0))) S_ d_St_hasBottle_16 (by decide) ?_
      exact hQ_ (nI (0)) () d_St_hasBottle_17 rfl rfl (bI_f (by simp [ixI, h1, h9]))
    · -- on
      refine wk_iconst (pc := 12) (v := (nI (1))) S_ d_St_hasBottle_12 (by decide) ?_
      refine wk_goto (pc := 13) (tgt := 17) S_ d_St_hasBottle_13 (by decide) ?_
      exact hQ_ (nI (1)) () d_St_hasBottle_17 rfl rfl (bI_t (by simp [ixI, h1, h9]))
set_option maxHeartbeats 4000000 in
set_option maxRecDepth 100000 in
theorem c_St_hasBox (l : Launch) (D : va_G) (cI : CiT) (z : GzT) (a : Nat → Nat) (cl : (Nat → Nat)) (gr : (Nat → Nat)) (sp : (Nat → Nat)) (rs : (Nat → Nat)) (aw : (Nat → Nat)) (nb : Nat) (na : Nat) (bg : (Nat → Nat)) (bb : (Nat → Nat)) (ab : (Nat → Nat)) (nx : Nat) (b : Int32) : wk_C l D (tyK cI) (gX z) y_St_hasBox b_St_hasBox 2 (some .boolean) 0 0 0 0 [.ref (a 0), .int (b)] (wSt a cI cl gr sp rs aw nb na bg bb ab nx) wk_i (fun (r : Int32) (_ : Unit) => r = (bI (ixI nx b))) (fun _ => (wSt a cI cl gr sp rs aw nb na bg bb ab nx)) := by
  refine wk_methZ (own := R_St) [(0, .ref (a 0)), (1, .int (b))] (by decide) rfl (Nat.le_of_ble_eq_true rfl) rfl (gX_ok z) (fun p_ e_ R_ s_ m_ ar_ be_ me_ co_ Q_ A_ hR_ S_ hnm_ hQ_ => ?_)
  refine wk_iload_n (pc := 0) S_ 1 d_St_hasBox_0 rfl rfl ?_
  refine wk_if_lt (pc := 1) (tgt := 16) S_ d_St_hasBox_1 (by decide) (fun h1 => ?_) (fun h1 => ?_)
  · -- taken
    refine wk_iconst (pc := 16) (v := (nI (0))) S_ d_St_hasBox_16 (by decide) ?_
    exact hQ_ (nI (0)) () d_St_hasBox_17 rfl rfl (bI_f (by simp [ixI, h1]))
  · -- on
    refine wk_iload_n (pc := 4) S_ 1 d_St_hasBox_4 rfl rfl ?_
    refine wk_aload_n (pc := 5) S_ 0 d_St_hasBox_5 rfl rfl ?_
    refine wk_get (pc := 6) (v := .int (nI (nx))) S_ 2 10 0 in_St rfl (by decide) rfl fl_St_40 d_St_hasBox_6 rfl rfl ?_
    refine wk_icmp_ge (pc := 9) (tgt := 16) S_ d_St_hasBox_9 (by decide) (fun h9 => ?_) (fun h9 => ?_)
    · -- taken
      refine wk_iconst (pc := 16) (v := (nI (0))) S_ d_St_hasBox_16 (by decide) ?_
      exact hQ_ (nI (0)) () d_St_hasBox_17 rfl rfl (bI_f (by simp [ixI, h1, h9]))
    · -- on
      refine wk_iconst (pc := 12) (v := (nI (1))) S_ d_St_hasBox_12 (by decide) ?_
      refine wk_goto (pc := 13) (tgt := 17) S_ d_St_hasBox_13 (by decide) ?_
      exact hQ_ (nI (1)) () d_St_hasBox_17 rfl rfl (bI_t (by simp [ixI, h1, h9]))
set_option maxHeartbeats 4000000 in
set_option maxRecDepth 100000 in
theorem c_St_isRefused (l : Launch) (D : va_G) (cI : CiT) (z : GzT) (a : Nat → Nat) (cl : (Nat → Nat)) (gr : (Nat → Nat)) (sp : (Nat → Nat)) (rs : (Nat → Nat)) (aw : (Nat → Nat)) (nb : Nat) (na : Nat) (bg : (Nat → Nat)) (bb : (Nat → Nat)) (ab : (Nat → Nat)) (nx : Nat) (j : Nat) (hj : j < 8) (hr : rs j < 2 ^ 31) : wk_C l D (tyK cI) (gX z) y_St_isRefused b_St_isRefused 2 (some .boolean) 0 0 0 0 [.ref (a 0), .int (nI (j))] (wSt a cI cl gr sp rs aw nb na bg bb ab nx) wk_i (fun (r : Int32) (_ : Unit) => r = (bI (decide (rs j ≠ 0)))) (fun _ => (wSt a cI cl gr sp rs aw nb na bg bb ab nx)) := by
  refine wk_methZ (own := R_St) [(0, .ref (a 0)), (1, .int (nI (j)))] (by decide) rfl (Nat.le_of_ble_eq_true rfl) rfl (gX_ok z) (fun p_ e_ R_ s_ m_ ar_ be_ me_ co_ Q_ A_ hR_ S_ hnm_ hQ_ => ?_)
  refine wk_aload_n (pc := 0) S_ 0 d_St_isRefused_0 rfl rfl ?_
  refine wk_get (pc := 1) (v := .ref (a 4)) S_ 2 3 0 in_St rfl (by decide) rfl fl_St_21 d_St_isRefused_1 rfl rfl ?_
  refine wk_iload_n (pc := 4) S_ 1 d_St_isRefused_4 rfl rfl ?_
  refine wk_ialdN (pc := 5) (g := rs) S_ 4 0 d_St_isRefused_5 rfl rfl (by omega) (by decide) ?_
  refine wk_if_eqN (pc := 6) (tgt := 13) S_ d_St_isRefused_6 (by decide) (by omega) (fun h6 => ?_) (fun h6 => ?_)
  · -- taken
    refine wk_iconst (pc := 13) (v := (nI (0))) S_ d_St_isRefused_13 (by decide) ?_
    exact hQ_ (nI (0)) () d_St_isRefused_14 rfl rfl (bI_f (by (try simp at h6); simp [h6]))
  · -- on
    refine wk_iconst (pc := 9) (v := (nI (1))) S_ d_St_isRefused_9 (by decide) ?_
    refine wk_goto (pc := 10) (tgt := 14) S_ d_St_isRefused_10 (by decide) ?_
    exact hQ_ (nI (1)) () d_St_isRefused_14 rfl rfl (bI_t (by (try simp at h6); simp [h6]))
set_option maxHeartbeats 4000000 in
set_option maxRecDepth 100000 in
theorem c_St_isToBePacked (l : Launch) (D : va_G) (cI : CiT) (z : GzT) (a : Nat → Nat) (cl : (Nat → Nat)) (gr : (Nat → Nat)) (sp : (Nat → Nat)) (rs : (Nat → Nat)) (aw : (Nat → Nat)) (nb : Nat) (na : Nat) (bg : (Nat → Nat)) (bb : (Nat → Nat)) (ab : (Nat → Nat)) (nx : Nat) (j : Nat) (hj : j < 8) (hr : rs j < 2 ^ 31) (hc : cl j < 2 ^ 31) : wk_C l D (tyK cI) (gX z) y_St_isToBePacked b_St_isToBePacked 2 (some .boolean) 1 21 0 0 [.ref (a 0), .int (nI (j))] (wSt a cI cl gr sp rs aw nb na bg bb ab nx) wk_i (fun (r : Int32) (_ : Unit) => r = (bI (decide (rs j = 0 ∧ cl j ≠ 0)))) (fun _ => (wSt a cI cl gr sp rs aw nb na bg bb ab nx)) := by
  refine wk_methZ (own := R_St) [(0, .ref (a 0)), (1, .int (nI (j)))] (by decide) rfl (Nat.le_of_ble_eq_true rfl) rfl (gX_ok z) (fun p_ e_ R_ s_ m_ ar_ be_ me_ co_ Q_ A_ hR_ S_ hnm_ hQ_ => ?_)
  refine wk_aload_n (pc := 0) S_ 0 d_St_isToBePacked_0 rfl rfl ?_
  refine wk_iload_n (pc := 1) S_ 1 d_St_isToBePacked_1 rfl rfl ?_
  refine wk_run (pc := 2) (rest := []) (wr := []) (wN := fun _ => (wSt a cI cl gr sp rs aw nb na bg bb ab nx)) S_ (wk_rV S_ (c_St_isRefused l D cI z (a) (cl) (gr) (sp) (rs) (aw) (nb) (na) (bg) (bb) (ab) (nx) (j) (by omega) (by omega)) mv_St_43 (wk_rcv S_ 0 2 rfl rfl rfl) rfl rfl (Nat.le_of_ble_eq_true rfl) (by rw [hR_]; decide) (by rw [hR_]; decide) d_St_isToBePacked_2) [0, 1, 2, 3, 4, 5, 6, 7, 8] [] [0, 1, 2, 3, 4, 5, 6, 7, 8] rfl rfl rfl (by decide) (by decide) (by decide) (by decide) (fun _ => rfl) (fun _ => rfl) (fun r2 _ hw2 => ?_)
  refine wk_st (st' := [.int (r2)]) rfl ?_
  refine wk_top (y := (bI (decide ((rs) (j) ≠ 0)))) hw2 ?_
  refine wk_if_neB (pc := 5) (tgt := 22) S_ d_St_isToBePacked_5 (by decide) (fun h5 => ?_) (fun h5 => ?_)
  · -- taken
    refine wk_iconst (pc := 22) (v := (nI (0))) S_ d_St_isToBePacked_22 (by decide) ?_
    exact hQ_ (nI (0)) () d_St_isToBePacked_23 rfl rfl (bI_f (by (try simp at h5); simp [h5]))
  · -- on
    refine wk_aload_n (pc := 8) S_ 0 d_St_isToBePacked_8 rfl rfl ?_
    refine wk_get (pc := 9) (v := .ref (a 1)) S_ 2 0 0 in_St rfl (by decide) rfl fl_St_9 d_St_isToBePacked_9 rfl rfl ?_
    refine wk_iload_n (pc := 12) S_ 1 d_St_isToBePacked_12 rfl rfl ?_
    refine wk_ialdY (pc := 13) (g := cl) S_ 1 0 d_St_isToBePacked_13 rfl rfl (by omega) (by decide) ?_
    refine wk_iconst (pc := 14) (v := (-1)) S_ d_St_isToBePacked_14 (by decide) ?_
    refine wk_icmp_eqY (pc := 15) (tgt := 22) S_ d_St_isToBePacked_15 (by decide) (by omega) (fun h15 => ?_) (fun h15 => ?_)
    · -- taken
      refine wk_iconst (pc := 22) (v := (nI (0))) S_ d_St_isToBePacked_22 (by decide) ?_
      exact hQ_ (nI (0)) () d_St_isToBePacked_23 rfl rfl (bI_f (by (try simp at h5); (try simp at h15); simp [h5, h15]))
    · -- on
      refine wk_iconst (pc := 18) (v := (nI (1))) S_ d_St_isToBePacked_18 (by decide) ?_
      refine wk_goto (pc := 19) (tgt := 23) S_ d_St_isToBePacked_19 (by decide) ?_
      exact hQ_ (nI (1)) () d_St_isToBePacked_23 rfl rfl (bI_t (by (try simp at h5); (try simp at h15); simp [h5, h15]))
set_option maxHeartbeats 4000000 in
set_option maxRecDepth 100000 in
theorem c_St_addBottle (l : Launch) (D : va_G) (cI : CiT) (z : GzT) (a : Nat → Nat) (cl : (Nat → Nat)) (gr : (Nat → Nat)) (sp : (Nat → Nat)) (rs : (Nat → Nat)) (aw : (Nat → Nat)) (nb : Nat) (na : Nat) (bg : (Nat → Nat)) (bb : (Nat → Nat)) (ab : (Nat → Nat)) (nx : Nat) (c : Nat) (w : Nat) (hn : nb < 8) : wk_C l D (tyK cI) (gX z) y_St_addBottle b_St_addBottle 3 (some .int) 0 0 0 0 [.ref (a 0), .int (zI (c)), .int (nI (w))] (wSt a cI cl gr sp rs aw nb na bg bb ab nx) wk_i (fun (r : Int32) (_ : Unit) => r = (nI (nb))) (fun _ => (wSt a cI (va_up cl nb c) (va_up gr nb w) sp rs aw (nb + 1) na bg bb ab nx)) := by
  refine wk_methI (own := R_St) [(0, .ref (a 0)), (1, .int (zI (c))), (2, .int (nI (w)))] (by decide) rfl (Nat.le_of_ble_eq_true rfl) rfl (gX_ok z) (fun p_ e_ R_ s_ m_ ar_ be_ me_ co_ Q_ A_ hR_ S_ hnm_ hQ_ => ?_)
  refine wk_aload_n (pc := 0) S_ 0 d_St_addBottle_0 rfl rfl ?_
  refine wk_get (pc := 1) (v := .ref (a 1)) S_ 2 0 0 in_St rfl (by decide) rfl fl_St_9 d_St_addBottle_1 rfl rfl ?_
  refine wk_aload_n (pc := 4) S_ 0 d_St_addBottle_4 rfl rfl ?_
  refine wk_get (pc := 5) (v := .int (nI (nb))) S_ 2 5 0 in_St rfl (by decide) rfl fl_St_36 d_St_addBottle_5 rfl rfl ?_
  refine wk_iload_n (pc := 8) S_ 1 d_St_addBottle_8 rfl rfl ?_
  refine wk_iastY (pc := 9) (g := cl) (ws' := (wSt a cI (va_up (cl) (nb) (c)) gr sp rs aw nb na bg bb ab nx)) S_ 1 0 d_St_addBottle_9 rfl rfl (by omega) (by decide) rfl ?_
  refine wk_aload_n (pc := 10) S_ 0 d_St_addBottle_10 rfl rfl ?_
  refine wk_get (pc := 11) (v := .ref (a 2)) S_ 2 1 0 in_St rfl (by decide) rfl fl_St_15 d_St_addBottle_11 rfl rfl ?_
  refine wk_aload_n (pc := 14) S_ 0 d_St_addBottle_14 rfl rfl ?_
  refine wk_get (pc := 15) (v := .int (nI (nb))) S_ 2 5 0 in_St rfl (by decide) rfl fl_St_36 d_St_addBottle_15 rfl rfl ?_
  refine wk_iload_n (pc := 18) S_ 2 d_St_addBottle_18 rfl rfl ?_
  refine wk_iastN (pc := 19) (g := gr) (ws' := (wSt a cI (va_up (cl) (nb) (c)) (va_up (gr) (nb) (w)) sp rs aw nb na bg bb ab nx)) S_ 2 0 d_St_addBottle_19 rfl rfl (by omega) (by decide) rfl ?_
  refine wk_aload_n (pc := 20) S_ 0 d_St_addBottle_20 rfl rfl ?_
  refine wk_dup (pc := 21) S_ d_St_addBottle_21 rfl ?_
  refine wk_get (pc := 22) (v := .int (nI (nb))) S_ 2 5 0 in_St rfl (by decide) rfl fl_St_36 d_St_addBottle_22 rfl rfl ?_
  refine wk_iconst (pc := 25) (v := (nI (1))) S_ d_St_addBottle_25 (by decide) ?_
  refine wk_iaddN (pc := 26) S_ d_St_addBottle_26 ?_
  refine wk_put (pc := 27) (ty := .int) (ws' := (wSt a cI (va_up (cl) (nb) (c)) (va_up (gr) (nb) (w)) sp rs aw ((nb) + (1)) na bg bb ab nx)) S_ 2 5 0 in_St t_St t_St_ok n_St rfl (by decide) rfl fl_St_36 (by decide +kernel) d_St_addBottle_27 rfl rfl rfl (Nat.le_of_ble_eq_true rfl) rfl ?_
  refine wk_aload_n (pc := 30) S_ 0 d_St_addBottle_30 rfl rfl ?_
  refine wk_get (pc := 31) (v := .int (nI ((nb) + (1)))) S_ 2 5 0 in_St rfl (by decide) rfl fl_St_36 d_St_addBottle_31 rfl rfl ?_
  refine wk_iconst (pc := 34) (v := (nI (1))) S_ d_St_addBottle_34 (by decide) ?_
  refine wk_isubN (pc := 35) S_ d_St_addBottle_35 (by omega) ?_
  exact hQ_ (nI (((nb) + (1)) - (1))) () d_St_addBottle_36 rfl rfl
set_option maxHeartbeats 4000000 in
set_option maxRecDepth 100000 in
theorem c_St_addBox (l : Launch) (D : va_G) (cI : CiT) (z : GzT) (a : Nat → Nat) (cl : (Nat → Nat)) (gr : (Nat → Nat)) (sp : (Nat → Nat)) (rs : (Nat → Nat)) (aw : (Nat → Nat)) (nb : Nat) (na : Nat) (bg : (Nat → Nat)) (bb : (Nat → Nat)) (ab : (Nat → Nat)) (nx : Nat) (w : Nat) (k : Nat) (hn : nx < 5) : wk_C l D (tyK cI) (gX z) y_St_addBox b_St_addBox 3 (some .int) 0 0 0 0 [.ref (a 0), .int (nI (w)), .int (nI (k))] (wSt a cI cl gr sp rs aw nb na bg bb ab nx) wk_i (fun (r : Int32) (_ : Unit) => r = (nI (nx))) (fun _ => (wSt a cI cl gr sp rs aw nb na (va_up bg nx w) (va_up bb nx k) ab (nx + 1))) := by
  refine wk_methI (own := R_St) [(0, .ref (a 0)), (1, .int (nI (w))), (2, .int (nI (k)))] (by decide) rfl (Nat.le_of_ble_eq_true rfl) rfl (gX_ok z) (fun p_ e_ R_ s_ m_ ar_ be_ me_ co_ Q_ A_ hR_ S_ hnm_ hQ_ => ?_)
  refine wk_aload_n (pc := 0) S_ 0 d_St_addBox_0 rfl rfl ?_
  refine wk_get (pc := 1) (v := .ref (a 6)) S_ 2 7 0 in_St rfl (by decide) rfl fl_St_27 d_St_addBox_1 rfl rfl ?_
  refine wk_aload_n (pc := 4) S_ 0 d_St_addBox_4 rfl rfl ?_
  refine wk_get (pc := 5) (v := .int (nI (nx))) S_ 2 10 0 in_St rfl (by decide) rfl fl_St_40 d_St_addBox_5 rfl rfl ?_
  refine wk_iload_n (pc := 8) S_ 1 d_St_addBox_8 rfl rfl ?_
  refine wk_iastN (pc := 9) (g := bg) (ws' := (wSt a cI cl gr sp rs aw nb na (va_up (bg) (nx) (w)) bb ab nx)) S_ 6 0 d_St_addBox_9 rfl rfl (by omega) (by decide) rfl ?_
  refine wk_aload_n (pc := 10) S_ 0 d_St_addBox_10 rfl rfl ?_
  refine wk_get (pc := 11) (v := .ref (a 7)) S_ 2 8 0 in_St rfl (by decide) rfl fl_St_30 d_St_addBox_11 rfl rfl ?_
  refine wk_aload_n (pc := 14) S_ 0 d_St_addBox_14 rfl rfl ?_
  refine wk_get (pc := 15) (v := .int (nI (nx))) S_ 2 10 0 in_St rfl (by decide) rfl fl_St_40 d_St_addBox_15 rfl rfl ?_
  refine wk_iload_n (pc := 18) S_ 2 d_St_addBox_18 rfl rfl ?_
  refine wk_iastN (pc := 19) (g := bb) (ws' := (wSt a cI cl gr sp rs aw nb na (va_up (bg) (nx) (w)) (va_up (bb) (nx) (k)) ab nx)) S_ 7 0 d_St_addBox_19 rfl rfl (by omega) (by decide) rfl ?_
  refine wk_aload_n (pc := 20) S_ 0 d_St_addBox_20 rfl rfl ?_
  refine wk_dup (pc := 21) S_ d_St_addBox_21 rfl ?_
  refine wk_get (pc := 22) (v := .int (nI (nx))) S_ 2 10 0 in_St rfl (by decide) rfl fl_St_40 d_St_addBox_22 rfl rfl ?_
  refine wk_iconst (pc := 25) (v := (nI (1))) S_ d_St_addBox_25 (by decide) ?_
  refine wk_iaddN (pc := 26) S_ d_St_addBox_26 ?_
  refine wk_put (pc := 27) (ty := .int) (ws' := (wSt a cI cl gr sp rs aw nb na (va_up (bg) (nx) (w)) (va_up (bb) (nx) (k)) ab ((nx) + (1)))) S_ 2 10 0 in_St t_St t_St_ok n_St rfl (by decide) rfl fl_St_40 (by decide +kernel) d_St_addBox_27 rfl rfl rfl (Nat.le_of_ble_eq_true rfl) rfl ?_
  refine wk_aload_n (pc := 30) S_ 0 d_St_addBox_30 rfl rfl ?_
  refine wk_get (pc := 31) (v := .int (nI ((nx) + (1)))) S_ 2 10 0 in_St rfl (by decide) rfl fl_St_40 d_St_addBox_31 rfl rfl ?_
  refine wk_iconst (pc := 34) (v := (nI (1))) S_ d_St_addBox_34 (by decide) ?_
  refine wk_isubN (pc := 35) S_ d_St_addBox_35 (by omega) ?_
  exact hQ_ (nI (((nx) + (1)) - (1))) () d_St_addBox_36 rfl rfl
set_option maxHeartbeats 4000000 in
set_option maxRecDepth 100000 in
theorem c_St_turnAway (l : Launch) (D : va_G) (cI : CiT) (z : GzT) (a : Nat → Nat) (cl : (Nat → Nat)) (gr : (Nat → Nat)) (sp : (Nat → Nat)) (rs : (Nat → Nat)) (aw : (Nat → Nat)) (nb : Nat) (na : Nat) (bg : (Nat → Nat)) (bb : (Nat → Nat)) (ab : (Nat → Nat)) (nx : Nat) (j : Nat) (q : Nat) (hj : j < 8) (hn : na < 8) : wk_C l D (tyK cI) (gX z) y_St_turnAway b_St_turnAway 3 (some .int) 0 0 0 0 [.ref (a 0), .int (nI (j)), .int (nI (q))] (wSt a cI cl gr sp rs aw nb na bg bb ab nx) wk_i (fun (r : Int32) (_ : Unit) => r = (nI (na + 1))) (fun _ => (wSt a cI cl gr sp (va_up rs j q) (va_up aw na j) nb (na + 1) bg bb ab nx)) := by
  refine wk_methI (own := R_St) [(0, .ref (a 0)), (1, .int (nI (j))), (2, .int (nI (q)))] (by decide) rfl (Nat.le_of_ble_eq_true rfl) rfl (gX_ok z) (fun p_ e_ R_ s_ m_ ar_ be_ me_ co_ Q_ A_ hR_ S_ hnm_ hQ_ => ?_)
  refine wk_aload_n (pc := 0) S_ 0 d_St_turnAway_0 rfl rfl ?_
  refine wk_get (pc := 1) (v := .ref (a 4)) S_ 2 3 0 in_St rfl (by decide) rfl fl_St_21 d_St_turnAway_1 rfl rfl ?_
  refine wk_iload_n (pc := 4) S_ 1 d_St_turnAway_4 rfl rfl ?_
  refine wk_iload_n (pc := 5) S_ 2 d_St_turnAway_5 rfl rfl ?_
  refine wk_iastN (pc := 6) (g := rs) (ws' := (wSt a cI cl gr sp (va_up (rs) (j) (q)) aw nb na bg bb ab nx)) S_ 4 0 d_St_turnAway_6 rfl rfl (by omega) (by decide) rfl ?_
  refine wk_aload_n (pc := 7) S_ 0 d_St_turnAway_7 rfl rfl ?_
  refine wk_get (pc := 8) (v := .ref (a 5)) S_ 2 4 0 in_St rfl (by decide) rfl fl_St_24 d_St_turnAway_8 rfl rfl ?_
  refine wk_aload_n (pc := 11) S_ 0 d_St_turnAway_11 rfl rfl ?_
  refine wk_get (pc := 12) (v := .int (nI (na))) S_ 2 6 0 in_St rfl (by decide) rfl fl_St_47 d_St_turnAway_12 rfl rfl ?_
  refine wk_iload_n (pc := 15) S_ 1 d_St_turnAway_15 rfl rfl ?_
  refine wk_iastN (pc := 16) (g := aw) (ws' := (wSt a cI cl gr sp (va_up (rs) (j) (q)) (va_up (aw) (na) (j)) nb na bg bb ab nx)) S_ 5 0 d_St_turnAway_16 rfl rfl (by omega) (by decide) rfl ?_
  refine wk_aload_n (pc := 17) S_ 0 d_St_turnAway_17 rfl rfl ?_
  refine wk_dup (pc := 18) S_ d_St_turnAway_18 rfl ?_
  refine wk_get (pc := 19) (v := .int (nI (na))) S_ 2 6 0 in_St rfl (by decide) rfl fl_St_47 d_St_turnAway_19 rfl rfl ?_
  refine wk_iconst (pc := 22) (v := (nI (1))) S_ d_St_turnAway_22 (by decide) ?_
  refine wk_iaddN (pc := 23) S_ d_St_turnAway_23 ?_
  refine wk_put (pc := 24) (ty := .int) (ws' := (wSt a cI cl gr sp (va_up (rs) (j) (q)) (va_up (aw) (na) (j)) nb ((na) + (1)) bg bb ab nx)) S_ 2 6 0 in_St t_St t_St_ok n_St rfl (by decide) rfl fl_St_47 (by decide +kernel) d_St_turnAway_24 rfl rfl rfl (Nat.le_of_ble_eq_true rfl) rfl ?_
  refine wk_aload_n (pc := 27) S_ 0 d_St_turnAway_27 rfl rfl ?_
  refine wk_get (pc := 28) (v := .int (nI ((na) + (1)))) S_ 2 6 0 in_St rfl (by decide) rfl fl_St_47 d_St_turnAway_28 rfl rfl ?_
  exact hQ_ (nI ((na) + (1))) () d_St_turnAway_31 rfl rfl
end
section
theorem d_Md_isIn_0 : decode b_Md_isIn 0 = .ok (.lload_n 0, 1) := by decide +kernel
theorem d_Md_isIn_1 : decode b_Md_isIn 1 = .ok (.lload_n 2, 1) := by decide +kernel
theorem d_Md_isIn_2 : decode b_Md_isIn 2 = .ok (.lcmp, 1) := by decide +kernel
theorem d_Md_isIn_3 : decode b_Md_isIn 3 = .ok (.ifCond .lt 14, 3) := by decide +kernel
theorem d_Md_isIn_6 : decode b_Md_isIn 6 = .ok (.lload_n 0, 1) := by decide +kernel
theorem d_Md_isIn_7 : decode b_Md_isIn 7 = .ok (.lload 4, 2) := by decide +kernel
theorem d_Md_isIn_9 : decode b_Md_isIn 9 = .ok (.lcmp, 1) := by decide +kernel
theorem d_Md_isIn_10 : decode b_Md_isIn 10 = .ok (.ifCond .gt 7, 3) := by decide +kernel
theorem d_Md_isIn_13 : decode b_Md_isIn 13 = .ok (.iconst 1, 1) := by decide +kernel
theorem d_Md_isIn_14 : decode b_Md_isIn 14 = .ok (.goto 4, 3) := by decide +kernel
theorem d_Md_isIn_17 : decode b_Md_isIn 17 = .ok (.iconst 0, 1) := by decide +kernel
theorem d_Md_isIn_18 : decode b_Md_isIn 18 = .ok (.ireturn, 1) := by decide +kernel
theorem fl_Md_117 : Cond.fieldLink R_Md 117 R_Md "bottles" "I" ∈ lw_gd := (gd _ (tb2 _ (List.mem_of_getElem? (i := 168) rfl)) rfl)
theorem d_Md_isBottle_0 : decode b_Md_isBottle 0 = .ok (.iload_n 1, 1) := by decide +kernel
theorem d_Md_isBottle_1 : decode b_Md_isBottle 1 = .ok (.ifCond .lt 15, 3) := by decide +kernel
theorem d_Md_isBottle_4 : decode b_Md_isBottle 4 = .ok (.iload_n 1, 1) := by decide +kernel
theorem d_Md_isBottle_5 : decode b_Md_isBottle 5 = .ok (.aload_n 0, 1) := by decide +kernel
theorem d_Md_isBottle_6 : decode b_Md_isBottle 6 = .ok (.getfield 117, 3) := by decide +kernel
theorem d_Md_isBottle_9 : decode b_Md_isBottle 9 = .ok (.if_icmp .ge 7, 3) := by decide +kernel
theorem d_Md_isBottle_12 : decode b_Md_isBottle 12 = .ok (.iconst 1, 1) := by decide +kernel
theorem d_Md_isBottle_13 : decode b_Md_isBottle 13 = .ok (.goto 4, 3) := by decide +kernel
theorem d_Md_isBottle_16 : decode b_Md_isBottle 16 = .ok (.iconst 0, 1) := by decide +kernel
theorem d_Md_isBottle_17 : decode b_Md_isBottle 17 = .ok (.ireturn, 1) := by decide +kernel
theorem fl_Md_84 : Cond.fieldLink R_Md 84 R_Md "out" "[Z" ∈ lw_gd := (gd _ (tb2 _ (List.mem_of_getElem? (i := 172) rfl)) rfl)
theorem fl_Md_74 : Cond.fieldLink R_Md 74 R_Md "classes" "[I" ∈ lw_gd := (gd _ (tb2 _ (List.mem_of_getElem? (i := 169) rfl)) rfl)
theorem d_Md_isToBePacked_0 : decode b_Md_isToBePacked 0 = .ok (.aload_n 0, 1) := by decide +kernel
theorem d_Md_isToBePacked_1 : decode b_Md_isToBePacked 1 = .ok (.getfield 84, 3) := by decide +kernel
theorem d_Md_isToBePacked_4 : decode b_Md_isToBePacked 4 = .ok (.iload_n 1, 1) := by decide +kernel
theorem d_Md_isToBePacked_5 : decode b_Md_isToBePacked 5 = .ok (.baload, 1) := by decide +kernel
theorem d_Md_isToBePacked_6 : decode b_Md_isToBePacked 6 = .ok (.ifCond .ne 16, 3) := by decide +kernel
theorem d_Md_isToBePacked_9 : decode b_Md_isToBePacked 9 = .ok (.aload_n 0, 1) := by decide +kernel
theorem d_Md_isToBePacked_10 : decode b_Md_isToBePacked 10 = .ok (.getfield 74, 3) := by decide +kernel
theorem d_Md_isToBePacked_13 : decode b_Md_isToBePacked 13 = .ok (.iload_n 1, 1) := by decide +kernel
theorem d_Md_isToBePacked_14 : decode b_Md_isToBePacked 14 = .ok (.iaload, 1) := by decide +kernel
theorem d_Md_isToBePacked_15 : decode b_Md_isToBePacked 15 = .ok (.ifCond .lt 7, 3) := by decide +kernel
theorem d_Md_isToBePacked_18 : decode b_Md_isToBePacked 18 = .ok (.iconst 1, 1) := by decide +kernel
theorem d_Md_isToBePacked_19 : decode b_Md_isToBePacked 19 = .ok (.goto 4, 3) := by decide +kernel
theorem d_Md_isToBePacked_22 : decode b_Md_isToBePacked 22 = .ok (.iconst 0, 1) := by decide +kernel
theorem d_Md_isToBePacked_23 : decode b_Md_isToBePacked 23 = .ok (.ireturn, 1) := by decide +kernel
theorem fl_Md_239 : Cond.fieldLink R_Md 239 R_Md "isFound" "Z" ∈ lw_gd := (gd _ (tb2 _ (List.mem_of_getElem? (i := 179) rfl)) rfl)
theorem fl_Md_99 : Cond.fieldLink R_Md 99 R_Md "found" "[I" ∈ lw_gd := (gd _ (tb2 _ (List.mem_of_getElem? (i := 181) rfl)) rfl)
theorem d_Md_isLoaded_0 : decode b_Md_isLoaded 0 = .ok (.aload_n 0, 1) := by decide +kernel
theorem d_Md_isLoaded_1 : decode b_Md_isLoaded 1 = .ok (.getfield 239, 3) := by decide +kernel
theorem d_Md_isLoaded_4 : decode b_Md_isLoaded 4 = .ok (.ifCond .eq 16, 3) := by decide +kernel
theorem d_Md_isLoaded_7 : decode b_Md_isLoaded 7 = .ok (.aload_n 0, 1) := by decide +kernel
theorem d_Md_isLoaded_8 : decode b_Md_isLoaded 8 = .ok (.getfield 99, 3) := by decide +kernel
theorem d_Md_isLoaded_11 : decode b_Md_isLoaded 11 = .ok (.iload_n 1, 1) := by decide +kernel
theorem d_Md_isLoaded_12 : decode b_Md_isLoaded 12 = .ok (.iaload, 1) := by decide +kernel
theorem d_Md_isLoaded_13 : decode b_Md_isLoaded 13 = .ok (.ifCond .lt 7, 3) := by decide +kernel
theorem d_Md_isLoaded_16 : decode b_Md_isLoaded 16 = .ok (.iconst 1, 1) := by decide +kernel
theorem d_Md_isLoaded_17 : decode b_Md_isLoaded 17 = .ok (.goto 4, 3) := by decide +kernel
theorem d_Md_isLoaded_20 : decode b_Md_isLoaded 20 = .ok (.iconst 0, 1) := by decide +kernel
theorem d_Md_isLoaded_21 : decode b_Md_isLoaded 21 = .ok (.ireturn, 1) := by decide +kernel
theorem mv_Md_245 : wk_V R_Md 245 R_Md y_Md_isLoaded b_Md_isLoaded 2 (some .boolean) 1 := ⟨(gd _ (tb3 _ (List.mem_of_getElem? (i := 188) rfl)) rfl), (gd _ (tb0 _ (List.mem_of_getElem? (i := 8) rfl)) rfl), (gd _ (tb3 _ (List.mem_of_getElem? (i := 185) rfl)) rfl), (by decide +kernel), (gd _ (tb3 _ (List.mem_of_getElem? (i := 187) rfl)) rfl), (gd _ (List.mem_append_left _ (by decide +kernel)) rfl)⟩
theorem fl_Md_77 : Cond.fieldLink R_Md 77 R_Md "grams" "[J" ∈ lw_gd := (gd _ (tb2 _ (List.mem_of_getElem? (i := 170) rfl)) rfl)
theorem d_Md_gramsOf_0 : decode b_Md_gramsOf 0 = .ok (.lconst 0, 1) := by decide +kernel
theorem d_Md_gramsOf_1 : decode b_Md_gramsOf 1 = .ok (.lstore_n 2, 1) := by decide +kernel
theorem d_Md_gramsOf_2 : decode b_Md_gramsOf 2 = .ok (.iconst 0, 1) := by decide +kernel
theorem d_Md_gramsOf_3 : decode b_Md_gramsOf 3 = .ok (.istore 4, 2) := by decide +kernel
theorem d_Md_gramsOf_5 : decode b_Md_gramsOf 5 = .ok (.iload 4, 2) := by decide +kernel
theorem d_Md_gramsOf_7 : decode b_Md_gramsOf 7 = .ok (.aload_n 0, 1) := by decide +kernel
theorem d_Md_gramsOf_8 : decode b_Md_gramsOf 8 = .ok (.getfield 117, 3) := by decide +kernel
theorem d_Md_gramsOf_11 : decode b_Md_gramsOf 11 = .ok (.if_icmp .ge 43, 3) := by decide +kernel
theorem d_Md_gramsOf_14 : decode b_Md_gramsOf 14 = .ok (.lload_n 2, 1) := by decide +kernel
theorem d_Md_gramsOf_15 : decode b_Md_gramsOf 15 = .ok (.aload_n 0, 1) := by decide +kernel
theorem d_Md_gramsOf_16 : decode b_Md_gramsOf 16 = .ok (.iload 4, 2) := by decide +kernel
theorem d_Md_gramsOf_18 : decode b_Md_gramsOf 18 = .ok (.invokevirtual 245, 3) := by decide +kernel
theorem d_Md_gramsOf_21 : decode b_Md_gramsOf 21 = .ok (.ifCond .eq 24, 3) := by decide +kernel
theorem d_Md_gramsOf_24 : decode b_Md_gramsOf 24 = .ok (.aload_n 0, 1) := by decide +kernel
theorem d_Md_gramsOf_25 : decode b_Md_gramsOf 25 = .ok (.getfield 74, 3) := by decide +kernel
theorem d_Md_gramsOf_28 : decode b_Md_gramsOf 28 = .ok (.iload 4, 2) := by decide +kernel
theorem d_Md_gramsOf_30 : decode b_Md_gramsOf 30 = .ok (.iaload, 1) := by decide +kernel
theorem d_Md_gramsOf_31 : decode b_Md_gramsOf 31 = .ok (.iload_n 1, 1) := by decide +kernel
theorem d_Md_gramsOf_32 : decode b_Md_gramsOf 32 = .ok (.if_icmp .ne 13, 3) := by decide +kernel
theorem d_Md_gramsOf_35 : decode b_Md_gramsOf 35 = .ok (.aload_n 0, 1) := by decide +kernel
theorem d_Md_gramsOf_36 : decode b_Md_gramsOf 36 = .ok (.getfield 77, 3) := by decide +kernel
theorem d_Md_gramsOf_39 : decode b_Md_gramsOf 39 = .ok (.iload 4, 2) := by decide +kernel
theorem d_Md_gramsOf_41 : decode b_Md_gramsOf 41 = .ok (.laload, 1) := by decide +kernel
theorem d_Md_gramsOf_42 : decode b_Md_gramsOf 42 = .ok (.goto 4, 3) := by decide +kernel
theorem d_Md_gramsOf_45 : decode b_Md_gramsOf 45 = .ok (.lconst 0, 1) := by decide +kernel
theorem d_Md_gramsOf_46 : decode b_Md_gramsOf 46 = .ok (.ladd, 1) := by decide +kernel
theorem d_Md_gramsOf_47 : decode b_Md_gramsOf 47 = .ok (.lstore_n 2, 1) := by decide +kernel
theorem d_Md_gramsOf_48 : decode b_Md_gramsOf 48 = .ok (.iinc 4 1, 3) := by decide +kernel
theorem d_Md_gramsOf_51 : decode b_Md_gramsOf 51 = .ok (.goto (-46), 3) := by decide +kernel
theorem d_Md_gramsOf_54 : decode b_Md_gramsOf 54 = .ok (.lload_n 2, 1) := by decide +kernel
theorem d_Md_gramsOf_55 : decode b_Md_gramsOf 55 = .ok (.lreturn, 1) := by decide +kernel
theorem mv_Md_248 : wk_V R_Md 248 R_Md y_Md_gramsOf b_Md_gramsOf 5 (some .long) 1 := ⟨(gd _ (tb3 _ (List.mem_of_getElem? (i := 184) rfl)) rfl), (gd _ (tb0 _ (List.mem_of_getElem? (i := 8) rfl)) rfl), (gd _ (tb3 _ (List.mem_of_getElem? (i := 181) rfl)) rfl), (by decide +kernel), (gd _ (tb3 _ (List.mem_of_getElem? (i := 183) rfl)) rfl), (gd _ (List.mem_append_left _ (by decide +kernel)) rfl)⟩
theorem kc_Md_252 : Cond.constantLong R_Md 252 (lN 999) ∈ lw_gd := (gd _ (tb3 _ (List.mem_of_getElem? (i := 189) rfl)) rfl)
theorem kc_Md_254 : Cond.constantLong R_Md 254 (lN 1000) ∈ lw_gd := (gd _ (tb3 _ (List.mem_of_getElem? (i := 190) rfl)) rfl)
theorem fl_Md_17 : Cond.fieldLink R_Md 17 R_Md "points" "[I" ∈ lw_gd := (gd _ (tb2 _ (List.mem_of_getElem? (i := 147) rfl)) rfl)
theorem d_Md_pointsOf_0 : decode b_Md_pointsOf 0 = .ok (.aload_n 0, 1) := by decide +kernel
theorem d_Md_pointsOf_1 : decode b_Md_pointsOf 1 = .ok (.iload_n 1, 1) := by decide +kernel
theorem d_Md_pointsOf_2 : decode b_Md_pointsOf 2 = .ok (.invokevirtual 248, 3) := by decide +kernel
theorem d_Md_pointsOf_5 : decode b_Md_pointsOf 5 = .ok (.ldc2_w 252, 3) := by decide +kernel
theorem d_Md_pointsOf_8 : decode b_Md_pointsOf 8 = .ok (.ladd, 1) := by decide +kernel
theorem d_Md_pointsOf_9 : decode b_Md_pointsOf 9 = .ok (.ldc2_w 254, 3) := by decide +kernel
theorem d_Md_pointsOf_12 : decode b_Md_pointsOf 12 = .ok (.ldiv, 1) := by decide +kernel
theorem d_Md_pointsOf_13 : decode b_Md_pointsOf 13 = .ok (.aload_n 0, 1) := by decide +kernel
theorem d_Md_pointsOf_14 : decode b_Md_pointsOf 14 = .ok (.getfield 17, 3) := by decide +kernel
theorem d_Md_pointsOf_17 : decode b_Md_pointsOf 17 = .ok (.iload_n 1, 1) := by decide +kernel
theorem d_Md_pointsOf_18 : decode b_Md_pointsOf 18 = .ok (.iaload, 1) := by decide +kernel
theorem d_Md_pointsOf_19 : decode b_Md_pointsOf 19 = .ok (.i2l, 1) := by decide +kernel
theorem d_Md_pointsOf_20 : decode b_Md_pointsOf 20 = .ok (.lmul, 1) := by decide +kernel
theorem d_Md_pointsOf_21 : decode b_Md_pointsOf 21 = .ok (.lreturn, 1) := by decide +kernel
theorem mv_Md_256 : wk_V R_Md 256 R_Md y_Md_pointsOf b_Md_pointsOf 2 (some .long) 1 := ⟨(gd _ (tb3 _ (List.mem_of_getElem? (i := 180) rfl)) rfl), (gd _ (tb0 _ (List.mem_of_getElem? (i := 8) rfl)) rfl), (gd _ (tb3 _ (List.mem_of_getElem? (i := 177) rfl)) rfl), (by decide +kernel), (gd _ (tb3 _ (List.mem_of_getElem? (i := 179) rfl)) rfl), (gd _ (List.mem_append_left _ (by decide +kernel)) rfl)⟩
theorem d_Md_points_0 : decode b_Md_points 0 = .ok (.lconst 0, 1) := by decide +kernel
theorem d_Md_points_1 : decode b_Md_points 1 = .ok (.lstore_n 1, 1) := by decide +kernel
theorem d_Md_points_2 : decode b_Md_points 2 = .ok (.iconst 0, 1) := by decide +kernel
theorem d_Md_points_3 : decode b_Md_points 3 = .ok (.istore_n 3, 1) := by decide +kernel
theorem d_Md_points_4 : decode b_Md_points 4 = .ok (.iload_n 3, 1) := by decide +kernel
theorem d_Md_points_5 : decode b_Md_points 5 = .ok (.bipush 9, 2) := by decide +kernel
theorem d_Md_points_7 : decode b_Md_points 7 = .ok (.if_icmp .ge 17, 3) := by decide +kernel
theorem d_Md_points_10 : decode b_Md_points 10 = .ok (.lload_n 1, 1) := by decide +kernel
theorem d_Md_points_11 : decode b_Md_points 11 = .ok (.aload_n 0, 1) := by decide +kernel
theorem d_Md_points_12 : decode b_Md_points 12 = .ok (.iload_n 3, 1) := by decide +kernel
theorem d_Md_points_13 : decode b_Md_points 13 = .ok (.invokevirtual 256, 3) := by decide +kernel
theorem d_Md_points_16 : decode b_Md_points 16 = .ok (.ladd, 1) := by decide +kernel
theorem d_Md_points_17 : decode b_Md_points 17 = .ok (.lstore_n 1, 1) := by decide +kernel
theorem d_Md_points_18 : decode b_Md_points 18 = .ok (.iinc 3 1, 3) := by decide +kernel
theorem d_Md_points_21 : decode b_Md_points 21 = .ok (.goto (-17), 3) := by decide +kernel
theorem d_Md_points_24 : decode b_Md_points 24 = .ok (.lload_n 1, 1) := by decide +kernel
theorem d_Md_points_25 : decode b_Md_points 25 = .ok (.lreturn, 1) := by decide +kernel
theorem mv_Md_259 : wk_V R_Md 259 R_Md y_Md_points b_Md_points 4 (some .long) 0 := ⟨(gd _ (tb3 _ (List.mem_of_getElem? (i := 176) rfl)) rfl), (gd _ (tb0 _ (List.mem_of_getElem? (i := 8) rfl)) rfl), (gd _ (tb3 _ (List.mem_of_getElem? (i := 195) rfl)) rfl), (by decide +kernel), (gd _ (tb3 _ (List.mem_of_getElem? (i := 174) rfl)) rfl), (gd _ (tb3 _ (List.mem_of_getElem? (i := 175) rfl)) rfl)⟩
theorem fl_Md_137 : Cond.fieldLink R_Md 137 R_Md "free" "I" ∈ lw_gd := (gd _ (tb2 _ (List.mem_of_getElem? (i := 150) rfl)) rfl)
theorem d_Md_exempt_0 : decode b_Md_exempt 0 = .ok (.aload_n 0, 1) := by decide +kernel
theorem d_Md_exempt_1 : decode b_Md_exempt 1 = .ok (.invokevirtual 259, 3) := by decide +kernel
theorem d_Md_exempt_4 : decode b_Md_exempt 4 = .ok (.aload_n 0, 1) := by decide +kernel
theorem d_Md_exempt_5 : decode b_Md_exempt 5 = .ok (.getfield 137, 3) := by decide +kernel
theorem d_Md_exempt_8 : decode b_Md_exempt 8 = .ok (.i2l, 1) := by decide +kernel
theorem d_Md_exempt_9 : decode b_Md_exempt 9 = .ok (.lcmp, 1) := by decide +kernel
theorem d_Md_exempt_10 : decode b_Md_exempt 10 = .ok (.ifCond .gt 7, 3) := by decide +kernel
theorem d_Md_exempt_13 : decode b_Md_exempt 13 = .ok (.iconst 1, 1) := by decide +kernel
theorem d_Md_exempt_14 : decode b_Md_exempt 14 = .ok (.goto 4, 3) := by decide +kernel
theorem d_Md_exempt_17 : decode b_Md_exempt 17 = .ok (.iconst 0, 1) := by decide +kernel
theorem d_Md_exempt_18 : decode b_Md_exempt 18 = .ok (.ireturn, 1) := by decide +kernel
theorem fl_Md_20 : Cond.fieldLink R_Md 20 R_Md "ranks" "[I" ∈ lw_gd := (gd _ (tb2 _ (List.mem_of_getElem? (i := 148) rfl)) rfl)
theorem d_Md_placeOf_0 : decode b_Md_placeOf 0 = .ok (.iconst 0, 1) := by decide +kernel
theorem d_Md_placeOf_1 : decode b_Md_placeOf 1 = .ok (.istore_n 2, 1) := by decide +kernel
theorem d_Md_placeOf_2 : decode b_Md_placeOf 2 = .ok (.iconst 0, 1) := by decide +kernel
theorem d_Md_placeOf_3 : decode b_Md_placeOf 3 = .ok (.istore_n 3, 1) := by decide +kernel
theorem d_Md_placeOf_4 : decode b_Md_placeOf 4 = .ok (.iload_n 3, 1) := by decide +kernel
theorem d_Md_placeOf_5 : decode b_Md_placeOf 5 = .ok (.bipush 9, 2) := by decide +kernel
theorem d_Md_placeOf_7 : decode b_Md_placeOf 7 = .ok (.if_icmp .ge 74, 3) := by decide +kernel
theorem d_Md_placeOf_10 : decode b_Md_placeOf 10 = .ok (.aload_n 0, 1) := by decide +kernel
theorem d_Md_placeOf_11 : decode b_Md_placeOf 11 = .ok (.getfield 20, 3) := by decide +kernel
theorem d_Md_placeOf_14 : decode b_Md_placeOf 14 = .ok (.iload_n 3, 1) := by decide +kernel
theorem d_Md_placeOf_15 : decode b_Md_placeOf 15 = .ok (.iaload, 1) := by decide +kernel
theorem d_Md_placeOf_16 : decode b_Md_placeOf 16 = .ok (.aload_n 0, 1) := by decide +kernel
theorem d_Md_placeOf_17 : decode b_Md_placeOf 17 = .ok (.getfield 20, 3) := by decide +kernel
theorem d_Md_placeOf_20 : decode b_Md_placeOf 20 = .ok (.iload_n 1, 1) := by decide +kernel
theorem d_Md_placeOf_21 : decode b_Md_placeOf 21 = .ok (.iaload, 1) := by decide +kernel
theorem d_Md_placeOf_22 : decode b_Md_placeOf 22 = .ok (.if_icmp .lt 23, 3) := by decide +kernel
theorem d_Md_placeOf_25 : decode b_Md_placeOf 25 = .ok (.aload_n 0, 1) := by decide +kernel
theorem d_Md_placeOf_26 : decode b_Md_placeOf 26 = .ok (.getfield 20, 3) := by decide +kernel
theorem d_Md_placeOf_29 : decode b_Md_placeOf 29 = .ok (.iload_n 3, 1) := by decide +kernel
theorem d_Md_placeOf_30 : decode b_Md_placeOf 30 = .ok (.iaload, 1) := by decide +kernel
theorem d_Md_placeOf_31 : decode b_Md_placeOf 31 = .ok (.aload_n 0, 1) := by decide +kernel
theorem d_Md_placeOf_32 : decode b_Md_placeOf 32 = .ok (.getfield 20, 3) := by decide +kernel
theorem d_Md_placeOf_35 : decode b_Md_placeOf 35 = .ok (.iload_n 1, 1) := by decide +kernel
theorem d_Md_placeOf_36 : decode b_Md_placeOf 36 = .ok (.iaload, 1) := by decide +kernel
theorem d_Md_placeOf_37 : decode b_Md_placeOf 37 = .ok (.if_icmp .ne 12, 3) := by decide +kernel
theorem d_Md_placeOf_40 : decode b_Md_placeOf 40 = .ok (.iload_n 3, 1) := by decide +kernel
theorem d_Md_placeOf_41 : decode b_Md_placeOf 41 = .ok (.iload_n 1, 1) := by decide +kernel
theorem d_Md_placeOf_42 : decode b_Md_placeOf 42 = .ok (.if_icmp .ge 7, 3) := by decide +kernel
theorem d_Md_placeOf_45 : decode b_Md_placeOf 45 = .ok (.iconst 1, 1) := by decide +kernel
theorem d_Md_placeOf_46 : decode b_Md_placeOf 46 = .ok (.goto 4, 3) := by decide +kernel
theorem d_Md_placeOf_49 : decode b_Md_placeOf 49 = .ok (.iconst 0, 1) := by decide +kernel
theorem d_Md_placeOf_50 : decode b_Md_placeOf 50 = .ok (.istore 4, 2) := by decide +kernel
theorem d_Md_placeOf_52 : decode b_Md_placeOf 52 = .ok (.iload_n 2, 1) := by decide +kernel
theorem d_Md_placeOf_53 : decode b_Md_placeOf 53 = .ok (.iload 4, 2) := by decide +kernel
theorem d_Md_placeOf_55 : decode b_Md_placeOf 55 = .ok (.ifCond .eq 17, 3) := by decide +kernel
theorem d_Md_placeOf_58 : decode b_Md_placeOf 58 = .ok (.aload_n 0, 1) := by decide +kernel
theorem d_Md_placeOf_59 : decode b_Md_placeOf 59 = .ok (.iload_n 3, 1) := by decide +kernel
theorem d_Md_placeOf_60 : decode b_Md_placeOf 60 = .ok (.invokevirtual 248, 3) := by decide +kernel
theorem d_Md_placeOf_63 : decode b_Md_placeOf 63 = .ok (.lconst 0, 1) := by decide +kernel
theorem d_Md_placeOf_64 : decode b_Md_placeOf 64 = .ok (.lcmp, 1) := by decide +kernel
theorem d_Md_placeOf_65 : decode b_Md_placeOf 65 = .ok (.ifCond .le 7, 3) := by decide +kernel
theorem d_Md_placeOf_68 : decode b_Md_placeOf 68 = .ok (.iconst 1, 1) := by decide +kernel
theorem d_Md_placeOf_69 : decode b_Md_placeOf 69 = .ok (.goto 4, 3) := by decide +kernel
theorem d_Md_placeOf_72 : decode b_Md_placeOf 72 = .ok (.iconst 0, 1) := by decide +kernel
theorem d_Md_placeOf_73 : decode b_Md_placeOf 73 = .ok (.iadd, 1) := by decide +kernel
theorem d_Md_placeOf_74 : decode b_Md_placeOf 74 = .ok (.istore_n 2, 1) := by decide +kernel
theorem d_Md_placeOf_75 : decode b_Md_placeOf 75 = .ok (.iinc 3 1, 3) := by decide +kernel
theorem d_Md_placeOf_78 : decode b_Md_placeOf 78 = .ok (.goto (-74), 3) := by decide +kernel
theorem d_Md_placeOf_81 : decode b_Md_placeOf 81 = .ok (.iload_n 2, 1) := by decide +kernel
theorem d_Md_placeOf_82 : decode b_Md_placeOf 82 = .ok (.ireturn, 1) := by decide +kernel
theorem mv_Md_262 : wk_V R_Md 262 R_Md y_Md_placeOf b_Md_placeOf 5 (some .int) 1 := ⟨(gd _ (tb3 _ (List.mem_of_getElem? (i := 203) rfl)) rfl), (gd _ (tb0 _ (List.mem_of_getElem? (i := 8) rfl)) rfl), (gd _ (tb3 _ (List.mem_of_getElem? (i := 200) rfl)) rfl), (by decide +kernel), (gd _ (tb3 _ (List.mem_of_getElem? (i := 202) rfl)) rfl), (gd _ (List.mem_append_left _ (by decide +kernel)) rfl)⟩
theorem d_Md_name_0 : decode b_Md_name 0 = .ok (.iconst 0, 1) := by decide +kernel
theorem d_Md_name_1 : decode b_Md_name 1 = .ok (.istore_n 2, 1) := by decide +kernel
theorem d_Md_name_2 : decode b_Md_name 2 = .ok (.iload_n 2, 1) := by decide +kernel
theorem d_Md_name_3 : decode b_Md_name 3 = .ok (.bipush 9, 2) := by decide +kernel
theorem d_Md_name_5 : decode b_Md_name 5 = .ok (.if_icmp .ge 30, 3) := by decide +kernel
theorem d_Md_name_8 : decode b_Md_name 8 = .ok (.aload_n 0, 1) := by decide +kernel
theorem d_Md_name_9 : decode b_Md_name 9 = .ok (.iload_n 2, 1) := by decide +kernel
theorem d_Md_name_10 : decode b_Md_name 10 = .ok (.invokevirtual 248, 3) := by decide +kernel
theorem d_Md_name_13 : decode b_Md_name 13 = .ok (.lconst 0, 1) := by decide +kernel
theorem d_Md_name_14 : decode b_Md_name 14 = .ok (.lcmp, 1) := by decide +kernel
theorem d_Md_name_15 : decode b_Md_name 15 = .ok (.ifCond .le 14, 3) := by decide +kernel
theorem d_Md_name_18 : decode b_Md_name 18 = .ok (.aload_n 0, 1) := by decide +kernel
theorem d_Md_name_19 : decode b_Md_name 19 = .ok (.iload_n 2, 1) := by decide +kernel
theorem d_Md_name_20 : decode b_Md_name 20 = .ok (.invokevirtual 262, 3) := by decide +kernel
theorem d_Md_name_23 : decode b_Md_name 23 = .ok (.iload_n 1, 1) := by decide +kernel
theorem d_Md_name_24 : decode b_Md_name 24 = .ok (.if_icmp .ne 5, 3) := by decide +kernel
theorem d_Md_name_27 : decode b_Md_name 27 = .ok (.iload_n 2, 1) := by decide +kernel
theorem d_Md_name_28 : decode b_Md_name 28 = .ok (.ireturn, 1) := by decide +kernel
theorem d_Md_name_29 : decode b_Md_name 29 = .ok (.iinc 2 1, 3) := by decide +kernel
theorem d_Md_name_32 : decode b_Md_name 32 = .ok (.goto (-30), 3) := by decide +kernel
theorem d_Md_name_35 : decode b_Md_name 35 = .ok (.iconst (-1), 1) := by decide +kernel
theorem d_Md_name_36 : decode b_Md_name 36 = .ok (.ireturn, 1) := by decide +kernel
set_option maxHeartbeats 4000000 in
set_option maxRecDepth 100000 in
theorem c_Md_isIn (l : Launch) (D : va_G) (cI : CiT) (z : GzT) (v : Int64) (lo : Int64) (hi : Int64) : wk_C l D (tyK cI) (gX z) y_Md_isIn b_Md_isIn 6 (some .boolean) 0 0 0 0 [.long (v), .long (lo), .long (hi)] [] wk_i (fun (r : Int32) (_ : Unit) => r = (bI (lxI v lo hi))) (fun _ => []) := by
  refine wk_methZ (own := R_Md) [(0, .long (v)), (2, .long (lo)), (4, .long (hi))] (by decide) rfl (Nat.le_of_ble_eq_true rfl) rfl (gX_ok z) (fun p_ e_ R_ s_ m_ ar_ be_ me_ co_ Q_ A_ hR_ S_ hnm_ hQ_ => ?_)
  refine wk_lload_n (pc := 0) S_ 0 d_Md_isIn_0 rfl rfl ?_
  refine wk_lload_n (pc := 1) S_ 1 d_Md_isIn_1 rfl rfl ?_
  refine wk_lcmp (pc := 2) S_ d_Md_isIn_2 ?_
  refine wk_cmp_lt (pc := 3) (tgt := 17) S_ d_Md_isIn_3 (by decide) (fun h3 => ?_) (fun h3 => ?_)
  · -- taken
    refine wk_iconst (pc := 17) (v := (nI (0))) S_ d_Md_isIn_17 (by decide) ?_
    exact hQ_ (nI (0)) () d_Md_isIn_18 rfl rfl (bI_f (by simp [lxI, show ¬ lo ≤ v from Int64.not_le.mpr h3]))
  · -- on
    refine wk_lload_n (pc := 6) S_ 0 d_Md_isIn_6 rfl rfl ?_
    refine wk_lload (pc := 7) S_ 2 d_Md_isIn_7 rfl ?_
    refine wk_lcmp (pc := 9) S_ d_Md_isIn_9 ?_
    refine wk_cmp_gt (pc := 10) (tgt := 17) S_ d_Md_isIn_10 (by decide) (fun h10 => ?_) (fun h10 => ?_)
    · -- taken
      refine wk_iconst (pc := 17) (v := (nI (0))) S_ d_Md_isIn_17 (by decide) ?_
      exact hQ_ (nI (0)) () d_Md_isIn_18 rfl rfl (bI_f (by simp [lxI, show ¬ v ≤ hi from Int64.not_le.mpr h10]))
    · -- on
      refine wk_iconst (pc := 13) (v := (nI (1))) S_ d_Md_isIn_13 (by decide) ?_
      refine wk_goto (pc := 14) (tgt := 18) S_ d_Md_isIn_14 (by decide) ?_
      exact hQ_ (nI (1)) () d_Md_isIn_18 rfl rfl (bI_t (by simp [lxI, Int64.not_lt.mp h3, Int64.not_lt.mp h10]))
set_option maxHeartbeats 4000000 in
set_option maxRecDepth 100000 in
theorem c_Md_isBottle (l : Launch) (D : va_G) (cI : CiT) (z : GzT) (m : Nat → Nat) (tx : (Nat → Nat)) (sz : Nat) (ap : (Nat → Bool)) (pt : (Nat → Nat)) (rk : (Nat → Nat)) (cd : (Nat → Nat)) (fr : Nat) (mc : (Nat → Nat)) (mg : (Nat → Nat)) (mz : (Nat → Nat)) (nc : (Nat → Nat)) (nt : (Nat → Nat)) (ld : (Nat → Nat)) (qap : (Nat → Bool)) (qpt : (Nat → Nat)) (qrk : (Nat → Nat)) (qcd : (Nat → Nat)) (qfr : Nat) (qmc : (Nat → Nat)) (qmg : (Nat → Nat)) (qmz : (Nat → Nat)) (qnc : (Nat → Nat)) (qnt : (Nat → Nat)) (qld : (Nat → Nat)) (nb : Nat) (cl : (Nat → Nat)) (gr : (Nat → Nat)) (sp : (Nat → Nat)) (ot : (Nat → Bool)) (na : Nat) (aw : (Nat → Nat)) (nx : Nat) (bg : (Nat → Nat)) (bb : (Nat → Nat)) (ab : (Nat → Nat)) (fd : Bool) (pv : Bool) (bx : (Nat → Nat)) (wy : (Nat → Nat)) (li : (Nat → Nat)) (fm : Nat) (en : Nat) (nu : Nat) (td : (Nat → Nat)) (lf : Int32) (lk : Int32) (b : Int32) : wk_C l D (tyK cI) (gX z) y_Md_isBottle b_Md_isBottle 2 (some .boolean) 0 0 0 0 [.ref (m 0), .int (b)] (wMd m cI tx sz ap pt rk cd fr mc mg mz nc nt ld qap qpt qrk qcd qfr qmc qmg qmz qnc qnt qld nb cl gr sp ot na aw nx bg bb ab fd pv bx wy li fm en nu td lf lk) wk_i (fun (r : Int32) (_ : Unit) => r = (bI (ixI nb b))) (fun _ => (wMd m cI tx sz ap pt rk cd fr mc mg mz nc nt ld qap qpt qrk qcd qfr qmc qmg qmz qnc qnt qld nb cl gr sp ot na aw nx bg bb ab fd pv bx wy li fm en nu td lf lk)) := by
  refine wk_methZ (own := R_Md) [(0, .ref (m 0)), (1, .int (b))] (by decide) rfl (Nat.le_of_ble_eq_true rfl) rfl (gX_ok z) (fun p_ e_ R_ s_ m_ ar_ be_ me_ co_ Q_ A_ hR_ S_ hnm_ hQ_ => ?_)
  refine wk_iload_n (pc := 0) S_ 1 d_Md_isBottle_0 rfl rfl ?_
  refine wk_if_lt (pc := 1) (tgt := 16) S_ d_Md_isBottle_1 (by decide) (fun h1 => ?_) (fun h1 => ?_)
  · -- taken
    refine wk_iconst (pc := 16) (v := (nI (0))) S_ d_Md_isBottle_16 (by decide) ?_
    exact hQ_ (nI (0)) () d_Md_isBottle_17 rfl rfl (bI_f (by simp [ixI, h1]))
  · -- on
    refine wk_iload_n (pc := 4) S_ 1 d_Md_isBottle_4 rfl rfl ?_
    refine wk_aload_n (pc := 5) S_ 0 d_Md_isBottle_5 rfl rfl ?_
    refine wk_get (pc := 6) (v := .int (nI (nb))) S_ 6 24 0 in_Md rfl (by decide) rfl fl_Md_117 d_Md_isBottle_6 rfl rfl ?_
    refine wk_icmp_ge (pc := 9) (tgt := 16) S_ d_Md_isBottle_9 (by decide) (fun h9 => ?_) (fun h9 => ?_)
    · -- taken
      refine wk_iconst (pc := 16) (v := (nI (0))) S_ d_Md_isBottle_16 (by decide) ?_
      exact hQ_ (nI (0)) () d_Md_isBottle_17 rfl rfl (bI_f (by simp [ixI, h1, h9]))
    · -- on
      refine wk_iconst (pc := 12) (v := (nI (1))) S_ d_Md_isBottle_12 (by decide) ?_
      refine wk_goto (pc := 13) (tgt := 17) S_ d_Md_isBottle_13 (by decide) ?_
      exact hQ_ (nI (1)) () d_Md_isBottle_17 rfl rfl (bI_t (by simp [ixI, h1, h9]))
set_option maxHeartbeats 4000000 in
set_option maxRecDepth 100000 in
theorem c_Md_isToBePacked (l : Launch) (D : va_G) (cI : CiT) (z : GzT) (m : Nat → Nat) (tx : (Nat → Nat)) (sz : Nat) (ap : (Nat → Bool)) (pt : (Nat → Nat)) (rk : (Nat → Nat)) (cd : (Nat → Nat)) (fr : Nat) (mc : (Nat → Nat)) (mg : (Nat → Nat)) (mz : (Nat → Nat)) (nc : (Nat → Nat)) (nt : (Nat → Nat)) (ld : (Nat → Nat)) (qap : (Nat → Bool)) (qpt : (Nat → Nat)) (qrk : (Nat → Nat)) (qcd : (Nat → Nat)) (qfr : Nat) (qmc : (Nat → Nat)) (qmg : (Nat → Nat)) (qmz : (Nat → Nat)) (qnc : (Nat → Nat)) (qnt : (Nat → Nat)) (qld : (Nat → Nat)) (nb : Nat) (cl : (Nat → Nat)) (gr : (Nat → Nat)) (sp : (Nat → Nat)) (ot : (Nat → Bool)) (na : Nat) (aw : (Nat → Nat)) (nx : Nat) (bg : (Nat → Nat)) (bb : (Nat → Nat)) (ab : (Nat → Nat)) (fd : Bool) (pv : Bool) (bx : (Nat → Nat)) (wy : (Nat → Nat)) (li : (Nat → Nat)) (fm : Nat) (en : Nat) (nu : Nat) (td : (Nat → Nat)) (lf : Int32) (lk : Int32) (j : Nat) (hj : j < 8) (hc : cl j < 2 ^ 31) : wk_C l D (tyK cI) (gX z) y_Md_isToBePacked b_Md_isToBePacked 2 (some .boolean) 0 0 0 0 [.ref (m 0), .int (nI (j))] (wMd m cI tx sz ap pt rk cd fr mc mg mz nc nt ld qap qpt qrk qcd qfr qmc qmg qmz qnc qnt qld nb cl gr sp ot na aw nx bg bb ab fd pv bx wy li fm en nu td lf lk) wk_i (fun (r : Int32) (_ : Unit) => r = (bI (decide (ot j = false ∧ cl j ≠ 0)))) (fun _ => (wMd m cI tx sz ap pt rk cd fr mc mg mz nc nt ld qap qpt qrk qcd qfr qmc qmg qmz qnc qnt qld nb cl gr sp ot na aw nx bg bb ab fd pv bx wy li fm en nu td lf lk)) := by
  refine wk_methZ (own := R_Md) [(0, .ref (m 0)), (1, .int (nI (j)))] (by decide) rfl (Nat.le_of_ble_eq_true rfl) rfl (gX_ok z) (fun p_ e_ R_ s_ m_ ar_ be_ me_ co_ Q_ A_ hR_ S_ hnm_ hQ_ => ?_)
  refine wk_aload_n (pc := 0) S_ 0 d_Md_isToBePacked_0 rfl rfl ?_
  refine wk_get (pc := 1) (v := .ref (m 25)) S_ 6 28 0 in_Md rfl (by decide) rfl fl_Md_84 d_Md_isToBePacked_1 rfl rfl ?_
  refine wk_iload_n (pc := 4) S_ 1 d_Md_isToBePacked_4 rfl rfl ?_
  refine wk_zald (pc := 5) (g := ot) S_ 25 1 d_Md_isToBePacked_5 rfl rfl (by omega) (by decide) ?_
  refine wk_if_neB (pc := 6) (tgt := 22) S_ d_Md_isToBePacked_6 (by decide) (fun h6 => ?_) (fun h6 => ?_)
  · -- taken
    refine wk_iconst (pc := 22) (v := (nI (0))) S_ d_Md_isToBePacked_22 (by decide) ?_
    exact hQ_ (nI (0)) () d_Md_isToBePacked_23 rfl rfl (bI_f (by (try simp at h6); simp [h6]))
  · -- on
    refine wk_aload_n (pc := 9) S_ 0 d_Md_isToBePacked_9 rfl rfl ?_
    refine wk_get (pc := 10) (v := .ref (m 22)) S_ 6 25 0 in_Md rfl (by decide) rfl fl_Md_74 d_Md_isToBePacked_10 rfl rfl ?_
    refine wk_iload_n (pc := 13) S_ 1 d_Md_isToBePacked_13 rfl rfl ?_
    refine wk_ialdY (pc := 14) (g := cl) S_ 22 0 d_Md_isToBePacked_14 rfl rfl (by omega) (by decide) ?_
    refine wk_if_ltY (pc := 15) (tgt := 22) S_ d_Md_isToBePacked_15 (by decide) (by omega) (fun h15 => ?_) (fun h15 => ?_)
    · -- taken
      refine wk_iconst (pc := 22) (v := (nI (0))) S_ d_Md_isToBePacked_22 (by decide) ?_
      exact hQ_ (nI (0)) () d_Md_isToBePacked_23 rfl rfl (bI_f (by (try simp at h6); (try simp at h15); simp [h6, h15]))
    · -- on
      refine wk_iconst (pc := 18) (v := (nI (1))) S_ d_Md_isToBePacked_18 (by decide) ?_
      refine wk_goto (pc := 19) (tgt := 23) S_ d_Md_isToBePacked_19 (by decide) ?_
      exact hQ_ (nI (1)) () d_Md_isToBePacked_23 rfl rfl (bI_t (by (try simp at h6); (try simp at h15); simp [h6, h15]))
set_option maxHeartbeats 4000000 in
set_option maxRecDepth 100000 in
theorem c_Md_isLoaded (l : Launch) (D : va_G) (cI : CiT) (z : GzT) (m : Nat → Nat) (tx : (Nat → Nat)) (sz : Nat) (ap : (Nat → Bool)) (pt : (Nat → Nat)) (rk : (Nat → Nat)) (cd : (Nat → Nat)) (fr : Nat) (mc : (Nat → Nat)) (mg : (Nat → Nat)) (mz : (Nat → Nat)) (nc : (Nat → Nat)) (nt : (Nat → Nat)) (ld : (Nat → Nat)) (qap : (Nat → Bool)) (qpt : (Nat → Nat)) (qrk : (Nat → Nat)) (qcd : (Nat → Nat)) (qfr : Nat) (qmc : (Nat → Nat)) (qmg : (Nat → Nat)) (qmz : (Nat → Nat)) (qnc : (Nat → Nat)) (qnt : (Nat → Nat)) (qld : (Nat → Nat)) (nb : Nat) (cl : (Nat → Nat)) (gr : (Nat → Nat)) (sp : (Nat → Nat)) (ot : (Nat → Bool)) (na : Nat) (aw : (Nat → Nat)) (nx : Nat) (bg : (Nat → Nat)) (bb : (Nat → Nat)) (ab : (Nat → Nat)) (fd : Bool) (pv : Bool) (bx : (Nat → Nat)) (wy : (Nat → Nat)) (li : (Nat → Nat)) (fm : Nat) (en : Nat) (nu : Nat) (td : (Nat → Nat)) (lf : Int32) (lk : Int32) (j : Nat) (hj : j < 8) (hF : fd = false → ∀ b, bx b = 0) (hb : ∀ b, bx b ≤ 5) : wk_C l D (tyK cI) (gX z) y_Md_isLoaded b_Md_isLoaded 2 (some .boolean) 0 0 0 0 [.ref (m 0), .int (nI (j))] (wMd m cI tx sz ap pt rk cd fr mc mg mz nc nt ld qap qpt qrk qcd qfr qmc qmg qmz qnc qnt qld nb cl gr sp ot na aw nx bg bb ab fd pv bx wy li fm en nu td lf lk) wk_i (fun (r : Int32) (_ : Unit) => r = (bI (decide (bx j ≠ 0)))) (fun _ => (wMd m cI tx sz ap pt rk cd fr mc mg mz nc nt ld qap qpt qrk qcd qfr qmc qmg qmz qnc qnt qld nb cl gr sp ot na aw nx bg bb ab fd pv bx wy li fm en nu td lf lk)) := by
  refine wk_methZ (own := R_Md) [(0, .ref (m 0)), (1, .int (nI (j)))] (by decide) rfl (Nat.le_of_ble_eq_true rfl) rfl (gX_ok z) (fun p_ e_ R_ s_ m_ ar_ be_ me_ co_ Q_ A_ hR_ S_ hnm_ hQ_ => ?_)
  refine wk_aload_n (pc := 0) S_ 0 d_Md_isLoaded_0 rfl rfl ?_
  refine wk_get (pc := 1) (v := .int (bI (fd))) S_ 6 35 0 in_Md rfl (by decide) rfl fl_Md_239 d_Md_isLoaded_1 rfl rfl ?_
  refine wk_if_eqB (pc := 4) (tgt := 20) S_ d_Md_isLoaded_4 (by decide) (fun h4 => ?_) (fun h4 => ?_)
  · -- taken
    refine wk_iconst (pc := 20) (v := (nI (0))) S_ d_Md_isLoaded_20 (by decide) ?_
    exact hQ_ (nI (0)) () d_Md_isLoaded_21 rfl rfl (bI_f (by simp [hF h4]))
  · -- on
    refine wk_aload_n (pc := 7) S_ 0 d_Md_isLoaded_7 rfl rfl ?_
    refine wk_get (pc := 8) (v := .ref (m 30)) S_ 6 37 0 in_Md rfl (by decide) rfl fl_Md_99 d_Md_isLoaded_8 rfl rfl ?_
    refine wk_iload_n (pc := 11) S_ 1 d_Md_isLoaded_11 rfl rfl ?_
    refine wk_ialdY (pc := 12) (g := bx) S_ 30 0 d_Md_isLoaded_12 rfl rfl (by omega) (by decide) ?_
    have hb1 := hb j
    refine wk_if_ltY (pc := 13) (tgt := 20) S_ d_Md_isLoaded_13 (by decide) (by omega) (fun h13 => ?_) (fun h13 => ?_)
    · -- taken
      refine wk_iconst (pc := 20) (v := (nI (0))) S_ d_Md_isLoaded_20 (by decide) ?_
      exact hQ_ (nI (0)) () d_Md_isLoaded_21 rfl rfl (bI_f (by (try simp at h4); (try simp at h13); simp [h4, h13]))
    · -- on
      refine wk_iconst (pc := 16) (v := (nI (1))) S_ d_Md_isLoaded_16 (by decide) ?_
      refine wk_goto (pc := 17) (tgt := 21) S_ d_Md_isLoaded_17 (by decide) ?_
      exact hQ_ (nI (1)) () d_Md_isLoaded_21 rfl rfl (bI_t (by (try simp at h4); (try simp at h13); simp [h4, h13]))
set_option maxHeartbeats 4000000 in
set_option maxRecDepth 100000 in
theorem c_Md_gramsOf (l : Launch) (D : va_G) (cI : CiT) (z : GzT) (m : Nat → Nat) (tx : (Nat → Nat)) (sz : Nat) (ap : (Nat → Bool)) (pt : (Nat → Nat)) (rk : (Nat → Nat)) (cd : (Nat → Nat)) (fr : Nat) (mc : (Nat → Nat)) (mg : (Nat → Nat)) (mz : (Nat → Nat)) (nc : (Nat → Nat)) (nt : (Nat → Nat)) (ld : (Nat → Nat)) (qap : (Nat → Bool)) (qpt : (Nat → Nat)) (qrk : (Nat → Nat)) (qcd : (Nat → Nat)) (qfr : Nat) (qmc : (Nat → Nat)) (qmg : (Nat → Nat)) (qmz : (Nat → Nat)) (qnc : (Nat → Nat)) (qnt : (Nat → Nat)) (qld : (Nat → Nat)) (nb : Nat) (cl : (Nat → Nat)) (gr : (Nat → Nat)) (sp : (Nat → Nat)) (ot : (Nat → Bool)) (na : Nat) (aw : (Nat → Nat)) (nx : Nat) (bg : (Nat → Nat)) (bb : (Nat → Nat)) (ab : (Nat → Nat)) (fd : Bool) (pv : Bool) (bx : (Nat → Nat)) (wy : (Nat → Nat)) (li : (Nat → Nat)) (fm : Nat) (en : Nat) (nu : Nat) (td : (Nat → Nat)) (lf : Int32) (lk : Int32) (c : Nat) (hc : c < 9) (hnb : nb ≤ 8) (hgr : ∀ b, gr b ≤ 100000) (hcl : ∀ b, cl b ≤ 9) (hF : fd = false → ∀ b, bx b = 0) (hb : ∀ b, bx b ≤ 5) : wk_C l D (tyK cI) (gX z) y_Md_gramsOf b_Md_gramsOf 5 (some .long) 1 21 0 0 [.ref (m 0), .int (nI (c))] (wMd m cI tx sz ap pt rk cd fr mc mg mz nc nt ld qap qpt qrk qcd qfr qmc qmg qmz qnc qnt qld nb cl gr sp ot na aw nx bg bb ab fd pv bx wy li fm en nu td lf lk) wk_l (fun (r : Int64) (_ : Unit) => r = (lN (goN cl gr bx c nb))) (fun _ => (wMd m cI tx sz ap pt rk cd fr mc mg mz nc nt ld qap qpt qrk qcd qfr qmc qmg qmz qnc qnt qld nb cl gr sp ot na aw nx bg bb ab fd pv bx wy li fm en nu td lf lk)) := by
  refine wk_methL (own := R_Md) [(0, .ref (m 0)), (1, .int (nI (c)))] (by decide) rfl (Nat.le_of_ble_eq_true rfl) rfl (gX_ok z) (fun p_ e_ R_ s_ m_ ar_ be_ me_ co_ Q_ A_ hR_ S_ hnm_ hQ_ => ?_)
  refine wk_lconst (pc := 0) (v := (lN (0))) S_ d_Md_gramsOf_0 (by decide) ?_
  refine wk_lstore_n (pc := 1) (lv' := [(2, .long (lN (0))), (0, .ref (m 0)), (1, .int (nI (c)))]) S_ d_Md_gramsOf_1 rfl (by decide) rfl ?_
  refine wk_iconst (pc := 2) (v := (nI (0))) S_ d_Md_gramsOf_2 (by decide) ?_
  refine wk_istore (pc := 3) (lv' := [(4, .int (nI (0))), (2, .long (lN (0))), (0, .ref (m 0)), (1, .int (nI (c)))]) S_ d_Md_gramsOf_3 (by decide) rfl ?_
  have hL5 : ∀ (fuel5 : Nat), ∀ (k : Nat), nb - k < fuel5 → (k ≤ nb) → wk_G p_ l e_ R_ s_ m_ ar_ be_ me_ co_ Q_ D A_ 5 0 0 (wMd m cI tx sz ap pt rk cd fr mc mg mz nc nt ld qap qpt qrk qcd qfr qmc qmg qmz qnc qnt qld nb cl gr sp ot na aw nx bg bb ab fd pv bx wy li fm en nu td lf lk) 5 [(0, .ref (m 0)), (1, .int (nI (c))), (2, .long (lN (goN cl gr bx c k))), (4, .int (nI (k)))] [] := by
    intro fuel5
    induction fuel5 with
    | zero => intro k hm; exact absurd hm (Nat.not_lt_zero _)
    | succ fuel5 ih5 =>
      intro k hm hk
      refine wk_iload (pc := 5) S_ 3 d_Md_gramsOf_5 rfl ?_
      refine wk_aload_n (pc := 7) S_ 0 d_Md_gramsOf_7 rfl rfl ?_
      refine wk_get (pc := 8) (v := .int (nI (nb))) S_ 6 24 0 in_Md rfl (by decide) rfl fl_Md_117 d_Md_gramsOf_8 rfl rfl ?_
      refine wk_icmp_geN (pc := 11) (tgt := 54) S_ d_Md_gramsOf_11 (by decide) (by omega) (by omega) (fun h11 => ?_) (fun h11 => ?_)
      · -- taken
        refine wk_lload_n (pc := 54) S_ 2 d_Md_gramsOf_54 rfl rfl ?_
        exact hQ_ (lN (goN cl gr bx c k)) () d_Md_gramsOf_55 rfl (by rw [show k = nb by omega])
      · -- on
        refine wk_lload_n (pc := 14) S_ 2 d_Md_gramsOf_14 rfl rfl ?_
        refine wk_aload_n (pc := 15) S_ 0 d_Md_gramsOf_15 rfl rfl ?_
        refine wk_iload (pc := 16) S_ 3 d_Md_gramsOf_16 rfl ?_
        refine wk_run (pc := 18) (rest := [.long (lN (goN cl gr bx c k))]) (wr := []) (wN := fun _ => (wMd m cI tx sz ap pt rk cd fr mc mg mz nc nt ld qap qpt qrk qcd qfr qmc qmg qmz qnc qnt qld nb cl gr sp ot na aw nx bg bb ab fd pv bx wy li fm en nu td lf lk)) S_ (wk_rV S_ (c_Md_isLoaded l D cI z (m) (tx) (sz) (ap) (pt) (rk) (cd) (fr) (mc) (mg) (mz) (nc) (nt) (ld) (qap) (qpt) (qrk) (qcd) (qfr) (qmc) (qmg) (qmz) (qnc) (qnt) (qld) (nb) (cl) (gr) (sp) (ot) (na) (aw) (nx) (bg) (bb) (ab) (fd) (pv) (bx) (wy) (li) (fm) (en) (nu) (td) (lf) (lk) (k) (by omega) hF hb) mv_Md_245 (wk_rcv S_ 0 6 rfl rfl rfl) rfl rfl (Nat.le_of_ble_eq_true rfl) (by rw [hR_]; decide) (by rw [hR_]; decide) d_Md_gramsOf_18) [0, 1, 2, 3, 4, 5, 6, 7, 8, 9, 10, 11, 12, 13, 14, 15, 16, 17, 18, 19, 20, 21, 22, 23, 24, 25, 26, 27, 28, 29, 30, 31, 32, 33] [] [0, 1, 2, 3, 4, 5, 6, 7, 8, 9, 10, 11, 12, 13, 14, 15, 16, 17, 18, 19, 20, 21, 22, 23, 24, 25, 26, 27, 28, 29, 30, 31, 32, 33] rfl rfl rfl (by decide) (by decide) (by decide) (by decide) (fun _ => rfl) (fun _ => rfl) (fun r18 _ hw18 => ?_)
        refine wk_st (st' := [.int (r18), .long (lN (goN cl gr bx c k))]) rfl ?_
        refine wk_top (y := (bI (decide ((bx) (k) ≠ 0)))) hw18 ?_
        refine wk_if_eqB (pc := 21) (tgt := 45) S_ d_Md_gramsOf_21 (by decide) (fun h21 => ?_) (fun h21 => ?_)
        · -- taken
          refine wk_lconst (pc := 45) (v := (lN (0))) S_ d_Md_gramsOf_45 (by decide) ?_
          refine wk_laddN (pc := 46) S_ d_Md_gramsOf_46 ?_
          refine wk_topl (y := (lN (goN cl gr bx c (k + 1)))) (congrArg lN (by (try simp at h11); (try simp at h21); simp [goN, h21])) ?_
          refine wk_lstore_n (pc := 47) (lv' := [(2, .long (lN (goN cl gr bx c (k + 1)))), (0, .ref (m 0)), (1, .int (nI (c))), (4, .int (nI (k)))]) S_ d_Md_gramsOf_47 rfl (by decide) rfl ?_
          refine wk_iincN (pc := 48) (d := 1) (lv' := [(4, .int (nI (k + 1))), (2, .long (lN (goN cl gr bx c (k + 1)))), (0, .ref (m 0)), (1, .int (nI (c)))]) S_ 3 d_Md_gramsOf_48 (by decide) rfl (by decide) rfl ?_
          refine wk_goto (pc := 51) (tgt := 5) S_ d_Md_gramsOf_51 (by decide) ?_
          refine wk_lv [2, 3, 1, 0] ?_ (ih5 (k + 1) (by omega) (by omega))
          rfl
        · -- on
          refine wk_aload_n (pc := 24) S_ 0 d_Md_gramsOf_24 rfl rfl ?_
          refine wk_get (pc := 25) (v := .ref (m 22)) S_ 6 25 0 in_Md rfl (by decide) rfl fl_Md_74 d_Md_gramsOf_25 rfl rfl ?_
          refine wk_iload (pc := 28) S_ 3 d_Md_gramsOf_28 rfl ?_
          refine wk_ialdY (pc := 30) (g := cl) S_ 22 0 d_Md_gramsOf_30 rfl rfl (by omega) (by decide) ?_
          refine wk_iload_n (pc := 31) S_ 1 d_Md_gramsOf_31 rfl rfl ?_
          have hc1 := hcl k
          refine wk_icmp_neYN (pc := 32) (tgt := 45) S_ d_Md_gramsOf_32 (by decide) (by omega) (by omega) (fun h32 => ?_) (fun h32 => ?_)
          · -- taken
            refine wk_lconst (pc := 45) (v := (lN (0))) S_ d_Md_gramsOf_45 (by decide) ?_
            refine wk_laddN (pc := 46) S_ d_Md_gramsOf_46 ?_
            refine wk_topl (y := (lN (goN cl gr bx c (k + 1)))) (congrArg lN (by (try simp at h11); (try simp at h21); (try simp at h32); simp [goN, h21, h32])) ?_
            refine wk_lstore_n (pc := 47) (lv' := [(2, .long (lN (goN cl gr bx c (k + 1)))), (0, .ref (m 0)), (1, .int (nI (c))), (4, .int (nI (k)))]) S_ d_Md_gramsOf_47 rfl (by decide) rfl ?_
            refine wk_iincN (pc := 48) (d := 1) (lv' := [(4, .int (nI (k + 1))), (2, .long (lN (goN cl gr bx c (k + 1)))), (0, .ref (m 0)), (1, .int (nI (c)))]) S_ 3 d_Md_gramsOf_48 (by decide) rfl (by decide) rfl ?_
            refine wk_goto (pc := 51) (tgt := 5) S_ d_Md_gramsOf_51 (by decide) ?_
            refine wk_lv [2, 3, 1, 0] ?_ (ih5 (k + 1) (by omega) (by omega))
            rfl
          · -- on
            refine wk_aload_n (pc := 35) S_ 0 d_Md_gramsOf_35 rfl rfl ?_
            refine wk_get (pc := 36) (v := .ref (m 23)) S_ 6 26 0 in_Md rfl (by decide) rfl fl_Md_77 d_Md_gramsOf_36 rfl rfl ?_
            refine wk_iload (pc := 39) S_ 3 d_Md_gramsOf_39 rfl ?_
            refine wk_lald (pc := 41) (g := gr) S_ 23 2 d_Md_gramsOf_41 rfl rfl (by omega) (by decide) ?_
            refine wk_goto (pc := 42) (tgt := 46) S_ d_Md_gramsOf_42 (by decide) ?_
            refine wk_laddN (pc := 46) S_ d_Md_gramsOf_46 ?_
            refine wk_topl (y := (lN (goN cl gr bx c (k + 1)))) (congrArg lN (by (try simp at h11); (try simp at h21); (try simp at h32); simp [goN, h21, h32])) ?_
            refine wk_lstore_n (pc := 47) (lv' := [(2, .long (lN (goN cl gr bx c (k + 1)))), (0, .ref (m 0)), (1, .int (nI (c))), (4, .int (nI (k)))]) S_ d_Md_gramsOf_47 rfl (by decide) rfl ?_
            refine wk_iincN (pc := 48) (d := 1) (lv' := [(4, .int (nI (k + 1))), (2, .long (lN (goN cl gr bx c (k + 1)))), (0, .ref (m 0)), (1, .int (nI (c)))]) S_ 3 d_Md_gramsOf_48 (by decide) rfl (by decide) rfl ?_
            refine wk_goto (pc := 51) (tgt := 5) S_ d_Md_gramsOf_51 (by decide) ?_
            refine wk_lv [2, 3, 1, 0] ?_ (ih5 (k + 1) (by omega) (by omega))
            rfl
  refine wk_lv [2, 3, 1, 0] ?_ (hL5 _ (0) (Nat.lt_succ_self _) (by omega))
  rfl
set_option maxHeartbeats 4000000 in
set_option maxRecDepth 100000 in
theorem c_Md_pointsOf (l : Launch) (D : va_G) (cI : CiT) (z : GzT) (m : Nat → Nat) (tx : (Nat → Nat)) (sz : Nat) (ap : (Nat → Bool)) (pt : (Nat → Nat)) (rk : (Nat → Nat)) (cd : (Nat → Nat)) (fr : Nat) (mc : (Nat → Nat)) (mg : (Nat → Nat)) (mz : (Nat → Nat)) (nc : (Nat → Nat)) (nt : (Nat → Nat)) (ld : (Nat → Nat)) (qap : (Nat → Bool)) (qpt : (Nat → Nat)) (qrk : (Nat → Nat)) (qcd : (Nat → Nat)) (qfr : Nat) (qmc : (Nat → Nat)) (qmg : (Nat → Nat)) (qmz : (Nat → Nat)) (qnc : (Nat → Nat)) (qnt : (Nat → Nat)) (qld : (Nat → Nat)) (nb : Nat) (cl : (Nat → Nat)) (gr : (Nat → Nat)) (sp : (Nat → Nat)) (ot : (Nat → Bool)) (na : Nat) (aw : (Nat → Nat)) (nx : Nat) (bg : (Nat → Nat)) (bb : (Nat → Nat)) (ab : (Nat → Nat)) (fd : Bool) (pv : Bool) (bx : (Nat → Nat)) (wy : (Nat → Nat)) (li : (Nat → Nat)) (fm : Nat) (en : Nat) (nu : Nat) (td : (Nat → Nat)) (lf : Int32) (lk : Int32) (c : Nat) (hc : c < 9) (hnb : nb ≤ 8) (hgr : ∀ b, gr b ≤ 100000) (hcl : ∀ b, cl b ≤ 9) (hF : fd = false → ∀ b, bx b = 0) (hb : ∀ b, bx b ≤ 5) (hpt : ∀ c, pt c ≤ 1000) : wk_C l D (tyK cI) (gX z) y_Md_pointsOf b_Md_pointsOf 2 (some .long) 2 45 0 0 [.ref (m 0), .int (nI (c))] (wMd m cI tx sz ap pt rk cd fr mc mg mz nc nt ld qap qpt qrk qcd qfr qmc qmg qmz qnc qnt qld nb cl gr sp ot na aw nx bg bb ab fd pv bx wy li fm en nu td lf lk) wk_l (fun (r : Int64) (_ : Unit) => r = (lN (((goN cl gr bx c nb) + (999)) / (1000) * (pt (c))))) (fun _ => (wMd m cI tx sz ap pt rk cd fr mc mg mz nc nt ld qap qpt qrk qcd qfr qmc qmg qmz qnc qnt qld nb cl gr sp ot na aw nx bg bb ab fd pv bx wy li fm en nu td lf lk)) := by
  refine wk_methL (own := R_Md) [(0, .ref (m 0)), (1, .int (nI (c)))] (by decide) rfl (Nat.le_of_ble_eq_true rfl) rfl (gX_ok z) (fun p_ e_ R_ s_ m_ ar_ be_ me_ co_ Q_ A_ hR_ S_ hnm_ hQ_ => ?_)
  refine wk_aload_n (pc := 0) S_ 0 d_Md_pointsOf_0 rfl rfl ?_
  refine wk_iload_n (pc := 1) S_ 1 d_Md_pointsOf_1 rfl rfl ?_
  refine wk_run (pc := 2) (rest := []) (wr := []) (wN := fun _ => (wMd m cI tx sz ap pt rk cd fr mc mg mz nc nt ld qap qpt qrk qcd qfr qmc qmg qmz qnc qnt qld nb cl gr sp ot na aw nx bg bb ab fd pv bx wy li fm en nu td lf lk)) S_ (wk_rV S_ (c_Md_gramsOf l D cI z (m) (tx) (sz) (ap) (pt) (rk) (cd) (fr) (mc) (mg) (mz) (nc) (nt) (ld) (qap) (qpt) (qrk) (qcd) (qfr) (qmc) (qmg) (qmz) (qnc) (qnt) (qld) (nb) (cl) (gr) (sp) (ot) (na) (aw) (nx) (bg) (bb) (ab) (fd) (pv) (bx) (wy) (li) (fm) (en) (nu) (td) (lf) (lk) (c) (by omega) (by omega) hgr hcl hF hb) mv_Md_248 (wk_rcv S_ 0 6 rfl rfl rfl) rfl rfl (Nat.le_of_ble_eq_true rfl) (by rw [hR_]; decide) (by rw [hR_]; decide) d_Md_pointsOf_2) [0, 1, 2, 3, 4, 5, 6, 7, 8, 9, 10, 11, 12, 13, 14, 15, 16, 17, 18, 19, 20, 21, 22, 23, 24, 25, 26, 27, 28, 29, 30, 31, 32, 33] [] [0, 1, 2, 3, 4, 5, 6, 7, 8, 9, 10, 11, 12, 13, 14, 15, 16, 17, 18, 19, 20, 21, 22, 23, 24, 25, 26, 27, 28, 29, 30, 31, 32, 33] rfl rfl rfl (by decide) (by decide) (by decide) (by decide) (fun _ => rfl) (fun _ => rfl) (fun r2 _ hw2 => ?_)
  refine wk_st (st' := [.long (r2)]) rfl ?_
  refine wk_topl (y := (lN (goN (cl) (gr) (bx) (c) (nb)))) hw2 ?_
  have hg1 := goN_le (cl := cl) (bx := bx) (c := c) hgr nb
  refine wk_ldc2 (pc := 5) (v := (lN (999))) S_ kc_Md_252 d_Md_pointsOf_5 ?_
  refine wk_laddN (pc := 8) S_ d_Md_pointsOf_8 ?_
  refine wk_ldc2 (pc := 9) (v := (lN (1000))) S_ kc_Md_254 d_Md_pointsOf_9 ?_
  refine wk_ldivN (pc := 12) S_ d_Md_pointsOf_12 (by omega) (by omega) (by omega) ?_
  refine wk_aload_n (pc := 13) S_ 0 d_Md_pointsOf_13 rfl rfl ?_
  refine wk_get (pc := 14) (v := .ref (m 3)) S_ 6 3 0 in_Md rfl (by decide) rfl fl_Md_17 d_Md_pointsOf_14 rfl rfl ?_
  refine wk_iload_n (pc := 17) S_ 1 d_Md_pointsOf_17 rfl rfl ?_
  refine wk_ialdN (pc := 18) (g := pt) S_ 3 0 d_Md_pointsOf_18 rfl rfl (by omega) (by decide) ?_
  have hp1 := hpt c
  refine wk_i2lN (pc := 19) S_ d_Md_pointsOf_19 (by omega) ?_
  refine wk_lmulN (pc := 20) S_ d_Md_pointsOf_20 ?_
  exact hQ_ (lN ((((goN (cl) (gr) (bx) (c) (nb)) + (999)) / (1000)) * ((pt) (c)))) () d_Md_pointsOf_21 rfl rfl
set_option maxHeartbeats 4000000 in
set_option maxRecDepth 100000 in
theorem c_Md_points (l : Launch) (D : va_G) (cI : CiT) (z : GzT) (m : Nat → Nat) (tx : (Nat → Nat)) (sz : Nat) (ap : (Nat → Bool)) (pt : (Nat → Nat)) (rk : (Nat → Nat)) (cd : (Nat → Nat)) (fr : Nat) (mc : (Nat → Nat)) (mg : (Nat → Nat)) (mz : (Nat → Nat)) (nc : (Nat → Nat)) (nt : (Nat → Nat)) (ld : (Nat → Nat)) (qap : (Nat → Bool)) (qpt : (Nat → Nat)) (qrk : (Nat → Nat)) (qcd : (Nat → Nat)) (qfr : Nat) (qmc : (Nat → Nat)) (qmg : (Nat → Nat)) (qmz : (Nat → Nat)) (qnc : (Nat → Nat)) (qnt : (Nat → Nat)) (qld : (Nat → Nat)) (nb : Nat) (cl : (Nat → Nat)) (gr : (Nat → Nat)) (sp : (Nat → Nat)) (ot : (Nat → Bool)) (na : Nat) (aw : (Nat → Nat)) (nx : Nat) (bg : (Nat → Nat)) (bb : (Nat → Nat)) (ab : (Nat → Nat)) (fd : Bool) (pv : Bool) (bx : (Nat → Nat)) (wy : (Nat → Nat)) (li : (Nat → Nat)) (fm : Nat) (en : Nat) (nu : Nat) (td : (Nat → Nat)) (lf : Int32) (lk : Int32) (hnb : nb ≤ 8) (hgr : ∀ b, gr b ≤ 100000) (hcl : ∀ b, cl b ≤ 9) (hF : fd = false → ∀ b, bx b = 0) (hb : ∀ b, bx b ≤ 5) (hpt : ∀ c, pt c ≤ 1000) : wk_C l D (tyK cI) (gX z) y_Md_points b_Md_points 4 (some .long) 3 66 0 0 [.ref (m 0)] (wMd m cI tx sz ap pt rk cd fr mc mg mz nc nt ld qap qpt qrk qcd qfr qmc qmg qmz qnc qnt qld nb cl gr sp ot na aw nx bg bb ab fd pv bx wy li fm en nu td lf lk) wk_l (fun (r : Int64) (_ : Unit) => r = (lN (ptN pt (fun c => goN cl gr bx c nb) 9))) (fun _ => (wMd m cI tx sz ap pt rk cd fr mc mg mz nc nt ld qap qpt qrk qcd qfr qmc qmg qmz qnc qnt qld nb cl gr sp ot na aw nx bg bb ab fd pv bx wy li fm en nu td lf lk)) := by
  refine wk_methL (own := R_Md) [(0, .ref (m 0))] (by decide) rfl (Nat.le_of_ble_eq_true rfl) rfl (gX_ok z) (fun p_ e_ R_ s_ m_ ar_ be_ me_ co_ Q_ A_ hR_ S_ hnm_ hQ_ => ?_)
  refine wk_lconst (pc := 0) (v := (lN (0))) S_ d_Md_points_0 (by decide) ?_
  refine wk_lstore_n (pc := 1) (lv' := [(1, .long (lN (0))), (0, .ref (m 0))]) S_ d_Md_points_1 rfl (by decide) rfl ?_
  refine wk_iconst (pc := 2) (v := (nI (0))) S_ d_Md_points_2 (by decide) ?_
  refine wk_istore_n (pc := 3) (lv' := [(3, .int (nI (0))), (1, .long (lN (0))), (0, .ref (m 0))]) S_ d_Md_points_3 rfl (by decide) rfl ?_
  have hL4 : ∀ (fuel4 : Nat), ∀ (k : Nat), 9 - k < fuel4 → (k ≤ 9) → wk_G p_ l e_ R_ s_ m_ ar_ be_ me_ co_ Q_ D A_ 4 0 0 (wMd m cI tx sz ap pt rk cd fr mc mg mz nc nt ld qap qpt qrk qcd qfr qmc qmg qmz qnc qnt qld nb cl gr sp ot na aw nx bg bb ab fd pv bx wy li fm en nu td lf lk) 4 [(0, .ref (m 0)), (1, .long (lN (ptN pt (fun c => goN cl gr bx c nb) k))), (3, .int (nI (k)))] [] := by
    intro fuel4
    induction fuel4 with
    | zero => intro k hm; exact absurd hm (Nat.not_lt_zero _)
    | succ fuel4 ih4 =>
      intro k hm hk
      refine wk_iload_n (pc := 4) S_ 2 d_Md_points_4 rfl rfl ?_
      refine wk_bipush (pc := 5) (v := (nI (9))) S_ d_Md_points_5 (by decide) ?_
      refine wk_icmp_geN (pc := 7) (tgt := 24) S_ d_Md_points_7 (by decide) (by omega) (by omega) (fun h7 => ?_) (fun h7 => ?_)
      · -- taken
        refine wk_lload_n (pc := 24) S_ 1 d_Md_points_24 rfl rfl ?_
        exact hQ_ (lN (ptN pt (fun c => goN cl gr bx c nb) k)) () d_Md_points_25 rfl (by rw [show k = 9 by omega])
      · -- on
        refine wk_lload_n (pc := 10) S_ 1 d_Md_points_10 rfl rfl ?_
        refine wk_aload_n (pc := 11) S_ 0 d_Md_points_11 rfl rfl ?_
        refine wk_iload_n (pc := 12) S_ 2 d_Md_points_12 rfl rfl ?_
        refine wk_run (pc := 13) (rest := [.long (lN (ptN pt (fun c => goN cl gr bx c nb) k))]) (wr := []) (wN := fun _ => (wMd m cI tx sz ap pt rk cd fr mc mg mz nc nt ld qap qpt qrk qcd qfr qmc qmg qmz qnc qnt qld nb cl gr sp ot na aw nx bg bb ab fd pv bx wy li fm en nu td lf lk)) S_ (wk_rV S_ (c_Md_pointsOf l D cI z (m) (tx) (sz) (ap) (pt) (rk) (cd) (fr) (mc) (mg) (mz) (nc) (nt) (ld) (qap) (qpt) (qrk) (qcd) (qfr) (qmc) (qmg) (qmz) (qnc) (qnt) (qld) (nb) (cl) (gr) (sp) (ot) (na) (aw) (nx) (bg) (bb) (ab) (fd) (pv) (bx) (wy) (li) (fm) (en) (nu) (td) (lf) (lk) (k) (by omega) (by omega) hgr hcl hF hb hpt) mv_Md_256 (wk_rcv S_ 0 6 rfl rfl rfl) rfl rfl (Nat.le_of_ble_eq_true rfl) (by rw [hR_]; decide) (by rw [hR_]; decide) d_Md_points_13) [0, 1, 2, 3, 4, 5, 6, 7, 8, 9, 10, 11, 12, 13, 14, 15, 16, 17, 18, 19, 20, 21, 22, 23, 24, 25, 26, 27, 28, 29, 30, 31, 32, 33] [] [0, 1, 2, 3, 4, 5, 6, 7, 8, 9, 10, 11, 12, 13, 14, 15, 16, 17, 18, 19, 20, 21, 22, 23, 24, 25, 26, 27, 28, 29, 30, 31, 32, 33] rfl rfl rfl (by decide) (by decide) (by decide) (by decide) (fun _ => rfl) (fun _ => rfl) (fun r13 _ hw13 => ?_)
        refine wk_st (st' := [.long (r13), .long (lN (ptN pt (fun c => goN cl gr bx c nb) k))]) rfl ?_
        refine wk_topl (y := (lN (((goN (cl) (gr) (bx) (k) (nb)) + (999)) / (1000) * ((pt) ((k)))))) hw13 ?_
        refine wk_laddN (pc := 16) S_ d_Md_points_16 ?_
        refine wk_topl (y := (lN (ptN pt (fun c => goN cl gr bx c nb) (k + 1)))) rfl ?_
        refine wk_lstore_n (pc := 17) (lv' := [(1, .long (lN (ptN pt (fun c => goN cl gr bx c nb) (k + 1)))), (0, .ref (m 0)), (3, .int (nI (k)))]) S_ d_Md_points_17 rfl (by decide) rfl ?_
        refine wk_iincN (pc := 18) (d := 1) (lv' := [(3, .int (nI (k + 1))), (1, .long (lN (ptN pt (fun c => goN cl gr bx c nb) (k + 1)))), (0, .ref (m 0))]) S_ 2 d_Md_points_18 (by decide) rfl (by decide) rfl ?_
        refine wk_goto (pc := 21) (tgt := 4) S_ d_Md_points_21 (by decide) ?_
        refine wk_lv [2, 1, 0] ?_ (ih4 (k + 1) (by omega) (by omega))
        rfl
  refine wk_lv [2, 1, 0] ?_ (hL4 _ (0) (Nat.lt_succ_self _) (by omega))
  rfl
set_option maxHeartbeats 4000000 in
set_option maxRecDepth 100000 in
theorem c_Md_exempt (l : Launch) (D : va_G) (cI : CiT) (z : GzT) (m : Nat → Nat) (tx : (Nat → Nat)) (sz : Nat) (ap : (Nat → Bool)) (pt : (Nat → Nat)) (rk : (Nat → Nat)) (cd : (Nat → Nat)) (fr : Nat) (mc : (Nat → Nat)) (mg : (Nat → Nat)) (mz : (Nat → Nat)) (nc : (Nat → Nat)) (nt : (Nat → Nat)) (ld : (Nat → Nat)) (qap : (Nat → Bool)) (qpt : (Nat → Nat)) (qrk : (Nat → Nat)) (qcd : (Nat → Nat)) (qfr : Nat) (qmc : (Nat → Nat)) (qmg : (Nat → Nat)) (qmz : (Nat → Nat)) (qnc : (Nat → Nat)) (qnt : (Nat → Nat)) (qld : (Nat → Nat)) (nb : Nat) (cl : (Nat → Nat)) (gr : (Nat → Nat)) (sp : (Nat → Nat)) (ot : (Nat → Bool)) (na : Nat) (aw : (Nat → Nat)) (nx : Nat) (bg : (Nat → Nat)) (bb : (Nat → Nat)) (ab : (Nat → Nat)) (fd : Bool) (pv : Bool) (bx : (Nat → Nat)) (wy : (Nat → Nat)) (li : (Nat → Nat)) (fm : Nat) (en : Nat) (nu : Nat) (td : (Nat → Nat)) (lf : Int32) (lk : Int32) (hnb : nb ≤ 8) (hgr : ∀ b, gr b ≤ 100000) (hcl : ∀ b, cl b ≤ 9) (hF : fd = false → ∀ b, bx b = 0) (hb : ∀ b, bx b ≤ 5) (hpt : ∀ c, pt c ≤ 1000) (hfr : fr ≤ 999999) : wk_C l D (tyK cI) (gX z) y_Md_exempt b_Md_exempt 1 (some .boolean) 4 89 0 0 [.ref (m 0)] (wMd m cI tx sz ap pt rk cd fr mc mg mz nc nt ld qap qpt qrk qcd qfr qmc qmg qmz qnc qnt qld nb cl gr sp ot na aw nx bg bb ab fd pv bx wy li fm en nu td lf lk) wk_i (fun (r : Int32) (_ : Unit) => r = (bI (decide (ptN pt (fun c => goN cl gr bx c nb) 9 ≤ fr)))) (fun _ => (wMd m cI tx sz ap pt rk cd fr mc mg mz nc nt ld qap qpt qrk qcd qfr qmc qmg qmz qnc qnt qld nb cl gr sp ot na aw nx bg bb ab fd pv bx wy li fm en nu td lf lk)) := by
  refine wk_methZ (own := R_Md) [(0, .ref (m 0))] (by decide) rfl (Nat.le_of_ble_eq_true rfl) rfl (gX_ok z) (fun p_ e_ R_ s_ m_ ar_ be_ me_ co_ Q_ A_ hR_ S_ hnm_ hQ_ => ?_)
  refine wk_aload_n (pc := 0) S_ 0 d_Md_exempt_0 rfl rfl ?_
  refine wk_run (pc := 1) (rest := []) (wr := []) (wN := fun _ => (wMd m cI tx sz ap pt rk cd fr mc mg mz nc nt ld qap qpt qrk qcd qfr qmc qmg qmz qnc qnt qld nb cl gr sp ot na aw nx bg bb ab fd pv bx wy li fm en nu td lf lk)) S_ (wk_rV S_ (c_Md_points l D cI z (m) (tx) (sz) (ap) (pt) (rk) (cd) (fr) (mc) (mg) (mz) (nc) (nt) (ld) (qap) (qpt) (qrk) (qcd) (qfr) (qmc) (qmg) (qmz) (qnc) (qnt) (qld) (nb) (cl) (gr) (sp) (ot) (na) (aw) (nx) (bg) (bb) (ab) (fd) (pv) (bx) (wy) (li) (fm) (en) (nu) (td) (lf) (lk) (by omega) hgr hcl hF hb hpt) mv_Md_259 (wk_rcv S_ 0 6 rfl rfl rfl) rfl rfl (Nat.le_of_ble_eq_true rfl) (by rw [hR_]; decide) (by rw [hR_]; decide) d_Md_exempt_1) [0, 1, 2, 3, 4, 5, 6, 7, 8, 9, 10, 11, 12, 13, 14, 15, 16, 17, 18, 19, 20, 21, 22, 23, 24, 25, 26, 27, 28, 29, 30, 31, 32, 33] [] [0, 1, 2, 3, 4, 5, 6, 7, 8, 9, 10, 11, 12, 13, 14, 15, 16, 17, 18, 19, 20, 21, 22, 23, 24, 25, 26, 27, 28, 29, 30, 31, 32, 33] rfl rfl rfl (by decide) (by decide) (by decide) (by decide) (fun _ => rfl) (fun _ => rfl) (fun r1 _ hw1 => ?_)
  refine wk_st (st' := [.long (r1)]) rfl ?_
  refine wk_topl (y := (lN (ptN (pt) (fun c => goN (cl) (gr) (bx) c (nb)) 9))) hw1 ?_
  have hp1 := ptN_le (pt := pt) (go := fun c => goN cl gr bx c nb) hpt (fun c => by have := goN_le (cl := cl) (bx := bx) (c := c) hgr nb; omega) 9
  refine wk_aload_n (pc := 4) S_ 0 d_Md_exempt_4 rfl rfl ?_
  refine wk_get (pc := 5) (v := .int (nI (fr))) S_ 6 6 0 in_Md rfl (by decide) rfl fl_Md_137 d_Md_exempt_5 rfl rfl ?_
  refine wk_i2lN (pc := 8) S_ d_Md_exempt_8 (by omega) ?_
  refine wk_lcmp (pc := 9) S_ d_Md_exempt_9 ?_
  refine wk_cmp_gtN (pc := 10) (tgt := 17) S_ d_Md_exempt_10 (by decide) (by omega) (by omega) (fun h10 => ?_) (fun h10 => ?_)
  · -- taken
    refine wk_iconst (pc := 17) (v := (nI (0))) S_ d_Md_exempt_17 (by decide) ?_
    exact hQ_ (nI (0)) () d_Md_exempt_18 rfl rfl (bI_f (by (try simp at h10); simp [h10]))
  · -- on
    refine wk_iconst (pc := 13) (v := (nI (1))) S_ d_Md_exempt_13 (by decide) ?_
    refine wk_goto (pc := 14) (tgt := 18) S_ d_Md_exempt_14 (by decide) ?_
    exact hQ_ (nI (1)) () d_Md_exempt_18 rfl rfl (bI_t (by (try simp at h10); simp [h10]))
set_option maxHeartbeats 4000000 in
set_option maxRecDepth 100000 in
theorem c_Md_placeOf (l : Launch) (D : va_G) (cI : CiT) (z : GzT) (m : Nat → Nat) (tx : (Nat → Nat)) (sz : Nat) (ap : (Nat → Bool)) (pt : (Nat → Nat)) (rk : (Nat → Nat)) (cd : (Nat → Nat)) (fr : Nat) (mc : (Nat → Nat)) (mg : (Nat → Nat)) (mz : (Nat → Nat)) (nc : (Nat → Nat)) (nt : (Nat → Nat)) (ld : (Nat → Nat)) (qap : (Nat → Bool)) (qpt : (Nat → Nat)) (qrk : (Nat → Nat)) (qcd : (Nat → Nat)) (qfr : Nat) (qmc : (Nat → Nat)) (qmg : (Nat → Nat)) (qmz : (Nat → Nat)) (qnc : (Nat → Nat)) (qnt : (Nat → Nat)) (qld : (Nat → Nat)) (nb : Nat) (cl : (Nat → Nat)) (gr : (Nat → Nat)) (sp : (Nat → Nat)) (ot : (Nat → Bool)) (na : Nat) (aw : (Nat → Nat)) (nx : Nat) (bg : (Nat → Nat)) (bb : (Nat → Nat)) (ab : (Nat → Nat)) (fd : Bool) (pv : Bool) (bx : (Nat → Nat)) (wy : (Nat → Nat)) (li : (Nat → Nat)) (fm : Nat) (en : Nat) (nu : Nat) (td : (Nat → Nat)) (lf : Int32) (lk : Int32) (c : Nat) (hc : c < 9) (hnb : nb ≤ 8) (hgr : ∀ b, gr b ≤ 100000) (hcl : ∀ b, cl b ≤ 9) (hF : fd = false → ∀ b, bx b = 0) (hb : ∀ b, bx b ≤ 5) (hrk : ∀ c, rk c ≤ 99) : wk_C l D (tyK cI) (gX z) y_Md_placeOf b_Md_placeOf 5 (some .int) 2 45 0 0 [.ref (m 0), .int (nI (c))] (wMd m cI tx sz ap pt rk cd fr mc mg mz nc nt ld qap qpt qrk qcd qfr qmc qmg qmz qnc qnt qld nb cl gr sp ot na aw nx bg bb ab fd pv bx wy li fm en nu td lf lk) wk_i (fun (r : Int32) (_ : Unit) => r = (nI (plN rk (fun c => goN cl gr bx c nb) c 9))) (fun _ => (wMd m cI tx sz ap pt rk cd fr mc mg mz nc nt ld qap qpt qrk qcd qfr qmc qmg qmz qnc qnt qld nb cl gr sp ot na aw nx bg bb ab fd pv bx wy li fm en nu td lf lk)) := by
  refine wk_methI (own := R_Md) [(0, .ref (m 0)), (1, .int (nI (c)))] (by decide) rfl (Nat.le_of_ble_eq_true rfl) rfl (gX_ok z) (fun p_ e_ R_ s_ m_ ar_ be_ me_ co_ Q_ A_ hR_ S_ hnm_ hQ_ => ?_)
  refine wk_iconst (pc := 0) (v := (nI (0))) S_ d_Md_placeOf_0 (by decide) ?_
  refine wk_istore_n (pc := 1) (lv' := [(2, .int (nI (0))), (0, .ref (m 0)), (1, .int (nI (c)))]) S_ d_Md_placeOf_1 rfl (by decide) rfl ?_
  refine wk_iconst (pc := 2) (v := (nI (0))) S_ d_Md_placeOf_2 (by decide) ?_
  refine wk_istore_n (pc := 3) (lv' := [(3, .int (nI (0))), (2, .int (nI (0))), (0, .ref (m 0)), (1, .int (nI (c)))]) S_ d_Md_placeOf_3 rfl (by decide) rfl ?_
  have hL4 : ∀ (fuel4 : Nat), ∀ (k : Nat), 9 - k < fuel4 → (k ≤ 9) → wk_G p_ l e_ R_ s_ m_ ar_ be_ me_ co_ Q_ D A_ 5 0 0 (wMd m cI tx sz ap pt rk cd fr mc mg mz nc nt ld qap qpt qrk qcd qfr qmc qmg qmz qnc qnt qld nb cl gr sp ot na aw nx bg bb ab fd pv bx wy li fm en nu td lf lk) 4 [(0, .ref (m 0)), (1, .int (nI (c))), (2, .int (nI (plN rk (fun c => goN cl gr bx c nb) c k))), (3, .int (nI (k)))] [] := by
    intro fuel4
    induction fuel4 with
    | zero => intro k hm; exact absurd hm (Nat.not_lt_zero _)
    | succ fuel4 ih4 =>
      intro k hm hk
      refine wk_iload_n (pc := 4) S_ 3 d_Md_placeOf_4 rfl rfl ?_
      refine wk_bipush (pc := 5) (v := (nI (9))) S_ d_Md_placeOf_5 (by decide) ?_
      refine wk_icmp_geN (pc := 7) (tgt := 81) S_ d_Md_placeOf_7 (by decide) (by omega) (by omega) (fun h7 => ?_) (fun h7 => ?_)
      · -- taken
        refine wk_iload_n (pc := 81) S_ 2 d_Md_placeOf_81 rfl rfl ?_
        exact hQ_ (nI (plN rk (fun c => goN cl gr bx c nb) c k)) () d_Md_placeOf_82 rfl (by rw [show k = 9 by omega])
      · -- on
        have hr1 := hrk k
        have hr2 := hrk c
        refine wk_aload_n (pc := 10) S_ 0 d_Md_placeOf_10 rfl rfl ?_
        refine wk_get (pc := 11) (v := .ref (m 4)) S_ 6 4 0 in_Md rfl (by decide) rfl fl_Md_20 d_Md_placeOf_11 rfl rfl ?_
        refine wk_iload_n (pc := 14) S_ 3 d_Md_placeOf_14 rfl rfl ?_
        refine wk_ialdN (pc := 15) (g := rk) S_ 4 0 d_Md_placeOf_15 rfl rfl (by omega) (by decide) ?_
        refine wk_aload_n (pc := 16) S_ 0 d_Md_placeOf_16 rfl rfl ?_
        refine wk_get (pc := 17) (v := .ref (m 4)) S_ 6 4 0 in_Md rfl (by decide) rfl fl_Md_20 d_Md_placeOf_17 rfl rfl ?_
        refine wk_iload_n (pc := 20) S_ 1 d_Md_placeOf_20 rfl rfl ?_
        refine wk_ialdN (pc := 21) (g := rk) S_ 4 0 d_Md_placeOf_21 rfl rfl (by omega) (by decide) ?_
        refine wk_icmp_ltN (pc := 22) (tgt := 45) S_ d_Md_placeOf_22 (by decide) (by omega) (by omega) (fun h22 => ?_) (fun h22 => ?_)
        · -- taken
          refine wk_iconst (pc := 45) (v := (nI (1))) S_ d_Md_placeOf_45 (by decide) ?_
          refine wk_goto (pc := 46) (tgt := 50) S_ d_Md_placeOf_46 (by decide) ?_
          refine wk_istore (pc := 50) (lv' := [(4, .int (nI (1))), (0, .ref (m 0)), (1, .int (nI (c))), (2, .int (nI (plN rk (fun c => goN cl gr bx c nb) c k))), (3, .int (nI (k)))]) S_ d_Md_placeOf_50 (by decide) rfl ?_
          refine wk_iload_n (pc := 52) S_ 3 d_Md_placeOf_52 rfl rfl ?_
          refine wk_iload (pc := 53) S_ 0 d_Md_placeOf_53 rfl ?_
          refine wk_if_eqN (pc := 55) (tgt := 72) S_ d_Md_placeOf_55 (by decide) (by omega) (fun h55 => absurd h55 (by decide)) (fun h55 => ?_)
          refine wk_aload_n (pc := 58) S_ 1 d_Md_placeOf_58 rfl rfl ?_
          refine wk_iload_n (pc := 59) S_ 4 d_Md_placeOf_59 rfl rfl ?_
          refine wk_run (pc := 60) (rest := [.int (nI (plN rk (fun c => goN cl gr bx c nb) c k))]) (wr := []) (wN := fun _ => (wMd m cI tx sz ap pt rk cd fr mc mg mz nc nt ld qap qpt qrk qcd qfr qmc qmg qmz qnc qnt qld nb cl gr sp ot na aw nx bg bb ab fd pv bx wy li fm en nu td lf lk)) S_ (wk_rV S_ (c_Md_gramsOf l D cI z (m) (tx) (sz) (ap) (pt) (rk) (cd) (fr) (mc) (mg) (mz) (nc) (nt) (ld) (qap) (qpt) (qrk) (qcd) (qfr) (qmc) (qmg) (qmz) (qnc) (qnt) (qld) (nb) (cl) (gr) (sp) (ot) (na) (aw) (nx) (bg) (bb) (ab) (fd) (pv) (bx) (wy) (li) (fm) (en) (nu) (td) (lf) (lk) (k) (by omega) (by omega) hgr hcl hF hb) mv_Md_248 (wk_rcv S_ 0 6 rfl rfl rfl) rfl rfl (Nat.le_of_ble_eq_true rfl) (by rw [hR_]; decide) (by rw [hR_]; decide) d_Md_placeOf_60) [0, 1, 2, 3, 4, 5, 6, 7, 8, 9, 10, 11, 12, 13, 14, 15, 16, 17, 18, 19, 20, 21, 22, 23, 24, 25, 26, 27, 28, 29, 30, 31, 32, 33] [] [0, 1, 2, 3, 4, 5, 6, 7, 8, 9, 10, 11, 12, 13, 14, 15, 16, 17, 18, 19, 20, 21, 22, 23, 24, 25, 26, 27, 28, 29, 30, 31, 32, 33] rfl rfl rfl (by decide) (by decide) (by decide) (by decide) (fun _ => rfl) (fun _ => rfl) (fun r60 _ hw60 => ?_)
          refine wk_st (st' := [.long (r60), .int (nI (plN rk (fun c => goN cl gr bx c nb) c k))]) rfl ?_
          refine wk_topl (y := (lN (goN (cl) (gr) (bx) (k) (nb)))) hw60 ?_
          have hg1 := goN_le (cl := cl) (bx := bx) (c := k) hgr nb
          refine wk_lconst (pc := 63) (v := (lN (0))) S_ d_Md_placeOf_63 (by decide) ?_
          refine wk_lcmp (pc := 64) S_ d_Md_placeOf_64 ?_
          refine wk_cmp_leN (pc := 65) (tgt := 72) S_ d_Md_placeOf_65 (by decide) (by omega) (by omega) (fun h65 => ?_) (fun h65 => ?_)
          · -- taken
            refine wk_iconst (pc := 72) (v := (nI (0))) S_ d_Md_placeOf_72 (by decide) ?_
            refine wk_iaddN (pc := 73) S_ d_Md_placeOf_73 ?_
            refine wk_top (y := (nI (plN rk (fun c => goN cl gr bx c nb) c (k + 1)))) (congrArg nI (by rw [plN, if_neg (by omega)])) ?_
            refine wk_istore_n (pc := 74) (lv' := [(2, .int (nI (plN rk (fun c => goN cl gr bx c nb) c (k + 1)))), (4, .int (nI (1))), (0, .ref (m 0)), (1, .int (nI (c))), (3, .int (nI (k)))]) S_ d_Md_placeOf_74 rfl (by decide) rfl ?_
            refine wk_iincN (pc := 75) (d := 1) (lv' := [(3, .int (nI (k + 1))), (2, .int (nI (plN rk (fun c => goN cl gr bx c nb) c (k + 1)))), (4, .int (nI (1))), (0, .ref (m 0)), (1, .int (nI (c)))]) S_ 4 d_Md_placeOf_75 (by decide) rfl (by decide) rfl ?_
            refine wk_goto (pc := 78) (tgt := 4) S_ d_Md_placeOf_78 (by decide) ?_
            refine wk_lv [3, 4, 1, 0] ?_ (ih4 (k + 1) (by omega) (by omega))
            rfl
          · -- on
            refine wk_iconst (pc := 68) (v := (nI (1))) S_ d_Md_placeOf_68 (by decide) ?_
            refine wk_goto (pc := 69) (tgt := 73) S_ d_Md_placeOf_69 (by decide) ?_
            refine wk_iaddN (pc := 73) S_ d_Md_placeOf_73 ?_
            refine wk_top (y := (nI (plN rk (fun c => goN cl gr bx c nb) c (k + 1)))) (congrArg nI (by rw [plN, if_pos (by omega)])) ?_
            refine wk_istore_n (pc := 74) (lv' := [(2, .int (nI (plN rk (fun c => goN cl gr bx c nb) c (k + 1)))), (4, .int (nI (1))), (0, .ref (m 0)), (1, .int (nI (c))), (3, .int (nI (k)))]) S_ d_Md_placeOf_74 rfl (by decide) rfl ?_
            refine wk_iincN (pc := 75) (d := 1) (lv' := [(3, .int (nI (k + 1))), (2, .int (nI (plN rk (fun c => goN cl gr bx c nb) c (k + 1)))), (4, .int (nI (1))), (0, .ref (m 0)), (1, .int (nI (c)))]) S_ 4 d_Md_placeOf_75 (by decide) rfl (by decide) rfl ?_
            refine wk_goto (pc := 78) (tgt := 4) S_ d_Md_placeOf_78 (by decide) ?_
            refine wk_lv [3, 4, 1, 0] ?_ (ih4 (k + 1) (by omega) (by omega))
            rfl
        · -- on
          refine wk_aload_n (pc := 25) S_ 0 d_Md_placeOf_25 rfl rfl ?_
          refine wk_get (pc := 26) (v := .ref (m 4)) S_ 6 4 0 in_Md rfl (by decide) rfl fl_Md_20 d_Md_placeOf_26 rfl rfl ?_
          refine wk_iload_n (pc := 29) S_ 3 d_Md_placeOf_29 rfl rfl ?_
          refine wk_ialdN (pc := 30) (g := rk) S_ 4 0 d_Md_placeOf_30 rfl rfl (by omega) (by decide) ?_
          refine wk_aload_n (pc := 31) S_ 0 d_Md_placeOf_31 rfl rfl ?_
          refine wk_get (pc := 32) (v := .ref (m 4)) S_ 6 4 0 in_Md rfl (by decide) rfl fl_Md_20 d_Md_placeOf_32 rfl rfl ?_
          refine wk_iload_n (pc := 35) S_ 1 d_Md_placeOf_35 rfl rfl ?_
          refine wk_ialdN (pc := 36) (g := rk) S_ 4 0 d_Md_placeOf_36 rfl rfl (by omega) (by decide) ?_
          refine wk_icmp_neN (pc := 37) (tgt := 49) S_ d_Md_placeOf_37 (by decide) (by omega) (by omega) (fun h37 => ?_) (fun h37 => ?_)
          · -- taken
            refine wk_iconst (pc := 49) (v := (nI (0))) S_ d_Md_placeOf_49 (by decide) ?_
            refine wk_istore (pc := 50) (lv' := [(4, .int (nI (0))), (0, .ref (m 0)), (1, .int (nI (c))), (2, .int (nI (plN rk (fun c => goN cl gr bx c nb) c k))), (3, .int (nI (k)))]) S_ d_Md_placeOf_50 (by decide) rfl ?_
            refine wk_iload_n (pc := 52) S_ 3 d_Md_placeOf_52 rfl rfl ?_
            refine wk_iload (pc := 53) S_ 0 d_Md_placeOf_53 rfl ?_
            refine wk_if_eqN (pc := 55) (tgt := 72) S_ d_Md_placeOf_55 (by decide) (by omega) (fun h55 => ?_) (fun h55 => absurd h55 (by decide))
            refine wk_iconst (pc := 72) (v := (nI (0))) S_ d_Md_placeOf_72 (by decide) ?_
            refine wk_iaddN (pc := 73) S_ d_Md_placeOf_73 ?_
            refine wk_top (y := (nI (plN rk (fun c => goN cl gr bx c nb) c (k + 1)))) (congrArg nI (by rw [plN, if_neg (by omega)])) ?_
            refine wk_istore_n (pc := 74) (lv' := [(2, .int (nI (plN rk (fun c => goN cl gr bx c nb) c (k + 1)))), (4, .int (nI (0))), (0, .ref (m 0)), (1, .int (nI (c))), (3, .int (nI (k)))]) S_ d_Md_placeOf_74 rfl (by decide) rfl ?_
            refine wk_iincN (pc := 75) (d := 1) (lv' := [(3, .int (nI (k + 1))), (2, .int (nI (plN rk (fun c => goN cl gr bx c nb) c (k + 1)))), (4, .int (nI (0))), (0, .ref (m 0)), (1, .int (nI (c)))]) S_ 4 d_Md_placeOf_75 (by decide) rfl (by decide) rfl ?_
            refine wk_goto (pc := 78) (tgt := 4) S_ d_Md_placeOf_78 (by decide) ?_
            refine wk_lv [3, 4, 1, 0] ?_ (ih4 (k + 1) (by omega) (by omega))
            rfl
          · -- on
            refine wk_iload_n (pc := 40) S_ 3 d_Md_placeOf_40 rfl rfl ?_
            refine wk_iload_n (pc := 41) S_ 1 d_Md_placeOf_41 rfl rfl ?_
            refine wk_icmp_geN (pc := 42) (tgt := 49) S_ d_Md_placeOf_42 (by decide) (by omega) (by omega) (fun h42 => ?_) (fun h42 => ?_)
            · -- taken
              refine wk_iconst (pc := 49) (v := (nI (0))) S_ d_Md_placeOf_49 (by decide) ?_
              refine wk_istore (pc := 50) (lv' := [(4, .int (nI (0))), (0, .ref (m 0)), (1, .int (nI (c))), (2, .int (nI (plN rk (fun c => goN cl gr bx c nb) c k))), (3, .int (nI (k)))]) S_ d_Md_placeOf_50 (by decide) rfl ?_
              refine wk_iload_n (pc := 52) S_ 3 d_Md_placeOf_52 rfl rfl ?_
              refine wk_iload (pc := 53) S_ 0 d_Md_placeOf_53 rfl ?_
              refine wk_if_eqN (pc := 55) (tgt := 72) S_ d_Md_placeOf_55 (by decide) (by omega) (fun h55 => ?_) (fun h55 => absurd h55 (by decide))
              refine wk_iconst (pc := 72) (v := (nI (0))) S_ d_Md_placeOf_72 (by decide) ?_
              refine wk_iaddN (pc := 73) S_ d_Md_placeOf_73 ?_
              refine wk_top (y := (nI (plN rk (fun c => goN cl gr bx c nb) c (k + 1)))) (congrArg nI (by rw [plN, if_neg (by omega)])) ?_
              refine wk_istore_n (pc := 74) (lv' := [(2, .int (nI (plN rk (fun c => goN cl gr bx c nb) c (k + 1)))), (4, .int (nI (0))), (0, .ref (m 0)), (1, .int (nI (c))), (3, .int (nI (k)))]) S_ d_Md_placeOf_74 rfl (by decide) rfl ?_
              refine wk_iincN (pc := 75) (d := 1) (lv' := [(3, .int (nI (k + 1))), (2, .int (nI (plN rk (fun c => goN cl gr bx c nb) c (k + 1)))), (4, .int (nI (0))), (0, .ref (m 0)), (1, .int (nI (c)))]) S_ 4 d_Md_placeOf_75 (by decide) rfl (by decide) rfl ?_
              refine wk_goto (pc := 78) (tgt := 4) S_ d_Md_placeOf_78 (by decide) ?_
              refine wk_lv [3, 4, 1, 0] ?_ (ih4 (k + 1) (by omega) (by omega))
              rfl
            · -- on
              refine wk_iconst (pc := 45) (v := (nI (1))) S_ d_Md_placeOf_45 (by decide) ?_
              refine wk_goto (pc := 46) (tgt := 50) S_ d_Md_placeOf_46 (by decide) ?_
              refine wk_istore (pc := 50) (lv' := [(4, .int (nI (1))), (0, .ref (m 0)), (1, .int (nI (c))), (2, .int (nI (plN rk (fun c => goN cl gr bx c nb) c k))), (3, .int (nI (k)))]) S_ d_Md_placeOf_50 (by decide) rfl ?_
              refine wk_iload_n (pc := 52) S_ 3 d_Md_placeOf_52 rfl rfl ?_
              refine wk_iload (pc := 53) S_ 0 d_Md_placeOf_53 rfl ?_
              refine wk_if_eqN (pc := 55) (tgt := 72) S_ d_Md_placeOf_55 (by decide) (by omega) (fun h55 => absurd h55 (by decide)) (fun h55 => ?_)
              refine wk_aload_n (pc := 58) S_ 1 d_Md_placeOf_58 rfl rfl ?_
              refine wk_iload_n (pc := 59) S_ 4 d_Md_placeOf_59 rfl rfl ?_
              refine wk_run (pc := 60) (rest := [.int (nI (plN rk (fun c => goN cl gr bx c nb) c k))]) (wr := []) (wN := fun _ => (wMd m cI tx sz ap pt rk cd fr mc mg mz nc nt ld qap qpt qrk qcd qfr qmc qmg qmz qnc qnt qld nb cl gr sp ot na aw nx bg bb ab fd pv bx wy li fm en nu td lf lk)) S_ (wk_rV S_ (c_Md_gramsOf l D cI z (m) (tx) (sz) (ap) (pt) (rk) (cd) (fr) (mc) (mg) (mz) (nc) (nt) (ld) (qap) (qpt) (qrk) (qcd) (qfr) (qmc) (qmg) (qmz) (qnc) (qnt) (qld) (nb) (cl) (gr) (sp) (ot) (na) (aw) (nx) (bg) (bb) (ab) (fd) (pv) (bx) (wy) (li) (fm) (en) (nu) (td) (lf) (lk) (k) (by omega) (by omega) hgr hcl hF hb) mv_Md_248 (wk_rcv S_ 0 6 rfl rfl rfl) rfl rfl (Nat.le_of_ble_eq_true rfl) (by rw [hR_]; decide) (by rw [hR_]; decide) d_Md_placeOf_60) [0, 1, 2, 3, 4, 5, 6, 7, 8, 9, 10, 11, 12, 13, 14, 15, 16, 17, 18, 19, 20, 21, 22, 23, 24, 25, 26, 27, 28, 29, 30, 31, 32, 33] [] [0, 1, 2, 3, 4, 5, 6, 7, 8, 9, 10, 11, 12, 13, 14, 15, 16, 17, 18, 19, 20, 21, 22, 23, 24, 25, 26, 27, 28, 29, 30, 31, 32, 33] rfl rfl rfl (by decide) (by decide) (by decide) (by decide) (fun _ => rfl) (fun _ => rfl) (fun r60 _ hw60 => ?_)
              refine wk_st (st' := [.long (r60), .int (nI (plN rk (fun c => goN cl gr bx c nb) c k))]) rfl ?_
              refine wk_topl (y := (lN (goN (cl) (gr) (bx) (k) (nb)))) hw60 ?_
              have hg1 := goN_le (cl := cl) (bx := bx) (c := k) hgr nb
              refine wk_lconst (pc := 63) (v := (lN (0))) S_ d_Md_placeOf_63 (by decide) ?_
              refine wk_lcmp (pc := 64) S_ d_Md_placeOf_64 ?_
              refine wk_cmp_leN (pc := 65) (tgt := 72) S_ d_Md_placeOf_65 (by decide) (by omega) (by omega) (fun h65 => ?_) (fun h65 => ?_)
              · -- taken
                refine wk_iconst (pc := 72) (v := (nI (0))) S_ d_Md_placeOf_72 (by decide) ?_
                refine wk_iaddN (pc := 73) S_ d_Md_placeOf_73 ?_
                refine wk_top (y := (nI (plN rk (fun c => goN cl gr bx c nb) c (k + 1)))) (congrArg nI (by rw [plN, if_neg (by omega)])) ?_
                refine wk_istore_n (pc := 74) (lv' := [(2, .int (nI (plN rk (fun c => goN cl gr bx c nb) c (k + 1)))), (4, .int (nI (1))), (0, .ref (m 0)), (1, .int (nI (c))), (3, .int (nI (k)))]) S_ d_Md_placeOf_74 rfl (by decide) rfl ?_
                refine wk_iincN (pc := 75) (d := 1) (lv' := [(3, .int (nI (k + 1))), (2, .int (nI (plN rk (fun c => goN cl gr bx c nb) c (k + 1)))), (4, .int (nI (1))), (0, .ref (m 0)), (1, .int (nI (c)))]) S_ 4 d_Md_placeOf_75 (by decide) rfl (by decide) rfl ?_
                refine wk_goto (pc := 78) (tgt := 4) S_ d_Md_placeOf_78 (by decide) ?_
                refine wk_lv [3, 4, 1, 0] ?_ (ih4 (k + 1) (by omega) (by omega))
                rfl
              · -- on
                refine wk_iconst (pc := 68) (v := (nI (1))) S_ d_Md_placeOf_68 (by decide) ?_
                refine wk_goto (pc := 69) (tgt := 73) S_ d_Md_placeOf_69 (by decide) ?_
                refine wk_iaddN (pc := 73) S_ d_Md_placeOf_73 ?_
                refine wk_top (y := (nI (plN rk (fun c => goN cl gr bx c nb) c (k + 1)))) (congrArg nI (by rw [plN, if_pos (by omega)])) ?_
                refine wk_istore_n (pc := 74) (lv' := [(2, .int (nI (plN rk (fun c => goN cl gr bx c nb) c (k + 1)))), (4, .int (nI (1))), (0, .ref (m 0)), (1, .int (nI (c))), (3, .int (nI (k)))]) S_ d_Md_placeOf_74 rfl (by decide) rfl ?_
                refine wk_iincN (pc := 75) (d := 1) (lv' := [(3, .int (nI (k + 1))), (2, .int (nI (plN rk (fun c => goN cl gr bx c nb) c (k + 1)))), (4, .int (nI (1))), (0, .ref (m 0)), (1, .int (nI (c)))]) S_ 4 d_Md_placeOf_75 (by decide) rfl (by decide) rfl ?_
                refine wk_goto (pc := 78) (tgt := 4) S_ d_Md_placeOf_78 (by decide) ?_
                refine wk_lv [3, 4, 1, 0] ?_ (ih4 (k + 1) (by omega) (by omega))
                rfl
  refine wk_lv [2, 3, 1, 0] ?_ (hL4 _ (0) (Nat.lt_succ_self _) (by omega))
  rfl
set_option maxHeartbeats 4000000 in
set_option maxRecDepth 100000 in
theorem c_Md_name (l : Launch) (D : va_G) (cI : CiT) (z : GzT) (m : Nat → Nat) (tx : (Nat → Nat)) (sz : Nat) (ap : (Nat → Bool)) (pt : (Nat → Nat)) (rk : (Nat → Nat)) (cd : (Nat → Nat)) (fr : Nat) (mc : (Nat → Nat)) (mg : (Nat → Nat)) (mz : (Nat → Nat)) (nc : (Nat → Nat)) (nt : (Nat → Nat)) (ld : (Nat → Nat)) (qap : (Nat → Bool)) (qpt : (Nat → Nat)) (qrk : (Nat → Nat)) (qcd : (Nat → Nat)) (qfr : Nat) (qmc : (Nat → Nat)) (qmg : (Nat → Nat)) (qmz : (Nat → Nat)) (qnc : (Nat → Nat)) (qnt : (Nat → Nat)) (qld : (Nat → Nat)) (nb : Nat) (cl : (Nat → Nat)) (gr : (Nat → Nat)) (sp : (Nat → Nat)) (ot : (Nat → Bool)) (na : Nat) (aw : (Nat → Nat)) (nx : Nat) (bg : (Nat → Nat)) (bb : (Nat → Nat)) (ab : (Nat → Nat)) (fd : Bool) (pv : Bool) (bx : (Nat → Nat)) (wy : (Nat → Nat)) (li : (Nat → Nat)) (fm : Nat) (en : Nat) (nu : Nat) (td : (Nat → Nat)) (lf : Int32) (lk : Int32) (k : Int32) (hnb : nb ≤ 8) (hgr : ∀ b, gr b ≤ 100000) (hcl : ∀ b, cl b ≤ 9) (hF : fd = false → ∀ b, bx b = 0) (hb : ∀ b, bx b ≤ 5) (hrk : ∀ c, rk c ≤ 99) : wk_C l D (tyK cI) (gX z) y_Md_name b_Md_name 3 (some .int) 3 69 0 0 [.ref (m 0), .int (k)] (wMd m cI tx sz ap pt rk cd fr mc mg mz nc nt ld qap qpt qrk qcd qfr qmc qmg qmz qnc qnt qld nb cl gr sp ot na aw nx bg bb ab fd pv bx wy li fm en nu td lf lk) wk_i (fun (r : Int32) (_ : Unit) => r = (zI (nmS rk (fun c => goN cl gr bx c nb) k 9 0))) (fun _ => (wMd m cI tx sz ap pt rk cd fr mc mg mz nc nt ld qap qpt qrk qcd qfr qmc qmg qmz qnc qnt qld nb cl gr sp ot na aw nx bg bb ab fd pv bx wy li fm en nu td lf lk)) := by
  refine wk_methI (own := R_Md) [(0, .ref (m 0)), (1, .int (k))] (by decide) rfl (Nat.le_of_ble_eq_true rfl) rfl (gX_ok z) (fun p_ e_ R_ s_ m_ ar_ be_ me_ co_ Q_ A_ hR_ S_ hnm_ hQ_ => ?_)
  refine wk_iconst (pc := 0) (v := (nI (0))) S_ d_Md_name_0 (by decide) ?_
  refine wk_istore_n (pc := 1) (lv' := [(2, .int (nI (0))), (0, .ref (m 0)), (1, .int (k))]) S_ d_Md_name_1 rfl (by decide) rfl ?_
  have hL2 : ∀ (fuel2 : Nat), ∀ (q : Nat) (c : Nat), q < fuel2 → (c + q = 9) → (nmS rk (fun c => goN cl gr bx c nb) k q c = nmS rk (fun c => goN cl gr bx c nb) k 9 0) → wk_G p_ l e_ R_ s_ m_ ar_ be_ me_ co_ Q_ D A_ 3 0 0 (wMd m cI tx sz ap pt rk cd fr mc mg mz nc nt ld qap qpt qrk qcd qfr qmc qmg qmz qnc qnt qld nb cl gr sp ot na aw nx bg bb ab fd pv bx wy li fm en nu td lf lk) 2 [(0, .ref (m 0)), (1, .int (k)), (2, .int (nI (c)))] [] := by
    intro fuel2
    induction fuel2 with
    | zero => intro q c hm; exact absurd hm (Nat.not_lt_zero _)
    | succ fuel2 ih2 =>
      intro q c hm hk hE
      refine wk_iload_n (pc := 2) S_ 2 d_Md_name_2 rfl rfl ?_
      refine wk_bipush (pc := 3) (v := (nI (9))) S_ d_Md_name_3 (by decide) ?_
      refine wk_icmp_geN (pc := 5) (tgt := 35) S_ d_Md_name_5 (by decide) (by omega) (by omega) (fun h5 => ?_) (fun h5 => ?_)
      · -- taken
        refine wk_iconst (pc := 35) (v := (-1)) S_ d_Md_name_35 (by decide) ?_
        exact hQ_ (-1) () d_Md_name_36 rfl (by rw [← hE, show q = 0 by omega]; exact zI_0.symm)
      · -- on
        refine wk_aload_n (pc := 8) S_ 0 d_Md_name_8 rfl rfl ?_
        refine wk_iload_n (pc := 9) S_ 2 d_Md_name_9 rfl rfl ?_
        refine wk_run (pc := 10) (rest := []) (wr := []) (wN := fun _ => (wMd m cI tx sz ap pt rk cd fr mc mg mz nc nt ld qap qpt qrk qcd qfr qmc qmg qmz qnc qnt qld nb cl gr sp ot na aw nx bg bb ab fd pv bx wy li fm en nu td lf lk)) S_ (wk_rV S_ (c_Md_gramsOf l D cI z (m) (tx) (sz) (ap) (pt) (rk) (cd) (fr) (mc) (mg) (mz) (nc) (nt) (ld) (qap) (qpt) (qrk) (qcd) (qfr) (qmc) (qmg) (qmz) (qnc) (qnt) (qld) (nb) (cl) (gr) (sp) (ot) (na) (aw) (nx) (bg) (bb) (ab) (fd) (pv) (bx) (wy) (li) (fm) (en) (nu) (td) (lf) (lk) (c) (by omega) (by omega) hgr hcl hF hb) mv_Md_248 (wk_rcv S_ 0 6 rfl rfl rfl) rfl rfl (Nat.le_of_ble_eq_true rfl) (by rw [hR_]; decide) (by rw [hR_]; decide) d_Md_name_10) [0, 1, 2, 3, 4, 5, 6, 7, 8, 9, 10, 11, 12, 13, 14, 15, 16, 17, 18, 19, 20, 21, 22, 23, 24, 25, 26, 27, 28, 29, 30, 31, 32, 33] [] [0, 1, 2, 3, 4, 5, 6, 7, 8, 9, 10, 11, 12, 13, 14, 15, 16, 17, 18, 19, 20, 21, 22, 23, 24, 25, 26, 27, 28, 29, 30, 31, 32, 33] rfl rfl rfl (by decide) (by decide) (by decide) (by decide) (fun _ => rfl) (fun _ => rfl) (fun r10 _ hw10 => ?_)
        refine wk_st (st' := [.long (r10)]) rfl ?_
        refine wk_topl (y := (lN (goN (cl) (gr) (bx) (c) (nb)))) hw10 ?_
        have hg1 := goN_le (cl := cl) (bx := bx) (c := c) hgr nb
        refine wk_lconst (pc := 13) (v := (lN (0))) S_ d_Md_name_13 (by decide) ?_
        refine wk_lcmp (pc := 14) S_ d_Md_name_14 ?_
        refine wk_cmp_leN (pc := 15) (tgt := 29) S_ d_Md_name_15 (by decide) (by omega) (by omega) (fun h15 => ?_) (fun h15 => ?_)
        · -- taken
          refine wk_iincN (pc := 29) (d := 1) (lv' := [(2, .int (nI (c + 1))), (0, .ref (m 0)), (1, .int (k))]) S_ 2 d_Md_name_29 (by decide) rfl (by decide) rfl ?_
          refine wk_goto (pc := 32) (tgt := 2) S_ d_Md_name_32 (by decide) ?_
          refine wk_lv [1, 2, 0] ?_ (ih2 (q - 1) (c + 1) (by omega) (by omega) (by rw [← hE]; obtain ⟨r, rfl⟩ : ∃ r, q = r + 1 := ⟨q - 1, by omega⟩; rw [nmS, if_neg (by omega)]; rfl))
          rfl
        · -- on
          refine wk_aload_n (pc := 18) S_ 0 d_Md_name_18 rfl rfl ?_
          refine wk_iload_n (pc := 19) S_ 2 d_Md_name_19 rfl rfl ?_
          refine wk_run (pc := 20) (rest := []) (wr := []) (wN := fun _ => (wMd m cI tx sz ap pt rk cd fr mc mg mz nc nt ld qap qpt qrk qcd qfr qmc qmg qmz qnc qnt qld nb cl gr sp ot na aw nx bg bb ab fd pv bx wy li fm en nu td lf lk)) S_ (wk_rV S_ (c_Md_placeOf l D cI z (m) (tx) (sz) (ap) (pt) (rk) (cd) (fr) (mc) (mg) (mz) (nc) (nt) (ld) (qap) (qpt) (qrk) (qcd) (qfr) (qmc) (qmg) (qmz) (qnc) (qnt) (qld) (nb) (cl) (gr) (sp) (ot) (na) (aw) (nx) (bg) (bb) (ab) (fd) (pv) (bx) (wy) (li) (fm) (en) (nu) (td) (lf) (lk) (c) (by omega) (by omega) hgr hcl hF hb hrk) mv_Md_262 (wk_rcv S_ 0 6 rfl rfl rfl) rfl rfl (Nat.le_of_ble_eq_true rfl) (by rw [hR_]; decide) (by rw [hR_]; decide) d_Md_name_20) [0, 1, 2, 3, 4, 5, 6, 7, 8, 9, 10, 11, 12, 13, 14, 15, 16, 17, 18, 19, 20, 21, 22, 23, 24, 25, 26, 27, 28, 29, 30, 31, 32, 33] [] [0, 1, 2, 3, 4, 5, 6, 7, 8, 9, 10, 11, 12, 13, 14, 15, 16, 17, 18, 19, 20, 21, 22, 23, 24, 25, 26, 27, 28, 29, 30, 31, 32, 33] rfl rfl rfl (by decide) (by decide) (by decide) (by decide) (fun _ => rfl) (fun _ => rfl) (fun r20 _ hw20 => ?_)
          refine wk_st (st' := [.int (r20)]) rfl ?_
          refine wk_top (y := (nI (plN (rk) (fun c => goN (cl) (gr) (bx) c (nb)) (c) 9))) hw20 ?_
          refine wk_iload_n (pc := 23) S_ 1 d_Md_name_23 rfl rfl ?_
          refine wk_icmp_ne (pc := 24) (tgt := 29) S_ d_Md_name_24 (by decide) (fun h24 => ?_) (fun h24 => ?_)
          · -- taken
            refine wk_iincN (pc := 29) (d := 1) (lv' := [(2, .int (nI (c + 1))), (0, .ref (m 0)), (1, .int (k))]) S_ 2 d_Md_name_29 (by decide) rfl (by decide) rfl ?_
            refine wk_goto (pc := 32) (tgt := 2) S_ d_Md_name_32 (by decide) ?_
            refine wk_lv [1, 2, 0] ?_ (ih2 (q - 1) (c + 1) (by omega) (by omega) (by rw [← hE]; obtain ⟨r, rfl⟩ : ∃ r, q = r + 1 := ⟨q - 1, by omega⟩; rw [nmS, if_neg (by exact fun z => h24 z.2)]; rfl))
            rfl
          · -- on
            refine wk_iload_n (pc := 27) S_ 2 d_Md_name_27 rfl rfl ?_
            exact hQ_ (nI (c)) () d_Md_name_28 rfl (by rw [← hE]; obtain ⟨r, rfl⟩ : ∃ r, q = r + 1 := ⟨q - 1, by omega⟩; rw [nmS, if_pos ⟨by omega, h24⟩, zI_s])
  refine wk_lv [1, 2, 0] ?_ (hL2 _ (9) (0) (Nat.lt_succ_self _) (by omega) rfl)
  rfl
end
section
theorem fl_Md_130 : Cond.fieldLink R_Md 130 R_Md "isProved" "Z" ∈ lw_gd := (gd _ (tb2 _ (List.mem_of_getElem? (i := 180) rfl)) rfl)
theorem d_Md_proved_0 : decode b_Md_proved 0 = .ok (.aload_n 0, 1) := by decide +kernel
theorem d_Md_proved_1 : decode b_Md_proved 1 = .ok (.getfield 130, 3) := by decide +kernel
theorem d_Md_proved_4 : decode b_Md_proved 4 = .ok (.ireturn, 1) := by decide +kernel
theorem mv_Md_220 : wk_V R_Md 220 R_Md y_Md_isBottle b_Md_isBottle 2 (some .boolean) 1 := ⟨(gd _ (tb3 _ (List.mem_of_getElem? (i := 131) rfl)) rfl), (gd _ (tb0 _ (List.mem_of_getElem? (i := 8) rfl)) rfl), (gd _ (tb3 _ (List.mem_of_getElem? (i := 128) rfl)) rfl), (by decide +kernel), (gd _ (tb3 _ (List.mem_of_getElem? (i := 130) rfl)) rfl), (gd _ (List.mem_append_left _ (by decide +kernel)) rfl)⟩
theorem d_Md_boxOf_0 : decode b_Md_boxOf 0 = .ok (.aload_n 0, 1) := by decide +kernel
theorem d_Md_boxOf_1 : decode b_Md_boxOf 1 = .ok (.getfield 239, 3) := by decide +kernel
theorem d_Md_boxOf_4 : decode b_Md_boxOf 4 = .ok (.ifCond .eq 20, 3) := by decide +kernel
theorem d_Md_boxOf_7 : decode b_Md_boxOf 7 = .ok (.aload_n 0, 1) := by decide +kernel
theorem d_Md_boxOf_8 : decode b_Md_boxOf 8 = .ok (.iload_n 1, 1) := by decide +kernel
theorem d_Md_boxOf_9 : decode b_Md_boxOf 9 = .ok (.invokevirtual 220, 3) := by decide +kernel
theorem d_Md_boxOf_12 : decode b_Md_boxOf 12 = .ok (.ifCond .eq 12, 3) := by decide +kernel
theorem d_Md_boxOf_15 : decode b_Md_boxOf 15 = .ok (.aload_n 0, 1) := by decide +kernel
theorem d_Md_boxOf_16 : decode b_Md_boxOf 16 = .ok (.getfield 99, 3) := by decide +kernel
theorem d_Md_boxOf_19 : decode b_Md_boxOf 19 = .ok (.iload_n 1, 1) := by decide +kernel
theorem d_Md_boxOf_20 : decode b_Md_boxOf 20 = .ok (.iaload, 1) := by decide +kernel
theorem d_Md_boxOf_21 : decode b_Md_boxOf 21 = .ok (.goto 4, 3) := by decide +kernel
theorem d_Md_boxOf_24 : decode b_Md_boxOf 24 = .ok (.iconst (-1), 1) := by decide +kernel
theorem d_Md_boxOf_25 : decode b_Md_boxOf 25 = .ok (.ireturn, 1) := by decide +kernel
theorem fl_Md_225 : Cond.fieldLink R_Md 225 R_Md "outs" "I" ∈ lw_gd := (gd _ (tb2 _ (List.mem_of_getElem? (i := 173) rfl)) rfl)
theorem fl_Md_87 : Cond.fieldLink R_Md 87 R_Md "outRows" "[I" ∈ lw_gd := (gd _ (tb2 _ (List.mem_of_getElem? (i := 174) rfl)) rfl)
theorem d_Md_refused_0 : decode b_Md_refused 0 = .ok (.iload_n 1, 1) := by decide +kernel
theorem d_Md_refused_1 : decode b_Md_refused 1 = .ok (.ifCond .lt 20, 3) := by decide +kernel
theorem d_Md_refused_4 : decode b_Md_refused 4 = .ok (.iload_n 1, 1) := by decide +kernel
theorem d_Md_refused_5 : decode b_Md_refused 5 = .ok (.aload_n 0, 1) := by decide +kernel
theorem d_Md_refused_6 : decode b_Md_refused 6 = .ok (.getfield 225, 3) := by decide +kernel
theorem d_Md_refused_9 : decode b_Md_refused 9 = .ok (.if_icmp .ge 12, 3) := by decide +kernel
theorem d_Md_refused_12 : decode b_Md_refused 12 = .ok (.aload_n 0, 1) := by decide +kernel
theorem d_Md_refused_13 : decode b_Md_refused 13 = .ok (.getfield 87, 3) := by decide +kernel
theorem d_Md_refused_16 : decode b_Md_refused 16 = .ok (.iload_n 1, 1) := by decide +kernel
theorem d_Md_refused_17 : decode b_Md_refused 17 = .ok (.iaload, 1) := by decide +kernel
theorem d_Md_refused_18 : decode b_Md_refused 18 = .ok (.goto 4, 3) := by decide +kernel
theorem d_Md_refused_21 : decode b_Md_refused 21 = .ok (.iconst (-1), 1) := by decide +kernel
theorem d_Md_refused_22 : decode b_Md_refused 22 = .ok (.ireturn, 1) := by decide +kernel
theorem kc_Md_216 : Cond.constantLong R_Md 216 (lN 3) ∈ lw_gd := (gd _ (tb3 _ (List.mem_of_getElem? (i := 118) rfl)) rfl)
theorem mv_Md_123 : wk_T R_Md 123 y_Md_isIn b_Md_isIn 6 (some .boolean) 3 := ⟨(gd _ (tb3 _ (List.mem_of_getElem? (i := 51) rfl)) rfl), (gd _ (tb0 _ (List.mem_of_getElem? (i := 8) rfl)) rfl), (gd _ (tb3 _ (List.mem_of_getElem? (i := 49) rfl)) rfl), (by decide +kernel), (gd _ (tb3 _ (List.mem_of_getElem? (i := 50) rfl)) rfl)⟩
theorem fl_Md_35 : Cond.fieldLink R_Md 35 R_Md "noteCounts" "[I" ∈ lw_gd := (gd _ (tb2 _ (List.mem_of_getElem? (i := 154) rfl)) rfl)
theorem fl_Md_38 : Cond.fieldLink R_Md 38 R_Md "notes" "[I" ∈ lw_gd := (gd _ (tb2 _ (List.mem_of_getElem? (i := 155) rfl)) rfl)
theorem d_Md_note_0 : decode b_Md_note 0 = .ok (.iload_n 1, 1) := by decide +kernel
theorem d_Md_note_1 : decode b_Md_note 1 = .ok (.i2l, 1) := by decide +kernel
theorem d_Md_note_2 : decode b_Md_note 2 = .ok (.lconst 0, 1) := by decide +kernel
theorem d_Md_note_3 : decode b_Md_note 3 = .ok (.ldc2_w 216, 3) := by decide +kernel
theorem d_Md_note_6 : decode b_Md_note 6 = .ok (.invokestatic 123, 3) := by decide +kernel
theorem d_Md_note_9 : decode b_Md_note 9 = .ok (.ifCond .eq 31, 3) := by decide +kernel
theorem d_Md_note_12 : decode b_Md_note 12 = .ok (.iload_n 2, 1) := by decide +kernel
theorem d_Md_note_13 : decode b_Md_note 13 = .ok (.ifCond .lt 27, 3) := by decide +kernel
theorem d_Md_note_16 : decode b_Md_note 16 = .ok (.iload_n 2, 1) := by decide +kernel
theorem d_Md_note_17 : decode b_Md_note 17 = .ok (.aload_n 0, 1) := by decide +kernel
theorem d_Md_note_18 : decode b_Md_note 18 = .ok (.getfield 35, 3) := by decide +kernel
theorem d_Md_note_21 : decode b_Md_note 21 = .ok (.iload_n 1, 1) := by decide +kernel
theorem d_Md_note_22 : decode b_Md_note 22 = .ok (.iaload, 1) := by decide +kernel
theorem d_Md_note_23 : decode b_Md_note 23 = .ok (.if_icmp .ge 17, 3) := by decide +kernel
theorem d_Md_note_26 : decode b_Md_note 26 = .ok (.aload_n 0, 1) := by decide +kernel
theorem d_Md_note_27 : decode b_Md_note 27 = .ok (.getfield 38, 3) := by decide +kernel
theorem d_Md_note_30 : decode b_Md_note 30 = .ok (.bipush 8, 2) := by decide +kernel
theorem d_Md_note_32 : decode b_Md_note 32 = .ok (.iload_n 1, 1) := by decide +kernel
theorem d_Md_note_33 : decode b_Md_note 33 = .ok (.imul, 1) := by decide +kernel
theorem d_Md_note_34 : decode b_Md_note 34 = .ok (.iload_n 2, 1) := by decide +kernel
theorem d_Md_note_35 : decode b_Md_note 35 = .ok (.iadd, 1) := by decide +kernel
theorem d_Md_note_36 : decode b_Md_note 36 = .ok (.iaload, 1) := by decide +kernel
theorem d_Md_note_37 : decode b_Md_note 37 = .ok (.goto 4, 3) := by decide +kernel
theorem d_Md_note_40 : decode b_Md_note 40 = .ok (.iconst (-1), 1) := by decide +kernel
theorem d_Md_note_41 : decode b_Md_note 41 = .ok (.ireturn, 1) := by decide +kernel
theorem kc_Md_209 : Cond.constantLong R_Md 209 (lN 8) ∈ lw_gd := (gd _ (tb3 _ (List.mem_of_getElem? (i := 112) rfl)) rfl)
theorem fl_Md_26 : Cond.fieldLink R_Md 26 R_Md "markCounts" "[I" ∈ lw_gd := (gd _ (tb2 _ (List.mem_of_getElem? (i := 151) rfl)) rfl)
theorem fl_Md_29 : Cond.fieldLink R_Md 29 R_Md "markGrams" "[I" ∈ lw_gd := (gd _ (tb2 _ (List.mem_of_getElem? (i := 152) rfl)) rfl)
theorem fl_Md_32 : Cond.fieldLink R_Md 32 R_Md "markSizes" "[I" ∈ lw_gd := (gd _ (tb2 _ (List.mem_of_getElem? (i := 153) rfl)) rfl)
theorem d_Md_mark_0 : decode b_Md_mark 0 = .ok (.iload_n 1, 1) := by decide +kernel
theorem d_Md_mark_1 : decode b_Md_mark 1 = .ok (.i2l, 1) := by decide +kernel
theorem d_Md_mark_2 : decode b_Md_mark 2 = .ok (.lconst 0, 1) := by decide +kernel
theorem d_Md_mark_3 : decode b_Md_mark 3 = .ok (.ldc2_w 209, 3) := by decide +kernel
theorem d_Md_mark_6 : decode b_Md_mark 6 = .ok (.invokestatic 123, 3) := by decide +kernel
theorem d_Md_mark_9 : decode b_Md_mark 9 = .ok (.ifCond .ne 5, 3) := by decide +kernel
theorem d_Md_mark_12 : decode b_Md_mark 12 = .ok (.iconst (-1), 1) := by decide +kernel
theorem d_Md_mark_13 : decode b_Md_mark 13 = .ok (.ireturn, 1) := by decide +kernel
theorem d_Md_mark_14 : decode b_Md_mark 14 = .ok (.aload_n 0, 1) := by decide +kernel
theorem d_Md_mark_15 : decode b_Md_mark 15 = .ok (.iload_n 1, 1) := by decide +kernel
theorem d_Md_mark_16 : decode b_Md_mark 16 = .ok (.invokevirtual 248, 3) := by decide +kernel
theorem d_Md_mark_19 : decode b_Md_mark 19 = .ok (.lstore_n 2, 1) := by decide +kernel
theorem d_Md_mark_20 : decode b_Md_mark 20 = .ok (.iconst 0, 1) := by decide +kernel
theorem d_Md_mark_21 : decode b_Md_mark 21 = .ok (.istore 4, 2) := by decide +kernel
theorem d_Md_mark_23 : decode b_Md_mark 23 = .ok (.iconst 0, 1) := by decide +kernel
theorem d_Md_mark_24 : decode b_Md_mark 24 = .ok (.istore 5, 2) := by decide +kernel
theorem d_Md_mark_26 : decode b_Md_mark 26 = .ok (.iload 5, 2) := by decide +kernel
theorem d_Md_mark_28 : decode b_Md_mark 28 = .ok (.aload_n 0, 1) := by decide +kernel
theorem d_Md_mark_29 : decode b_Md_mark 29 = .ok (.getfield 26, 3) := by decide +kernel
theorem d_Md_mark_32 : decode b_Md_mark 32 = .ok (.iload_n 1, 1) := by decide +kernel
theorem d_Md_mark_33 : decode b_Md_mark 33 = .ok (.iaload, 1) := by decide +kernel
theorem d_Md_mark_34 : decode b_Md_mark 34 = .ok (.if_icmp .ge 52, 3) := by decide +kernel
theorem d_Md_mark_37 : decode b_Md_mark 37 = .ok (.lload_n 2, 1) := by decide +kernel
theorem d_Md_mark_38 : decode b_Md_mark 38 = .ok (.lconst 0, 1) := by decide +kernel
theorem d_Md_mark_39 : decode b_Md_mark 39 = .ok (.lcmp, 1) := by decide +kernel
theorem d_Md_mark_40 : decode b_Md_mark 40 = .ok (.ifCond .le 46, 3) := by decide +kernel
theorem d_Md_mark_43 : decode b_Md_mark 43 = .ok (.lload_n 2, 1) := by decide +kernel
theorem d_Md_mark_44 : decode b_Md_mark 44 = .ok (.aload_n 0, 1) := by decide +kernel
theorem d_Md_mark_45 : decode b_Md_mark 45 = .ok (.getfield 29, 3) := by decide +kernel
theorem d_Md_mark_48 : decode b_Md_mark 48 = .ok (.bipush 6, 2) := by decide +kernel
theorem d_Md_mark_50 : decode b_Md_mark 50 = .ok (.iload_n 1, 1) := by decide +kernel
theorem d_Md_mark_51 : decode b_Md_mark 51 = .ok (.imul, 1) := by decide +kernel
theorem d_Md_mark_52 : decode b_Md_mark 52 = .ok (.iload 5, 2) := by decide +kernel
theorem d_Md_mark_54 : decode b_Md_mark 54 = .ok (.iadd, 1) := by decide +kernel
theorem d_Md_mark_55 : decode b_Md_mark 55 = .ok (.iaload, 1) := by decide +kernel
theorem d_Md_mark_56 : decode b_Md_mark 56 = .ok (.i2l, 1) := by decide +kernel
theorem d_Md_mark_57 : decode b_Md_mark 57 = .ok (.lcmp, 1) := by decide +kernel
theorem d_Md_mark_58 : decode b_Md_mark 58 = .ok (.ifCond .lt 18, 3) := by decide +kernel
theorem d_Md_mark_61 : decode b_Md_mark 61 = .ok (.aload_n 0, 1) := by decide +kernel
theorem d_Md_mark_62 : decode b_Md_mark 62 = .ok (.getfield 32, 3) := by decide +kernel
theorem d_Md_mark_65 : decode b_Md_mark 65 = .ok (.bipush 6, 2) := by decide +kernel
theorem d_Md_mark_67 : decode b_Md_mark 67 = .ok (.iload_n 1, 1) := by decide +kernel
theorem d_Md_mark_68 : decode b_Md_mark 68 = .ok (.imul, 1) := by decide +kernel
theorem d_Md_mark_69 : decode b_Md_mark 69 = .ok (.iload 5, 2) := by decide +kernel
theorem d_Md_mark_71 : decode b_Md_mark 71 = .ok (.iadd, 1) := by decide +kernel
theorem d_Md_mark_72 : decode b_Md_mark 72 = .ok (.iaload, 1) := by decide +kernel
theorem d_Md_mark_73 : decode b_Md_mark 73 = .ok (.goto 5, 3) := by decide +kernel
theorem d_Md_mark_76 : decode b_Md_mark 76 = .ok (.iload 4, 2) := by decide +kernel
theorem d_Md_mark_78 : decode b_Md_mark 78 = .ok (.istore 4, 2) := by decide +kernel
theorem d_Md_mark_80 : decode b_Md_mark 80 = .ok (.iinc 5 1, 3) := by decide +kernel
theorem d_Md_mark_83 : decode b_Md_mark 83 = .ok (.goto (-57), 3) := by decide +kernel
theorem d_Md_mark_86 : decode b_Md_mark 86 = .ok (.iload 4, 2) := by decide +kernel
theorem d_Md_mark_88 : decode b_Md_mark 88 = .ok (.ireturn, 1) := by decide +kernel
theorem mv_Md_286 : wk_V R_Md 286 R_Md y_Md_exempt b_Md_exempt 1 (some .boolean) 0 := ⟨(gd _ (tb3 _ (List.mem_of_getElem? (i := 194) rfl)) rfl), (gd _ (tb0 _ (List.mem_of_getElem? (i := 8) rfl)) rfl), (gd _ (tb3 _ (List.mem_of_getElem? (i := 231) rfl)) rfl), (by decide +kernel), (gd _ (tb3 _ (List.mem_of_getElem? (i := 192) rfl)) rfl), (gd _ (tb3 _ (List.mem_of_getElem? (i := 193) rfl)) rfl)⟩
theorem fl_Md_23 : Cond.fieldLink R_Md 23 R_Md "codes" "[I" ∈ lw_gd := (gd _ (tb2 _ (List.mem_of_getElem? (i := 149) rfl)) rfl)
theorem d_Md_tunnel_0 : decode b_Md_tunnel 0 = .ok (.iconst 0, 1) := by decide +kernel
theorem d_Md_tunnel_1 : decode b_Md_tunnel 1 = .ok (.istore_n 1, 1) := by decide +kernel
theorem d_Md_tunnel_2 : decode b_Md_tunnel 2 = .ok (.iconst 0, 1) := by decide +kernel
theorem d_Md_tunnel_3 : decode b_Md_tunnel 3 = .ok (.istore_n 2, 1) := by decide +kernel
theorem d_Md_tunnel_4 : decode b_Md_tunnel 4 = .ok (.iload_n 2, 1) := by decide +kernel
theorem d_Md_tunnel_5 : decode b_Md_tunnel 5 = .ok (.bipush 9, 2) := by decide +kernel
theorem d_Md_tunnel_7 : decode b_Md_tunnel 7 = .ok (.if_icmp .ge 47, 3) := by decide +kernel
theorem d_Md_tunnel_10 : decode b_Md_tunnel 10 = .ok (.aload_n 0, 1) := by decide +kernel
theorem d_Md_tunnel_11 : decode b_Md_tunnel 11 = .ok (.invokevirtual 286, 3) := by decide +kernel
theorem d_Md_tunnel_14 : decode b_Md_tunnel 14 = .ok (.ifCond .ne 40, 3) := by decide +kernel
theorem d_Md_tunnel_17 : decode b_Md_tunnel 17 = .ok (.aload_n 0, 1) := by decide +kernel
theorem d_Md_tunnel_18 : decode b_Md_tunnel 18 = .ok (.iload_n 2, 1) := by decide +kernel
theorem d_Md_tunnel_19 : decode b_Md_tunnel 19 = .ok (.invokevirtual 248, 3) := by decide +kernel
theorem d_Md_tunnel_22 : decode b_Md_tunnel 22 = .ok (.lconst 0, 1) := by decide +kernel
theorem d_Md_tunnel_23 : decode b_Md_tunnel 23 = .ok (.lcmp, 1) := by decide +kernel
theorem d_Md_tunnel_24 : decode b_Md_tunnel 24 = .ok (.ifCond .le 22, 3) := by decide +kernel
theorem d_Md_tunnel_27 : decode b_Md_tunnel 27 = .ok (.aload_n 0, 1) := by decide +kernel
theorem d_Md_tunnel_28 : decode b_Md_tunnel 28 = .ok (.getfield 23, 3) := by decide +kernel
theorem d_Md_tunnel_31 : decode b_Md_tunnel 31 = .ok (.iload_n 2, 1) := by decide +kernel
theorem d_Md_tunnel_32 : decode b_Md_tunnel 32 = .ok (.iaload, 1) := by decide +kernel
theorem d_Md_tunnel_33 : decode b_Md_tunnel 33 = .ok (.iload_n 1, 1) := by decide +kernel
theorem d_Md_tunnel_34 : decode b_Md_tunnel 34 = .ok (.if_icmp .le 12, 3) := by decide +kernel
theorem d_Md_tunnel_37 : decode b_Md_tunnel 37 = .ok (.aload_n 0, 1) := by decide +kernel
theorem d_Md_tunnel_38 : decode b_Md_tunnel 38 = .ok (.getfield 23, 3) := by decide +kernel
theorem d_Md_tunnel_41 : decode b_Md_tunnel 41 = .ok (.iload_n 2, 1) := by decide +kernel
theorem d_Md_tunnel_42 : decode b_Md_tunnel 42 = .ok (.iaload, 1) := by decide +kernel
theorem d_Md_tunnel_43 : decode b_Md_tunnel 43 = .ok (.goto 4, 3) := by decide +kernel
theorem d_Md_tunnel_46 : decode b_Md_tunnel 46 = .ok (.iload_n 1, 1) := by decide +kernel
theorem d_Md_tunnel_47 : decode b_Md_tunnel 47 = .ok (.istore_n 1, 1) := by decide +kernel
theorem d_Md_tunnel_48 : decode b_Md_tunnel 48 = .ok (.iinc 2 1, 3) := by decide +kernel
theorem d_Md_tunnel_51 : decode b_Md_tunnel 51 = .ok (.goto (-47), 3) := by decide +kernel
theorem d_Md_tunnel_54 : decode b_Md_tunnel 54 = .ok (.iload_n 1, 1) := by decide +kernel
theorem d_Md_tunnel_55 : decode b_Md_tunnel 55 = .ok (.ireturn, 1) := by decide +kernel
theorem fl_Md_268 : Cond.fieldLink R_Md 268 R_Md "left" "I" ∈ lw_gd := (gd _ (tb2 _ (List.mem_of_getElem? (i := 187) rfl)) rfl)
theorem fl_Md_271 : Cond.fieldLink R_Md 271 R_Md "looked" "I" ∈ lw_gd := (gd _ (tb2 _ (List.mem_of_getElem? (i := 188) rfl)) rfl)
theorem d_Md_put_0 : decode b_Md_put 0 = .ok (.aload_n 0, 1) := by decide +kernel
theorem d_Md_put_1 : decode b_Md_put 1 = .ok (.aload_n 0, 1) := by decide +kernel
theorem d_Md_put_2 : decode b_Md_put 2 = .ok (.getfield 268, 3) := by decide +kernel
theorem d_Md_put_5 : decode b_Md_put 5 = .ok (.ifCond .ne 7, 3) := by decide +kernel
theorem d_Md_put_8 : decode b_Md_put 8 = .ok (.iload_n 1, 1) := by decide +kernel
theorem d_Md_put_9 : decode b_Md_put 9 = .ok (.goto 7, 3) := by decide +kernel
theorem d_Md_put_12 : decode b_Md_put 12 = .ok (.aload_n 0, 1) := by decide +kernel
theorem d_Md_put_13 : decode b_Md_put 13 = .ok (.getfield 271, 3) := by decide +kernel
theorem d_Md_put_16 : decode b_Md_put 16 = .ok (.putfield 271, 3) := by decide +kernel
theorem d_Md_put_19 : decode b_Md_put 19 = .ok (.aload_n 0, 1) := by decide +kernel
theorem d_Md_put_20 : decode b_Md_put 20 = .ok (.dup, 1) := by decide +kernel
theorem d_Md_put_21 : decode b_Md_put 21 = .ok (.getfield 268, 3) := by decide +kernel
theorem d_Md_put_24 : decode b_Md_put 24 = .ok (.iconst 1, 1) := by decide +kernel
theorem d_Md_put_25 : decode b_Md_put 25 = .ok (.isub, 1) := by decide +kernel
theorem d_Md_put_26 : decode b_Md_put 26 = .ok (.putfield 268, 3) := by decide +kernel
theorem d_Md_put_29 : decode b_Md_put 29 = .ok (.return_, 1) := by decide +kernel
set_option maxHeartbeats 4000000 in
set_option maxRecDepth 100000 in
theorem c_Md_proved (l : Launch) (D : va_G) (cI : CiT) (z : GzT) (m : Nat → Nat) (tx : (Nat → Nat)) (sz : Nat) (ap : (Nat → Bool)) (pt : (Nat → Nat)) (rk : (Nat → Nat)) (cd : (Nat → Nat)) (fr : Nat) (mc : (Nat → Nat)) (mg : (Nat → Nat)) (mz : (Nat → Nat)) (nc : (Nat → Nat)) (nt : (Nat → Nat)) (ld : (Nat → Nat)) (qap : (Nat → Bool)) (qpt : (Nat → Nat)) (qrk : (Nat → Nat)) (qcd : (Nat → Nat)) (qfr : Nat) (qmc : (Nat → Nat)) (qmg : (Nat → Nat)) (qmz : (Nat → Nat)) (qnc : (Nat → Nat)) (qnt : (Nat → Nat)) (qld : (Nat → Nat)) (nb : Nat) (cl : (Nat → Nat)) (gr : (Nat → Nat)) (sp : (Nat → Nat)) (ot : (Nat → Bool)) (na : Nat) (aw : (Nat → Nat)) (nx : Nat) (bg : (Nat → Nat)) (bb : (Nat → Nat)) (ab : (Nat → Nat)) (fd : Bool) (pv : Bool) (bx : (Nat → Nat)) (wy : (Nat → Nat)) (li : (Nat → Nat)) (fm : Nat) (en : Nat) (nu : Nat) (td : (Nat → Nat)) (lf : Int32) (lk : Int32) : wk_C l D (tyK cI) (gX z) y_Md_proved b_Md_proved 1 (some .boolean) 0 0 0 0 [.ref (m 0)] (wMd m cI tx sz ap pt rk cd fr mc mg mz nc nt ld qap qpt qrk qcd qfr qmc qmg qmz qnc qnt qld nb cl gr sp ot na aw nx bg bb ab fd pv bx wy li fm en nu td lf lk) wk_i (fun (r : Int32) (_ : Unit) => r = (bI (pv))) (fun _ => (wMd m cI tx sz ap pt rk cd fr mc mg mz nc nt ld qap qpt qrk qcd qfr qmc qmg qmz qnc qnt qld nb cl gr sp ot na aw nx bg bb ab fd pv bx wy li fm en nu td lf lk)) := by
  refine wk_methZ (own := R_Md) [(0, .ref (m 0))] (by decide) rfl (Nat.le_of_ble_eq_true rfl) rfl (gX_ok z) (fun p_ e_ R_ s_ m_ ar_ be_ me_ co_ Q_ A_ hR_ S_ hnm_ hQ_ => ?_)
  refine wk_aload_n (pc := 0) S_ 0 d_Md_proved_0 rfl rfl ?_
  refine wk_get (pc := 1) (v := .int (bI (pv))) S_ 6 36 0 in_Md rfl (by decide) rfl fl_Md_130 d_Md_proved_1 rfl rfl ?_
  exact hQ_ (bI (pv)) () d_Md_proved_4 (bI_z _) rfl rfl
set_option maxHeartbeats 4000000 in
set_option maxRecDepth 100000 in
theorem c_Md_boxOf (l : Launch) (D : va_G) (cI : CiT) (z : GzT) (m : Nat → Nat) (tx : (Nat → Nat)) (sz : Nat) (ap : (Nat → Bool)) (pt : (Nat → Nat)) (rk : (Nat → Nat)) (cd : (Nat → Nat)) (fr : Nat) (mc : (Nat → Nat)) (mg : (Nat → Nat)) (mz : (Nat → Nat)) (nc : (Nat → Nat)) (nt : (Nat → Nat)) (ld : (Nat → Nat)) (qap : (Nat → Bool)) (qpt : (Nat → Nat)) (qrk : (Nat → Nat)) (qcd : (Nat → Nat)) (qfr : Nat) (qmc : (Nat → Nat)) (qmg : (Nat → Nat)) (qmz : (Nat → Nat)) (qnc : (Nat → Nat)) (qnt : (Nat → Nat)) (qld : (Nat → Nat)) (nb : Nat) (cl : (Nat → Nat)) (gr : (Nat → Nat)) (sp : (Nat → Nat)) (ot : (Nat → Bool)) (na : Nat) (aw : (Nat → Nat)) (nx : Nat) (bg : (Nat → Nat)) (bb : (Nat → Nat)) (ab : (Nat → Nat)) (fd : Bool) (pv : Bool) (bx : (Nat → Nat)) (wy : (Nat → Nat)) (li : (Nat → Nat)) (fm : Nat) (en : Nat) (nu : Nat) (td : (Nat → Nat)) (lf : Int32) (lk : Int32) (b : Int32) (hnb : nb ≤ 8) (hF : fd = false → ∀ b, bx b = 0) : wk_C l D (tyK cI) (gX z) y_Md_boxOf b_Md_boxOf 2 (some .int) 1 21 0 0 [.ref (m 0), .int (b)] (wMd m cI tx sz ap pt rk cd fr mc mg mz nc nt ld qap qpt qrk qcd qfr qmc qmg qmz qnc qnt qld nb cl gr sp ot na aw nx bg bb ab fd pv bx wy li fm en nu td lf lk) wk_i (fun (r : Int32) (_ : Unit) => r = (zI (pickY nb bx b))) (fun _ => (wMd m cI tx sz ap pt rk cd fr mc mg mz nc nt ld qap qpt qrk qcd qfr qmc qmg qmz qnc qnt qld nb cl gr sp ot na aw nx bg bb ab fd pv bx wy li fm en nu td lf lk)) := by
  refine wk_methI (own := R_Md) [(0, .ref (m 0)), (1, .int (b))] (by decide) rfl (Nat.le_of_ble_eq_true rfl) rfl (gX_ok z) (fun p_ e_ R_ s_ m_ ar_ be_ me_ co_ Q_ A_ hR_ S_ hnm_ hQ_ => ?_)
  refine wk_aload_n (pc := 0) S_ 0 d_Md_boxOf_0 rfl rfl ?_
  refine wk_get (pc := 1) (v := .int (bI (fd))) S_ 6 35 0 in_Md rfl (by decide) rfl fl_Md_239 d_Md_boxOf_1 rfl rfl ?_
  refine wk_if_eqB (pc := 4) (tgt := 24) S_ d_Md_boxOf_4 (by decide) (fun h4 => ?_) (fun h4 => ?_)
  · -- taken
    refine wk_iconst (pc := 24) (v := (-1)) S_ d_Md_boxOf_24 (by decide) ?_
    exact hQ_ (-1) () d_Md_boxOf_25 rfl (by rw [pickY]; split; rw [hF h4]; exact zI_0.symm; exact zI_0.symm)
  · -- on
    refine wk_aload_n (pc := 7) S_ 0 d_Md_boxOf_7 rfl rfl ?_
    refine wk_iload_n (pc := 8) S_ 1 d_Md_boxOf_8 rfl rfl ?_
    refine wk_run (pc := 9) (rest := []) (wr := []) (wN := fun _ => (wMd m cI tx sz ap pt rk cd fr mc mg mz nc nt ld qap qpt qrk qcd qfr qmc qmg qmz qnc qnt qld nb cl gr sp ot na aw nx bg bb ab fd pv bx wy li fm en nu td lf lk)) S_ (wk_rV S_ (c_Md_isBottle l D cI z (m) (tx) (sz) (ap) (pt) (rk) (cd) (fr) (mc) (mg) (mz) (nc) (nt) (ld) (qap) (qpt) (qrk) (qcd) (qfr) (qmc) (qmg) (qmz) (qnc) (qnt) (qld) (nb) (cl) (gr) (sp) (ot) (na) (aw) (nx) (bg) (bb) (ab) (fd) (pv) (bx) (wy) (li) (fm) (en) (nu) (td) (lf) (lk) (b)) mv_Md_220 (wk_rcv S_ 0 6 rfl rfl rfl) rfl rfl (Nat.le_of_ble_eq_true rfl) (by rw [hR_]; decide) (by rw [hR_]; decide) d_Md_boxOf_9) [0, 1, 2, 3, 4, 5, 6, 7, 8, 9, 10, 11, 12, 13, 14, 15, 16, 17, 18, 19, 20, 21, 22, 23, 24, 25, 26, 27, 28, 29, 30, 31, 32, 33] [] [0, 1, 2, 3, 4, 5, 6, 7, 8, 9, 10, 11, 12, 13, 14, 15, 16, 17, 18, 19, 20, 21, 22, 23, 24, 25, 26, 27, 28, 29, 30, 31, 32, 33] rfl rfl rfl (by decide) (by decide) (by decide) (by decide) (fun _ => rfl) (fun _ => rfl) (fun r9 _ hw9 => ?_)
    refine wk_st (st' := [.int (r9)]) rfl ?_
    refine wk_top (y := (bI (ixI (nb) (b)))) hw9 ?_
    refine wk_if_eqB (pc := 12) (tgt := 24) S_ d_Md_boxOf_12 (by decide) (fun h12 => ?_) (fun h12 => ?_)
    · -- taken
      refine wk_iconst (pc := 24) (v := (-1)) S_ d_Md_boxOf_24 (by decide) ?_
      exact hQ_ (-1) () d_Md_boxOf_25 rfl (by rw [pickY_f h12]; exact zI_0.symm)
    · -- on
      obtain ⟨j, hj, rfl⟩ := ixI_of h12 (by omega)
      refine wk_aload_n (pc := 15) S_ 0 d_Md_boxOf_15 rfl rfl ?_
      refine wk_get (pc := 16) (v := .ref (m 30)) S_ 6 37 0 in_Md rfl (by decide) rfl fl_Md_99 d_Md_boxOf_16 rfl rfl ?_
      refine wk_iload_n (pc := 19) S_ 1 d_Md_boxOf_19 rfl rfl ?_
      refine wk_ialdY (pc := 20) (g := bx) S_ 30 0 d_Md_boxOf_20 rfl rfl (by omega) (by decide) ?_
      refine wk_goto (pc := 21) (tgt := 25) S_ d_Md_boxOf_21 (by decide) ?_
      exact hQ_ (zI ((bx) (j))) () d_Md_boxOf_25 rfl (by rw [pickY_in hj (by omega)])
set_option maxHeartbeats 4000000 in
set_option maxRecDepth 100000 in
theorem c_Md_refused (l : Launch) (D : va_G) (cI : CiT) (z : GzT) (m : Nat → Nat) (tx : (Nat → Nat)) (sz : Nat) (ap : (Nat → Bool)) (pt : (Nat → Nat)) (rk : (Nat → Nat)) (cd : (Nat → Nat)) (fr : Nat) (mc : (Nat → Nat)) (mg : (Nat → Nat)) (mz : (Nat → Nat)) (nc : (Nat → Nat)) (nt : (Nat → Nat)) (ld : (Nat → Nat)) (qap : (Nat → Bool)) (qpt : (Nat → Nat)) (qrk : (Nat → Nat)) (qcd : (Nat → Nat)) (qfr : Nat) (qmc : (Nat → Nat)) (qmg : (Nat → Nat)) (qmz : (Nat → Nat)) (qnc : (Nat → Nat)) (qnt : (Nat → Nat)) (qld : (Nat → Nat)) (nb : Nat) (cl : (Nat → Nat)) (gr : (Nat → Nat)) (sp : (Nat → Nat)) (ot : (Nat → Bool)) (na : Nat) (aw : (Nat → Nat)) (nx : Nat) (bg : (Nat → Nat)) (bb : (Nat → Nat)) (ab : (Nat → Nat)) (fd : Bool) (pv : Bool) (bx : (Nat → Nat)) (wy : (Nat → Nat)) (li : (Nat → Nat)) (fm : Nat) (en : Nat) (nu : Nat) (td : (Nat → Nat)) (lf : Int32) (lk : Int32) (k : Int32) (hna : na ≤ 8) : wk_C l D (tyK cI) (gX z) y_Md_refused b_Md_refused 2 (some .int) 0 0 0 0 [.ref (m 0), .int (k)] (wMd m cI tx sz ap pt rk cd fr mc mg mz nc nt ld qap qpt qrk qcd qfr qmc qmg qmz qnc qnt qld nb cl gr sp ot na aw nx bg bb ab fd pv bx wy li fm en nu td lf lk) wk_i (fun (r : Int32) (_ : Unit) => r = (zI (pick na aw k))) (fun _ => (wMd m cI tx sz ap pt rk cd fr mc mg mz nc nt ld qap qpt qrk qcd qfr qmc qmg qmz qnc qnt qld nb cl gr sp ot na aw nx bg bb ab fd pv bx wy li fm en nu td lf lk)) := by
  refine wk_methI (own := R_Md) [(0, .ref (m 0)), (1, .int (k))] (by decide) rfl (Nat.le_of_ble_eq_true rfl) rfl (gX_ok z) (fun p_ e_ R_ s_ m_ ar_ be_ me_ co_ Q_ A_ hR_ S_ hnm_ hQ_ => ?_)
  refine wk_iload_n (pc := 0) S_ 1 d_Md_refused_0 rfl rfl ?_
  refine wk_if_lt (pc := 1) (tgt := 21) S_ d_Md_refused_1 (by decide) (fun h1 => ?_) (fun h1 => ?_)
  · -- taken
    refine wk_iconst (pc := 21) (v := (-1)) S_ d_Md_refused_21 (by decide) ?_
    exact hQ_ (-1) () d_Md_refused_22 rfl (by rw [pick_a h1]; exact zI_0.symm)
  · -- on
    refine wk_iload_n (pc := 4) S_ 1 d_Md_refused_4 rfl rfl ?_
    refine wk_aload_n (pc := 5) S_ 0 d_Md_refused_5 rfl rfl ?_
    refine wk_get (pc := 6) (v := .int (nI (na))) S_ 6 29 0 in_Md rfl (by decide) rfl fl_Md_225 d_Md_refused_6 rfl rfl ?_
    refine wk_icmp_ge (pc := 9) (tgt := 21) S_ d_Md_refused_9 (by decide) (fun h9 => ?_) (fun h9 => ?_)
    · -- taken
      refine wk_iconst (pc := 21) (v := (-1)) S_ d_Md_refused_21 (by decide) ?_
      exact hQ_ (-1) () d_Md_refused_22 rfl (by rw [pick_b h9]; exact zI_0.symm)
    · -- on
      obtain ⟨j, hj, rfl⟩ := ix_of h1 h9 (by omega)
      refine wk_aload_n (pc := 12) S_ 0 d_Md_refused_12 rfl rfl ?_
      refine wk_get (pc := 13) (v := .ref (m 26)) S_ 6 30 0 in_Md rfl (by decide) rfl fl_Md_87 d_Md_refused_13 rfl rfl ?_
      refine wk_iload_n (pc := 16) S_ 1 d_Md_refused_16 rfl rfl ?_
      refine wk_ialdN (pc := 17) (g := aw) S_ 26 0 d_Md_refused_17 rfl rfl (by omega) (by decide) ?_
      refine wk_goto (pc := 18) (tgt := 22) S_ d_Md_refused_18 (by decide) ?_
      exact hQ_ (nI ((aw) (j))) () d_Md_refused_22 rfl (by rw [pick_in hj (by omega), zI_s])
set_option maxHeartbeats 4000000 in
set_option maxRecDepth 100000 in
theorem c_Md_note (l : Launch) (D : va_G) (cI : CiT) (z : GzT) (m : Nat → Nat) (tx : (Nat → Nat)) (sz : Nat) (ap : (Nat → Bool)) (pt : (Nat → Nat)) (rk : (Nat → Nat)) (cd : (Nat → Nat)) (fr : Nat) (mc : (Nat → Nat)) (mg : (Nat → Nat)) (mz : (Nat → Nat)) (nc : (Nat → Nat)) (nt : (Nat → Nat)) (ld : (Nat → Nat)) (qap : (Nat → Bool)) (qpt : (Nat → Nat)) (qrk : (Nat → Nat)) (qcd : (Nat → Nat)) (qfr : Nat) (qmc : (Nat → Nat)) (qmg : (Nat → Nat)) (qmz : (Nat → Nat)) (qnc : (Nat → Nat)) (qnt : (Nat → Nat)) (qld : (Nat → Nat)) (nb : Nat) (cl : (Nat → Nat)) (gr : (Nat → Nat)) (sp : (Nat → Nat)) (ot : (Nat → Bool)) (na : Nat) (aw : (Nat → Nat)) (nx : Nat) (bg : (Nat → Nat)) (bb : (Nat → Nat)) (ab : (Nat → Nat)) (fd : Bool) (pv : Bool) (bx : (Nat → Nat)) (wy : (Nat → Nat)) (li : (Nat → Nat)) (fm : Nat) (en : Nat) (nu : Nat) (td : (Nat → Nat)) (lf : Int32) (lk : Int32) (x : Int32) (i : Int32) (hnc : ∀ c, nc c ≤ 8) : wk_C l D (tyK cI) (gX z) y_Md_note b_Md_note 3 (some .int) 1 25 0 0 [.ref (m 0), .int (x), .int (i)] (wMd m cI tx sz ap pt rk cd fr mc mg mz nc nt ld qap qpt qrk qcd qfr qmc qmg qmz qnc qnt qld nb cl gr sp ot na aw nx bg bb ab fd pv bx wy li fm en nu td lf lk) wk_i (fun (r : Int32) (_ : Unit) => r = (zI (ntN nc nt x i))) (fun _ => (wMd m cI tx sz ap pt rk cd fr mc mg mz nc nt ld qap qpt qrk qcd qfr qmc qmg qmz qnc qnt qld nb cl gr sp ot na aw nx bg bb ab fd pv bx wy li fm en nu td lf lk)) := by
  refine wk_methI (own := R_Md) [(0, .ref (m 0)), (1, .int (x)), (2, .int (i))] (by decide) rfl (Nat.le_of_ble_eq_true rfl) rfl (gX_ok z) (fun p_ e_ R_ s_ m_ ar_ be_ me_ co_ Q_ A_ hR_ S_ hnm_ hQ_ => ?_)
  refine wk_iload_n (pc := 0) S_ 1 d_Md_note_0 rfl rfl ?_
  refine wk_i2l (pc := 1) S_ d_Md_note_1 rfl ?_
  refine wk_lconst (pc := 2) (v := (lN (0))) S_ d_Md_note_2 (by decide) ?_
  refine wk_ldc2 (pc := 3) (v := (lN (3))) S_ kc_Md_216 d_Md_note_3 ?_
  refine wk_run (pc := 6) (rest := []) (wr := (wMd m cI tx sz ap pt rk cd fr mc mg mz nc nt ld qap qpt qrk qcd qfr qmc qmg qmz qnc qnt qld nb cl gr sp ot na aw nx bg bb ab fd pv bx wy li fm en nu td lf lk)) (wN := fun _ => (wMd m cI tx sz ap pt rk cd fr mc mg mz nc nt ld qap qpt qrk qcd qfr qmc qmg qmz qnc qnt qld nb cl gr sp ot na aw nx bg bb ab fd pv bx wy li fm en nu td lf lk)) S_ (wk_rS S_ (c_Md_isIn l D cI z ((x).toInt64) ((lN (0))) ((lN (3)))) mv_Md_123 rfl rfl (Nat.le_of_ble_eq_true rfl) (by rw [hR_]; decide) (by rw [hR_]; decide) d_Md_note_6) [] [0, 1, 2, 3, 4, 5, 6, 7, 8, 9, 10, 11, 12, 13, 14, 15, 16, 17, 18, 19, 20, 21, 22, 23, 24, 25, 26, 27, 28, 29, 30, 31, 32, 33] [0, 1, 2, 3, 4, 5, 6, 7, 8, 9, 10, 11, 12, 13, 14, 15, 16, 17, 18, 19, 20, 21, 22, 23, 24, 25, 26, 27, 28, 29, 30, 31, 32, 33] rfl rfl rfl (by decide) (by decide) (by decide) (by decide) (fun _ => rfl) (fun _ => rfl) (fun r6 _ hw6 => ?_)
  refine wk_st (st' := [.int (r6)]) rfl ?_
  refine wk_top (y := (bI (lxI ((x).toInt64) ((lN (0))) ((lN (3)))))) hw6 ?_
  refine wk_top (y := (bI (ixI 4 x))) (congrArg bI (lx_ix (by decide))) ?_
  refine wk_if_eqB (pc := 9) (tgt := 40) S_ d_Md_note_9 (by decide) (fun h9 => ?_) (fun h9 => ?_)
  · -- taken
    refine wk_iconst (pc := 40) (v := (-1)) S_ d_Md_note_40 (by decide) ?_
    exact hQ_ (-1) () d_Md_note_41 rfl (by rw [ntN_f h9]; exact zI_0.symm)
  · -- on
    obtain ⟨L, hL, rfl⟩ := ixI_of h9 (by decide)
    refine wk_iload_n (pc := 12) S_ 2 d_Md_note_12 rfl rfl ?_
    refine wk_if_lt (pc := 13) (tgt := 40) S_ d_Md_note_13 (by decide) (fun h13 => ?_) (fun h13 => ?_)
    · -- taken
      refine wk_iconst (pc := 40) (v := (-1)) S_ d_Md_note_40 (by decide) ?_
      exact hQ_ (-1) () d_Md_note_41 rfl (by rw [ntN_in hL, pick_a h13]; exact zI_0.symm)
    · -- on
      refine wk_iload_n (pc := 16) S_ 2 d_Md_note_16 rfl rfl ?_
      refine wk_aload_n (pc := 17) S_ 0 d_Md_note_17 rfl rfl ?_
      refine wk_get (pc := 18) (v := .ref (m 9)) S_ 6 10 0 in_Md rfl (by decide) rfl fl_Md_35 d_Md_note_18 rfl rfl ?_
      refine wk_iload_n (pc := 21) S_ 1 d_Md_note_21 rfl rfl ?_
      refine wk_ialdN (pc := 22) (g := nc) S_ 9 0 d_Md_note_22 rfl rfl (by omega) (by decide) ?_
      have hn1 := hnc L
      refine wk_icmp_ge (pc := 23) (tgt := 40) S_ d_Md_note_23 (by decide) (fun h23 => ?_) (fun h23 => ?_)
      · -- taken
        refine wk_iconst (pc := 40) (v := (-1)) S_ d_Md_note_40 (by decide) ?_
        exact hQ_ (-1) () d_Md_note_41 rfl (by rw [ntN_in hL, pick_b h23]; exact zI_0.symm)
      · -- on
        obtain ⟨j, hj, rfl⟩ := ix_of h13 h23 (by omega)
        refine wk_aload_n (pc := 26) S_ 0 d_Md_note_26 rfl rfl ?_
        refine wk_get (pc := 27) (v := .ref (m 10)) S_ 6 11 0 in_Md rfl (by decide) rfl fl_Md_38 d_Md_note_27 rfl rfl ?_
        refine wk_bipush (pc := 30) (v := (nI (8))) S_ d_Md_note_30 (by decide) ?_
        refine wk_iload_n (pc := 32) S_ 1 d_Md_note_32 rfl rfl ?_
        refine wk_imulN (pc := 33) S_ d_Md_note_33 ?_
        refine wk_iload_n (pc := 34) S_ 2 d_Md_note_34 rfl rfl ?_
        refine wk_iaddN (pc := 35) S_ d_Md_note_35 ?_
        refine wk_ialdN (pc := 36) (g := nt) S_ 10 0 d_Md_note_36 rfl rfl (by omega) (by decide) ?_
        refine wk_goto (pc := 37) (tgt := 41) S_ d_Md_note_37 (by decide) ?_
        exact hQ_ (nI ((nt) (((8) * (L)) + (j)))) () d_Md_note_41 rfl (by rw [ntN_in hL, pick_in hj (by omega), zI_s])
set_option maxHeartbeats 4000000 in
set_option maxRecDepth 100000 in
theorem c_Md_mark (l : Launch) (D : va_G) (cI : CiT) (z : GzT) (m : Nat → Nat) (tx : (Nat → Nat)) (sz : Nat) (ap : (Nat → Bool)) (pt : (Nat → Nat)) (rk : (Nat → Nat)) (cd : (Nat → Nat)) (fr : Nat) (mc : (Nat → Nat)) (mg : (Nat → Nat)) (mz : (Nat → Nat)) (nc : (Nat → Nat)) (nt : (Nat → Nat)) (ld : (Nat → Nat)) (qap : (Nat → Bool)) (qpt : (Nat → Nat)) (qrk : (Nat → Nat)) (qcd : (Nat → Nat)) (qfr : Nat) (qmc : (Nat → Nat)) (qmg : (Nat → Nat)) (qmz : (Nat → Nat)) (qnc : (Nat → Nat)) (qnt : (Nat → Nat)) (qld : (Nat → Nat)) (nb : Nat) (cl : (Nat → Nat)) (gr : (Nat → Nat)) (sp : (Nat → Nat)) (ot : (Nat → Bool)) (na : Nat) (aw : (Nat → Nat)) (nx : Nat) (bg : (Nat → Nat)) (bb : (Nat → Nat)) (ab : (Nat → Nat)) (fd : Bool) (pv : Bool) (bx : (Nat → Nat)) (wy : (Nat → Nat)) (li : (Nat → Nat)) (fm : Nat) (en : Nat) (nu : Nat) (td : (Nat → Nat)) (lf : Int32) (lk : Int32) (x : Int32) (hnb : nb ≤ 8) (hgr : ∀ b, gr b ≤ 100000) (hcl : ∀ b, cl b ≤ 9) (hF : fd = false → ∀ b, bx b = 0) (hb : ∀ b, bx b ≤ 5) (hmc : ∀ c, mc c ≤ 6) (hmg : ∀ c, mg c ≤ 999999) : wk_C l D (tyK cI) (gX z) y_Md_mark b_Md_mark 6 (some .int) 2 45 0 0 [.ref (m 0), .int (x)] (wMd m cI tx sz ap pt rk cd fr mc mg mz nc nt ld qap qpt qrk qcd qfr qmc qmg qmz qnc qnt qld nb cl gr sp ot na aw nx bg bb ab fd pv bx wy li fm en nu td lf lk) wk_i (fun (r : Int32) (_ : Unit) => r = (zI (mkN mc mg mz (fun c => goN cl gr bx c nb) x))) (fun _ => (wMd m cI tx sz ap pt rk cd fr mc mg mz nc nt ld qap qpt qrk qcd qfr qmc qmg qmz qnc qnt qld nb cl gr sp ot na aw nx bg bb ab fd pv bx wy li fm en nu td lf lk)) := by
  refine wk_methI (own := R_Md) [(0, .ref (m 0)), (1, .int (x))] (by decide) rfl (Nat.le_of_ble_eq_true rfl) rfl (gX_ok z) (fun p_ e_ R_ s_ m_ ar_ be_ me_ co_ Q_ A_ hR_ S_ hnm_ hQ_ => ?_)
  refine wk_iload_n (pc := 0) S_ 1 d_Md_mark_0 rfl rfl ?_
  refine wk_i2l (pc := 1) S_ d_Md_mark_1 rfl ?_
  refine wk_lconst (pc := 2) (v := (lN (0))) S_ d_Md_mark_2 (by decide) ?_
  refine wk_ldc2 (pc := 3) (v := (lN (8))) S_ kc_Md_209 d_Md_mark_3 ?_
  refine wk_run (pc := 6) (rest := []) (wr := (wMd m cI tx sz ap pt rk cd fr mc mg mz nc nt ld qap qpt qrk qcd qfr qmc qmg qmz qnc qnt qld nb cl gr sp ot na aw nx bg bb ab fd pv bx wy li fm en nu td lf lk)) (wN := fun _ => (wMd m cI tx sz ap pt rk cd fr mc mg mz nc nt ld qap qpt qrk qcd qfr qmc qmg qmz qnc qnt qld nb cl gr sp ot na aw nx bg bb ab fd pv bx wy li fm en nu td lf lk)) S_ (wk_rS S_ (c_Md_isIn l D cI z ((x).toInt64) ((lN (0))) ((lN (8)))) mv_Md_123 rfl rfl (Nat.le_of_ble_eq_true rfl) (by rw [hR_]; decide) (by rw [hR_]; decide) d_Md_mark_6) [] [0, 1, 2, 3, 4, 5, 6, 7, 8, 9, 10, 11, 12, 13, 14, 15, 16, 17, 18, 19, 20, 21, 22, 23, 24, 25, 26, 27, 28, 29, 30, 31, 32, 33] [0, 1, 2, 3, 4, 5, 6, 7, 8, 9, 10, 11, 12, 13, 14, 15, 16, 17, 18, 19, 20, 21, 22, 23, 24, 25, 26, 27, 28, 29, 30, 31, 32, 33] rfl rfl rfl (by decide) (by decide) (by decide) (by decide) (fun _ => rfl) (fun _ => rfl) (fun r6 _ hw6 => ?_)
  refine wk_st (st' := [.int (r6)]) rfl ?_
  refine wk_top (y := (bI (lxI ((x).toInt64) ((lN (0))) ((lN (8)))))) hw6 ?_
  refine wk_top (y := (bI (ixI 9 x))) (congrArg bI (lx_ix (by decide))) ?_
  refine wk_if_neB (pc := 9) (tgt := 14) S_ d_Md_mark_9 (by decide) (fun h9 => ?_) (fun h9 => ?_)
  · -- taken
    obtain ⟨c, hc, rfl⟩ := ixI_of h9 (by decide)
    refine wk_aload_n (pc := 14) S_ 0 d_Md_mark_14 rfl rfl ?_
    refine wk_iload_n (pc := 15) S_ 1 d_Md_mark_15 rfl rfl ?_
    refine wk_run (pc := 16) (rest := []) (wr := []) (wN := fun _ => (wMd m cI tx sz ap pt rk cd fr mc mg mz nc nt ld qap qpt qrk qcd qfr qmc qmg qmz qnc qnt qld nb cl gr sp ot na aw nx bg bb ab fd pv bx wy li fm en nu td lf lk)) S_ (wk_rV S_ (c_Md_gramsOf l D cI z (m) (tx) (sz) (ap) (pt) (rk) (cd) (fr) (mc) (mg) (mz) (nc) (nt) (ld) (qap) (qpt) (qrk) (qcd) (qfr) (qmc) (qmg) (qmz) (qnc) (qnt) (qld) (nb) (cl) (gr) (sp) (ot) (na) (aw) (nx) (bg) (bb) (ab) (fd) (pv) (bx) (wy) (li) (fm) (en) (nu) (td) (lf) (lk) (c) (by omega) (by omega) hgr hcl hF hb) mv_Md_248 (wk_rcv S_ 0 6 rfl rfl rfl) rfl rfl (Nat.le_of_ble_eq_true rfl) (by rw [hR_]; decide) (by rw [hR_]; decide) d_Md_mark_16) [0, 1, 2, 3, 4, 5, 6, 7, 8, 9, 10, 11, 12, 13, 14, 15, 16, 17, 18, 19, 20, 21, 22, 23, 24, 25, 26, 27, 28, 29, 30, 31, 32, 33] [] [0, 1, 2, 3, 4, 5, 6, 7, 8, 9, 10, 11, 12, 13, 14, 15, 16, 17, 18, 19, 20, 21, 22, 23, 24, 25, 26, 27, 28, 29, 30, 31, 32, 33] rfl rfl rfl (by decide) (by decide) (by decide) (by decide) (fun _ => rfl) (fun _ => rfl) (fun r16 _ hw16 => ?_)
    refine wk_st (st' := [.long (r16)]) rfl ?_
    refine wk_topl (y := (lN (goN (cl) (gr) (bx) (c) (nb)))) hw16 ?_
    have hg1 := goN_le (cl := cl) (bx := bx) (c := c) hgr nb
    have hm1 := hmc c
    refine wk_lstore_n (pc := 19) (lv' := [(2, .long (lN (goN (cl) (gr) (bx) (c) (nb)))), (0, .ref (m 0)), (1, .int (nI (c)))]) S_ d_Md_mark_19 rfl (by decide) rfl ?_
    refine wk_iconst (pc := 20) (v := (nI (0))) S_ d_Md_mark_20 (by decide) ?_
    refine wk_istore (pc := 21) (lv' := [(4, .int (nI (0))), (2, .long (lN (goN (cl) (gr) (bx) (c) (nb)))), (0, .ref (m 0)), (1, .int (nI (c)))]) S_ d_Md_mark_21 (by decide) rfl ?_
    refine wk_iconst (pc := 23) (v := (nI (0))) S_ d_Md_mark_23 (by decide) ?_
    refine wk_istore (pc := 24) (lv' := [(5, .int (nI (0))), (4, .int (nI (0))), (2, .long (lN (goN (cl) (gr) (bx) (c) (nb)))), (0, .ref (m 0)), (1, .int (nI (c)))]) S_ d_Md_mark_24 (by decide) rfl ?_
    have hL26 : ∀ (fuel26 : Nat), ∀ (k : Nat), mc c - k < fuel26 → (k ≤ mc c) → (goN cl gr bx c nb = 0 → k = 0) → wk_G p_ l e_ R_ s_ m_ ar_ be_ me_ co_ Q_ D A_ 6 0 0 (wMd m cI tx sz ap pt rk cd fr mc mg mz nc nt ld qap qpt qrk qcd qfr qmc qmg qmz qnc qnt qld nb cl gr sp ot na aw nx bg bb ab fd pv bx wy li fm en nu td lf lk) 26 [(0, .ref (m 0)), (1, .int (nI (c))), (2, .long (lN (goN (cl) (gr) (bx) (c) (nb)))), (4, .int (nI (mkS mg mz c (goN cl gr bx c nb) k))), (5, .int (nI (k)))] [] := by
      intro fuel26
      induction fuel26 with
      | zero => intro k hm; exact absurd hm (Nat.not_lt_zero _)
      | succ fuel26 ih26 =>
        intro k hm hk hz
        refine wk_iload (pc := 26) S_ 4 d_Md_mark_26 rfl ?_
        refine wk_aload_n (pc := 28) S_ 0 d_Md_mark_28 rfl rfl ?_
        refine wk_get (pc := 29) (v := .ref (m 6)) S_ 6 7 0 in_Md rfl (by decide) rfl fl_Md_26 d_Md_mark_29 rfl rfl ?_
        refine wk_iload_n (pc := 32) S_ 1 d_Md_mark_32 rfl rfl ?_
        refine wk_ialdN (pc := 33) (g := mc) S_ 6 0 d_Md_mark_33 rfl rfl (by omega) (by decide) ?_
        refine wk_icmp_geN (pc := 34) (tgt := 86) S_ d_Md_mark_34 (by decide) (by omega) (by omega) (fun h34 => ?_) (fun h34 => ?_)
        · -- taken
          refine wk_iload (pc := 86) S_ 3 d_Md_mark_86 rfl ?_
          exact hQ_ (nI (mkS mg mz c (goN cl gr bx c nb) k)) () d_Md_mark_88 rfl (by rw [mkN, pick_in hc (by decide), zI_s, show k = mc c by omega]; split; rfl; rw [show mc c = 0 by omega]; rfl)
        · -- on
          refine wk_lload_n (pc := 37) S_ 2 d_Md_mark_37 rfl rfl ?_
          refine wk_lconst (pc := 38) (v := (lN (0))) S_ d_Md_mark_38 (by decide) ?_
          refine wk_lcmp (pc := 39) S_ d_Md_mark_39 ?_
          refine wk_cmp_leN (pc := 40) (tgt := 86) S_ d_Md_mark_40 (by decide) (by omega) (by omega) (fun h40 => ?_) (fun h40 => ?_)
          · -- taken
            refine wk_iload (pc := 86) S_ 3 d_Md_mark_86 rfl ?_
            exact hQ_ (nI (mkS mg mz c (goN cl gr bx c nb) k)) () d_Md_mark_88 rfl (by rw [mkN, pick_in hc (by decide), zI_s, if_neg (by omega), show k = 0 from hz (by omega)]; rfl)
          · -- on
            refine wk_lload_n (pc := 43) S_ 2 d_Md_mark_43 rfl rfl ?_
            refine wk_aload_n (pc := 44) S_ 0 d_Md_mark_44 rfl rfl ?_
            refine wk_get (pc := 45) (v := .ref (m 7)) S_ 6 8 0 in_Md rfl (by decide) rfl fl_Md_29 d_Md_mark_45 rfl rfl ?_
            refine wk_bipush (pc := 48) (v := (nI (6))) S_ d_Md_mark_48 (by decide) ?_
            refine wk_iload_n (pc := 50) S_ 1 d_Md_mark_50 rfl rfl ?_
            refine wk_imulN (pc := 51) S_ d_Md_mark_51 ?_
            refine wk_iload (pc := 52) S_ 4 d_Md_mark_52 rfl ?_
            refine wk_iaddN (pc := 54) S_ d_Md_mark_54 ?_
            refine wk_ialdN (pc := 55) (g := mg) S_ 7 0 d_Md_mark_55 rfl rfl (by omega) (by decide) ?_
            have hm2 := hmg (6 * c + k)
            refine wk_i2lN (pc := 56) S_ d_Md_mark_56 (by omega) ?_
            refine wk_lcmp (pc := 57) S_ d_Md_mark_57 ?_
            refine wk_cmp_ltN (pc := 58) (tgt := 76) S_ d_Md_mark_58 (by decide) (by omega) (by omega) (fun h58 => ?_) (fun h58 => ?_)
            · -- taken
              refine wk_iload (pc := 76) S_ 3 d_Md_mark_76 rfl ?_
              refine wk_top (y := (nI (mkS mg mz c (goN cl gr bx c nb) (k + 1)))) (congrArg nI (by rw [mkS, if_neg (by omega)])) ?_
              refine wk_istore (pc := 78) (lv' := [(4, .int (nI (mkS mg mz c (goN cl gr bx c nb) (k + 1)))), (0, .ref (m 0)), (1, .int (nI (c))), (2, .long (lN (goN (cl) (gr) (bx) (c) (nb)))), (5, .int (nI (k)))]) S_ d_Md_mark_78 (by decide) rfl ?_
              refine wk_iincN (pc := 80) (d := 1) (lv' := [(5, .int (nI (k + 1))), (4, .int (nI (mkS mg mz c (goN cl gr bx c nb) (k + 1)))), (0, .ref (m 0)), (1, .int (nI (c))), (2, .long (lN (goN (cl) (gr) (bx) (c) (nb))))]) S_ 4 d_Md_mark_80 (by decide) rfl (by decide) rfl ?_
              refine wk_goto (pc := 83) (tgt := 26) S_ d_Md_mark_83 (by decide) ?_
              refine wk_lv [2, 3, 4, 1, 0] ?_ (ih26 (k + 1) (by omega) (by omega) (by omega))
              rfl
            · -- on
              refine wk_aload_n (pc := 61) S_ 0 d_Md_mark_61 rfl rfl ?_
              refine wk_get (pc := 62) (v := .ref (m 8)) S_ 6 9 0 in_Md rfl (by decide) rfl fl_Md_32 d_Md_mark_62 rfl rfl ?_
              refine wk_bipush (pc := 65) (v := (nI (6))) S_ d_Md_mark_65 (by decide) ?_
              refine wk_iload_n (pc := 67) S_ 1 d_Md_mark_67 rfl rfl ?_
              refine wk_imulN (pc := 68) S_ d_Md_mark_68 ?_
              refine wk_iload (pc := 69) S_ 4 d_Md_mark_69 rfl ?_
              refine wk_iaddN (pc := 71) S_ d_Md_mark_71 ?_
              refine wk_ialdN (pc := 72) (g := mz) S_ 8 0 d_Md_mark_72 rfl rfl (by omega) (by decide) ?_
              refine wk_goto (pc := 73) (tgt := 78) S_ d_Md_mark_73 (by decide) ?_
              refine wk_top (y := (nI (mkS mg mz c (goN cl gr bx c nb) (k + 1)))) (congrArg nI (by rw [mkS, if_pos (by omega)])) ?_
              refine wk_istore (pc := 78) (lv' := [(4, .int (nI (mkS mg mz c (goN cl gr bx c nb) (k + 1)))), (0, .ref (m 0)), (1, .int (nI (c))), (2, .long (lN (goN (cl) (gr) (bx) (c) (nb)))), (5, .int (nI (k)))]) S_ d_Md_mark_78 (by decide) rfl ?_
              refine wk_iincN (pc := 80) (d := 1) (lv' := [(5, .int (nI (k + 1))), (4, .int (nI (mkS mg mz c (goN cl gr bx c nb) (k + 1)))), (0, .ref (m 0)), (1, .int (nI (c))), (2, .long (lN (goN (cl) (gr) (bx) (c) (nb))))]) S_ 4 d_Md_mark_80 (by decide) rfl (by decide) rfl ?_
              refine wk_goto (pc := 83) (tgt := 26) S_ d_Md_mark_83 (by decide) ?_
              refine wk_lv [2, 3, 4, 1, 0] ?_ (ih26 (k + 1) (by omega) (by omega) (by omega))
              rfl
    refine wk_lv [3, 4, 2, 1, 0] ?_ (hL26 _ (0) (Nat.lt_succ_self _) (by omega) (by omega))
    rfl
  · -- on
    refine wk_iconst (pc := 12) (v := (-1)) S_ d_Md_mark_12 (by decide) ?_
    exact hQ_ (-1) () d_Md_mark_13 rfl (by rw [mkN, pick, h9]; exact zI_0.symm)
set_option maxHeartbeats 4000000 in
set_option maxRecDepth 100000 in
theorem c_Md_tunnel (l : Launch) (D : va_G) (cI : CiT) (z : GzT) (m : Nat → Nat) (tx : (Nat → Nat)) (sz : Nat) (ap : (Nat → Bool)) (pt : (Nat → Nat)) (rk : (Nat → Nat)) (cd : (Nat → Nat)) (fr : Nat) (mc : (Nat → Nat)) (mg : (Nat → Nat)) (mz : (Nat → Nat)) (nc : (Nat → Nat)) (nt : (Nat → Nat)) (ld : (Nat → Nat)) (qap : (Nat → Bool)) (qpt : (Nat → Nat)) (qrk : (Nat → Nat)) (qcd : (Nat → Nat)) (qfr : Nat) (qmc : (Nat → Nat)) (qmg : (Nat → Nat)) (qmz : (Nat → Nat)) (qnc : (Nat → Nat)) (qnt : (Nat → Nat)) (qld : (Nat → Nat)) (nb : Nat) (cl : (Nat → Nat)) (gr : (Nat → Nat)) (sp : (Nat → Nat)) (ot : (Nat → Bool)) (na : Nat) (aw : (Nat → Nat)) (nx : Nat) (bg : (Nat → Nat)) (bb : (Nat → Nat)) (ab : (Nat → Nat)) (fd : Bool) (pv : Bool) (bx : (Nat → Nat)) (wy : (Nat → Nat)) (li : (Nat → Nat)) (fm : Nat) (en : Nat) (nu : Nat) (td : (Nat → Nat)) (lf : Int32) (lk : Int32) (hnb : nb ≤ 8) (hgr : ∀ b, gr b ≤ 100000) (hcl : ∀ b, cl b ≤ 9) (hF : fd = false → ∀ b, bx b = 0) (hb : ∀ b, bx b ≤ 5) (hpt : ∀ c, pt c ≤ 1000) (hfr : fr ≤ 999999) (hcd : ∀ c, cd c ≤ 5) : wk_C l D (tyK cI) (gX z) y_Md_tunnel b_Md_tunnel 3 (some .int) 5 109 0 0 [.ref (m 0)] (wMd m cI tx sz ap pt rk cd fr mc mg mz nc nt ld qap qpt qrk qcd qfr qmc qmg qmz qnc qnt qld nb cl gr sp ot na aw nx bg bb ab fd pv bx wy li fm en nu td lf lk) wk_i (fun (r : Int32) (_ : Unit) => r = (nI (if ptN pt (fun c => goN cl gr bx c nb) 9 ≤ fr then 0 else tnS cd (fun c => goN cl gr bx c nb) 9))) (fun _ => (wMd m cI tx sz ap pt rk cd fr mc mg mz nc nt ld qap qpt qrk qcd qfr qmc qmg qmz qnc qnt qld nb cl gr sp ot na aw nx bg bb ab fd pv bx wy li fm en nu td lf lk)) := by
  refine wk_methI (own := R_Md) [(0, .ref (m 0))] (by decide) rfl (Nat.le_of_ble_eq_true rfl) rfl (gX_ok z) (fun p_ e_ R_ s_ m_ ar_ be_ me_ co_ Q_ A_ hR_ S_ hnm_ hQ_ => ?_)
  refine wk_iconst (pc := 0) (v := (nI (0))) S_ d_Md_tunnel_0 (by decide) ?_
  refine wk_istore_n (pc := 1) (lv' := [(1, .int (nI (0))), (0, .ref (m 0))]) S_ d_Md_tunnel_1 rfl (by decide) rfl ?_
  refine wk_iconst (pc := 2) (v := (nI (0))) S_ d_Md_tunnel_2 (by decide) ?_
  refine wk_istore_n (pc := 3) (lv' := [(2, .int (nI (0))), (1, .int (nI (0))), (0, .ref (m 0))]) S_ d_Md_tunnel_3 rfl (by decide) rfl ?_
  have hL4 : ∀ (fuel4 : Nat), ∀ (k : Nat), 9 - k < fuel4 → (k ≤ 9) → (ptN pt (fun c => goN cl gr bx c nb) 9 ≤ fr → k = 0) → wk_G p_ l e_ R_ s_ m_ ar_ be_ me_ co_ Q_ D A_ 3 0 0 (wMd m cI tx sz ap pt rk cd fr mc mg mz nc nt ld qap qpt qrk qcd qfr qmc qmg qmz qnc qnt qld nb cl gr sp ot na aw nx bg bb ab fd pv bx wy li fm en nu td lf lk) 4 [(0, .ref (m 0)), (1, .int (nI (tnS cd (fun c => goN cl gr bx c nb) k))), (2, .int (nI (k)))] [] := by
    intro fuel4
    induction fuel4 with
    | zero => intro k hm; exact absurd hm (Nat.not_lt_zero _)
    | succ fuel4 ih4 =>
      intro k hm hk hz
      refine wk_iload_n (pc := 4) S_ 2 d_Md_tunnel_4 rfl rfl ?_
      refine wk_bipush (pc := 5) (v := (nI (9))) S_ d_Md_tunnel_5 (by decide) ?_
      refine wk_icmp_geN (pc := 7) (tgt := 54) S_ d_Md_tunnel_7 (by decide) (by omega) (by omega) (fun h7 => ?_) (fun h7 => ?_)
      · -- taken
        refine wk_iload_n (pc := 54) S_ 1 d_Md_tunnel_54 rfl rfl ?_
        exact hQ_ (nI (tnS cd (fun c => goN cl gr bx c nb) k)) () d_Md_tunnel_55 rfl (by rw [if_neg (fun z => absurd (hz z) (by omega)), show k = 9 by omega])
      · -- on
        refine wk_aload_n (pc := 10) S_ 0 d_Md_tunnel_10 rfl rfl ?_
        refine wk_run (pc := 11) (rest := []) (wr := []) (wN := fun _ => (wMd m cI tx sz ap pt rk cd fr mc mg mz nc nt ld qap qpt qrk qcd qfr qmc qmg qmz qnc qnt qld nb cl gr sp ot na aw nx bg bb ab fd pv bx wy li fm en nu td lf lk)) S_ (wk_rV S_ (c_Md_exempt l D cI z (m) (tx) (sz) (ap) (pt) (rk) (cd) (fr) (mc) (mg) (mz) (nc) (nt) (ld) (qap) (qpt) (qrk) (qcd) (qfr) (qmc) (qmg) (qmz) (qnc) (qnt) (qld) (nb) (cl) (gr) (sp) (ot) (na) (aw) (nx) (bg) (bb) (ab) (fd) (pv) (bx) (wy) (li) (fm) (en) (nu) (td) (lf) (lk) (by omega) hgr hcl hF hb hpt (by omega)) mv_Md_286 (wk_rcv S_ 0 6 rfl rfl rfl) rfl rfl (Nat.le_of_ble_eq_true rfl) (by rw [hR_]; decide) (by rw [hR_]; decide) d_Md_tunnel_11) [0, 1, 2, 3, 4, 5, 6, 7, 8, 9, 10, 11, 12, 13, 14, 15, 16, 17, 18, 19, 20, 21, 22, 23, 24, 25, 26, 27, 28, 29, 30, 31, 32, 33] [] [0, 1, 2, 3, 4, 5, 6, 7, 8, 9, 10, 11, 12, 13, 14, 15, 16, 17, 18, 19, 20, 21, 22, 23, 24, 25, 26, 27, 28, 29, 30, 31, 32, 33] rfl rfl rfl (by decide) (by decide) (by decide) (by decide) (fun _ => rfl) (fun _ => rfl) (fun r11 _ hw11 => ?_)
        refine wk_st (st' := [.int (r11)]) rfl ?_
        refine wk_top (y := (bI (decide (ptN (pt) (fun c => goN (cl) (gr) (bx) c (nb)) 9 ≤ (fr))))) hw11 ?_
        refine wk_if_neB (pc := 14) (tgt := 54) S_ d_Md_tunnel_14 (by decide) (fun h14 => ?_) (fun h14 => ?_)
        · -- taken
          refine wk_iload_n (pc := 54) S_ 1 d_Md_tunnel_54 rfl rfl ?_
          exact hQ_ (nI (tnS cd (fun c => goN cl gr bx c nb) k)) () d_Md_tunnel_55 rfl (by simp at h14; rw [if_pos h14, hz h14]; rfl)
        · -- on
          simp at h14
          refine wk_aload_n (pc := 17) S_ 0 d_Md_tunnel_17 rfl rfl ?_
          refine wk_iload_n (pc := 18) S_ 2 d_Md_tunnel_18 rfl rfl ?_
          refine wk_run (pc := 19) (rest := []) (wr := []) (wN := fun _ => (wMd m cI tx sz ap pt rk cd fr mc mg mz nc nt ld qap qpt qrk qcd qfr qmc qmg qmz qnc qnt qld nb cl gr sp ot na aw nx bg bb ab fd pv bx wy li fm en nu td lf lk)) S_ (wk_rV S_ (c_Md_gramsOf l D cI z (m) (tx) (sz) (ap) (pt) (rk) (cd) (fr) (mc) (mg) (mz) (nc) (nt) (ld) (qap) (qpt) (qrk) (qcd) (qfr) (qmc) (qmg) (qmz) (qnc) (qnt) (qld) (nb) (cl) (gr) (sp) (ot) (na) (aw) (nx) (bg) (bb) (ab) (fd) (pv) (bx) (wy) (li) (fm) (en) (nu) (td) (lf) (lk) (k) (by omega) (by omega) hgr hcl hF hb) mv_Md_248 (wk_rcv S_ 0 6 rfl rfl rfl) rfl rfl (Nat.le_of_ble_eq_true rfl) (by rw [hR_]; decide) (by rw [hR_]; decide) d_Md_tunnel_19) [0, 1, 2, 3, 4, 5, 6, 7, 8, 9, 10, 11, 12, 13, 14, 15, 16, 17, 18, 19, 20, 21, 22, 23, 24, 25, 26, 27, 28, 29, 30, 31, 32, 33] [] [0, 1, 2, 3, 4, 5, 6, 7, 8, 9, 10, 11, 12, 13, 14, 15, 16, 17, 18, 19, 20, 21, 22, 23, 24, 25, 26, 27, 28, 29, 30, 31, 32, 33] rfl rfl rfl (by decide) (by decide) (by decide) (by decide) (fun _ => rfl) (fun _ => rfl) (fun r19 _ hw19 => ?_)
          refine wk_st (st' := [.long (r19)]) rfl ?_
          refine wk_topl (y := (lN (goN (cl) (gr) (bx) (k) (nb)))) hw19 ?_
          have hg1 := goN_le (cl := cl) (bx := bx) (c := k) hgr nb
          have hc1 := hcd k
          have ht1 := tnS_le (go := fun c => goN cl gr bx c nb) hcd k
          refine wk_lconst (pc := 22) (v := (lN (0))) S_ d_Md_tunnel_22 (by decide) ?_
          refine wk_lcmp (pc := 23) S_ d_Md_tunnel_23 ?_
          refine wk_cmp_leN (pc := 24) (tgt := 46) S_ d_Md_tunnel_24 (by decide) (by omega) (by omega) (fun h24 => ?_) (fun h24 => ?_)
          · -- taken
            refine wk_iload_n (pc := 46) S_ 1 d_Md_tunnel_46 rfl rfl ?_
            refine wk_top (y := (nI (tnS cd (fun c => goN cl gr bx c nb) (k + 1)))) (congrArg nI (by rw [tnS, if_neg (by omega)])) ?_
            refine wk_istore_n (pc := 47) (lv' := [(1, .int (nI (tnS cd (fun c => goN cl gr bx c nb) (k + 1)))), (0, .ref (m 0)), (2, .int (nI (k)))]) S_ d_Md_tunnel_47 rfl (by decide) rfl ?_
            refine wk_iincN (pc := 48) (d := 1) (lv' := [(2, .int (nI (k + 1))), (1, .int (nI (tnS cd (fun c => goN cl gr bx c nb) (k + 1)))), (0, .ref (m 0))]) S_ 2 d_Md_tunnel_48 (by decide) rfl (by decide) rfl ?_
            refine wk_goto (pc := 51) (tgt := 4) S_ d_Md_tunnel_51 (by decide) ?_
            refine wk_lv [2, 1, 0] ?_ (ih4 (k + 1) (by omega) (by omega) (by omega))
            rfl
          · -- on
            refine wk_aload_n (pc := 27) S_ 0 d_Md_tunnel_27 rfl rfl ?_
            refine wk_get (pc := 28) (v := .ref (m 5)) S_ 6 5 0 in_Md rfl (by decide) rfl fl_Md_23 d_Md_tunnel_28 rfl rfl ?_
            refine wk_iload_n (pc := 31) S_ 2 d_Md_tunnel_31 rfl rfl ?_
            refine wk_ialdN (pc := 32) (g := cd) S_ 5 0 d_Md_tunnel_32 rfl rfl (by omega) (by decide) ?_
            refine wk_iload_n (pc := 33) S_ 1 d_Md_tunnel_33 rfl rfl ?_
            refine wk_icmp_leN (pc := 34) (tgt := 46) S_ d_Md_tunnel_34 (by decide) (by omega) (by omega) (fun h34 => ?_) (fun h34 => ?_)
            · -- taken
              refine wk_iload_n (pc := 46) S_ 1 d_Md_tunnel_46 rfl rfl ?_
              refine wk_top (y := (nI (tnS cd (fun c => goN cl gr bx c nb) (k + 1)))) (congrArg nI (by rw [tnS, if_neg (by omega)])) ?_
              refine wk_istore_n (pc := 47) (lv' := [(1, .int (nI (tnS cd (fun c => goN cl gr bx c nb) (k + 1)))), (0, .ref (m 0)), (2, .int (nI (k)))]) S_ d_Md_tunnel_47 rfl (by decide) rfl ?_
              refine wk_iincN (pc := 48) (d := 1) (lv' := [(2, .int (nI (k + 1))), (1, .int (nI (tnS cd (fun c => goN cl gr bx c nb) (k + 1)))), (0, .ref (m 0))]) S_ 2 d_Md_tunnel_48 (by decide) rfl (by decide) rfl ?_
              refine wk_goto (pc := 51) (tgt := 4) S_ d_Md_tunnel_51 (by decide) ?_
              refine wk_lv [2, 1, 0] ?_ (ih4 (k + 1) (by omega) (by omega) (by omega))
              rfl
            · -- on
              refine wk_aload_n (pc := 37) S_ 0 d_Md_tunnel_37 rfl rfl ?_
              refine wk_get (pc := 38) (v := .ref (m 5)) S_ 6 5 0 in_Md rfl (by decide) rfl fl_Md_23 d_Md_tunnel_38 rfl rfl ?_
              refine wk_iload_n (pc := 41) S_ 2 d_Md_tunnel_41 rfl rfl ?_
              refine wk_ialdN (pc := 42) (g := cd) S_ 5 0 d_Md_tunnel_42 rfl rfl (by omega) (by decide) ?_
              refine wk_goto (pc := 43) (tgt := 47) S_ d_Md_tunnel_43 (by decide) ?_
              refine wk_top (y := (nI (tnS cd (fun c => goN cl gr bx c nb) (k + 1)))) (congrArg nI (by rw [tnS, if_pos (by omega)])) ?_
              refine wk_istore_n (pc := 47) (lv' := [(1, .int (nI (tnS cd (fun c => goN cl gr bx c nb) (k + 1)))), (0, .ref (m 0)), (2, .int (nI (k)))]) S_ d_Md_tunnel_47 rfl (by decide) rfl ?_
              refine wk_iincN (pc := 48) (d := 1) (lv' := [(2, .int (nI (k + 1))), (1, .int (nI (tnS cd (fun c => goN cl gr bx c nb) (k + 1)))), (0, .ref (m 0))]) S_ 2 d_Md_tunnel_48 (by decide) rfl (by decide) rfl ?_
              refine wk_goto (pc := 51) (tgt := 4) S_ d_Md_tunnel_51 (by decide) ?_
              refine wk_lv [2, 1, 0] ?_ (ih4 (k + 1) (by omega) (by omega) (by omega))
              rfl
  refine wk_lv [2, 1, 0] ?_ (hL4 _ (0) (Nat.lt_succ_self _) (by omega) (by omega))
  rfl
set_option maxHeartbeats 4000000 in
set_option maxRecDepth 100000 in
theorem c_Md_put (l : Launch) (D : va_G) (cI : CiT) (z : GzT) (m : Nat → Nat) (tx : (Nat → Nat)) (sz : Nat) (ap : (Nat → Bool)) (pt : (Nat → Nat)) (rk : (Nat → Nat)) (cd : (Nat → Nat)) (fr : Nat) (mc : (Nat → Nat)) (mg : (Nat → Nat)) (mz : (Nat → Nat)) (nc : (Nat → Nat)) (nt : (Nat → Nat)) (ld : (Nat → Nat)) (qap : (Nat → Bool)) (qpt : (Nat → Nat)) (qrk : (Nat → Nat)) (qcd : (Nat → Nat)) (qfr : Nat) (qmc : (Nat → Nat)) (qmg : (Nat → Nat)) (qmz : (Nat → Nat)) (qnc : (Nat → Nat)) (qnt : (Nat → Nat)) (qld : (Nat → Nat)) (nb : Nat) (cl : (Nat → Nat)) (gr : (Nat → Nat)) (sp : (Nat → Nat)) (ot : (Nat → Bool)) (na : Nat) (aw : (Nat → Nat)) (nx : Nat) (bg : (Nat → Nat)) (bb : (Nat → Nat)) (ab : (Nat → Nat)) (fd : Bool) (pv : Bool) (bx : (Nat → Nat)) (wy : (Nat → Nat)) (li : (Nat → Nat)) (fm : Nat) (en : Nat) (nu : Nat) (td : (Nat → Nat)) (lf : Int32) (lk : Int32) (x : Int32) : wk_C l D (tyK cI) (gX z) y_Md_put b_Md_put 2 none 0 0 0 0 [.ref (m 0), .int (x)] (wMd m cI tx sz ap pt rk cd fr mc mg mz nc nt ld qap qpt qrk qcd qfr qmc qmg qmz qnc qnt qld nb cl gr sp ot na aw nx bg bb ab fd pv bx wy li fm en nu td lf lk) wk_v (fun (_ : Unit) (_ : Unit) => True) (fun _ => (wMd m cI tx sz ap pt rk cd fr mc mg mz nc nt ld qap qpt qrk qcd qfr qmc qmg qmz qnc qnt qld nb cl gr sp ot na aw nx bg bb ab fd pv bx wy li fm en nu td (lf - 1) (if lf = 0 then x else lk))) := by
  refine wk_methV (own := R_Md) [(0, .ref (m 0)), (1, .int (x))] (by decide) rfl (Nat.le_of_ble_eq_true rfl) rfl (gX_ok z) (fun p_ e_ R_ s_ m_ ar_ be_ me_ co_ Q_ A_ hR_ S_ hnm_ hQ_ => ?_)
  refine wk_aload_n (pc := 0) S_ 0 d_Md_put_0 rfl rfl ?_
  refine wk_aload_n (pc := 1) S_ 0 d_Md_put_1 rfl rfl ?_
  refine wk_get (pc := 2) (v := .int (lf)) S_ 6 44 0 in_Md rfl (by decide) rfl fl_Md_268 d_Md_put_2 rfl rfl ?_
  refine wk_if_ne (pc := 5) (tgt := 12) S_ d_Md_put_5 (by decide) (fun h5 => ?_) (fun h5 => ?_)
  · -- taken
    refine wk_aload_n (pc := 12) S_ 0 d_Md_put_12 rfl rfl ?_
    refine wk_get (pc := 13) (v := .int (lk)) S_ 6 45 0 in_Md rfl (by decide) rfl fl_Md_271 d_Md_put_13 rfl rfl ?_
    refine wk_put (pc := 16) (ty := .int) (ws' := (wMd m cI tx sz ap pt rk cd fr mc mg mz nc nt ld qap qpt qrk qcd qfr qmc qmg qmz qnc qnt qld nb cl gr sp ot na aw nx bg bb ab fd pv bx wy li fm en nu td lf ((lk)))) S_ 6 45 0 in_Md t_Md t_Md_ok n_Md rfl (by decide) rfl fl_Md_271 (by decide +kernel) d_Md_put_16 rfl rfl rfl (Nat.le_of_ble_eq_true rfl) rfl ?_
    refine wk_aload_n (pc := 19) S_ 0 d_Md_put_19 rfl rfl ?_
    refine wk_dup (pc := 20) S_ d_Md_put_20 rfl ?_
    refine wk_get (pc := 21) (v := .int (lf)) S_ 6 44 0 in_Md rfl (by decide) rfl fl_Md_268 d_Md_put_21 rfl rfl ?_
    refine wk_iconst (pc := 24) (v := (nI (1))) S_ d_Md_put_24 (by decide) ?_
    refine wk_isub (pc := 25) S_ d_Md_put_25 ?_
    refine wk_top (y := ((lf) - 1)) rfl ?_
    refine wk_put (pc := 26) (ty := .int) (ws' := (wMd m cI tx sz ap pt rk cd fr mc mg mz nc nt ld qap qpt qrk qcd qfr qmc qmg qmz qnc qnt qld nb cl gr sp ot na aw nx bg bb ab fd pv bx wy li fm en nu td (((lf) - 1)) ((lk)))) S_ 6 44 0 in_Md t_Md t_Md_ok n_Md rfl (by decide) rfl fl_Md_268 (by decide +kernel) d_Md_put_26 rfl rfl rfl (Nat.le_of_ble_eq_true rfl) rfl ?_
    exact hQ_ () d_Md_put_29 (by rw [if_neg h5]) trivial
  · -- on
    refine wk_iload_n (pc := 8) S_ 1 d_Md_put_8 rfl rfl ?_
    refine wk_goto (pc := 9) (tgt := 16) S_ d_Md_put_9 (by decide) ?_
    refine wk_put (pc := 16) (ty := .int) (ws' := (wMd m cI tx sz ap pt rk cd fr mc mg mz nc nt ld qap qpt qrk qcd qfr qmc qmg qmz qnc qnt qld nb cl gr sp ot na aw nx bg bb ab fd pv bx wy li fm en nu td lf ((x)))) S_ 6 45 0 in_Md t_Md t_Md_ok n_Md rfl (by decide) rfl fl_Md_271 (by decide +kernel) d_Md_put_16 rfl rfl rfl (Nat.le_of_ble_eq_true rfl) rfl ?_
    refine wk_aload_n (pc := 19) S_ 0 d_Md_put_19 rfl rfl ?_
    refine wk_dup (pc := 20) S_ d_Md_put_20 rfl ?_
    refine wk_get (pc := 21) (v := .int (lf)) S_ 6 44 0 in_Md rfl (by decide) rfl fl_Md_268 d_Md_put_21 rfl rfl ?_
    refine wk_iconst (pc := 24) (v := (nI (1))) S_ d_Md_put_24 (by decide) ?_
    refine wk_isub (pc := 25) S_ d_Md_put_25 ?_
    refine wk_top (y := ((lf) - 1)) rfl ?_
    refine wk_put (pc := 26) (ty := .int) (ws' := (wMd m cI tx sz ap pt rk cd fr mc mg mz nc nt ld qap qpt qrk qcd qfr qmc qmg qmz qnc qnt qld nb cl gr sp ot na aw nx bg bb ab fd pv bx wy li fm en nu td (((lf) - 1)) ((x)))) S_ 6 44 0 in_Md t_Md t_Md_ok n_Md rfl (by decide) rfl fl_Md_268 (by decide +kernel) d_Md_put_26 rfl rfl rfl (Nat.le_of_ble_eq_true rfl) rfl ?_
    exact hQ_ () d_Md_put_29 (by rw [if_pos h5]) trivial
end
section
theorem kc_Md_121 : Cond.constantLong R_Md 121 (lN 255) ∈ lw_gd := (gd _ (tb3 _ (List.mem_of_getElem? (i := 48) rfl)) rfl)
theorem fl_Md_127 : Cond.fieldLink R_Md 127 R_Md "size" "I" ∈ lw_gd := (gd _ (tb2 _ (List.mem_of_getElem? (i := 145) rfl)) rfl)
theorem fl_Md_7 : Cond.fieldLink R_Md 7 R_Md "text" "[I" ∈ lw_gd := (gd _ (tb2 _ (List.mem_of_getElem? (i := 144) rfl)) rfl)
theorem d_Md_unit_0 : decode b_Md_unit 0 = .ok (.iload_n 1, 1) := by decide +kernel
theorem d_Md_unit_1 : decode b_Md_unit 1 = .ok (.i2l, 1) := by decide +kernel
theorem d_Md_unit_2 : decode b_Md_unit 2 = .ok (.lconst 0, 1) := by decide +kernel
theorem d_Md_unit_3 : decode b_Md_unit 3 = .ok (.ldc2_w 121, 3) := by decide +kernel
theorem d_Md_unit_6 : decode b_Md_unit 6 = .ok (.invokestatic 123, 3) := by decide +kernel
theorem d_Md_unit_9 : decode b_Md_unit 9 = .ok (.ifCond .eq 13, 3) := by decide +kernel
theorem d_Md_unit_12 : decode b_Md_unit 12 = .ok (.aload_n 0, 1) := by decide +kernel
theorem d_Md_unit_13 : decode b_Md_unit 13 = .ok (.getfield 127, 3) := by decide +kernel
theorem d_Md_unit_16 : decode b_Md_unit 16 = .ok (.sipush 1500, 3) := by decide +kernel
theorem d_Md_unit_19 : decode b_Md_unit 19 = .ok (.if_icmp .ne 5, 3) := by decide +kernel
theorem d_Md_unit_22 : decode b_Md_unit 22 = .ok (.iconst 0, 1) := by decide +kernel
theorem d_Md_unit_23 : decode b_Md_unit 23 = .ok (.ireturn, 1) := by decide +kernel
theorem d_Md_unit_24 : decode b_Md_unit 24 = .ok (.aload_n 0, 1) := by decide +kernel
theorem d_Md_unit_25 : decode b_Md_unit 25 = .ok (.getfield 7, 3) := by decide +kernel
theorem d_Md_unit_28 : decode b_Md_unit 28 = .ok (.aload_n 0, 1) := by decide +kernel
theorem d_Md_unit_29 : decode b_Md_unit 29 = .ok (.getfield 127, 3) := by decide +kernel
theorem d_Md_unit_32 : decode b_Md_unit 32 = .ok (.iload_n 1, 1) := by decide +kernel
theorem d_Md_unit_33 : decode b_Md_unit 33 = .ok (.iastore, 1) := by decide +kernel
theorem d_Md_unit_34 : decode b_Md_unit 34 = .ok (.aload_n 0, 1) := by decide +kernel
theorem d_Md_unit_35 : decode b_Md_unit 35 = .ok (.dup, 1) := by decide +kernel
theorem d_Md_unit_36 : decode b_Md_unit 36 = .ok (.getfield 127, 3) := by decide +kernel
theorem d_Md_unit_39 : decode b_Md_unit 39 = .ok (.iconst 1, 1) := by decide +kernel
theorem d_Md_unit_40 : decode b_Md_unit 40 = .ok (.iadd, 1) := by decide +kernel
theorem d_Md_unit_41 : decode b_Md_unit 41 = .ok (.putfield 127, 3) := by decide +kernel
theorem d_Md_unit_44 : decode b_Md_unit 44 = .ok (.aload_n 0, 1) := by decide +kernel
theorem d_Md_unit_45 : decode b_Md_unit 45 = .ok (.iconst 0, 1) := by decide +kernel
theorem d_Md_unit_46 : decode b_Md_unit 46 = .ok (.putfield 130, 3) := by decide +kernel
theorem d_Md_unit_49 : decode b_Md_unit 49 = .ok (.iconst 1, 1) := by decide +kernel
theorem d_Md_unit_50 : decode b_Md_unit 50 = .ok (.ireturn, 1) := by decide +kernel
theorem kc_Md_207 : Cond.constantLong R_Md 207 (-1) ∈ lw_gd := (gd _ (tb3 _ (List.mem_of_getElem? (i := 111) rfl)) rfl)
theorem kc_Md_211 : Cond.constantLong R_Md 211 (lN 100000) ∈ lw_gd := (gd _ (tb3 _ (List.mem_of_getElem? (i := 113) rfl)) rfl)
theorem d_Md_bottle_0 : decode b_Md_bottle 0 = .ok (.aload_n 0, 1) := by decide +kernel
theorem d_Md_bottle_1 : decode b_Md_bottle 1 = .ok (.getfield 117, 3) := by decide +kernel
theorem d_Md_bottle_4 : decode b_Md_bottle 4 = .ok (.bipush 8, 2) := by decide +kernel
theorem d_Md_bottle_6 : decode b_Md_bottle 6 = .ok (.if_icmp .eq 28, 3) := by decide +kernel
theorem d_Md_bottle_9 : decode b_Md_bottle 9 = .ok (.iload_n 1, 1) := by decide +kernel
theorem d_Md_bottle_10 : decode b_Md_bottle 10 = .ok (.i2l, 1) := by decide +kernel
theorem d_Md_bottle_11 : decode b_Md_bottle 11 = .ok (.ldc2_w 207, 3) := by decide +kernel
theorem d_Md_bottle_14 : decode b_Md_bottle 14 = .ok (.ldc2_w 209, 3) := by decide +kernel
theorem d_Md_bottle_17 : decode b_Md_bottle 17 = .ok (.invokestatic 123, 3) := by decide +kernel
theorem d_Md_bottle_20 : decode b_Md_bottle 20 = .ok (.ifCond .eq 14, 3) := by decide +kernel
theorem d_Md_bottle_23 : decode b_Md_bottle 23 = .ok (.lload_n 2, 1) := by decide +kernel
theorem d_Md_bottle_24 : decode b_Md_bottle 24 = .ok (.lconst 1, 1) := by decide +kernel
theorem d_Md_bottle_25 : decode b_Md_bottle 25 = .ok (.ldc2_w 211, 3) := by decide +kernel
theorem d_Md_bottle_28 : decode b_Md_bottle 28 = .ok (.invokestatic 123, 3) := by decide +kernel
theorem d_Md_bottle_31 : decode b_Md_bottle 31 = .ok (.ifCond .ne 5, 3) := by decide +kernel
theorem d_Md_bottle_34 : decode b_Md_bottle 34 = .ok (.iconst (-1), 1) := by decide +kernel
theorem d_Md_bottle_35 : decode b_Md_bottle 35 = .ok (.ireturn, 1) := by decide +kernel
theorem d_Md_bottle_36 : decode b_Md_bottle 36 = .ok (.aload_n 0, 1) := by decide +kernel
theorem d_Md_bottle_37 : decode b_Md_bottle 37 = .ok (.getfield 74, 3) := by decide +kernel
theorem d_Md_bottle_40 : decode b_Md_bottle 40 = .ok (.aload_n 0, 1) := by decide +kernel
theorem d_Md_bottle_41 : decode b_Md_bottle 41 = .ok (.getfield 117, 3) := by decide +kernel
theorem d_Md_bottle_44 : decode b_Md_bottle 44 = .ok (.iload_n 1, 1) := by decide +kernel
theorem d_Md_bottle_45 : decode b_Md_bottle 45 = .ok (.iastore, 1) := by decide +kernel
theorem d_Md_bottle_46 : decode b_Md_bottle 46 = .ok (.aload_n 0, 1) := by decide +kernel
theorem d_Md_bottle_47 : decode b_Md_bottle 47 = .ok (.getfield 77, 3) := by decide +kernel
theorem d_Md_bottle_50 : decode b_Md_bottle 50 = .ok (.aload_n 0, 1) := by decide +kernel
theorem d_Md_bottle_51 : decode b_Md_bottle 51 = .ok (.getfield 117, 3) := by decide +kernel
theorem d_Md_bottle_54 : decode b_Md_bottle 54 = .ok (.lload_n 2, 1) := by decide +kernel
theorem d_Md_bottle_55 : decode b_Md_bottle 55 = .ok (.lastore, 1) := by decide +kernel
theorem d_Md_bottle_56 : decode b_Md_bottle 56 = .ok (.aload_n 0, 1) := by decide +kernel
theorem d_Md_bottle_57 : decode b_Md_bottle 57 = .ok (.dup, 1) := by decide +kernel
theorem d_Md_bottle_58 : decode b_Md_bottle 58 = .ok (.getfield 117, 3) := by decide +kernel
theorem d_Md_bottle_61 : decode b_Md_bottle 61 = .ok (.iconst 1, 1) := by decide +kernel
theorem d_Md_bottle_62 : decode b_Md_bottle 62 = .ok (.iadd, 1) := by decide +kernel
theorem d_Md_bottle_63 : decode b_Md_bottle 63 = .ok (.putfield 117, 3) := by decide +kernel
theorem d_Md_bottle_66 : decode b_Md_bottle 66 = .ok (.aload_n 0, 1) := by decide +kernel
theorem d_Md_bottle_67 : decode b_Md_bottle 67 = .ok (.iconst 0, 1) := by decide +kernel
theorem d_Md_bottle_68 : decode b_Md_bottle 68 = .ok (.putfield 130, 3) := by decide +kernel
theorem d_Md_bottle_71 : decode b_Md_bottle 71 = .ok (.aload_n 0, 1) := by decide +kernel
theorem d_Md_bottle_72 : decode b_Md_bottle 72 = .ok (.getfield 117, 3) := by decide +kernel
theorem d_Md_bottle_75 : decode b_Md_bottle 75 = .ok (.iconst 1, 1) := by decide +kernel
theorem d_Md_bottle_76 : decode b_Md_bottle 76 = .ok (.isub, 1) := by decide +kernel
theorem d_Md_bottle_77 : decode b_Md_bottle 77 = .ok (.ireturn, 1) := by decide +kernel
theorem fl_Md_213 : Cond.fieldLink R_Md 213 R_Md "boxes" "I" ∈ lw_gd := (gd _ (tb2 _ (List.mem_of_getElem? (i := 175) rfl)) rfl)
theorem kc_Md_218 : Cond.constantLong R_Md 218 (lN 1000000) ∈ lw_gd := (gd _ (tb3 _ (List.mem_of_getElem? (i := 119) rfl)) rfl)
theorem fl_Md_90 : Cond.fieldLink R_Md 90 R_Md "mosts" "[J" ∈ lw_gd := (gd _ (tb2 _ (List.mem_of_getElem? (i := 176) rfl)) rfl)
theorem fl_Md_93 : Cond.fieldLink R_Md 93 R_Md "counts" "[I" ∈ lw_gd := (gd _ (tb2 _ (List.mem_of_getElem? (i := 177) rfl)) rfl)
theorem d_Md_box_0 : decode b_Md_box 0 = .ok (.aload_n 0, 1) := by decide +kernel
theorem d_Md_box_1 : decode b_Md_box 1 = .ok (.getfield 213, 3) := by decide +kernel
theorem d_Md_box_4 : decode b_Md_box 4 = .ok (.iconst 5, 1) := by decide +kernel
theorem d_Md_box_5 : decode b_Md_box 5 = .ok (.if_icmp .eq 39, 3) := by decide +kernel
theorem d_Md_box_8 : decode b_Md_box 8 = .ok (.iload_n 1, 1) := by decide +kernel
theorem d_Md_box_9 : decode b_Md_box 9 = .ok (.i2l, 1) := by decide +kernel
theorem d_Md_box_10 : decode b_Md_box 10 = .ok (.lconst 0, 1) := by decide +kernel
theorem d_Md_box_11 : decode b_Md_box 11 = .ok (.ldc2_w 216, 3) := by decide +kernel
theorem d_Md_box_14 : decode b_Md_box 14 = .ok (.invokestatic 123, 3) := by decide +kernel
theorem d_Md_box_17 : decode b_Md_box 17 = .ok (.ifCond .eq 27, 3) := by decide +kernel
theorem d_Md_box_20 : decode b_Md_box 20 = .ok (.lload_n 2, 1) := by decide +kernel
theorem d_Md_box_21 : decode b_Md_box 21 = .ok (.lconst 0, 1) := by decide +kernel
theorem d_Md_box_22 : decode b_Md_box 22 = .ok (.ldc2_w 218, 3) := by decide +kernel
theorem d_Md_box_25 : decode b_Md_box 25 = .ok (.invokestatic 123, 3) := by decide +kernel
theorem d_Md_box_28 : decode b_Md_box 28 = .ok (.ifCond .eq 16, 3) := by decide +kernel
theorem d_Md_box_31 : decode b_Md_box 31 = .ok (.iload 4, 2) := by decide +kernel
theorem d_Md_box_33 : decode b_Md_box 33 = .ok (.i2l, 1) := by decide +kernel
theorem d_Md_box_34 : decode b_Md_box 34 = .ok (.lconst 0, 1) := by decide +kernel
theorem d_Md_box_35 : decode b_Md_box 35 = .ok (.ldc2_w 209, 3) := by decide +kernel
theorem d_Md_box_38 : decode b_Md_box 38 = .ok (.invokestatic 123, 3) := by decide +kernel
theorem d_Md_box_41 : decode b_Md_box 41 = .ok (.ifCond .ne 5, 3) := by decide +kernel
theorem d_Md_box_44 : decode b_Md_box 44 = .ok (.iconst (-1), 1) := by decide +kernel
theorem d_Md_box_45 : decode b_Md_box 45 = .ok (.ireturn, 1) := by decide +kernel
theorem d_Md_box_46 : decode b_Md_box 46 = .ok (.aload_n 0, 1) := by decide +kernel
theorem d_Md_box_47 : decode b_Md_box 47 = .ok (.getfield 90, 3) := by decide +kernel
theorem d_Md_box_50 : decode b_Md_box 50 = .ok (.aload_n 0, 1) := by decide +kernel
theorem d_Md_box_51 : decode b_Md_box 51 = .ok (.getfield 213, 3) := by decide +kernel
theorem d_Md_box_54 : decode b_Md_box 54 = .ok (.lload_n 2, 1) := by decide +kernel
theorem d_Md_box_55 : decode b_Md_box 55 = .ok (.lastore, 1) := by decide +kernel
theorem d_Md_box_56 : decode b_Md_box 56 = .ok (.aload_n 0, 1) := by decide +kernel
theorem d_Md_box_57 : decode b_Md_box 57 = .ok (.getfield 93, 3) := by decide +kernel
theorem d_Md_box_60 : decode b_Md_box 60 = .ok (.aload_n 0, 1) := by decide +kernel
theorem d_Md_box_61 : decode b_Md_box 61 = .ok (.getfield 213, 3) := by decide +kernel
theorem d_Md_box_64 : decode b_Md_box 64 = .ok (.iload 4, 2) := by decide +kernel
theorem d_Md_box_66 : decode b_Md_box 66 = .ok (.iastore, 1) := by decide +kernel
theorem d_Md_box_67 : decode b_Md_box 67 = .ok (.aload_n 0, 1) := by decide +kernel
theorem d_Md_box_68 : decode b_Md_box 68 = .ok (.dup, 1) := by decide +kernel
theorem d_Md_box_69 : decode b_Md_box 69 = .ok (.getfield 213, 3) := by decide +kernel
theorem d_Md_box_72 : decode b_Md_box 72 = .ok (.iconst 1, 1) := by decide +kernel
theorem d_Md_box_73 : decode b_Md_box 73 = .ok (.iadd, 1) := by decide +kernel
theorem d_Md_box_74 : decode b_Md_box 74 = .ok (.putfield 213, 3) := by decide +kernel
theorem d_Md_box_77 : decode b_Md_box 77 = .ok (.aload_n 0, 1) := by decide +kernel
theorem d_Md_box_78 : decode b_Md_box 78 = .ok (.iconst 0, 1) := by decide +kernel
theorem d_Md_box_79 : decode b_Md_box 79 = .ok (.putfield 130, 3) := by decide +kernel
theorem d_Md_box_82 : decode b_Md_box 82 = .ok (.aload_n 0, 1) := by decide +kernel
theorem d_Md_box_83 : decode b_Md_box 83 = .ok (.getfield 213, 3) := by decide +kernel
theorem d_Md_box_86 : decode b_Md_box 86 = .ok (.iconst 1, 1) := by decide +kernel
theorem d_Md_box_87 : decode b_Md_box 87 = .ok (.isub, 1) := by decide +kernel
theorem d_Md_box_88 : decode b_Md_box 88 = .ok (.ireturn, 1) := by decide +kernel
theorem fl_Md_96 : Cond.fieldLink R_Md 96 R_Md "absorbers" "[J" ∈ lw_gd := (gd _ (tb2 _ (List.mem_of_getElem? (i := 178) rfl)) rfl)
theorem d_Md_absorber_0 : decode b_Md_absorber 0 = .ok (.iload_n 1, 1) := by decide +kernel
theorem d_Md_absorber_1 : decode b_Md_absorber 1 = .ok (.ifCond .lt 22, 3) := by decide +kernel
theorem d_Md_absorber_4 : decode b_Md_absorber 4 = .ok (.iload_n 1, 1) := by decide +kernel
theorem d_Md_absorber_5 : decode b_Md_absorber 5 = .ok (.aload_n 0, 1) := by decide +kernel
theorem d_Md_absorber_6 : decode b_Md_absorber 6 = .ok (.getfield 213, 3) := by decide +kernel
theorem d_Md_absorber_9 : decode b_Md_absorber 9 = .ok (.if_icmp .ge 14, 3) := by decide +kernel
theorem d_Md_absorber_12 : decode b_Md_absorber 12 = .ok (.lload_n 2, 1) := by decide +kernel
theorem d_Md_absorber_13 : decode b_Md_absorber 13 = .ok (.lconst 0, 1) := by decide +kernel
theorem d_Md_absorber_14 : decode b_Md_absorber 14 = .ok (.ldc2_w 218, 3) := by decide +kernel
theorem d_Md_absorber_17 : decode b_Md_absorber 17 = .ok (.invokestatic 123, 3) := by decide +kernel
theorem d_Md_absorber_20 : decode b_Md_absorber 20 = .ok (.ifCond .ne 5, 3) := by decide +kernel
theorem d_Md_absorber_23 : decode b_Md_absorber 23 = .ok (.iconst 0, 1) := by decide +kernel
theorem d_Md_absorber_24 : decode b_Md_absorber 24 = .ok (.ireturn, 1) := by decide +kernel
theorem d_Md_absorber_25 : decode b_Md_absorber 25 = .ok (.aload_n 0, 1) := by decide +kernel
theorem d_Md_absorber_26 : decode b_Md_absorber 26 = .ok (.getfield 96, 3) := by decide +kernel
theorem d_Md_absorber_29 : decode b_Md_absorber 29 = .ok (.iload_n 1, 1) := by decide +kernel
theorem d_Md_absorber_30 : decode b_Md_absorber 30 = .ok (.lload_n 2, 1) := by decide +kernel
theorem d_Md_absorber_31 : decode b_Md_absorber 31 = .ok (.lastore, 1) := by decide +kernel
theorem d_Md_absorber_32 : decode b_Md_absorber 32 = .ok (.aload_n 0, 1) := by decide +kernel
theorem d_Md_absorber_33 : decode b_Md_absorber 33 = .ok (.iconst 0, 1) := by decide +kernel
theorem d_Md_absorber_34 : decode b_Md_absorber 34 = .ok (.putfield 130, 3) := by decide +kernel
theorem d_Md_absorber_37 : decode b_Md_absorber 37 = .ok (.iconst 1, 1) := by decide +kernel
theorem d_Md_absorber_38 : decode b_Md_absorber 38 = .ok (.ireturn, 1) := by decide +kernel
theorem kc_Md_223 : Cond.constantLong R_Md 223 (lN 9) ∈ lw_gd := (gd _ (tb3 _ (List.mem_of_getElem? (i := 132) rfl)) rfl)
theorem d_Md_refuse_0 : decode b_Md_refuse 0 = .ok (.aload_n 0, 1) := by decide +kernel
theorem d_Md_refuse_1 : decode b_Md_refuse 1 = .ok (.iload_n 1, 1) := by decide +kernel
theorem d_Md_refuse_2 : decode b_Md_refuse 2 = .ok (.invokevirtual 220, 3) := by decide +kernel
theorem d_Md_refuse_5 : decode b_Md_refuse 5 = .ok (.ifCond .eq 24, 3) := by decide +kernel
theorem d_Md_refuse_8 : decode b_Md_refuse 8 = .ok (.iload_n 2, 1) := by decide +kernel
theorem d_Md_refuse_9 : decode b_Md_refuse 9 = .ok (.i2l, 1) := by decide +kernel
theorem d_Md_refuse_10 : decode b_Md_refuse 10 = .ok (.lconst 1, 1) := by decide +kernel
theorem d_Md_refuse_11 : decode b_Md_refuse 11 = .ok (.ldc2_w 223, 3) := by decide +kernel
theorem d_Md_refuse_14 : decode b_Md_refuse 14 = .ok (.invokestatic 123, 3) := by decide +kernel
theorem d_Md_refuse_17 : decode b_Md_refuse 17 = .ok (.ifCond .eq 12, 3) := by decide +kernel
theorem d_Md_refuse_20 : decode b_Md_refuse 20 = .ok (.aload_n 0, 1) := by decide +kernel
theorem d_Md_refuse_21 : decode b_Md_refuse 21 = .ok (.getfield 84, 3) := by decide +kernel
theorem d_Md_refuse_24 : decode b_Md_refuse 24 = .ok (.iload_n 1, 1) := by decide +kernel
theorem d_Md_refuse_25 : decode b_Md_refuse 25 = .ok (.baload, 1) := by decide +kernel
theorem d_Md_refuse_26 : decode b_Md_refuse 26 = .ok (.ifCond .eq 5, 3) := by decide +kernel
theorem d_Md_refuse_29 : decode b_Md_refuse 29 = .ok (.iconst (-1), 1) := by decide +kernel
theorem d_Md_refuse_30 : decode b_Md_refuse 30 = .ok (.ireturn, 1) := by decide +kernel
theorem d_Md_refuse_31 : decode b_Md_refuse 31 = .ok (.aload_n 0, 1) := by decide +kernel
theorem d_Md_refuse_32 : decode b_Md_refuse 32 = .ok (.getfield 84, 3) := by decide +kernel
theorem d_Md_refuse_35 : decode b_Md_refuse 35 = .ok (.iload_n 1, 1) := by decide +kernel
theorem d_Md_refuse_36 : decode b_Md_refuse 36 = .ok (.iconst 1, 1) := by decide +kernel
theorem d_Md_refuse_37 : decode b_Md_refuse 37 = .ok (.bastore, 1) := by decide +kernel
theorem d_Md_refuse_38 : decode b_Md_refuse 38 = .ok (.aload_n 0, 1) := by decide +kernel
theorem d_Md_refuse_39 : decode b_Md_refuse 39 = .ok (.getfield 87, 3) := by decide +kernel
theorem d_Md_refuse_42 : decode b_Md_refuse 42 = .ok (.aload_n 0, 1) := by decide +kernel
theorem d_Md_refuse_43 : decode b_Md_refuse 43 = .ok (.getfield 225, 3) := by decide +kernel
theorem d_Md_refuse_46 : decode b_Md_refuse 46 = .ok (.bipush 10, 2) := by decide +kernel
theorem d_Md_refuse_48 : decode b_Md_refuse 48 = .ok (.iload_n 1, 1) := by decide +kernel
theorem d_Md_refuse_49 : decode b_Md_refuse 49 = .ok (.imul, 1) := by decide +kernel
theorem d_Md_refuse_50 : decode b_Md_refuse 50 = .ok (.iload_n 2, 1) := by decide +kernel
theorem d_Md_refuse_51 : decode b_Md_refuse 51 = .ok (.iadd, 1) := by decide +kernel
theorem d_Md_refuse_52 : decode b_Md_refuse 52 = .ok (.iastore, 1) := by decide +kernel
theorem d_Md_refuse_53 : decode b_Md_refuse 53 = .ok (.aload_n 0, 1) := by decide +kernel
theorem d_Md_refuse_54 : decode b_Md_refuse 54 = .ok (.dup, 1) := by decide +kernel
theorem d_Md_refuse_55 : decode b_Md_refuse 55 = .ok (.getfield 225, 3) := by decide +kernel
theorem d_Md_refuse_58 : decode b_Md_refuse 58 = .ok (.iconst 1, 1) := by decide +kernel
theorem d_Md_refuse_59 : decode b_Md_refuse 59 = .ok (.iadd, 1) := by decide +kernel
theorem d_Md_refuse_60 : decode b_Md_refuse 60 = .ok (.putfield 225, 3) := by decide +kernel
theorem d_Md_refuse_63 : decode b_Md_refuse 63 = .ok (.aload_n 0, 1) := by decide +kernel
theorem d_Md_refuse_64 : decode b_Md_refuse 64 = .ok (.iconst 0, 1) := by decide +kernel
theorem d_Md_refuse_65 : decode b_Md_refuse 65 = .ok (.putfield 130, 3) := by decide +kernel
theorem d_Md_refuse_68 : decode b_Md_refuse 68 = .ok (.aload_n 0, 1) := by decide +kernel
theorem d_Md_refuse_69 : decode b_Md_refuse 69 = .ok (.getfield 225, 3) := by decide +kernel
theorem d_Md_refuse_72 : decode b_Md_refuse 72 = .ok (.ireturn, 1) := by decide +kernel
theorem fl_Md_81 : Cond.fieldLink R_Md 81 R_Md "steps" "[I" ∈ lw_gd := (gd _ (tb2 _ (List.mem_of_getElem? (i := 171) rfl)) rfl)
theorem fl_Md_41 : Cond.fieldLink R_Md 41 R_Md "leads" "[I" ∈ lw_gd := (gd _ (tb2 _ (List.mem_of_getElem? (i := 156) rfl)) rfl)
theorem d_Md_test_0 : decode b_Md_test 0 = .ok (.aload_n 0, 1) := by decide +kernel
theorem d_Md_test_1 : decode b_Md_test 1 = .ok (.iload_n 1, 1) := by decide +kernel
theorem d_Md_test_2 : decode b_Md_test 2 = .ok (.invokevirtual 220, 3) := by decide +kernel
theorem d_Md_test_5 : decode b_Md_test 5 = .ok (.ifCond .eq 34, 3) := by decide +kernel
theorem d_Md_test_8 : decode b_Md_test 8 = .ok (.aload_n 0, 1) := by decide +kernel
theorem d_Md_test_9 : decode b_Md_test 9 = .ok (.getfield 74, 3) := by decide +kernel
theorem d_Md_test_12 : decode b_Md_test 12 = .ok (.iload_n 1, 1) := by decide +kernel
theorem d_Md_test_13 : decode b_Md_test 13 = .ok (.iaload, 1) := by decide +kernel
theorem d_Md_test_14 : decode b_Md_test 14 = .ok (.ifCond .ge 25, 3) := by decide +kernel
theorem d_Md_test_17 : decode b_Md_test 17 = .ok (.aload_n 0, 1) := by decide +kernel
theorem d_Md_test_18 : decode b_Md_test 18 = .ok (.getfield 81, 3) := by decide +kernel
theorem d_Md_test_21 : decode b_Md_test 21 = .ok (.iload_n 1, 1) := by decide +kernel
theorem d_Md_test_22 : decode b_Md_test 22 = .ok (.iaload, 1) := by decide +kernel
theorem d_Md_test_23 : decode b_Md_test 23 = .ok (.iload_n 2, 1) := by decide +kernel
theorem d_Md_test_24 : decode b_Md_test 24 = .ok (.if_icmp .ne 15, 3) := by decide +kernel
theorem d_Md_test_27 : decode b_Md_test 27 = .ok (.iload_n 3, 1) := by decide +kernel
theorem d_Md_test_28 : decode b_Md_test 28 = .ok (.i2l, 1) := by decide +kernel
theorem d_Md_test_29 : decode b_Md_test 29 = .ok (.lconst 0, 1) := by decide +kernel
theorem d_Md_test_30 : decode b_Md_test 30 = .ok (.ldc2_w 216, 3) := by decide +kernel
theorem d_Md_test_33 : decode b_Md_test 33 = .ok (.invokestatic 123, 3) := by decide +kernel
theorem d_Md_test_36 : decode b_Md_test 36 = .ok (.ifCond .ne 6, 3) := by decide +kernel
theorem d_Md_test_39 : decode b_Md_test 39 = .ok (.bipush (-100), 2) := by decide +kernel
theorem d_Md_test_41 : decode b_Md_test 41 = .ok (.ireturn, 1) := by decide +kernel
theorem d_Md_test_42 : decode b_Md_test 42 = .ok (.aload_n 0, 1) := by decide +kernel
theorem d_Md_test_43 : decode b_Md_test 43 = .ok (.getfield 41, 3) := by decide +kernel
theorem d_Md_test_46 : decode b_Md_test 46 = .ok (.iconst 4, 1) := by decide +kernel
theorem d_Md_test_47 : decode b_Md_test 47 = .ok (.iload_n 2, 1) := by decide +kernel
theorem d_Md_test_48 : decode b_Md_test 48 = .ok (.imul, 1) := by decide +kernel
theorem d_Md_test_49 : decode b_Md_test 49 = .ok (.iload_n 3, 1) := by decide +kernel
theorem d_Md_test_50 : decode b_Md_test 50 = .ok (.iadd, 1) := by decide +kernel
theorem d_Md_test_51 : decode b_Md_test 51 = .ok (.iaload, 1) := by decide +kernel
theorem d_Md_test_52 : decode b_Md_test 52 = .ok (.istore 4, 2) := by decide +kernel
theorem d_Md_test_54 : decode b_Md_test 54 = .ok (.iload 4, 2) := by decide +kernel
theorem d_Md_test_56 : decode b_Md_test 56 = .ok (.bipush (-100), 2) := by decide +kernel
theorem d_Md_test_58 : decode b_Md_test 58 = .ok (.if_icmp .ne 6, 3) := by decide +kernel
theorem d_Md_test_61 : decode b_Md_test 61 = .ok (.bipush (-100), 2) := by decide +kernel
theorem d_Md_test_63 : decode b_Md_test 63 = .ok (.ireturn, 1) := by decide +kernel
theorem d_Md_test_64 : decode b_Md_test 64 = .ok (.iload 4, 2) := by decide +kernel
theorem d_Md_test_66 : decode b_Md_test 66 = .ok (.ifCond .lt 14, 3) := by decide +kernel
theorem d_Md_test_69 : decode b_Md_test 69 = .ok (.aload_n 0, 1) := by decide +kernel
theorem d_Md_test_70 : decode b_Md_test 70 = .ok (.getfield 81, 3) := by decide +kernel
theorem d_Md_test_73 : decode b_Md_test 73 = .ok (.iload_n 1, 1) := by decide +kernel
theorem d_Md_test_74 : decode b_Md_test 74 = .ok (.iload 4, 2) := by decide +kernel
theorem d_Md_test_76 : decode b_Md_test 76 = .ok (.iastore, 1) := by decide +kernel
theorem d_Md_test_77 : decode b_Md_test 77 = .ok (.goto 13, 3) := by decide +kernel
theorem d_Md_test_80 : decode b_Md_test 80 = .ok (.aload_n 0, 1) := by decide +kernel
theorem d_Md_test_81 : decode b_Md_test 81 = .ok (.getfield 74, 3) := by decide +kernel
theorem d_Md_test_84 : decode b_Md_test 84 = .ok (.iload_n 1, 1) := by decide +kernel
theorem d_Md_test_85 : decode b_Md_test 85 = .ok (.iconst (-1), 1) := by decide +kernel
theorem d_Md_test_86 : decode b_Md_test 86 = .ok (.iload 4, 2) := by decide +kernel
theorem d_Md_test_88 : decode b_Md_test 88 = .ok (.isub, 1) := by decide +kernel
theorem d_Md_test_89 : decode b_Md_test 89 = .ok (.iastore, 1) := by decide +kernel
theorem d_Md_test_90 : decode b_Md_test 90 = .ok (.aload_n 0, 1) := by decide +kernel
theorem d_Md_test_91 : decode b_Md_test 91 = .ok (.iconst 0, 1) := by decide +kernel
theorem d_Md_test_92 : decode b_Md_test 92 = .ok (.putfield 130, 3) := by decide +kernel
theorem d_Md_test_95 : decode b_Md_test 95 = .ok (.iload 4, 2) := by decide +kernel
theorem d_Md_test_97 : decode b_Md_test 97 = .ok (.ireturn, 1) := by decide +kernel
set_option maxHeartbeats 4000000 in
set_option maxRecDepth 100000 in
theorem c_Md_unit (l : Launch) (D : va_G) (cI : CiT) (z : GzT) (m : Nat → Nat) (tx : (Nat → Nat)) (sz : Nat) (ap : (Nat → Bool)) (pt : (Nat → Nat)) (rk : (Nat → Nat)) (cd : (Nat → Nat)) (fr : Nat) (mc : (Nat → Nat)) (mg : (Nat → Nat)) (mz : (Nat → Nat)) (nc : (Nat → Nat)) (nt : (Nat → Nat)) (ld : (Nat → Nat)) (qap : (Nat → Bool)) (qpt : (Nat → Nat)) (qrk : (Nat → Nat)) (qcd : (Nat → Nat)) (qfr : Nat) (qmc : (Nat → Nat)) (qmg : (Nat → Nat)) (qmz : (Nat → Nat)) (qnc : (Nat → Nat)) (qnt : (Nat → Nat)) (qld : (Nat → Nat)) (nb : Nat) (cl : (Nat → Nat)) (gr : (Nat → Nat)) (sp : (Nat → Nat)) (ot : (Nat → Bool)) (na : Nat) (aw : (Nat → Nat)) (nx : Nat) (bg : (Nat → Nat)) (bb : (Nat → Nat)) (ab : (Nat → Nat)) (fd : Bool) (pv : Bool) (bx : (Nat → Nat)) (wy : (Nat → Nat)) (li : (Nat → Nat)) (fm : Nat) (en : Nat) (nu : Nat) (td : (Nat → Nat)) (lf : Int32) (lk : Int32) (x : Int32) (hsz : sz ≤ 1500) : wk_C l D (tyK cI) (gX z) y_Md_unit b_Md_unit 2 (some .boolean) 1 25 0 0 [.ref (m 0), .int (x)] (wMd m cI tx sz ap pt rk cd fr mc mg mz nc nt ld qap qpt qrk qcd qfr qmc qmg qmz qnc qnt qld nb cl gr sp ot na aw nx bg bb ab fd pv bx wy li fm en nu td lf lk) wk_i (fun (r : Int32) (u : (Nat → Nat) × Nat × Bool) => r = bI (unS tx sz pv x).1 ∧ u = (unS tx sz pv x).2) (fun u => (wMd m cI u.1 u.2.1 ap pt rk cd fr mc mg mz nc nt ld qap qpt qrk qcd qfr qmc qmg qmz qnc qnt qld nb cl gr sp ot na aw nx bg bb ab fd u.2.2 bx wy li fm en nu td lf lk)) := by
  refine wk_methZ (own := R_Md) [(0, .ref (m 0)), (1, .int (x))] (by decide) rfl (Nat.le_of_ble_eq_true rfl) rfl (gX_ok z) (fun p_ e_ R_ s_ m_ ar_ be_ me_ co_ Q_ A_ hR_ S_ hnm_ hQ_ => ?_)
  refine wk_iload_n (pc := 0) S_ 1 d_Md_unit_0 rfl rfl ?_
  refine wk_i2l (pc := 1) S_ d_Md_unit_1 rfl ?_
  refine wk_lconst (pc := 2) (v := (lN (0))) S_ d_Md_unit_2 (by decide) ?_
  refine wk_ldc2 (pc := 3) (v := (lN (255))) S_ kc_Md_121 d_Md_unit_3 ?_
  refine wk_run (pc := 6) (rest := []) (wr := (wMd m cI tx sz ap pt rk cd fr mc mg mz nc nt ld qap qpt qrk qcd qfr qmc qmg qmz qnc qnt qld nb cl gr sp ot na aw nx bg bb ab fd pv bx wy li fm en nu td lf lk)) (wN := fun _ => (wMd m cI tx sz ap pt rk cd fr mc mg mz nc nt ld qap qpt qrk qcd qfr qmc qmg qmz qnc qnt qld nb cl gr sp ot na aw nx bg bb ab fd pv bx wy li fm en nu td lf lk)) S_ (wk_rS S_ (c_Md_isIn l D cI z ((x).toInt64) ((lN (0))) ((lN (255)))) mv_Md_123 rfl rfl (Nat.le_of_ble_eq_true rfl) (by rw [hR_]; decide) (by rw [hR_]; decide) d_Md_unit_6) [] [0, 1, 2, 3, 4, 5, 6, 7, 8, 9, 10, 11, 12, 13, 14, 15, 16, 17, 18, 19, 20, 21, 22, 23, 24, 25, 26, 27, 28, 29, 30, 31, 32, 33] [0, 1, 2, 3, 4, 5, 6, 7, 8, 9, 10, 11, 12, 13, 14, 15, 16, 17, 18, 19, 20, 21, 22, 23, 24, 25, 26, 27, 28, 29, 30, 31, 32, 33] rfl rfl rfl (by decide) (by decide) (by decide) (by decide) (fun _ => rfl) (fun _ => rfl) (fun r6 _ hw6 => ?_)
  refine wk_st (st' := [.int (r6)]) rfl ?_
  refine wk_top (y := (bI (lxI ((x).toInt64) ((lN (0))) ((lN (255)))))) hw6 ?_
  refine wk_top (y := (bI (ixI 256 x))) (congrArg bI (lx_ix (by decide))) ?_
  refine wk_if_eqB (pc := 9) (tgt := 22) S_ d_Md_unit_9 (by decide) (fun h9 => ?_) (fun h9 => ?_)
  · -- taken
    refine wk_iconst (pc := 22) (v := (nI (0))) S_ d_Md_unit_22 (by decide) ?_
    exact hQ_ (nI (0)) (tx, sz, pv) d_Md_unit_23 rfl rfl (by rw [unS, if_neg (fun z => by rw [h9] at z; exact absurd z.1 (by decide))]; exact ⟨rfl, rfl⟩)
  · -- on
    refine wk_aload_n (pc := 12) S_ 0 d_Md_unit_12 rfl rfl ?_
    refine wk_get (pc := 13) (v := .int (nI (sz))) S_ 6 1 0 in_Md rfl (by decide) rfl fl_Md_127 d_Md_unit_13 rfl rfl ?_
    refine wk_sipush (pc := 16) (v := (nI (1500))) S_ d_Md_unit_16 (by decide) ?_
    refine wk_icmp_neN (pc := 19) (tgt := 24) S_ d_Md_unit_19 (by decide) (by omega) (by omega) (fun h19 => ?_) (fun h19 => ?_)
    · -- taken
      obtain ⟨j, hj, rfl⟩ := ixI_of h9 (by decide)
      refine wk_aload_n (pc := 24) S_ 0 d_Md_unit_24 rfl rfl ?_
      refine wk_get (pc := 25) (v := .ref (m 1)) S_ 6 0 0 in_Md rfl (by decide) rfl fl_Md_7 d_Md_unit_25 rfl rfl ?_
      refine wk_aload_n (pc := 28) S_ 0 d_Md_unit_28 rfl rfl ?_
      refine wk_get (pc := 29) (v := .int (nI (sz))) S_ 6 1 0 in_Md rfl (by decide) rfl fl_Md_127 d_Md_unit_29 rfl rfl ?_
      refine wk_iload_n (pc := 32) S_ 1 d_Md_unit_32 rfl rfl ?_
      refine wk_iastN (pc := 33) (g := tx) (ws' := (wMd m cI (va_up (tx) (sz) (j)) sz ap pt rk cd fr mc mg mz nc nt ld qap qpt qrk qcd qfr qmc qmg qmz qnc qnt qld nb cl gr sp ot na aw nx bg bb ab fd pv bx wy li fm en nu td lf lk)) S_ 1 0 d_Md_unit_33 rfl rfl (by omega) (by decide) rfl ?_
      refine wk_aload_n (pc := 34) S_ 0 d_Md_unit_34 rfl rfl ?_
      refine wk_dup (pc := 35) S_ d_Md_unit_35 rfl ?_
      refine wk_get (pc := 36) (v := .int (nI (sz))) S_ 6 1 0 in_Md rfl (by decide) rfl fl_Md_127 d_Md_unit_36 rfl rfl ?_
      refine wk_iconst (pc := 39) (v := (nI (1))) S_ d_Md_unit_39 (by decide) ?_
      refine wk_iaddN (pc := 40) S_ d_Md_unit_40 ?_
      refine wk_put (pc := 41) (ty := .int) (ws' := (wMd m cI (va_up (tx) (sz) (j)) ((sz) + (1)) ap pt rk cd fr mc mg mz nc nt ld qap qpt qrk qcd qfr qmc qmg qmz qnc qnt qld nb cl gr sp ot na aw nx bg bb ab fd pv bx wy li fm en nu td lf lk)) S_ 6 1 0 in_Md t_Md t_Md_ok n_Md rfl (by decide) rfl fl_Md_127 (by decide +kernel) d_Md_unit_41 rfl rfl rfl (Nat.le_of_ble_eq_true rfl) rfl ?_
      refine wk_aload_n (pc := 44) S_ 0 d_Md_unit_44 rfl rfl ?_
      refine wk_iconst (pc := 45) (v := (nI (0))) S_ d_Md_unit_45 (by decide) ?_
      refine wk_put (pc := 46) (ty := .boolean) (ws' := (wMd m cI (va_up (tx) (sz) (j)) ((sz) + (1)) ap pt rk cd fr mc mg mz nc nt ld qap qpt qrk qcd qfr qmc qmg qmz qnc qnt qld nb cl gr sp ot na aw nx bg bb ab fd false bx wy li fm en nu td lf lk)) S_ 6 36 0 in_Md t_Md t_Md_ok n_Md rfl (by decide) rfl fl_Md_130 (by decide +kernel) d_Md_unit_46 rfl rfl rfl (Nat.le_of_ble_eq_true rfl) rfl ?_
      refine wk_iconst (pc := 49) (v := (nI (1))) S_ d_Md_unit_49 (by decide) ?_
      exact hQ_ (nI (1)) (va_up (tx) (sz) (j), (sz) + (1), false) d_Md_unit_50 rfl rfl (by rw [unS, if_pos ⟨h9, h19⟩, nI_clamp (by omega)]; exact ⟨rfl, rfl⟩)
    · -- on
      refine wk_iconst (pc := 22) (v := (nI (0))) S_ d_Md_unit_22 (by decide) ?_
      exact hQ_ (nI (0)) (tx, sz, pv) d_Md_unit_23 rfl rfl (by rw [unS, if_neg (fun z => z.2 h19)]; exact ⟨rfl, rfl⟩)
set_option maxHeartbeats 4000000 in
set_option maxRecDepth 100000 in
theorem c_Md_bottle (l : Launch) (D : va_G) (cI : CiT) (z : GzT) (m : Nat → Nat) (tx : (Nat → Nat)) (sz : Nat) (ap : (Nat → Bool)) (pt : (Nat → Nat)) (rk : (Nat → Nat)) (cd : (Nat → Nat)) (fr : Nat) (mc : (Nat → Nat)) (mg : (Nat → Nat)) (mz : (Nat → Nat)) (nc : (Nat → Nat)) (nt : (Nat → Nat)) (ld : (Nat → Nat)) (qap : (Nat → Bool)) (qpt : (Nat → Nat)) (qrk : (Nat → Nat)) (qcd : (Nat → Nat)) (qfr : Nat) (qmc : (Nat → Nat)) (qmg : (Nat → Nat)) (qmz : (Nat → Nat)) (qnc : (Nat → Nat)) (qnt : (Nat → Nat)) (qld : (Nat → Nat)) (nb : Nat) (cl : (Nat → Nat)) (gr : (Nat → Nat)) (sp : (Nat → Nat)) (ot : (Nat → Bool)) (na : Nat) (aw : (Nat → Nat)) (nx : Nat) (bg : (Nat → Nat)) (bb : (Nat → Nat)) (ab : (Nat → Nat)) (fd : Bool) (pv : Bool) (bx : (Nat → Nat)) (wy : (Nat → Nat)) (li : (Nat → Nat)) (fm : Nat) (en : Nat) (nu : Nat) (td : (Nat → Nat)) (lf : Int32) (lk : Int32) (x : Int32) (w : Int64) (hnb : nb ≤ 8) : wk_C l D (tyK cI) (gX z) y_Md_bottle b_Md_bottle 4 (some .int) 1 25 0 0 [.ref (m 0), .int (x), .long (w)] (wMd m cI tx sz ap pt rk cd fr mc mg mz nc nt ld qap qpt qrk qcd qfr qmc qmg qmz qnc qnt qld nb cl gr sp ot na aw nx bg bb ab fd pv bx wy li fm en nu td lf lk) wk_i (fun (r : Int32) (u : (Nat → Nat) × (Nat → Nat) × Nat × Bool) => r = zI (boS cl gr nb pv x w).1 ∧ u = (boS cl gr nb pv x w).2) (fun u => (wMd m cI tx sz ap pt rk cd fr mc mg mz nc nt ld qap qpt qrk qcd qfr qmc qmg qmz qnc qnt qld u.2.2.1 u.1 u.2.1 sp ot na aw nx bg bb ab fd u.2.2.2 bx wy li fm en nu td lf lk)) := by
  refine wk_methI (own := R_Md) [(0, .ref (m 0)), (1, .int (x)), (2, .long (w))] (by decide) rfl (Nat.le_of_ble_eq_true rfl) rfl (gX_ok z) (fun p_ e_ R_ s_ m_ ar_ be_ me_ co_ Q_ A_ hR_ S_ hnm_ hQ_ => ?_)
  refine wk_aload_n (pc := 0) S_ 0 d_Md_bottle_0 rfl rfl ?_
  refine wk_get (pc := 1) (v := .int (nI (nb))) S_ 6 24 0 in_Md rfl (by decide) rfl fl_Md_117 d_Md_bottle_1 rfl rfl ?_
  refine wk_bipush (pc := 4) (v := (nI (8))) S_ d_Md_bottle_4 (by decide) ?_
  refine wk_icmp_eqN (pc := 6) (tgt := 34) S_ d_Md_bottle_6 (by decide) (by omega) (by omega) (fun h6 => ?_) (fun h6 => ?_)
  · -- taken
    refine wk_iconst (pc := 34) (v := (-1)) S_ d_Md_bottle_34 (by decide) ?_
    exact hQ_ (-1) (cl, gr, nb, pv) d_Md_bottle_35 rfl (by rw [boS, if_neg (fun z => z.1 h6)]; exact ⟨zI_0.symm, rfl⟩)
  · -- on
    refine wk_iload_n (pc := 9) S_ 1 d_Md_bottle_9 rfl rfl ?_
    refine wk_i2l (pc := 10) S_ d_Md_bottle_10 rfl ?_
    refine wk_ldc2 (pc := 11) (v := (-1)) S_ kc_Md_207 d_Md_bottle_11 ?_
    refine wk_ldc2 (pc := 14) (v := (lN (8))) S_ kc_Md_209 d_Md_bottle_14 ?_
    refine wk_run (pc := 17) (rest := []) (wr := (wMd m cI tx sz ap pt rk cd fr mc mg mz nc nt ld qap qpt qrk qcd qfr qmc qmg qmz qnc qnt qld nb cl gr sp ot na aw nx bg bb ab fd pv bx wy li fm en nu td lf lk)) (wN := fun _ => (wMd m cI tx sz ap pt rk cd fr mc mg mz nc nt ld qap qpt qrk qcd qfr qmc qmg qmz qnc qnt qld nb cl gr sp ot na aw nx bg bb ab fd pv bx wy li fm en nu td lf lk)) S_ (wk_rS S_ (c_Md_isIn l D cI z ((x).toInt64) (-1) ((lN (8)))) mv_Md_123 rfl rfl (Nat.le_of_ble_eq_true rfl) (by rw [hR_]; decide) (by rw [hR_]; decide) d_Md_bottle_17) [] [0, 1, 2, 3, 4, 5, 6, 7, 8, 9, 10, 11, 12, 13, 14, 15, 16, 17, 18, 19, 20, 21, 22, 23, 24, 25, 26, 27, 28, 29, 30, 31, 32, 33] [0, 1, 2, 3, 4, 5, 6, 7, 8, 9, 10, 11, 12, 13, 14, 15, 16, 17, 18, 19, 20, 21, 22, 23, 24, 25, 26, 27, 28, 29, 30, 31, 32, 33] rfl rfl rfl (by decide) (by decide) (by decide) (by decide) (fun _ => rfl) (fun _ => rfl) (fun r17 _ hw17 => ?_)
    refine wk_st (st' := [.int (r17)]) rfl ?_
    refine wk_top (y := (bI (lxI ((x).toInt64) (-1) ((lN (8)))))) hw17 ?_
    refine wk_top (y := (bI (clOk x))) (congrArg bI (clOk_lx x)) ?_
    refine wk_if_eqB (pc := 20) (tgt := 34) S_ d_Md_bottle_20 (by decide) (fun h20 => ?_) (fun h20 => ?_)
    · -- taken
      refine wk_iconst (pc := 34) (v := (-1)) S_ d_Md_bottle_34 (by decide) ?_
      exact hQ_ (-1) (cl, gr, nb, pv) d_Md_bottle_35 rfl (by rw [boS, if_neg (fun z => by rw [h20] at z; exact absurd z.2.1 (by decide))]; exact ⟨zI_0.symm, rfl⟩)
    · -- on
      refine wk_lload_n (pc := 23) S_ 2 d_Md_bottle_23 rfl rfl ?_
      refine wk_lconst (pc := 24) (v := (lN (1))) S_ d_Md_bottle_24 (by decide) ?_
      refine wk_ldc2 (pc := 25) (v := (lN (100000))) S_ kc_Md_211 d_Md_bottle_25 ?_
      refine wk_run (pc := 28) (rest := []) (wr := (wMd m cI tx sz ap pt rk cd fr mc mg mz nc nt ld qap qpt qrk qcd qfr qmc qmg qmz qnc qnt qld nb cl gr sp ot na aw nx bg bb ab fd pv bx wy li fm en nu td lf lk)) (wN := fun _ => (wMd m cI tx sz ap pt rk cd fr mc mg mz nc nt ld qap qpt qrk qcd qfr qmc qmg qmz qnc qnt qld nb cl gr sp ot na aw nx bg bb ab fd pv bx wy li fm en nu td lf lk)) S_ (wk_rS S_ (c_Md_isIn l D cI z (w) ((lN (1))) ((lN (100000)))) mv_Md_123 rfl rfl (Nat.le_of_ble_eq_true rfl) (by rw [hR_]; decide) (by rw [hR_]; decide) d_Md_bottle_28) [] [0, 1, 2, 3, 4, 5, 6, 7, 8, 9, 10, 11, 12, 13, 14, 15, 16, 17, 18, 19, 20, 21, 22, 23, 24, 25, 26, 27, 28, 29, 30, 31, 32, 33] [0, 1, 2, 3, 4, 5, 6, 7, 8, 9, 10, 11, 12, 13, 14, 15, 16, 17, 18, 19, 20, 21, 22, 23, 24, 25, 26, 27, 28, 29, 30, 31, 32, 33] rfl rfl rfl (by decide) (by decide) (by decide) (by decide) (fun _ => rfl) (fun _ => rfl) (fun r28 _ hw28 => ?_)
      refine wk_st (st' := [.int (r28)]) rfl ?_
      refine wk_top (y := (bI (lxI (w) ((lN (1))) ((lN (100000)))))) hw28 ?_
      refine wk_if_neB (pc := 31) (tgt := 36) S_ d_Md_bottle_31 (by decide) (fun h31 => ?_) (fun h31 => ?_)
      · -- taken
        obtain ⟨c, hc, rfl⟩ := clOk_of h20
        obtain ⟨y, hya, hyb, rfl⟩ := lx_of h31 (by decide) (by decide)
        refine wk_aload_n (pc := 36) S_ 0 d_Md_bottle_36 rfl rfl ?_
        refine wk_get (pc := 37) (v := .ref (m 22)) S_ 6 25 0 in_Md rfl (by decide) rfl fl_Md_74 d_Md_bottle_37 rfl rfl ?_
        refine wk_aload_n (pc := 40) S_ 0 d_Md_bottle_40 rfl rfl ?_
        refine wk_get (pc := 41) (v := .int (nI (nb))) S_ 6 24 0 in_Md rfl (by decide) rfl fl_Md_117 d_Md_bottle_41 rfl rfl ?_
        refine wk_iload_n (pc := 44) S_ 1 d_Md_bottle_44 rfl rfl ?_
        refine wk_iastY (pc := 45) (g := cl) (ws' := (wMd m cI tx sz ap pt rk cd fr mc mg mz nc nt ld qap qpt qrk qcd qfr qmc qmg qmz qnc qnt qld nb (va_up (cl) (nb) (c)) gr sp ot na aw nx bg bb ab fd pv bx wy li fm en nu td lf lk)) S_ 22 0 d_Md_bottle_45 rfl rfl (by omega) (by decide) rfl ?_
        refine wk_aload_n (pc := 46) S_ 0 d_Md_bottle_46 rfl rfl ?_
        refine wk_get (pc := 47) (v := .ref (m 23)) S_ 6 26 0 in_Md rfl (by decide) rfl fl_Md_77 d_Md_bottle_47 rfl rfl ?_
        refine wk_aload_n (pc := 50) S_ 0 d_Md_bottle_50 rfl rfl ?_
        refine wk_get (pc := 51) (v := .int (nI (nb))) S_ 6 24 0 in_Md rfl (by decide) rfl fl_Md_117 d_Md_bottle_51 rfl rfl ?_
        refine wk_lload_n (pc := 54) S_ 2 d_Md_bottle_54 rfl rfl ?_
        refine wk_last (pc := 55) (g := gr) (ws' := (wMd m cI tx sz ap pt rk cd fr mc mg mz nc nt ld qap qpt qrk qcd qfr qmc qmg qmz qnc qnt qld nb (va_up (cl) (nb) (c)) (va_up (gr) (nb) (y)) sp ot na aw nx bg bb ab fd pv bx wy li fm en nu td lf lk)) S_ 23 2 d_Md_bottle_55 rfl rfl (by omega) (by decide) rfl ?_
        refine wk_aload_n (pc := 56) S_ 0 d_Md_bottle_56 rfl rfl ?_
        refine wk_dup (pc := 57) S_ d_Md_bottle_57 rfl ?_
        refine wk_get (pc := 58) (v := .int (nI (nb))) S_ 6 24 0 in_Md rfl (by decide) rfl fl_Md_117 d_Md_bottle_58 rfl rfl ?_
        refine wk_iconst (pc := 61) (v := (nI (1))) S_ d_Md_bottle_61 (by decide) ?_
        refine wk_iaddN (pc := 62) S_ d_Md_bottle_62 ?_
        refine wk_put (pc := 63) (ty := .int) (ws' := (wMd m cI tx sz ap pt rk cd fr mc mg mz nc nt ld qap qpt qrk qcd qfr qmc qmg qmz qnc qnt qld ((nb) + (1)) (va_up (cl) (nb) (c)) (va_up (gr) (nb) (y)) sp ot na aw nx bg bb ab fd pv bx wy li fm en nu td lf lk)) S_ 6 24 0 in_Md t_Md t_Md_ok n_Md rfl (by decide) rfl fl_Md_117 (by decide +kernel) d_Md_bottle_63 rfl rfl rfl (Nat.le_of_ble_eq_true rfl) rfl ?_
        refine wk_aload_n (pc := 66) S_ 0 d_Md_bottle_66 rfl rfl ?_
        refine wk_iconst (pc := 67) (v := (nI (0))) S_ d_Md_bottle_67 (by decide) ?_
        refine wk_put (pc := 68) (ty := .boolean) (ws' := (wMd m cI tx sz ap pt rk cd fr mc mg mz nc nt ld qap qpt qrk qcd qfr qmc qmg qmz qnc qnt qld ((nb) + (1)) (va_up (cl) (nb) (c)) (va_up (gr) (nb) (y)) sp ot na aw nx bg bb ab fd false bx wy li fm en nu td lf lk)) S_ 6 36 0 in_Md t_Md t_Md_ok n_Md rfl (by decide) rfl fl_Md_130 (by decide +kernel) d_Md_bottle_68 rfl rfl rfl (Nat.le_of_ble_eq_true rfl) rfl ?_
        refine wk_aload_n (pc := 71) S_ 0 d_Md_bottle_71 rfl rfl ?_
        refine wk_get (pc := 72) (v := .int (nI ((nb) + (1)))) S_ 6 24 0 in_Md rfl (by decide) rfl fl_Md_117 d_Md_bottle_72 rfl rfl ?_
        refine wk_iconst (pc := 75) (v := (nI (1))) S_ d_Md_bottle_75 (by decide) ?_
        refine wk_isubN (pc := 76) S_ d_Md_bottle_76 (by omega) ?_
        exact hQ_ (nI (((nb) + (1)) - (1))) (va_up (cl) (nb) (c), va_up (gr) (nb) (y), (nb) + (1), false) d_Md_bottle_77 rfl (by rw [boS, if_pos ⟨h6, h20, h31⟩, yN_z (by omega), gN_l (by omega)]; exact ⟨(zI_s nb).symm, rfl⟩)
      · -- on
        refine wk_iconst (pc := 34) (v := (-1)) S_ d_Md_bottle_34 (by decide) ?_
        exact hQ_ (-1) (cl, gr, nb, pv) d_Md_bottle_35 rfl (by rw [boS, if_neg (fun z => by rw [h31] at z; exact absurd z.2.2 (by decide))]; exact ⟨zI_0.symm, rfl⟩)
set_option maxHeartbeats 4000000 in
set_option maxRecDepth 100000 in
theorem c_Md_box (l : Launch) (D : va_G) (cI : CiT) (z : GzT) (m : Nat → Nat) (tx : (Nat → Nat)) (sz : Nat) (ap : (Nat → Bool)) (pt : (Nat → Nat)) (rk : (Nat → Nat)) (cd : (Nat → Nat)) (fr : Nat) (mc : (Nat → Nat)) (mg : (Nat → Nat)) (mz : (Nat → Nat)) (nc : (Nat → Nat)) (nt : (Nat → Nat)) (ld : (Nat → Nat)) (qap : (Nat → Bool)) (qpt : (Nat → Nat)) (qrk : (Nat → Nat)) (qcd : (Nat → Nat)) (qfr : Nat) (qmc : (Nat → Nat)) (qmg : (Nat → Nat)) (qmz : (Nat → Nat)) (qnc : (Nat → Nat)) (qnt : (Nat → Nat)) (qld : (Nat → Nat)) (nb : Nat) (cl : (Nat → Nat)) (gr : (Nat → Nat)) (sp : (Nat → Nat)) (ot : (Nat → Bool)) (na : Nat) (aw : (Nat → Nat)) (nx : Nat) (bg : (Nat → Nat)) (bb : (Nat → Nat)) (ab : (Nat → Nat)) (fd : Bool) (pv : Bool) (bx : (Nat → Nat)) (wy : (Nat → Nat)) (li : (Nat → Nat)) (fm : Nat) (en : Nat) (nu : Nat) (td : (Nat → Nat)) (lf : Int32) (lk : Int32) (x : Int32) (w : Int64) (k : Int32) (hnx : nx ≤ 5) : wk_C l D (tyK cI) (gX z) y_Md_box b_Md_box 5 (some .int) 1 25 0 0 [.ref (m 0), .int (x), .long (w), .int (k)] (wMd m cI tx sz ap pt rk cd fr mc mg mz nc nt ld qap qpt qrk qcd qfr qmc qmg qmz qnc qnt qld nb cl gr sp ot na aw nx bg bb ab fd pv bx wy li fm en nu td lf lk) wk_i (fun (r : Int32) (u : (Nat → Nat) × (Nat → Nat) × Nat × Bool) => r = zI (bxS bg bb nx pv x w k).1 ∧ u = (bxS bg bb nx pv x w k).2) (fun u => (wMd m cI tx sz ap pt rk cd fr mc mg mz nc nt ld qap qpt qrk qcd qfr qmc qmg qmz qnc qnt qld nb cl gr sp ot na aw u.2.2.1 u.1 u.2.1 ab fd u.2.2.2 bx wy li fm en nu td lf lk)) := by
  refine wk_methI (own := R_Md) [(0, .ref (m 0)), (1, .int (x)), (2, .long (w)), (4, .int (k))] (by decide) rfl (Nat.le_of_ble_eq_true rfl) rfl (gX_ok z) (fun p_ e_ R_ s_ m_ ar_ be_ me_ co_ Q_ A_ hR_ S_ hnm_ hQ_ => ?_)
  refine wk_aload_n (pc := 0) S_ 0 d_Md_box_0 rfl rfl ?_
  refine wk_get (pc := 1) (v := .int (nI (nx))) S_ 6 31 0 in_Md rfl (by decide) rfl fl_Md_213 d_Md_box_1 rfl rfl ?_
  refine wk_iconst (pc := 4) (v := (nI (5))) S_ d_Md_box_4 (by decide) ?_
  refine wk_icmp_eqN (pc := 5) (tgt := 44) S_ d_Md_box_5 (by decide) (by omega) (by omega) (fun h5 => ?_) (fun h5 => ?_)
  · -- taken
    refine wk_iconst (pc := 44) (v := (-1)) S_ d_Md_box_44 (by decide) ?_
    exact hQ_ (-1) (bg, bb, nx, pv) d_Md_box_45 rfl (by rw [bxS, if_neg (fun z => z.1 h5)]; exact ⟨zI_0.symm, rfl⟩)
  · -- on
    refine wk_iload_n (pc := 8) S_ 1 d_Md_box_8 rfl rfl ?_
    refine wk_i2l (pc := 9) S_ d_Md_box_9 rfl ?_
    refine wk_lconst (pc := 10) (v := (lN (0))) S_ d_Md_box_10 (by decide) ?_
    refine wk_ldc2 (pc := 11) (v := (lN (3))) S_ kc_Md_216 d_Md_box_11 ?_
    refine wk_run (pc := 14) (rest := []) (wr := (wMd m cI tx sz ap pt rk cd fr mc mg mz nc nt ld qap qpt qrk qcd qfr qmc qmg qmz qnc qnt qld nb cl gr sp ot na aw nx bg bb ab fd pv bx wy li fm en nu td lf lk)) (wN := fun _ => (wMd m cI tx sz ap pt rk cd fr mc mg mz nc nt ld qap qpt qrk qcd qfr qmc qmg qmz qnc qnt qld nb cl gr sp ot na aw nx bg bb ab fd pv bx wy li fm en nu td lf lk)) S_ (wk_rS S_ (c_Md_isIn l D cI z ((x).toInt64) ((lN (0))) ((lN (3)))) mv_Md_123 rfl rfl (Nat.le_of_ble_eq_true rfl) (by rw [hR_]; decide) (by rw [hR_]; decide) d_Md_box_14) [] [0, 1, 2, 3, 4, 5, 6, 7, 8, 9, 10, 11, 12, 13, 14, 15, 16, 17, 18, 19, 20, 21, 22, 23, 24, 25, 26, 27, 28, 29, 30, 31, 32, 33] [0, 1, 2, 3, 4, 5, 6, 7, 8, 9, 10, 11, 12, 13, 14, 15, 16, 17, 18, 19, 20, 21, 22, 23, 24, 25, 26, 27, 28, 29, 30, 31, 32, 33] rfl rfl rfl (by decide) (by decide) (by decide) (by decide) (fun _ => rfl) (fun _ => rfl) (fun r14 _ hw14 => ?_)
    refine wk_st (st' := [.int (r14)]) rfl ?_
    refine wk_top (y := (bI (lxI ((x).toInt64) ((lN (0))) ((lN (3)))))) hw14 ?_
    refine wk_top (y := (bI (ixI 4 x))) (congrArg bI (lx_ix (by decide))) ?_
    refine wk_if_eqB (pc := 17) (tgt := 44) S_ d_Md_box_17 (by decide) (fun h17 => ?_) (fun h17 => ?_)
    · -- taken
      refine wk_iconst (pc := 44) (v := (-1)) S_ d_Md_box_44 (by decide) ?_
      exact hQ_ (-1) (bg, bb, nx, pv) d_Md_box_45 rfl (by rw [bxS, if_neg (fun z => by rw [h17] at z; exact absurd z.2.1 (by decide))]; exact ⟨zI_0.symm, rfl⟩)
    · -- on
      refine wk_lload_n (pc := 20) S_ 2 d_Md_box_20 rfl rfl ?_
      refine wk_lconst (pc := 21) (v := (lN (0))) S_ d_Md_box_21 (by decide) ?_
      refine wk_ldc2 (pc := 22) (v := (lN (1000000))) S_ kc_Md_218 d_Md_box_22 ?_
      refine wk_run (pc := 25) (rest := []) (wr := (wMd m cI tx sz ap pt rk cd fr mc mg mz nc nt ld qap qpt qrk qcd qfr qmc qmg qmz qnc qnt qld nb cl gr sp ot na aw nx bg bb ab fd pv bx wy li fm en nu td lf lk)) (wN := fun _ => (wMd m cI tx sz ap pt rk cd fr mc mg mz nc nt ld qap qpt qrk qcd qfr qmc qmg qmz qnc qnt qld nb cl gr sp ot na aw nx bg bb ab fd pv bx wy li fm en nu td lf lk)) S_ (wk_rS S_ (c_Md_isIn l D cI z (w) ((lN (0))) ((lN (1000000)))) mv_Md_123 rfl rfl (Nat.le_of_ble_eq_true rfl) (by rw [hR_]; decide) (by rw [hR_]; decide) d_Md_box_25) [] [0, 1, 2, 3, 4, 5, 6, 7, 8, 9, 10, 11, 12, 13, 14, 15, 16, 17, 18, 19, 20, 21, 22, 23, 24, 25, 26, 27, 28, 29, 30, 31, 32, 33] [0, 1, 2, 3, 4, 5, 6, 7, 8, 9, 10, 11, 12, 13, 14, 15, 16, 17, 18, 19, 20, 21, 22, 23, 24, 25, 26, 27, 28, 29, 30, 31, 32, 33] rfl rfl rfl (by decide) (by decide) (by decide) (by decide) (fun _ => rfl) (fun _ => rfl) (fun r25 _ hw25 => ?_)
      refine wk_st (st' := [.int (r25)]) rfl ?_
      refine wk_top (y := (bI (lxI (w) ((lN (0))) ((lN (1000000)))))) hw25 ?_
      refine wk_if_eqB (pc := 28) (tgt := 44) S_ d_Md_box_28 (by decide) (fun h28 => ?_) (fun h28 => ?_)
      · -- taken
        refine wk_iconst (pc := 44) (v := (-1)) S_ d_Md_box_44 (by decide) ?_
        exact hQ_ (-1) (bg, bb, nx, pv) d_Md_box_45 rfl (by rw [bxS, if_neg (fun z => by rw [h28] at z; exact absurd z.2.2.1 (by decide))]; exact ⟨zI_0.symm, rfl⟩)
      · -- on
        refine wk_iload (pc := 31) S_ 3 d_Md_box_31 rfl ?_
        refine wk_i2l (pc := 33) S_ d_Md_box_33 rfl ?_
        refine wk_lconst (pc := 34) (v := (lN (0))) S_ d_Md_box_34 (by decide) ?_
        refine wk_ldc2 (pc := 35) (v := (lN (8))) S_ kc_Md_209 d_Md_box_35 ?_
        refine wk_run (pc := 38) (rest := []) (wr := (wMd m cI tx sz ap pt rk cd fr mc mg mz nc nt ld qap qpt qrk qcd qfr qmc qmg qmz qnc qnt qld nb cl gr sp ot na aw nx bg bb ab fd pv bx wy li fm en nu td lf lk)) (wN := fun _ => (wMd m cI tx sz ap pt rk cd fr mc mg mz nc nt ld qap qpt qrk qcd qfr qmc qmg qmz qnc qnt qld nb cl gr sp ot na aw nx bg bb ab fd pv bx wy li fm en nu td lf lk)) S_ (wk_rS S_ (c_Md_isIn l D cI z ((k).toInt64) ((lN (0))) ((lN (8)))) mv_Md_123 rfl rfl (Nat.le_of_ble_eq_true rfl) (by rw [hR_]; decide) (by rw [hR_]; decide) d_Md_box_38) [] [0, 1, 2, 3, 4, 5, 6, 7, 8, 9, 10, 11, 12, 13, 14, 15, 16, 17, 18, 19, 20, 21, 22, 23, 24, 25, 26, 27, 28, 29, 30, 31, 32, 33] [0, 1, 2, 3, 4, 5, 6, 7, 8, 9, 10, 11, 12, 13, 14, 15, 16, 17, 18, 19, 20, 21, 22, 23, 24, 25, 26, 27, 28, 29, 30, 31, 32, 33] rfl rfl rfl (by decide) (by decide) (by decide) (by decide) (fun _ => rfl) (fun _ => rfl) (fun r38 _ hw38 => ?_)
        refine wk_st (st' := [.int (r38)]) rfl ?_
        refine wk_top (y := (bI (lxI ((k).toInt64) ((lN (0))) ((lN (8)))))) hw38 ?_
        refine wk_top (y := (bI (ixI 9 k))) (congrArg bI (lx_ix (by decide))) ?_
        refine wk_if_neB (pc := 41) (tgt := 46) S_ d_Md_box_41 (by decide) (fun h41 => ?_) (fun h41 => ?_)
        · -- taken
          obtain ⟨y, hya, hyb, rfl⟩ := lx_of h28 (by decide) (by decide)
          obtain ⟨j, hj, rfl⟩ := ixI_of h41 (by decide)
          refine wk_aload_n (pc := 46) S_ 0 d_Md_box_46 rfl rfl ?_
          refine wk_get (pc := 47) (v := .ref (m 27)) S_ 6 32 0 in_Md rfl (by decide) rfl fl_Md_90 d_Md_box_47 rfl rfl ?_
          refine wk_aload_n (pc := 50) S_ 0 d_Md_box_50 rfl rfl ?_
          refine wk_get (pc := 51) (v := .int (nI (nx))) S_ 6 31 0 in_Md rfl (by decide) rfl fl_Md_213 d_Md_box_51 rfl rfl ?_
          refine wk_lload_n (pc := 54) S_ 2 d_Md_box_54 rfl rfl ?_
          refine wk_last (pc := 55) (g := bg) (ws' := (wMd m cI tx sz ap pt rk cd fr mc mg mz nc nt ld qap qpt qrk qcd qfr qmc qmg qmz qnc qnt qld nb cl gr sp ot na aw nx (va_up (bg) (nx) (y)) bb ab fd pv bx wy li fm en nu td lf lk)) S_ 27 2 d_Md_box_55 rfl rfl (by omega) (by decide) rfl ?_
          refine wk_aload_n (pc := 56) S_ 0 d_Md_box_56 rfl rfl ?_
          refine wk_get (pc := 57) (v := .ref (m 28)) S_ 6 33 0 in_Md rfl (by decide) rfl fl_Md_93 d_Md_box_57 rfl rfl ?_
          refine wk_aload_n (pc := 60) S_ 0 d_Md_box_60 rfl rfl ?_
          refine wk_get (pc := 61) (v := .int (nI (nx))) S_ 6 31 0 in_Md rfl (by decide) rfl fl_Md_213 d_Md_box_61 rfl rfl ?_
          refine wk_iload (pc := 64) S_ 3 d_Md_box_64 rfl ?_
          refine wk_iastN (pc := 66) (g := bb) (ws' := (wMd m cI tx sz ap pt rk cd fr mc mg mz nc nt ld qap qpt qrk qcd qfr qmc qmg qmz qnc qnt qld nb cl gr sp ot na aw nx (va_up (bg) (nx) (y)) (va_up (bb) (nx) (j)) ab fd pv bx wy li fm en nu td lf lk)) S_ 28 0 d_Md_box_66 rfl rfl (by omega) (by decide) rfl ?_
          refine wk_aload_n (pc := 67) S_ 0 d_Md_box_67 rfl rfl ?_
          refine wk_dup (pc := 68) S_ d_Md_box_68 rfl ?_
          refine wk_get (pc := 69) (v := .int (nI (nx))) S_ 6 31 0 in_Md rfl (by decide) rfl fl_Md_213 d_Md_box_69 rfl rfl ?_
          refine wk_iconst (pc := 72) (v := (nI (1))) S_ d_Md_box_72 (by decide) ?_
          refine wk_iaddN (pc := 73) S_ d_Md_box_73 ?_
          refine wk_put (pc := 74) (ty := .int) (ws' := (wMd m cI tx sz ap pt rk cd fr mc mg mz nc nt ld qap qpt qrk qcd qfr qmc qmg qmz qnc qnt qld nb cl gr sp ot na aw ((nx) + (1)) (va_up (bg) (nx) (y)) (va_up (bb) (nx) (j)) ab fd pv bx wy li fm en nu td lf lk)) S_ 6 31 0 in_Md t_Md t_Md_ok n_Md rfl (by decide) rfl fl_Md_213 (by decide +kernel) d_Md_box_74 rfl rfl rfl (Nat.le_of_ble_eq_true rfl) rfl ?_
          refine wk_aload_n (pc := 77) S_ 0 d_Md_box_77 rfl rfl ?_
          refine wk_iconst (pc := 78) (v := (nI (0))) S_ d_Md_box_78 (by decide) ?_
          refine wk_put (pc := 79) (ty := .boolean) (ws' := (wMd m cI tx sz ap pt rk cd fr mc mg mz nc nt ld qap qpt qrk qcd qfr qmc qmg qmz qnc qnt qld nb cl gr sp ot na aw ((nx) + (1)) (va_up (bg) (nx) (y)) (va_up (bb) (nx) (j)) ab fd false bx wy li fm en nu td lf lk)) S_ 6 36 0 in_Md t_Md t_Md_ok n_Md rfl (by decide) rfl fl_Md_130 (by decide +kernel) d_Md_box_79 rfl rfl rfl (Nat.le_of_ble_eq_true rfl) rfl ?_
          refine wk_aload_n (pc := 82) S_ 0 d_Md_box_82 rfl rfl ?_
          refine wk_get (pc := 83) (v := .int (nI ((nx) + (1)))) S_ 6 31 0 in_Md rfl (by decide) rfl fl_Md_213 d_Md_box_83 rfl rfl ?_
          refine wk_iconst (pc := 86) (v := (nI (1))) S_ d_Md_box_86 (by decide) ?_
          refine wk_isubN (pc := 87) S_ d_Md_box_87 (by omega) ?_
          exact hQ_ (nI (((nx) + (1)) - (1))) (va_up (bg) (nx) (y), va_up (bb) (nx) (j), (nx) + (1), false) d_Md_box_88 rfl (by rw [bxS, if_pos ⟨h5, h17, h28, h41⟩, gN_l (by omega), nI_clamp (by omega)]; exact ⟨(zI_s nx).symm, rfl⟩)
        · -- on
          refine wk_iconst (pc := 44) (v := (-1)) S_ d_Md_box_44 (by decide) ?_
          exact hQ_ (-1) (bg, bb, nx, pv) d_Md_box_45 rfl (by rw [bxS, if_neg (fun z => by rw [h41] at z; exact absurd z.2.2.2 (by decide))]; exact ⟨zI_0.symm, rfl⟩)
set_option maxHeartbeats 4000000 in
set_option maxRecDepth 100000 in
theorem c_Md_absorber (l : Launch) (D : va_G) (cI : CiT) (z : GzT) (m : Nat → Nat) (tx : (Nat → Nat)) (sz : Nat) (ap : (Nat → Bool)) (pt : (Nat → Nat)) (rk : (Nat → Nat)) (cd : (Nat → Nat)) (fr : Nat) (mc : (Nat → Nat)) (mg : (Nat → Nat)) (mz : (Nat → Nat)) (nc : (Nat → Nat)) (nt : (Nat → Nat)) (ld : (Nat → Nat)) (qap : (Nat → Bool)) (qpt : (Nat → Nat)) (qrk : (Nat → Nat)) (qcd : (Nat → Nat)) (qfr : Nat) (qmc : (Nat → Nat)) (qmg : (Nat → Nat)) (qmz : (Nat → Nat)) (qnc : (Nat → Nat)) (qnt : (Nat → Nat)) (qld : (Nat → Nat)) (nb : Nat) (cl : (Nat → Nat)) (gr : (Nat → Nat)) (sp : (Nat → Nat)) (ot : (Nat → Bool)) (na : Nat) (aw : (Nat → Nat)) (nx : Nat) (bg : (Nat → Nat)) (bb : (Nat → Nat)) (ab : (Nat → Nat)) (fd : Bool) (pv : Bool) (bx : (Nat → Nat)) (wy : (Nat → Nat)) (li : (Nat → Nat)) (fm : Nat) (en : Nat) (nu : Nat) (td : (Nat → Nat)) (lf : Int32) (lk : Int32) (b : Int32) (w : Int64) (hnx : nx ≤ 5) : wk_C l D (tyK cI) (gX z) y_Md_absorber b_Md_absorber 4 (some .boolean) 1 25 0 0 [.ref (m 0), .int (b), .long (w)] (wMd m cI tx sz ap pt rk cd fr mc mg mz nc nt ld qap qpt qrk qcd qfr qmc qmg qmz qnc qnt qld nb cl gr sp ot na aw nx bg bb ab fd pv bx wy li fm en nu td lf lk) wk_i (fun (r : Int32) (u : (Nat → Nat) × Bool) => r = bI (abS ab pv nx b w).1 ∧ u = (abS ab pv nx b w).2) (fun u => (wMd m cI tx sz ap pt rk cd fr mc mg mz nc nt ld qap qpt qrk qcd qfr qmc qmg qmz qnc qnt qld nb cl gr sp ot na aw nx bg bb u.1 fd u.2 bx wy li fm en nu td lf lk)) := by
  refine wk_methZ (own := R_Md) [(0, .ref (m 0)), (1, .int (b)), (2, .long (w))] (by decide) rfl (Nat.le_of_ble_eq_true rfl) rfl (gX_ok z) (fun p_ e_ R_ s_ m_ ar_ be_ me_ co_ Q_ A_ hR_ S_ hnm_ hQ_ => ?_)
  refine wk_iload_n (pc := 0) S_ 1 d_Md_absorber_0 rfl rfl ?_
  refine wk_if_lt (pc := 1) (tgt := 23) S_ d_Md_absorber_1 (by decide) (fun h1 => ?_) (fun h1 => ?_)
  · -- taken
    refine wk_iconst (pc := 23) (v := (nI (0))) S_ d_Md_absorber_23 (by decide) ?_
    exact hQ_ (nI (0)) (ab, pv) d_Md_absorber_24 rfl rfl (by rw [abS, if_neg (fun z => by rw [ixI_a h1] at z; exact absurd z.1 (by decide))]; exact ⟨rfl, rfl⟩)
  · -- on
    refine wk_iload_n (pc := 4) S_ 1 d_Md_absorber_4 rfl rfl ?_
    refine wk_aload_n (pc := 5) S_ 0 d_Md_absorber_5 rfl rfl ?_
    refine wk_get (pc := 6) (v := .int (nI (nx))) S_ 6 31 0 in_Md rfl (by decide) rfl fl_Md_213 d_Md_absorber_6 rfl rfl ?_
    refine wk_icmp_ge (pc := 9) (tgt := 23) S_ d_Md_absorber_9 (by decide) (fun h9 => ?_) (fun h9 => ?_)
    · -- taken
      refine wk_iconst (pc := 23) (v := (nI (0))) S_ d_Md_absorber_23 (by decide) ?_
      exact hQ_ (nI (0)) (ab, pv) d_Md_absorber_24 rfl rfl (by rw [abS, if_neg (fun z => by rw [ixI_b h9] at z; exact absurd z.1 (by decide))]; exact ⟨rfl, rfl⟩)
    · -- on
      refine wk_lload_n (pc := 12) S_ 2 d_Md_absorber_12 rfl rfl ?_
      refine wk_lconst (pc := 13) (v := (lN (0))) S_ d_Md_absorber_13 (by decide) ?_
      refine wk_ldc2 (pc := 14) (v := (lN (1000000))) S_ kc_Md_218 d_Md_absorber_14 ?_
      refine wk_run (pc := 17) (rest := []) (wr := (wMd m cI tx sz ap pt rk cd fr mc mg mz nc nt ld qap qpt qrk qcd qfr qmc qmg qmz qnc qnt qld nb cl gr sp ot na aw nx bg bb ab fd pv bx wy li fm en nu td lf lk)) (wN := fun _ => (wMd m cI tx sz ap pt rk cd fr mc mg mz nc nt ld qap qpt qrk qcd qfr qmc qmg qmz qnc qnt qld nb cl gr sp ot na aw nx bg bb ab fd pv bx wy li fm en nu td lf lk)) S_ (wk_rS S_ (c_Md_isIn l D cI z (w) ((lN (0))) ((lN (1000000)))) mv_Md_123 rfl rfl (Nat.le_of_ble_eq_true rfl) (by rw [hR_]; decide) (by rw [hR_]; decide) d_Md_absorber_17) [] [0, 1, 2, 3, 4, 5, 6, 7, 8, 9, 10, 11, 12, 13, 14, 15, 16, 17, 18, 19, 20, 21, 22, 23, 24, 25, 26, 27, 28, 29, 30, 31, 32, 33] [0, 1, 2, 3, 4, 5, 6, 7, 8, 9, 10, 11, 12, 13, 14, 15, 16, 17, 18, 19, 20, 21, 22, 23, 24, 25, 26, 27, 28, 29, 30, 31, 32, 33] rfl rfl rfl (by decide) (by decide) (by decide) (by decide) (fun _ => rfl) (fun _ => rfl) (fun r17 _ hw17 => ?_)
      refine wk_st (st' := [.int (r17)]) rfl ?_
      refine wk_top (y := (bI (lxI (w) ((lN (0))) ((lN (1000000)))))) hw17 ?_
      refine wk_if_neB (pc := 20) (tgt := 25) S_ d_Md_absorber_20 (by decide) (fun h20 => ?_) (fun h20 => ?_)
      · -- taken
        obtain ⟨j, hj, rfl⟩ := ix_of h1 h9 (by omega)
        obtain ⟨y, hya, hyb, rfl⟩ := lx_of h20 (by decide) (by decide)
        refine wk_aload_n (pc := 25) S_ 0 d_Md_absorber_25 rfl rfl ?_
        refine wk_get (pc := 26) (v := .ref (m 29)) S_ 6 34 0 in_Md rfl (by decide) rfl fl_Md_96 d_Md_absorber_26 rfl rfl ?_
        refine wk_iload_n (pc := 29) S_ 1 d_Md_absorber_29 rfl rfl ?_
        refine wk_lload_n (pc := 30) S_ 2 d_Md_absorber_30 rfl rfl ?_
        refine wk_last (pc := 31) (g := ab) (ws' := (wMd m cI tx sz ap pt rk cd fr mc mg mz nc nt ld qap qpt qrk qcd qfr qmc qmg qmz qnc qnt qld nb cl gr sp ot na aw nx bg bb (va_up (ab) (j) (y)) fd pv bx wy li fm en nu td lf lk)) S_ 29 2 d_Md_absorber_31 rfl rfl (by omega) (by decide) rfl ?_
        refine wk_aload_n (pc := 32) S_ 0 d_Md_absorber_32 rfl rfl ?_
        refine wk_iconst (pc := 33) (v := (nI (0))) S_ d_Md_absorber_33 (by decide) ?_
        refine wk_put (pc := 34) (ty := .boolean) (ws' := (wMd m cI tx sz ap pt rk cd fr mc mg mz nc nt ld qap qpt qrk qcd qfr qmc qmg qmz qnc qnt qld nb cl gr sp ot na aw nx bg bb (va_up (ab) (j) (y)) fd false bx wy li fm en nu td lf lk)) S_ 6 36 0 in_Md t_Md t_Md_ok n_Md rfl (by decide) rfl fl_Md_130 (by decide +kernel) d_Md_absorber_34 rfl rfl rfl (Nat.le_of_ble_eq_true rfl) rfl ?_
        refine wk_iconst (pc := 37) (v := (nI (1))) S_ d_Md_absorber_37 (by decide) ?_
        exact hQ_ (nI (1)) (va_up (ab) (j) (y), false) d_Md_absorber_38 rfl rfl (by rw [abS, if_pos ⟨ixI_c h1 h9, h20⟩, nI_clamp (by omega), gN_l (by omega)]; exact ⟨rfl, rfl⟩)
      · -- on
        refine wk_iconst (pc := 23) (v := (nI (0))) S_ d_Md_absorber_23 (by decide) ?_
        exact hQ_ (nI (0)) (ab, pv) d_Md_absorber_24 rfl rfl (by rw [abS, if_neg (fun z => by rw [h20] at z; exact absurd z.2 (by decide))]; exact ⟨rfl, rfl⟩)
set_option maxHeartbeats 4000000 in
set_option maxRecDepth 100000 in
theorem c_Md_refuse (l : Launch) (D : va_G) (cI : CiT) (z : GzT) (m : Nat → Nat) (tx : (Nat → Nat)) (sz : Nat) (ap : (Nat → Bool)) (pt : (Nat → Nat)) (rk : (Nat → Nat)) (cd : (Nat → Nat)) (fr : Nat) (mc : (Nat → Nat)) (mg : (Nat → Nat)) (mz : (Nat → Nat)) (nc : (Nat → Nat)) (nt : (Nat → Nat)) (ld : (Nat → Nat)) (qap : (Nat → Bool)) (qpt : (Nat → Nat)) (qrk : (Nat → Nat)) (qcd : (Nat → Nat)) (qfr : Nat) (qmc : (Nat → Nat)) (qmg : (Nat → Nat)) (qmz : (Nat → Nat)) (qnc : (Nat → Nat)) (qnt : (Nat → Nat)) (qld : (Nat → Nat)) (nb : Nat) (cl : (Nat → Nat)) (gr : (Nat → Nat)) (sp : (Nat → Nat)) (ot : (Nat → Bool)) (na : Nat) (aw : (Nat → Nat)) (nx : Nat) (bg : (Nat → Nat)) (bb : (Nat → Nat)) (ab : (Nat → Nat)) (fd : Bool) (pv : Bool) (bx : (Nat → Nat)) (wy : (Nat → Nat)) (li : (Nat → Nat)) (fm : Nat) (en : Nat) (nu : Nat) (td : (Nat → Nat)) (lf : Int32) (lk : Int32) (b : Int32) (q : Int32) (hnb : nb ≤ 8) (hna : na ≤ 8) (hno : (∀ b, b < nb → ot b = true) ∨ na < nb) : wk_C l D (tyK cI) (gX z) y_Md_refuse b_Md_refuse 3 (some .int) 1 25 0 0 [.ref (m 0), .int (b), .int (q)] (wMd m cI tx sz ap pt rk cd fr mc mg mz nc nt ld qap qpt qrk qcd qfr qmc qmg qmz qnc qnt qld nb cl gr sp ot na aw nx bg bb ab fd pv bx wy li fm en nu td lf lk) wk_i (fun (r : Int32) (u : (Nat → Bool) × (Nat → Nat) × Nat × Bool) => r = zI (reS ot aw na pv nb b q).1 ∧ u = (reS ot aw na pv nb b q).2) (fun u => (wMd m cI tx sz ap pt rk cd fr mc mg mz nc nt ld qap qpt qrk qcd qfr qmc qmg qmz qnc qnt qld nb cl gr sp u.1 u.2.2.1 u.2.1 nx bg bb ab fd u.2.2.2 bx wy li fm en nu td lf lk)) := by
  refine wk_methI (own := R_Md) [(0, .ref (m 0)), (1, .int (b)), (2, .int (q))] (by decide) rfl (Nat.le_of_ble_eq_true rfl) rfl (gX_ok z) (fun p_ e_ R_ s_ m_ ar_ be_ me_ co_ Q_ A_ hR_ S_ hnm_ hQ_ => ?_)
  refine wk_aload_n (pc := 0) S_ 0 d_Md_refuse_0 rfl rfl ?_
  refine wk_iload_n (pc := 1) S_ 1 d_Md_refuse_1 rfl rfl ?_
  refine wk_run (pc := 2) (rest := []) (wr := []) (wN := fun _ => (wMd m cI tx sz ap pt rk cd fr mc mg mz nc nt ld qap qpt qrk qcd qfr qmc qmg qmz qnc qnt qld nb cl gr sp ot na aw nx bg bb ab fd pv bx wy li fm en nu td lf lk)) S_ (wk_rV S_ (c_Md_isBottle l D cI z (m) (tx) (sz) (ap) (pt) (rk) (cd) (fr) (mc) (mg) (mz) (nc) (nt) (ld) (qap) (qpt) (qrk) (qcd) (qfr) (qmc) (qmg) (qmz) (qnc) (qnt) (qld) (nb) (cl) (gr) (sp) (ot) (na) (aw) (nx) (bg) (bb) (ab) (fd) (pv) (bx) (wy) (li) (fm) (en) (nu) (td) (lf) (lk) (b)) mv_Md_220 (wk_rcv S_ 0 6 rfl rfl rfl) rfl rfl (Nat.le_of_ble_eq_true rfl) (by rw [hR_]; decide) (by rw [hR_]; decide) d_Md_refuse_2) [0, 1, 2, 3, 4, 5, 6, 7, 8, 9, 10, 11, 12, 13, 14, 15, 16, 17, 18, 19, 20, 21, 22, 23, 24, 25, 26, 27, 28, 29, 30, 31, 32, 33] [] [0, 1, 2, 3, 4, 5, 6, 7, 8, 9, 10, 11, 12, 13, 14, 15, 16, 17, 18, 19, 20, 21, 22, 23, 24, 25, 26, 27, 28, 29, 30, 31, 32, 33] rfl rfl rfl (by decide) (by decide) (by decide) (by decide) (fun _ => rfl) (fun _ => rfl) (fun r2 _ hw2 => ?_)
  refine wk_st (st' := [.int (r2)]) rfl ?_
  refine wk_top (y := (bI (ixI (nb) (b)))) hw2 ?_
  refine wk_if_eqB (pc := 5) (tgt := 29) S_ d_Md_refuse_5 (by decide) (fun h5 => ?_) (fun h5 => ?_)
  · -- taken
    refine wk_iconst (pc := 29) (v := (-1)) S_ d_Md_refuse_29 (by decide) ?_
    exact hQ_ (-1) (ot, aw, na, pv) d_Md_refuse_30 rfl (by rw [reS, if_neg (fun z => by rw [h5] at z; exact absurd z.1 (by decide))]; exact ⟨zI_0.symm, rfl⟩)
  · -- on
    refine wk_iload_n (pc := 8) S_ 2 d_Md_refuse_8 rfl rfl ?_
    refine wk_i2l (pc := 9) S_ d_Md_refuse_9 rfl ?_
    refine wk_lconst (pc := 10) (v := (lN (1))) S_ d_Md_refuse_10 (by decide) ?_
    refine wk_ldc2 (pc := 11) (v := (lN (9))) S_ kc_Md_223 d_Md_refuse_11 ?_
    refine wk_run (pc := 14) (rest := []) (wr := (wMd m cI tx sz ap pt rk cd fr mc mg mz nc nt ld qap qpt qrk qcd qfr qmc qmg qmz qnc qnt qld nb cl gr sp ot na aw nx bg bb ab fd pv bx wy li fm en nu td lf lk)) (wN := fun _ => (wMd m cI tx sz ap pt rk cd fr mc mg mz nc nt ld qap qpt qrk qcd qfr qmc qmg qmz qnc qnt qld nb cl gr sp ot na aw nx bg bb ab fd pv bx wy li fm en nu td lf lk)) S_ (wk_rS S_ (c_Md_isIn l D cI z ((q).toInt64) ((lN (1))) ((lN (9)))) mv_Md_123 rfl rfl (Nat.le_of_ble_eq_true rfl) (by rw [hR_]; decide) (by rw [hR_]; decide) d_Md_refuse_14) [] [0, 1, 2, 3, 4, 5, 6, 7, 8, 9, 10, 11, 12, 13, 14, 15, 16, 17, 18, 19, 20, 21, 22, 23, 24, 25, 26, 27, 28, 29, 30, 31, 32, 33] [0, 1, 2, 3, 4, 5, 6, 7, 8, 9, 10, 11, 12, 13, 14, 15, 16, 17, 18, 19, 20, 21, 22, 23, 24, 25, 26, 27, 28, 29, 30, 31, 32, 33] rfl rfl rfl (by decide) (by decide) (by decide) (by decide) (fun _ => rfl) (fun _ => rfl) (fun r14 _ hw14 => ?_)
    refine wk_st (st' := [.int (r14)]) rfl ?_
    refine wk_top (y := (bI (lxI ((q).toInt64) ((lN (1))) ((lN (9)))))) hw14 ?_
    refine wk_top (y := (bI (rsOk q))) rfl ?_
    refine wk_if_eqB (pc := 17) (tgt := 29) S_ d_Md_refuse_17 (by decide) (fun h17 => ?_) (fun h17 => ?_)
    · -- taken
      refine wk_iconst (pc := 29) (v := (-1)) S_ d_Md_refuse_29 (by decide) ?_
      exact hQ_ (-1) (ot, aw, na, pv) d_Md_refuse_30 rfl (by rw [reS, if_neg (fun z => by rw [h17] at z; exact absurd z.2.1 (by decide))]; exact ⟨zI_0.symm, rfl⟩)
    · -- on
      obtain ⟨j, hj, rfl⟩ := ixI_of h5 (by omega)
      obtain ⟨t, ht, rfl⟩ := rsOk_of h17
      refine wk_aload_n (pc := 20) S_ 0 d_Md_refuse_20 rfl rfl ?_
      refine wk_get (pc := 21) (v := .ref (m 25)) S_ 6 28 0 in_Md rfl (by decide) rfl fl_Md_84 d_Md_refuse_21 rfl rfl ?_
      refine wk_iload_n (pc := 24) S_ 1 d_Md_refuse_24 rfl rfl ?_
      refine wk_zald (pc := 25) (g := ot) S_ 25 1 d_Md_refuse_25 rfl rfl (by omega) (by decide) ?_
      refine wk_if_eqB (pc := 26) (tgt := 31) S_ d_Md_refuse_26 (by decide) (fun h26 => ?_) (fun h26 => ?_)
      · -- taken
        have hna2 : na < nb := by rcases hno with z | z; rw [z j hj] at h26; cases h26; exact z
        refine wk_aload_n (pc := 31) S_ 0 d_Md_refuse_31 rfl rfl ?_
        refine wk_get (pc := 32) (v := .ref (m 25)) S_ 6 28 0 in_Md rfl (by decide) rfl fl_Md_84 d_Md_refuse_32 rfl rfl ?_
        refine wk_iload_n (pc := 35) S_ 1 d_Md_refuse_35 rfl rfl ?_
        refine wk_iconst (pc := 36) (v := (nI (1))) S_ d_Md_refuse_36 (by decide) ?_
        refine wk_top (y := bI true) rfl ?_
        refine wk_zast (pc := 37) (g := ot) (ws' := (wMd m cI tx sz ap pt rk cd fr mc mg mz nc nt ld qap qpt qrk qcd qfr qmc qmg qmz qnc qnt qld nb cl gr sp (va_up (ot) (j) (true)) na aw nx bg bb ab fd pv bx wy li fm en nu td lf lk)) S_ 25 1 d_Md_refuse_37 rfl rfl (by omega) (by decide) rfl ?_
        refine wk_aload_n (pc := 38) S_ 0 d_Md_refuse_38 rfl rfl ?_
        refine wk_get (pc := 39) (v := .ref (m 26)) S_ 6 30 0 in_Md rfl (by decide) rfl fl_Md_87 d_Md_refuse_39 rfl rfl ?_
        refine wk_aload_n (pc := 42) S_ 0 d_Md_refuse_42 rfl rfl ?_
        refine wk_get (pc := 43) (v := .int (nI (na))) S_ 6 29 0 in_Md rfl (by decide) rfl fl_Md_225 d_Md_refuse_43 rfl rfl ?_
        refine wk_bipush (pc := 46) (v := (nI (10))) S_ d_Md_refuse_46 (by decide) ?_
        refine wk_iload_n (pc := 48) S_ 1 d_Md_refuse_48 rfl rfl ?_
        refine wk_imulN (pc := 49) S_ d_Md_refuse_49 ?_
        refine wk_iload_n (pc := 50) S_ 2 d_Md_refuse_50 rfl rfl ?_
        refine wk_iaddN (pc := 51) S_ d_Md_refuse_51 ?_
        refine wk_iastN (pc := 52) (g := aw) (ws' := (wMd m cI tx sz ap pt rk cd fr mc mg mz nc nt ld qap qpt qrk qcd qfr qmc qmg qmz qnc qnt qld nb cl gr sp (va_up (ot) (j) (true)) na (va_up (aw) (na) (((10) * (j)) + (t))) nx bg bb ab fd pv bx wy li fm en nu td lf lk)) S_ 26 0 d_Md_refuse_52 rfl rfl (by omega) (by decide) rfl ?_
        refine wk_aload_n (pc := 53) S_ 0 d_Md_refuse_53 rfl rfl ?_
        refine wk_dup (pc := 54) S_ d_Md_refuse_54 rfl ?_
        refine wk_get (pc := 55) (v := .int (nI (na))) S_ 6 29 0 in_Md rfl (by decide) rfl fl_Md_225 d_Md_refuse_55 rfl rfl ?_
        refine wk_iconst (pc := 58) (v := (nI (1))) S_ d_Md_refuse_58 (by decide) ?_
        refine wk_iaddN (pc := 59) S_ d_Md_refuse_59 ?_
        refine wk_put (pc := 60) (ty := .int) (ws' := (wMd m cI tx sz ap pt rk cd fr mc mg mz nc nt ld qap qpt qrk qcd qfr qmc qmg qmz qnc qnt qld nb cl gr sp (va_up (ot) (j) (true)) ((na) + (1)) (va_up (aw) (na) (((10) * (j)) + (t))) nx bg bb ab fd pv bx wy li fm en nu td lf lk)) S_ 6 29 0 in_Md t_Md t_Md_ok n_Md rfl (by decide) rfl fl_Md_225 (by decide +kernel) d_Md_refuse_60 rfl rfl rfl (Nat.le_of_ble_eq_true rfl) rfl ?_
        refine wk_aload_n (pc := 63) S_ 0 d_Md_refuse_63 rfl rfl ?_
        refine wk_iconst (pc := 64) (v := (nI (0))) S_ d_Md_refuse_64 (by decide) ?_
        refine wk_put (pc := 65) (ty := .boolean) (ws' := (wMd m cI tx sz ap pt rk cd fr mc mg mz nc nt ld qap qpt qrk qcd qfr qmc qmg qmz qnc qnt qld nb cl gr sp (va_up (ot) (j) (true)) ((na) + (1)) (va_up (aw) (na) (((10) * (j)) + (t))) nx bg bb ab fd false bx wy li fm en nu td lf lk)) S_ 6 36 0 in_Md t_Md t_Md_ok n_Md rfl (by decide) rfl fl_Md_130 (by decide +kernel) d_Md_refuse_65 rfl rfl rfl (Nat.le_of_ble_eq_true rfl) rfl ?_
        refine wk_aload_n (pc := 68) S_ 0 d_Md_refuse_68 rfl rfl ?_
        refine wk_get (pc := 69) (v := .int (nI ((na) + (1)))) S_ 6 29 0 in_Md rfl (by decide) rfl fl_Md_225 d_Md_refuse_69 rfl rfl ?_
        exact hQ_ (nI ((na) + (1))) (va_up (ot) (j) (true), va_up (aw) (na) (((10) * (j)) + (t)), (na) + (1), false) d_Md_refuse_72 rfl (by rw [reS, nI_clamp (by omega), nI_clamp (by omega), if_pos ⟨h5, h17, h26⟩]; exact ⟨(zI_s (na + 1)).symm, rfl⟩)
      · -- on
        refine wk_iconst (pc := 29) (v := (-1)) S_ d_Md_refuse_29 (by decide) ?_
        exact hQ_ (-1) (ot, aw, na, pv) d_Md_refuse_30 rfl (by rw [reS, if_neg (fun z => by rw [nI_clamp (by omega), h26] at z; exact absurd z.2.2 (by decide))]; exact ⟨zI_0.symm, rfl⟩)
set_option maxHeartbeats 4000000 in
set_option maxRecDepth 100000 in
theorem c_Md_test (l : Launch) (D : va_G) (cI : CiT) (z : GzT) (m : Nat → Nat) (tx : (Nat → Nat)) (sz : Nat) (ap : (Nat → Bool)) (pt : (Nat → Nat)) (rk : (Nat → Nat)) (cd : (Nat → Nat)) (fr : Nat) (mc : (Nat → Nat)) (mg : (Nat → Nat)) (mz : (Nat → Nat)) (nc : (Nat → Nat)) (nt : (Nat → Nat)) (ld : (Nat → Nat)) (qap : (Nat → Bool)) (qpt : (Nat → Nat)) (qrk : (Nat → Nat)) (qcd : (Nat → Nat)) (qfr : Nat) (qmc : (Nat → Nat)) (qmg : (Nat → Nat)) (qmz : (Nat → Nat)) (qnc : (Nat → Nat)) (qnt : (Nat → Nat)) (qld : (Nat → Nat)) (nb : Nat) (cl : (Nat → Nat)) (gr : (Nat → Nat)) (sp : (Nat → Nat)) (ot : (Nat → Bool)) (na : Nat) (aw : (Nat → Nat)) (nx : Nat) (bg : (Nat → Nat)) (bb : (Nat → Nat)) (ab : (Nat → Nat)) (fd : Bool) (pv : Bool) (bx : (Nat → Nat)) (wy : (Nat → Nat)) (li : (Nat → Nat)) (fm : Nat) (en : Nat) (nu : Nat) (td : (Nat → Nat)) (lf : Int32) (lk : Int32) (b : Int32) (t : Int32) (q : Int32) (hnb : nb ≤ 8) (hsp : ∀ b, sp b ≤ 9) (hcl : ∀ b, cl b ≤ 9) (hld : ∀ b, ld b ≤ 19) : wk_C l D (tyK cI) (gX z) y_Md_test b_Md_test 5 (some .int) 1 25 0 0 [.ref (m 0), .int (b), .int (t), .int (q)] (wMd m cI tx sz ap pt rk cd fr mc mg mz nc nt ld qap qpt qrk qcd qfr qmc qmg qmz qnc qnt qld nb cl gr sp ot na aw nx bg bb ab fd pv bx wy li fm en nu td lf lk) wk_i (fun (r : Int32) (u : (Nat → Nat) × (Nat → Nat) × Bool) => r = (tsS cl sp ld pv nb b t q).1 ∧ u = (tsS cl sp ld pv nb b t q).2) (fun u => (wMd m cI tx sz ap pt rk cd fr mc mg mz nc nt ld qap qpt qrk qcd qfr qmc qmg qmz qnc qnt qld nb u.1 gr u.2.1 ot na aw nx bg bb ab fd u.2.2 bx wy li fm en nu td lf lk)) := by
  refine wk_methI (own := R_Md) [(0, .ref (m 0)), (1, .int (b)), (2, .int (t)), (3, .int (q))] (by decide) rfl (Nat.le_of_ble_eq_true rfl) rfl (gX_ok z) (fun p_ e_ R_ s_ m_ ar_ be_ me_ co_ Q_ A_ hR_ S_ hnm_ hQ_ => ?_)
  refine wk_aload_n (pc := 0) S_ 0 d_Md_test_0 rfl rfl ?_
  refine wk_iload_n (pc := 1) S_ 1 d_Md_test_1 rfl rfl ?_
  refine wk_run (pc := 2) (rest := []) (wr := []) (wN := fun _ => (wMd m cI tx sz ap pt rk cd fr mc mg mz nc nt ld qap qpt qrk qcd qfr qmc qmg qmz qnc qnt qld nb cl gr sp ot na aw nx bg bb ab fd pv bx wy li fm en nu td lf lk)) S_ (wk_rV S_ (c_Md_isBottle l D cI z (m) (tx) (sz) (ap) (pt) (rk) (cd) (fr) (mc) (mg) (mz) (nc) (nt) (ld) (qap) (qpt) (qrk) (qcd) (qfr) (qmc) (qmg) (qmz) (qnc) (qnt) (qld) (nb) (cl) (gr) (sp) (ot) (na) (aw) (nx) (bg) (bb) (ab) (fd) (pv) (bx) (wy) (li) (fm) (en) (nu) (td) (lf) (lk) (b)) mv_Md_220 (wk_rcv S_ 0 6 rfl rfl rfl) rfl rfl (Nat.le_of_ble_eq_true rfl) (by rw [hR_]; decide) (by rw [hR_]; decide) d_Md_test_2) [0, 1, 2, 3, 4, 5, 6, 7, 8, 9, 10, 11, 12, 13, 14, 15, 16, 17, 18, 19, 20, 21, 22, 23, 24, 25, 26, 27, 28, 29, 30, 31, 32, 33] [] [0, 1, 2, 3, 4, 5, 6, 7, 8, 9, 10, 11, 12, 13, 14, 15, 16, 17, 18, 19, 20, 21, 22, 23, 24, 25, 26, 27, 28, 29, 30, 31, 32, 33] rfl rfl rfl (by decide) (by decide) (by decide) (by decide) (fun _ => rfl) (fun _ => rfl) (fun r2 _ hw2 => ?_)
  refine wk_st (st' := [.int (r2)]) rfl ?_
  refine wk_top (y := (bI (ixI (nb) (b)))) hw2 ?_
  refine wk_if_eqB (pc := 5) (tgt := 39) S_ d_Md_test_5 (by decide) (fun h5 => ?_) (fun h5 => ?_)
  · -- taken
    refine wk_bipush (pc := 39) (v := (-100)) S_ d_Md_test_39 (by decide) ?_
    exact hQ_ (-100) (cl, sp, pv) d_Md_test_41 rfl (by rw [tsS, if_neg (fun z => by rw [h5] at z; exact absurd z.1 (by decide))]; exact ⟨rfl, rfl⟩)
  · -- on
    obtain ⟨j, hj, rfl⟩ := ixI_of h5 (by omega)
    refine wk_aload_n (pc := 8) S_ 0 d_Md_test_8 rfl rfl ?_
    refine wk_get (pc := 9) (v := .ref (m 22)) S_ 6 25 0 in_Md rfl (by decide) rfl fl_Md_74 d_Md_test_9 rfl rfl ?_
    refine wk_iload_n (pc := 12) S_ 1 d_Md_test_12 rfl rfl ?_
    refine wk_ialdY (pc := 13) (g := cl) S_ 22 0 d_Md_test_13 rfl rfl (by omega) (by decide) ?_
    have hc1 := hcl j
    refine wk_if_geY (pc := 14) (tgt := 39) S_ d_Md_test_14 (by decide) (by omega) (fun h14 => ?_) (fun h14 => ?_)
    · -- taken
      refine wk_bipush (pc := 39) (v := (-100)) S_ d_Md_test_39 (by decide) ?_
      exact hQ_ (-100) (cl, sp, pv) d_Md_test_41 rfl (by rw [tsS, if_neg (fun z => by rw [nI_clamp (by omega)] at z; exact h14 z.2.1)]; exact ⟨rfl, rfl⟩)
    · -- on
      refine wk_aload_n (pc := 17) S_ 0 d_Md_test_17 rfl rfl ?_
      refine wk_get (pc := 18) (v := .ref (m 24)) S_ 6 27 0 in_Md rfl (by decide) rfl fl_Md_81 d_Md_test_18 rfl rfl ?_
      refine wk_iload_n (pc := 21) S_ 1 d_Md_test_21 rfl rfl ?_
      refine wk_ialdN (pc := 22) (g := sp) S_ 24 0 d_Md_test_22 rfl rfl (by omega) (by decide) ?_
      refine wk_iload_n (pc := 23) S_ 2 d_Md_test_23 rfl rfl ?_
      refine wk_icmp_ne (pc := 24) (tgt := 39) S_ d_Md_test_24 (by decide) (fun h24 => ?_) (fun h24 => ?_)
      · -- taken
        refine wk_bipush (pc := 39) (v := (-100)) S_ d_Md_test_39 (by decide) ?_
        exact hQ_ (-100) (cl, sp, pv) d_Md_test_41 rfl (by rw [tsS, if_neg (fun z => by rw [nI_clamp (by omega)] at z; exact h24 z.2.2.1)]; exact ⟨rfl, rfl⟩)
      · -- on
        subst h24
        have hs1 := hsp j
        refine wk_iload_n (pc := 27) S_ 3 d_Md_test_27 rfl rfl ?_
        refine wk_i2l (pc := 28) S_ d_Md_test_28 rfl ?_
        refine wk_lconst (pc := 29) (v := (lN (0))) S_ d_Md_test_29 (by decide) ?_
        refine wk_ldc2 (pc := 30) (v := (lN (3))) S_ kc_Md_216 d_Md_test_30 ?_
        refine wk_run (pc := 33) (rest := []) (wr := (wMd m cI tx sz ap pt rk cd fr mc mg mz nc nt ld qap qpt qrk qcd qfr qmc qmg qmz qnc qnt qld nb cl gr sp ot na aw nx bg bb ab fd pv bx wy li fm en nu td lf lk)) (wN := fun _ => (wMd m cI tx sz ap pt rk cd fr mc mg mz nc nt ld qap qpt qrk qcd qfr qmc qmg qmz qnc qnt qld nb cl gr sp ot na aw nx bg bb ab fd pv bx wy li fm en nu td lf lk)) S_ (wk_rS S_ (c_Md_isIn l D cI z ((q).toInt64) ((lN (0))) ((lN (3)))) mv_Md_123 rfl rfl (Nat.le_of_ble_eq_true rfl) (by rw [hR_]; decide) (by rw [hR_]; decide) d_Md_test_33) [] [0, 1, 2, 3, 4, 5, 6, 7, 8, 9, 10, 11, 12, 13, 14, 15, 16, 17, 18, 19, 20, 21, 22, 23, 24, 25, 26, 27, 28, 29, 30, 31, 32, 33] [0, 1, 2, 3, 4, 5, 6, 7, 8, 9, 10, 11, 12, 13, 14, 15, 16, 17, 18, 19, 20, 21, 22, 23, 24, 25, 26, 27, 28, 29, 30, 31, 32, 33] rfl rfl rfl (by decide) (by decide) (by decide) (by decide) (fun _ => rfl) (fun _ => rfl) (fun r33 _ hw33 => ?_)
        refine wk_st (st' := [.int (r33)]) rfl ?_
        refine wk_top (y := (bI (lxI ((q).toInt64) ((lN (0))) ((lN (3)))))) hw33 ?_
        refine wk_top (y := (bI (ixI 4 q))) (congrArg bI (lx_ix (by decide))) ?_
        refine wk_if_neB (pc := 36) (tgt := 42) S_ d_Md_test_36 (by decide) (fun h36 => ?_) (fun h36 => ?_)
        · -- taken
          obtain ⟨k, hk, rfl⟩ := ixI_of h36 (by decide)
          refine wk_aload_n (pc := 42) S_ 0 d_Md_test_42 rfl rfl ?_
          refine wk_get (pc := 43) (v := .ref (m 11)) S_ 6 12 0 in_Md rfl (by decide) rfl fl_Md_41 d_Md_test_43 rfl rfl ?_
          refine wk_iconst (pc := 46) (v := (nI (4))) S_ d_Md_test_46 (by decide) ?_
          refine wk_iload_n (pc := 47) S_ 2 d_Md_test_47 rfl rfl ?_
          refine wk_imulN (pc := 48) S_ d_Md_test_48 ?_
          refine wk_iload_n (pc := 49) S_ 3 d_Md_test_49 rfl rfl ?_
          refine wk_iaddN (pc := 50) S_ d_Md_test_50 ?_
          refine wk_ialdD (pc := 51) (g := ld) S_ 11 0 d_Md_test_51 rfl rfl (by omega) (by decide) ?_
          refine wk_istore (pc := 52) (lv' := [(4, .int (lI ((ld) (((4) * (sp j)) + (k))))), (0, .ref (m 0)), (1, .int (nI (j))), (2, .int (nI (sp j))), (3, .int (nI (k)))]) S_ d_Md_test_52 (by decide) rfl ?_
          refine wk_iload (pc := 54) S_ 0 d_Md_test_54 rfl ?_
          refine wk_bipush (pc := 56) (v := (-100)) S_ d_Md_test_56 (by decide) ?_
          have hl1 := hld (4 * sp j + k)
          refine wk_icmp_neD (pc := 58) (tgt := 64) S_ d_Md_test_58 (by decide) (by omega) (fun h58 => ?_) (fun h58 => ?_)
          · -- taken
            refine wk_iload (pc := 64) S_ 0 d_Md_test_64 rfl ?_
            refine wk_if_ltD (pc := 66) (tgt := 80) S_ d_Md_test_66 (by decide) (by omega) (fun h66 => ?_) (fun h66 => ?_)
            · -- taken
              refine wk_aload_n (pc := 80) S_ 1 d_Md_test_80 rfl rfl ?_
              refine wk_get (pc := 81) (v := .ref (m 22)) S_ 6 25 0 in_Md rfl (by decide) rfl fl_Md_74 d_Md_test_81 rfl rfl ?_
              refine wk_iload_n (pc := 84) S_ 2 d_Md_test_84 rfl rfl ?_
              refine wk_iconst (pc := 85) (v := (-1)) S_ d_Md_test_85 (by decide) ?_
              refine wk_iload (pc := 86) S_ 0 d_Md_test_86 rfl ?_
              refine wk_isub (pc := 88) S_ d_Md_test_88 ?_
              refine wk_top (y := (zI (ld (4 * sp j + k) - 10))) (lI_kd _ hl1 (by omega)) ?_
              refine wk_iastY (pc := 89) (g := cl) (ws' := (wMd m cI tx sz ap pt rk cd fr mc mg mz nc nt ld qap qpt qrk qcd qfr qmc qmg qmz qnc qnt qld nb (va_up (cl) (j) (ld (4 * sp j + k) - 10)) gr sp ot na aw nx bg bb ab fd pv bx wy li fm en nu td lf lk)) S_ 22 0 d_Md_test_89 rfl rfl (by omega) (by decide) rfl ?_
              refine wk_aload_n (pc := 90) S_ 1 d_Md_test_90 rfl rfl ?_
              refine wk_iconst (pc := 91) (v := (nI (0))) S_ d_Md_test_91 (by decide) ?_
              refine wk_put (pc := 92) (ty := .boolean) (ws' := (wMd m cI tx sz ap pt rk cd fr mc mg mz nc nt ld qap qpt qrk qcd qfr qmc qmg qmz qnc qnt qld nb (va_up (cl) (j) (ld (4 * sp j + k) - 10)) gr sp ot na aw nx bg bb ab fd false bx wy li fm en nu td lf lk)) S_ 6 36 0 in_Md t_Md t_Md_ok n_Md rfl (by decide) rfl fl_Md_130 (by decide +kernel) d_Md_test_92 rfl rfl rfl (Nat.le_of_ble_eq_true rfl) rfl ?_
              refine wk_iload (pc := 95) S_ 0 d_Md_test_95 rfl ?_
              exact hQ_ (lI ((ld) (((4) * (sp j)) + (k)))) (va_up (cl) (j) (ld (4 * sp j + k) - 10), sp, false) d_Md_test_97 rfl (by rw [tsS, nI_clamp (by omega), nI_clamp (by omega), if_pos ⟨h5, h14, rfl, h36, h58⟩, if_neg (by omega), if_neg (by omega)]; exact ⟨rfl, rfl⟩)
            · -- on
              refine wk_aload_n (pc := 69) S_ 1 d_Md_test_69 rfl rfl ?_
              refine wk_get (pc := 70) (v := .ref (m 24)) S_ 6 27 0 in_Md rfl (by decide) rfl fl_Md_81 d_Md_test_70 rfl rfl ?_
              refine wk_iload_n (pc := 73) S_ 2 d_Md_test_73 rfl rfl ?_
              refine wk_iload (pc := 74) S_ 0 d_Md_test_74 rfl ?_
              refine wk_top (y := (nI (ld (4 * sp j + k) - 1))) (lI_st h58 (by omega)) ?_
              refine wk_iastN (pc := 76) (g := sp) (ws' := (wMd m cI tx sz ap pt rk cd fr mc mg mz nc nt ld qap qpt qrk qcd qfr qmc qmg qmz qnc qnt qld nb cl gr (va_up (sp) (j) (ld (4 * sp j + k) - 1)) ot na aw nx bg bb ab fd pv bx wy li fm en nu td lf lk)) S_ 24 0 d_Md_test_76 rfl rfl (by omega) (by decide) rfl ?_
              refine wk_goto (pc := 77) (tgt := 90) S_ d_Md_test_77 (by decide) ?_
              refine wk_aload_n (pc := 90) S_ 1 d_Md_test_90 rfl rfl ?_
              refine wk_iconst (pc := 91) (v := (nI (0))) S_ d_Md_test_91 (by decide) ?_
              refine wk_put (pc := 92) (ty := .boolean) (ws' := (wMd m cI tx sz ap pt rk cd fr mc mg mz nc nt ld qap qpt qrk qcd qfr qmc qmg qmz qnc qnt qld nb cl gr (va_up (sp) (j) (ld (4 * sp j + k) - 1)) ot na aw nx bg bb ab fd false bx wy li fm en nu td lf lk)) S_ 6 36 0 in_Md t_Md t_Md_ok n_Md rfl (by decide) rfl fl_Md_130 (by decide +kernel) d_Md_test_92 rfl rfl rfl (Nat.le_of_ble_eq_true rfl) rfl ?_
              refine wk_iload (pc := 95) S_ 0 d_Md_test_95 rfl ?_
              exact hQ_ (lI ((ld) (((4) * (sp j)) + (k)))) (cl, va_up (sp) (j) (ld (4 * sp j + k) - 1), false) d_Md_test_97 rfl (by rw [tsS, nI_clamp (by omega), nI_clamp (by omega), if_pos ⟨h5, h14, rfl, h36, h58⟩, if_pos (by omega), if_pos (by omega)]; exact ⟨rfl, rfl⟩)
          · -- on
            refine wk_bipush (pc := 61) (v := (-100)) S_ d_Md_test_61 (by decide) ?_
            exact hQ_ (-100) (cl, sp, pv) d_Md_test_63 rfl (by rw [tsS, nI_clamp (by omega), nI_clamp (by omega), if_neg (fun z => z.2.2.2.2 h58)]; exact ⟨rfl, rfl⟩)
        · -- on
          refine wk_bipush (pc := 39) (v := (-100)) S_ d_Md_test_39 (by decide) ?_
          exact hQ_ (-100) (cl, sp, pv) d_Md_test_41 rfl (by rw [tsS, if_neg (fun z => by rw [h36] at z; exact absurd z.2.2.2.1 (by decide))]; exact ⟨rfl, rfl⟩)
end
section
theorem fl_Md_44 : Cond.fieldLink R_Md 44 R_Md "newApart" "[Z" ∈ lw_gd := (gd _ (tb2 _ (List.mem_of_getElem? (i := 157) rfl)) rfl)
theorem fl_Md_47 : Cond.fieldLink R_Md 47 R_Md "newPoints" "[I" ∈ lw_gd := (gd _ (tb2 _ (List.mem_of_getElem? (i := 158) rfl)) rfl)
theorem fl_Md_50 : Cond.fieldLink R_Md 50 R_Md "newRanks" "[I" ∈ lw_gd := (gd _ (tb2 _ (List.mem_of_getElem? (i := 159) rfl)) rfl)
theorem fl_Md_53 : Cond.fieldLink R_Md 53 R_Md "newCodes" "[I" ∈ lw_gd := (gd _ (tb2 _ (List.mem_of_getElem? (i := 160) rfl)) rfl)
theorem fl_Md_56 : Cond.fieldLink R_Md 56 R_Md "newMarkCounts" "[I" ∈ lw_gd := (gd _ (tb2 _ (List.mem_of_getElem? (i := 162) rfl)) rfl)
theorem fl_Md_134 : Cond.fieldLink R_Md 134 R_Md "newFree" "I" ∈ lw_gd := (gd _ (tb2 _ (List.mem_of_getElem? (i := 161) rfl)) rfl)
theorem fl_Md_65 : Cond.fieldLink R_Md 65 R_Md "newNoteCounts" "[I" ∈ lw_gd := (gd _ (tb2 _ (List.mem_of_getElem? (i := 165) rfl)) rfl)
theorem fl_Md_71 : Cond.fieldLink R_Md 71 R_Md "newLeads" "[I" ∈ lw_gd := (gd _ (tb2 _ (List.mem_of_getElem? (i := 167) rfl)) rfl)
theorem d_Md_clearNew_0 : decode b_Md_clearNew 0 = .ok (.iconst 0, 1) := by decide +kernel
theorem d_Md_clearNew_1 : decode b_Md_clearNew 1 = .ok (.istore_n 1, 1) := by decide +kernel
theorem d_Md_clearNew_2 : decode b_Md_clearNew 2 = .ok (.iload_n 1, 1) := by decide +kernel
theorem d_Md_clearNew_3 : decode b_Md_clearNew 3 = .ok (.bipush 81, 2) := by decide +kernel
theorem d_Md_clearNew_5 : decode b_Md_clearNew 5 = .ok (.if_icmp .ge 16, 3) := by decide +kernel
theorem d_Md_clearNew_8 : decode b_Md_clearNew 8 = .ok (.aload_n 0, 1) := by decide +kernel
theorem d_Md_clearNew_9 : decode b_Md_clearNew 9 = .ok (.getfield 44, 3) := by decide +kernel
theorem d_Md_clearNew_12 : decode b_Md_clearNew 12 = .ok (.iload_n 1, 1) := by decide +kernel
theorem d_Md_clearNew_13 : decode b_Md_clearNew 13 = .ok (.iconst 0, 1) := by decide +kernel
theorem d_Md_clearNew_14 : decode b_Md_clearNew 14 = .ok (.bastore, 1) := by decide +kernel
theorem d_Md_clearNew_15 : decode b_Md_clearNew 15 = .ok (.iinc 1 1, 3) := by decide +kernel
theorem d_Md_clearNew_18 : decode b_Md_clearNew 18 = .ok (.goto (-16), 3) := by decide +kernel
theorem d_Md_clearNew_21 : decode b_Md_clearNew 21 = .ok (.iconst 0, 1) := by decide +kernel
theorem d_Md_clearNew_22 : decode b_Md_clearNew 22 = .ok (.istore_n 1, 1) := by decide +kernel
theorem d_Md_clearNew_23 : decode b_Md_clearNew 23 = .ok (.iload_n 1, 1) := by decide +kernel
theorem d_Md_clearNew_24 : decode b_Md_clearNew 24 = .ok (.bipush 9, 2) := by decide +kernel
theorem d_Md_clearNew_26 : decode b_Md_clearNew 26 = .ok (.if_icmp .ge 37, 3) := by decide +kernel
theorem d_Md_clearNew_29 : decode b_Md_clearNew 29 = .ok (.aload_n 0, 1) := by decide +kernel
theorem d_Md_clearNew_30 : decode b_Md_clearNew 30 = .ok (.getfield 47, 3) := by decide +kernel
theorem d_Md_clearNew_33 : decode b_Md_clearNew 33 = .ok (.iload_n 1, 1) := by decide +kernel
theorem d_Md_clearNew_34 : decode b_Md_clearNew 34 = .ok (.iconst 0, 1) := by decide +kernel
theorem d_Md_clearNew_35 : decode b_Md_clearNew 35 = .ok (.iastore, 1) := by decide +kernel
theorem d_Md_clearNew_36 : decode b_Md_clearNew 36 = .ok (.aload_n 0, 1) := by decide +kernel
theorem d_Md_clearNew_37 : decode b_Md_clearNew 37 = .ok (.getfield 50, 3) := by decide +kernel
theorem d_Md_clearNew_40 : decode b_Md_clearNew 40 = .ok (.iload_n 1, 1) := by decide +kernel
theorem d_Md_clearNew_41 : decode b_Md_clearNew 41 = .ok (.iconst 0, 1) := by decide +kernel
theorem d_Md_clearNew_42 : decode b_Md_clearNew 42 = .ok (.iastore, 1) := by decide +kernel
theorem d_Md_clearNew_43 : decode b_Md_clearNew 43 = .ok (.aload_n 0, 1) := by decide +kernel
theorem d_Md_clearNew_44 : decode b_Md_clearNew 44 = .ok (.getfield 53, 3) := by decide +kernel
theorem d_Md_clearNew_47 : decode b_Md_clearNew 47 = .ok (.iload_n 1, 1) := by decide +kernel
theorem d_Md_clearNew_48 : decode b_Md_clearNew 48 = .ok (.iconst 0, 1) := by decide +kernel
theorem d_Md_clearNew_49 : decode b_Md_clearNew 49 = .ok (.iastore, 1) := by decide +kernel
theorem d_Md_clearNew_50 : decode b_Md_clearNew 50 = .ok (.aload_n 0, 1) := by decide +kernel
theorem d_Md_clearNew_51 : decode b_Md_clearNew 51 = .ok (.getfield 56, 3) := by decide +kernel
theorem d_Md_clearNew_54 : decode b_Md_clearNew 54 = .ok (.iload_n 1, 1) := by decide +kernel
theorem d_Md_clearNew_55 : decode b_Md_clearNew 55 = .ok (.iconst 0, 1) := by decide +kernel
theorem d_Md_clearNew_56 : decode b_Md_clearNew 56 = .ok (.iastore, 1) := by decide +kernel
theorem d_Md_clearNew_57 : decode b_Md_clearNew 57 = .ok (.iinc 1 1, 3) := by decide +kernel
theorem d_Md_clearNew_60 : decode b_Md_clearNew 60 = .ok (.goto (-37), 3) := by decide +kernel
theorem d_Md_clearNew_63 : decode b_Md_clearNew 63 = .ok (.aload_n 0, 1) := by decide +kernel
theorem d_Md_clearNew_64 : decode b_Md_clearNew 64 = .ok (.iconst 0, 1) := by decide +kernel
theorem d_Md_clearNew_65 : decode b_Md_clearNew 65 = .ok (.putfield 134, 3) := by decide +kernel
theorem d_Md_clearNew_68 : decode b_Md_clearNew 68 = .ok (.iconst 0, 1) := by decide +kernel
theorem d_Md_clearNew_69 : decode b_Md_clearNew 69 = .ok (.istore_n 1, 1) := by decide +kernel
theorem d_Md_clearNew_70 : decode b_Md_clearNew 70 = .ok (.iload_n 1, 1) := by decide +kernel
theorem d_Md_clearNew_71 : decode b_Md_clearNew 71 = .ok (.iconst 4, 1) := by decide +kernel
theorem d_Md_clearNew_72 : decode b_Md_clearNew 72 = .ok (.if_icmp .ge 16, 3) := by decide +kernel
theorem d_Md_clearNew_75 : decode b_Md_clearNew 75 = .ok (.aload_n 0, 1) := by decide +kernel
theorem d_Md_clearNew_76 : decode b_Md_clearNew 76 = .ok (.getfield 65, 3) := by decide +kernel
theorem d_Md_clearNew_79 : decode b_Md_clearNew 79 = .ok (.iload_n 1, 1) := by decide +kernel
theorem d_Md_clearNew_80 : decode b_Md_clearNew 80 = .ok (.iconst 0, 1) := by decide +kernel
theorem d_Md_clearNew_81 : decode b_Md_clearNew 81 = .ok (.iastore, 1) := by decide +kernel
theorem d_Md_clearNew_82 : decode b_Md_clearNew 82 = .ok (.iinc 1 1, 3) := by decide +kernel
theorem d_Md_clearNew_85 : decode b_Md_clearNew 85 = .ok (.goto (-15), 3) := by decide +kernel
theorem d_Md_clearNew_88 : decode b_Md_clearNew 88 = .ok (.iconst 0, 1) := by decide +kernel
theorem d_Md_clearNew_89 : decode b_Md_clearNew 89 = .ok (.istore_n 1, 1) := by decide +kernel
theorem d_Md_clearNew_90 : decode b_Md_clearNew 90 = .ok (.iload_n 1, 1) := by decide +kernel
theorem d_Md_clearNew_91 : decode b_Md_clearNew 91 = .ok (.bipush 40, 2) := by decide +kernel
theorem d_Md_clearNew_93 : decode b_Md_clearNew 93 = .ok (.if_icmp .ge 17, 3) := by decide +kernel
theorem d_Md_clearNew_96 : decode b_Md_clearNew 96 = .ok (.aload_n 0, 1) := by decide +kernel
theorem d_Md_clearNew_97 : decode b_Md_clearNew 97 = .ok (.getfield 71, 3) := by decide +kernel
theorem d_Md_clearNew_100 : decode b_Md_clearNew 100 = .ok (.iload_n 1, 1) := by decide +kernel
theorem d_Md_clearNew_101 : decode b_Md_clearNew 101 = .ok (.bipush (-100), 2) := by decide +kernel
theorem d_Md_clearNew_103 : decode b_Md_clearNew 103 = .ok (.iastore, 1) := by decide +kernel
theorem d_Md_clearNew_104 : decode b_Md_clearNew 104 = .ok (.iinc 1 1, 3) := by decide +kernel
theorem d_Md_clearNew_107 : decode b_Md_clearNew 107 = .ok (.goto (-17), 3) := by decide +kernel
theorem d_Md_clearNew_110 : decode b_Md_clearNew 110 = .ok (.return_, 1) := by decide +kernel
theorem fl_Md_13 : Cond.fieldLink R_Md 13 R_Md "apart" "[Z" ∈ lw_gd := (gd _ (tb2 _ (List.mem_of_getElem? (i := 146) rfl)) rfl)
theorem fl_Md_59 : Cond.fieldLink R_Md 59 R_Md "newMarkGrams" "[I" ∈ lw_gd := (gd _ (tb2 _ (List.mem_of_getElem? (i := 163) rfl)) rfl)
theorem fl_Md_62 : Cond.fieldLink R_Md 62 R_Md "newMarkSizes" "[I" ∈ lw_gd := (gd _ (tb2 _ (List.mem_of_getElem? (i := 164) rfl)) rfl)
theorem fl_Md_68 : Cond.fieldLink R_Md 68 R_Md "newNotes" "[I" ∈ lw_gd := (gd _ (tb2 _ (List.mem_of_getElem? (i := 166) rfl)) rfl)
theorem d_Md_take_0 : decode b_Md_take 0 = .ok (.iconst 0, 1) := by decide +kernel
theorem d_Md_take_1 : decode b_Md_take 1 = .ok (.istore_n 1, 1) := by decide +kernel
theorem d_Md_take_2 : decode b_Md_take 2 = .ok (.iload_n 1, 1) := by decide +kernel
theorem d_Md_take_3 : decode b_Md_take 3 = .ok (.bipush 81, 2) := by decide +kernel
theorem d_Md_take_5 : decode b_Md_take 5 = .ok (.if_icmp .ge 21, 3) := by decide +kernel
theorem d_Md_take_8 : decode b_Md_take 8 = .ok (.aload_n 0, 1) := by decide +kernel
theorem d_Md_take_9 : decode b_Md_take 9 = .ok (.getfield 13, 3) := by decide +kernel
theorem d_Md_take_12 : decode b_Md_take 12 = .ok (.iload_n 1, 1) := by decide +kernel
theorem d_Md_take_13 : decode b_Md_take 13 = .ok (.aload_n 0, 1) := by decide +kernel
theorem d_Md_take_14 : decode b_Md_take 14 = .ok (.getfield 44, 3) := by decide +kernel
theorem d_Md_take_17 : decode b_Md_take 17 = .ok (.iload_n 1, 1) := by decide +kernel
theorem d_Md_take_18 : decode b_Md_take 18 = .ok (.baload, 1) := by decide +kernel
theorem d_Md_take_19 : decode b_Md_take 19 = .ok (.bastore, 1) := by decide +kernel
theorem d_Md_take_20 : decode b_Md_take 20 = .ok (.iinc 1 1, 3) := by decide +kernel
theorem d_Md_take_23 : decode b_Md_take 23 = .ok (.goto (-21), 3) := by decide +kernel
theorem d_Md_take_26 : decode b_Md_take 26 = .ok (.iconst 0, 1) := by decide +kernel
theorem d_Md_take_27 : decode b_Md_take 27 = .ok (.istore_n 1, 1) := by decide +kernel
theorem d_Md_take_28 : decode b_Md_take 28 = .ok (.iload_n 1, 1) := by decide +kernel
theorem d_Md_take_29 : decode b_Md_take 29 = .ok (.bipush 9, 2) := by decide +kernel
theorem d_Md_take_31 : decode b_Md_take 31 = .ok (.if_icmp .ge 57, 3) := by decide +kernel
theorem d_Md_take_34 : decode b_Md_take 34 = .ok (.aload_n 0, 1) := by decide +kernel
theorem d_Md_take_35 : decode b_Md_take 35 = .ok (.getfield 17, 3) := by decide +kernel
theorem d_Md_take_38 : decode b_Md_take 38 = .ok (.iload_n 1, 1) := by decide +kernel
theorem d_Md_take_39 : decode b_Md_take 39 = .ok (.aload_n 0, 1) := by decide +kernel
theorem d_Md_take_40 : decode b_Md_take 40 = .ok (.getfield 47, 3) := by decide +kernel
theorem d_Md_take_43 : decode b_Md_take 43 = .ok (.iload_n 1, 1) := by decide +kernel
theorem d_Md_take_44 : decode b_Md_take 44 = .ok (.iaload, 1) := by decide +kernel
theorem d_Md_take_45 : decode b_Md_take 45 = .ok (.iastore, 1) := by decide +kernel
theorem d_Md_take_46 : decode b_Md_take 46 = .ok (.aload_n 0, 1) := by decide +kernel
theorem d_Md_take_47 : decode b_Md_take 47 = .ok (.getfield 20, 3) := by decide +kernel
theorem d_Md_take_50 : decode b_Md_take 50 = .ok (.iload_n 1, 1) := by decide +kernel
theorem d_Md_take_51 : decode b_Md_take 51 = .ok (.aload_n 0, 1) := by decide +kernel
theorem d_Md_take_52 : decode b_Md_take 52 = .ok (.getfield 50, 3) := by decide +kernel
theorem d_Md_take_55 : decode b_Md_take 55 = .ok (.iload_n 1, 1) := by decide +kernel
theorem d_Md_take_56 : decode b_Md_take 56 = .ok (.iaload, 1) := by decide +kernel
theorem d_Md_take_57 : decode b_Md_take 57 = .ok (.iastore, 1) := by decide +kernel
theorem d_Md_take_58 : decode b_Md_take 58 = .ok (.aload_n 0, 1) := by decide +kernel
theorem d_Md_take_59 : decode b_Md_take 59 = .ok (.getfield 23, 3) := by decide +kernel
theorem d_Md_take_62 : decode b_Md_take 62 = .ok (.iload_n 1, 1) := by decide +kernel
theorem d_Md_take_63 : decode b_Md_take 63 = .ok (.aload_n 0, 1) := by decide +kernel
theorem d_Md_take_64 : decode b_Md_take 64 = .ok (.getfield 53, 3) := by decide +kernel
theorem d_Md_take_67 : decode b_Md_take 67 = .ok (.iload_n 1, 1) := by decide +kernel
theorem d_Md_take_68 : decode b_Md_take 68 = .ok (.iaload, 1) := by decide +kernel
theorem d_Md_take_69 : decode b_Md_take 69 = .ok (.iastore, 1) := by decide +kernel
theorem d_Md_take_70 : decode b_Md_take 70 = .ok (.aload_n 0, 1) := by decide +kernel
theorem d_Md_take_71 : decode b_Md_take 71 = .ok (.getfield 26, 3) := by decide +kernel
theorem d_Md_take_74 : decode b_Md_take 74 = .ok (.iload_n 1, 1) := by decide +kernel
theorem d_Md_take_75 : decode b_Md_take 75 = .ok (.aload_n 0, 1) := by decide +kernel
theorem d_Md_take_76 : decode b_Md_take 76 = .ok (.getfield 56, 3) := by decide +kernel
theorem d_Md_take_79 : decode b_Md_take 79 = .ok (.iload_n 1, 1) := by decide +kernel
theorem d_Md_take_80 : decode b_Md_take 80 = .ok (.iaload, 1) := by decide +kernel
theorem d_Md_take_81 : decode b_Md_take 81 = .ok (.iastore, 1) := by decide +kernel
theorem d_Md_take_82 : decode b_Md_take 82 = .ok (.iinc 1 1, 3) := by decide +kernel
theorem d_Md_take_85 : decode b_Md_take 85 = .ok (.goto (-57), 3) := by decide +kernel
theorem d_Md_take_88 : decode b_Md_take 88 = .ok (.aload_n 0, 1) := by decide +kernel
theorem d_Md_take_89 : decode b_Md_take 89 = .ok (.aload_n 0, 1) := by decide +kernel
theorem d_Md_take_90 : decode b_Md_take 90 = .ok (.getfield 134, 3) := by decide +kernel
theorem d_Md_take_93 : decode b_Md_take 93 = .ok (.putfield 137, 3) := by decide +kernel
theorem d_Md_take_96 : decode b_Md_take 96 = .ok (.iconst 0, 1) := by decide +kernel
theorem d_Md_take_97 : decode b_Md_take 97 = .ok (.istore_n 1, 1) := by decide +kernel
theorem d_Md_take_98 : decode b_Md_take 98 = .ok (.iload_n 1, 1) := by decide +kernel
theorem d_Md_take_99 : decode b_Md_take 99 = .ok (.bipush 54, 2) := by decide +kernel
theorem d_Md_take_101 : decode b_Md_take 101 = .ok (.if_icmp .ge 33, 3) := by decide +kernel
theorem d_Md_take_104 : decode b_Md_take 104 = .ok (.aload_n 0, 1) := by decide +kernel
theorem d_Md_take_105 : decode b_Md_take 105 = .ok (.getfield 29, 3) := by decide +kernel
theorem d_Md_take_108 : decode b_Md_take 108 = .ok (.iload_n 1, 1) := by decide +kernel
theorem d_Md_take_109 : decode b_Md_take 109 = .ok (.aload_n 0, 1) := by decide +kernel
theorem d_Md_take_110 : decode b_Md_take 110 = .ok (.getfield 59, 3) := by decide +kernel
theorem d_Md_take_113 : decode b_Md_take 113 = .ok (.iload_n 1, 1) := by decide +kernel
theorem d_Md_take_114 : decode b_Md_take 114 = .ok (.iaload, 1) := by decide +kernel
theorem d_Md_take_115 : decode b_Md_take 115 = .ok (.iastore, 1) := by decide +kernel
theorem d_Md_take_116 : decode b_Md_take 116 = .ok (.aload_n 0, 1) := by decide +kernel
theorem d_Md_take_117 : decode b_Md_take 117 = .ok (.getfield 32, 3) := by decide +kernel
theorem d_Md_take_120 : decode b_Md_take 120 = .ok (.iload_n 1, 1) := by decide +kernel
theorem d_Md_take_121 : decode b_Md_take 121 = .ok (.aload_n 0, 1) := by decide +kernel
theorem d_Md_take_122 : decode b_Md_take 122 = .ok (.getfield 62, 3) := by decide +kernel
theorem d_Md_take_125 : decode b_Md_take 125 = .ok (.iload_n 1, 1) := by decide +kernel
theorem d_Md_take_126 : decode b_Md_take 126 = .ok (.iaload, 1) := by decide +kernel
theorem d_Md_take_127 : decode b_Md_take 127 = .ok (.iastore, 1) := by decide +kernel
theorem d_Md_take_128 : decode b_Md_take 128 = .ok (.iinc 1 1, 3) := by decide +kernel
theorem d_Md_take_131 : decode b_Md_take 131 = .ok (.goto (-33), 3) := by decide +kernel
theorem d_Md_take_134 : decode b_Md_take 134 = .ok (.iconst 0, 1) := by decide +kernel
theorem d_Md_take_135 : decode b_Md_take 135 = .ok (.istore_n 1, 1) := by decide +kernel
theorem d_Md_take_136 : decode b_Md_take 136 = .ok (.iload_n 1, 1) := by decide +kernel
theorem d_Md_take_137 : decode b_Md_take 137 = .ok (.iconst 4, 1) := by decide +kernel
theorem d_Md_take_138 : decode b_Md_take 138 = .ok (.if_icmp .ge 21, 3) := by decide +kernel
theorem d_Md_take_141 : decode b_Md_take 141 = .ok (.aload_n 0, 1) := by decide +kernel
theorem d_Md_take_142 : decode b_Md_take 142 = .ok (.getfield 35, 3) := by decide +kernel
theorem d_Md_take_145 : decode b_Md_take 145 = .ok (.iload_n 1, 1) := by decide +kernel
theorem d_Md_take_146 : decode b_Md_take 146 = .ok (.aload_n 0, 1) := by decide +kernel
theorem d_Md_take_147 : decode b_Md_take 147 = .ok (.getfield 65, 3) := by decide +kernel
theorem d_Md_take_150 : decode b_Md_take 150 = .ok (.iload_n 1, 1) := by decide +kernel
theorem d_Md_take_151 : decode b_Md_take 151 = .ok (.iaload, 1) := by decide +kernel
theorem d_Md_take_152 : decode b_Md_take 152 = .ok (.iastore, 1) := by decide +kernel
theorem d_Md_take_153 : decode b_Md_take 153 = .ok (.iinc 1 1, 3) := by decide +kernel
theorem d_Md_take_156 : decode b_Md_take 156 = .ok (.goto (-20), 3) := by decide +kernel
theorem d_Md_take_159 : decode b_Md_take 159 = .ok (.iconst 0, 1) := by decide +kernel
theorem d_Md_take_160 : decode b_Md_take 160 = .ok (.istore_n 1, 1) := by decide +kernel
theorem d_Md_take_161 : decode b_Md_take 161 = .ok (.iload_n 1, 1) := by decide +kernel
theorem d_Md_take_162 : decode b_Md_take 162 = .ok (.bipush 32, 2) := by decide +kernel
theorem d_Md_take_164 : decode b_Md_take 164 = .ok (.if_icmp .ge 21, 3) := by decide +kernel
theorem d_Md_take_167 : decode b_Md_take 167 = .ok (.aload_n 0, 1) := by decide +kernel
theorem d_Md_take_168 : decode b_Md_take 168 = .ok (.getfield 38, 3) := by decide +kernel
theorem d_Md_take_171 : decode b_Md_take 171 = .ok (.iload_n 1, 1) := by decide +kernel
theorem d_Md_take_172 : decode b_Md_take 172 = .ok (.aload_n 0, 1) := by decide +kernel
theorem d_Md_take_173 : decode b_Md_take 173 = .ok (.getfield 68, 3) := by decide +kernel
theorem d_Md_take_176 : decode b_Md_take 176 = .ok (.iload_n 1, 1) := by decide +kernel
theorem d_Md_take_177 : decode b_Md_take 177 = .ok (.iaload, 1) := by decide +kernel
theorem d_Md_take_178 : decode b_Md_take 178 = .ok (.iastore, 1) := by decide +kernel
theorem d_Md_take_179 : decode b_Md_take 179 = .ok (.iinc 1 1, 3) := by decide +kernel
theorem d_Md_take_182 : decode b_Md_take 182 = .ok (.goto (-21), 3) := by decide +kernel
theorem d_Md_take_185 : decode b_Md_take 185 = .ok (.iconst 0, 1) := by decide +kernel
theorem d_Md_take_186 : decode b_Md_take 186 = .ok (.istore_n 1, 1) := by decide +kernel
theorem d_Md_take_187 : decode b_Md_take 187 = .ok (.iload_n 1, 1) := by decide +kernel
theorem d_Md_take_188 : decode b_Md_take 188 = .ok (.bipush 40, 2) := by decide +kernel
theorem d_Md_take_190 : decode b_Md_take 190 = .ok (.if_icmp .ge 21, 3) := by decide +kernel
theorem d_Md_take_193 : decode b_Md_take 193 = .ok (.aload_n 0, 1) := by decide +kernel
theorem d_Md_take_194 : decode b_Md_take 194 = .ok (.getfield 41, 3) := by decide +kernel
theorem d_Md_take_197 : decode b_Md_take 197 = .ok (.iload_n 1, 1) := by decide +kernel
theorem d_Md_take_198 : decode b_Md_take 198 = .ok (.aload_n 0, 1) := by decide +kernel
theorem d_Md_take_199 : decode b_Md_take 199 = .ok (.getfield 71, 3) := by decide +kernel
theorem d_Md_take_202 : decode b_Md_take 202 = .ok (.iload_n 1, 1) := by decide +kernel
theorem d_Md_take_203 : decode b_Md_take 203 = .ok (.iaload, 1) := by decide +kernel
theorem d_Md_take_204 : decode b_Md_take 204 = .ok (.iastore, 1) := by decide +kernel
theorem d_Md_take_205 : decode b_Md_take 205 = .ok (.iinc 1 1, 3) := by decide +kernel
theorem d_Md_take_208 : decode b_Md_take 208 = .ok (.goto (-21), 3) := by decide +kernel
theorem d_Md_take_211 : decode b_Md_take 211 = .ok (.return_, 1) := by decide +kernel
theorem mv_Md_265 : wk_V R_Md 265 R_Md y_Md_name b_Md_name 3 (some .int) 1 := ⟨(gd _ (tb3 _ (List.mem_of_getElem? (i := 199) rfl)) rfl), (gd _ (tb0 _ (List.mem_of_getElem? (i := 8) rfl)) rfl), (gd _ (tb3 _ (List.mem_of_getElem? (i := 208) rfl)) rfl), (by decide +kernel), (gd _ (tb3 _ (List.mem_of_getElem? (i := 197) rfl)) rfl), (gd _ (tb3 _ (List.mem_of_getElem? (i := 198) rfl)) rfl)⟩
theorem d_Md_order_0 : decode b_Md_order 0 = .ok (.iconst 0, 1) := by decide +kernel
theorem d_Md_order_1 : decode b_Md_order 1 = .ok (.istore_n 2, 1) := by decide +kernel
theorem d_Md_order_2 : decode b_Md_order 2 = .ok (.iconst 0, 1) := by decide +kernel
theorem d_Md_order_3 : decode b_Md_order 3 = .ok (.istore_n 3, 1) := by decide +kernel
theorem d_Md_order_4 : decode b_Md_order 4 = .ok (.iload_n 3, 1) := by decide +kernel
theorem d_Md_order_5 : decode b_Md_order 5 = .ok (.bipush 9, 2) := by decide +kernel
theorem d_Md_order_7 : decode b_Md_order 7 = .ok (.if_icmp .ge 62, 3) := by decide +kernel
theorem d_Md_order_10 : decode b_Md_order 10 = .ok (.iconst 0, 1) := by decide +kernel
theorem d_Md_order_11 : decode b_Md_order 11 = .ok (.istore 4, 2) := by decide +kernel
theorem d_Md_order_13 : decode b_Md_order 13 = .ok (.iload 4, 2) := by decide +kernel
theorem d_Md_order_15 : decode b_Md_order 15 = .ok (.aload_n 0, 1) := by decide +kernel
theorem d_Md_order_16 : decode b_Md_order 16 = .ok (.getfield 117, 3) := by decide +kernel
theorem d_Md_order_19 : decode b_Md_order 19 = .ok (.if_icmp .ge 44, 3) := by decide +kernel
theorem d_Md_order_22 : decode b_Md_order 22 = .ok (.aload_n 0, 1) := by decide +kernel
theorem d_Md_order_23 : decode b_Md_order 23 = .ok (.iload 4, 2) := by decide +kernel
theorem d_Md_order_25 : decode b_Md_order 25 = .ok (.invokevirtual 245, 3) := by decide +kernel
theorem d_Md_order_28 : decode b_Md_order 28 = .ok (.ifCond .eq 29, 3) := by decide +kernel
theorem d_Md_order_31 : decode b_Md_order 31 = .ok (.aload_n 0, 1) := by decide +kernel
theorem d_Md_order_32 : decode b_Md_order 32 = .ok (.getfield 74, 3) := by decide +kernel
theorem d_Md_order_35 : decode b_Md_order 35 = .ok (.iload 4, 2) := by decide +kernel
theorem d_Md_order_37 : decode b_Md_order 37 = .ok (.iaload, 1) := by decide +kernel
theorem d_Md_order_38 : decode b_Md_order 38 = .ok (.aload_n 0, 1) := by decide +kernel
theorem d_Md_order_39 : decode b_Md_order 39 = .ok (.iload_n 3, 1) := by decide +kernel
theorem d_Md_order_40 : decode b_Md_order 40 = .ok (.invokevirtual 265, 3) := by decide +kernel
theorem d_Md_order_43 : decode b_Md_order 43 = .ok (.if_icmp .ne 14, 3) := by decide +kernel
theorem d_Md_order_46 : decode b_Md_order 46 = .ok (.iload_n 2, 1) := by decide +kernel
theorem d_Md_order_47 : decode b_Md_order 47 = .ok (.iload_n 1, 1) := by decide +kernel
theorem d_Md_order_48 : decode b_Md_order 48 = .ok (.if_icmp .ne 6, 3) := by decide +kernel
theorem d_Md_order_51 : decode b_Md_order 51 = .ok (.iload 4, 2) := by decide +kernel
theorem d_Md_order_53 : decode b_Md_order 53 = .ok (.ireturn, 1) := by decide +kernel
theorem d_Md_order_54 : decode b_Md_order 54 = .ok (.iinc 2 1, 3) := by decide +kernel
theorem d_Md_order_57 : decode b_Md_order 57 = .ok (.iinc 4 1, 3) := by decide +kernel
theorem d_Md_order_60 : decode b_Md_order 60 = .ok (.goto (-47), 3) := by decide +kernel
theorem d_Md_order_63 : decode b_Md_order 63 = .ok (.iinc 3 1, 3) := by decide +kernel
theorem d_Md_order_66 : decode b_Md_order 66 = .ok (.goto (-62), 3) := by decide +kernel
theorem d_Md_order_69 : decode b_Md_order 69 = .ok (.iconst (-1), 1) := by decide +kernel
theorem d_Md_order_70 : decode b_Md_order 70 = .ok (.ireturn, 1) := by decide +kernel
theorem kc_Md_274 : Cond.constantLong R_Md 274 (lN 10) ∈ lw_gd := (gd _ (tb3 _ (List.mem_of_getElem? (i := 217) rfl)) rfl)
theorem kc_Md_276 : Cond.constantLong R_Md 276 (lN 48) ∈ lw_gd := (gd _ (tb3 _ (List.mem_of_getElem? (i := 218) rfl)) rfl)
theorem mv_Md_278 : wk_V R_Md 278 R_Md y_Md_put b_Md_put 2 none 1 := ⟨(gd _ (tb3 _ (List.mem_of_getElem? (i := 222) rfl)) rfl), (gd _ (tb0 _ (List.mem_of_getElem? (i := 8) rfl)) rfl), (gd _ (tb3 _ (List.mem_of_getElem? (i := 219) rfl)) rfl), (by decide +kernel), (gd _ (tb3 _ (List.mem_of_getElem? (i := 221) rfl)) rfl), (gd _ (List.mem_append_left _ (by decide +kernel)) rfl)⟩
theorem d_Md_putNumber_0 : decode b_Md_putNumber 0 = .ok (.lconst 1, 1) := by decide +kernel
theorem d_Md_putNumber_1 : decode b_Md_putNumber 1 = .ok (.lstore_n 3, 1) := by decide +kernel
theorem d_Md_putNumber_2 : decode b_Md_putNumber 2 = .ok (.lload_n 1, 1) := by decide +kernel
theorem d_Md_putNumber_3 : decode b_Md_putNumber 3 = .ok (.lload_n 3, 1) := by decide +kernel
theorem d_Md_putNumber_4 : decode b_Md_putNumber 4 = .ok (.ldiv, 1) := by decide +kernel
theorem d_Md_putNumber_5 : decode b_Md_putNumber 5 = .ok (.ldc2_w 223, 3) := by decide +kernel
theorem d_Md_putNumber_8 : decode b_Md_putNumber 8 = .ok (.lcmp, 1) := by decide +kernel
theorem d_Md_putNumber_9 : decode b_Md_putNumber 9 = .ok (.ifCond .le 12, 3) := by decide +kernel
theorem d_Md_putNumber_12 : decode b_Md_putNumber 12 = .ok (.lload_n 3, 1) := by decide +kernel
theorem d_Md_putNumber_13 : decode b_Md_putNumber 13 = .ok (.ldc2_w 274, 3) := by decide +kernel
theorem d_Md_putNumber_16 : decode b_Md_putNumber 16 = .ok (.lmul, 1) := by decide +kernel
theorem d_Md_putNumber_17 : decode b_Md_putNumber 17 = .ok (.lstore_n 3, 1) := by decide +kernel
theorem d_Md_putNumber_18 : decode b_Md_putNumber 18 = .ok (.goto (-16), 3) := by decide +kernel
theorem d_Md_putNumber_21 : decode b_Md_putNumber 21 = .ok (.lload_n 3, 1) := by decide +kernel
theorem d_Md_putNumber_22 : decode b_Md_putNumber 22 = .ok (.lconst 0, 1) := by decide +kernel
theorem d_Md_putNumber_23 : decode b_Md_putNumber 23 = .ok (.lcmp, 1) := by decide +kernel
theorem d_Md_putNumber_24 : decode b_Md_putNumber 24 = .ok (.ifCond .le 28, 3) := by decide +kernel
theorem d_Md_putNumber_27 : decode b_Md_putNumber 27 = .ok (.aload_n 0, 1) := by decide +kernel
theorem d_Md_putNumber_28 : decode b_Md_putNumber 28 = .ok (.ldc2_w 276, 3) := by decide +kernel
theorem d_Md_putNumber_31 : decode b_Md_putNumber 31 = .ok (.lload_n 1, 1) := by decide +kernel
theorem d_Md_putNumber_32 : decode b_Md_putNumber 32 = .ok (.lload_n 3, 1) := by decide +kernel
theorem d_Md_putNumber_33 : decode b_Md_putNumber 33 = .ok (.ldiv, 1) := by decide +kernel
theorem d_Md_putNumber_34 : decode b_Md_putNumber 34 = .ok (.ldc2_w 274, 3) := by decide +kernel
theorem d_Md_putNumber_37 : decode b_Md_putNumber 37 = .ok (.lrem, 1) := by decide +kernel
theorem d_Md_putNumber_38 : decode b_Md_putNumber 38 = .ok (.ladd, 1) := by decide +kernel
theorem d_Md_putNumber_39 : decode b_Md_putNumber 39 = .ok (.l2i, 1) := by decide +kernel
theorem d_Md_putNumber_40 : decode b_Md_putNumber 40 = .ok (.invokevirtual 278, 3) := by decide +kernel
theorem d_Md_putNumber_43 : decode b_Md_putNumber 43 = .ok (.lload_n 3, 1) := by decide +kernel
theorem d_Md_putNumber_44 : decode b_Md_putNumber 44 = .ok (.ldc2_w 274, 3) := by decide +kernel
theorem d_Md_putNumber_47 : decode b_Md_putNumber 47 = .ok (.ldiv, 1) := by decide +kernel
theorem d_Md_putNumber_48 : decode b_Md_putNumber 48 = .ok (.lstore_n 3, 1) := by decide +kernel
theorem d_Md_putNumber_49 : decode b_Md_putNumber 49 = .ok (.goto (-28), 3) := by decide +kernel
theorem d_Md_putNumber_52 : decode b_Md_putNumber 52 = .ok (.return_, 1) := by decide +kernel
set_option maxHeartbeats 4000000 in
set_option maxRecDepth 100000 in
theorem c_Md_clearNew (l : Launch) (D : va_G) (cI : CiT) (z : GzT) (m : Nat → Nat) (tx : (Nat → Nat)) (sz : Nat) (ap : (Nat → Bool)) (pt : (Nat → Nat)) (rk : (Nat → Nat)) (cd : (Nat → Nat)) (fr : Nat) (mc : (Nat → Nat)) (mg : (Nat → Nat)) (mz : (Nat → Nat)) (nc : (Nat → Nat)) (nt : (Nat → Nat)) (ld : (Nat → Nat)) (qap : (Nat → Bool)) (qpt : (Nat → Nat)) (qrk : (Nat → Nat)) (qcd : (Nat → Nat)) (qfr : Nat) (qmc : (Nat → Nat)) (qmg : (Nat → Nat)) (qmz : (Nat → Nat)) (qnc : (Nat → Nat)) (qnt : (Nat → Nat)) (qld : (Nat → Nat)) (nb : Nat) (cl : (Nat → Nat)) (gr : (Nat → Nat)) (sp : (Nat → Nat)) (ot : (Nat → Bool)) (na : Nat) (aw : (Nat → Nat)) (nx : Nat) (bg : (Nat → Nat)) (bb : (Nat → Nat)) (ab : (Nat → Nat)) (fd : Bool) (pv : Bool) (bx : (Nat → Nat)) (wy : (Nat → Nat)) (li : (Nat → Nat)) (fm : Nat) (en : Nat) (nu : Nat) (td : (Nat → Nat)) (lf : Int32) (lk : Int32) : wk_C l D (tyK cI) (gX z) y_Md_clearNew b_Md_clearNew 2 none 0 0 0 0 [.ref (m 0)] (wMd m cI tx sz ap pt rk cd fr mc mg mz nc nt ld qap qpt qrk qcd qfr qmc qmg qmz qnc qnt qld nb cl gr sp ot na aw nx bg bb ab fd pv bx wy li fm en nu td lf lk) wk_v (fun (_ : Unit) (_ : Unit) => True) (fun _ => (wMd m cI tx sz ap pt rk cd fr mc mg mz nc nt ld (fun _ => false) (fun _ => 0) (fun _ => 0) (fun _ => 0) 0 (fun _ => 0) qmg qmz (fun _ => 0) qnt (fun _ => 0) nb cl gr sp ot na aw nx bg bb ab fd pv bx wy li fm en nu td lf lk)) := by
  refine wk_methV (own := R_Md) [(0, .ref (m 0))] (by decide) rfl (Nat.le_of_ble_eq_true rfl) rfl (gX_ok z) (fun p_ e_ R_ s_ m_ ar_ be_ me_ co_ Q_ A_ hR_ S_ hnm_ hQ_ => ?_)
  refine wk_iconst (pc := 0) (v := (nI (0))) S_ d_Md_clearNew_0 (by decide) ?_
  refine wk_istore_n (pc := 1) (lv' := [(1, .int (nI (0))), (0, .ref (m 0))]) S_ d_Md_clearNew_1 rfl (by decide) rfl ?_
  have hL2 : ∀ (fuel2 : Nat), ∀ (k : Nat), 81 - k < fuel2 → (k ≤ 81) → wk_G p_ l e_ R_ s_ m_ ar_ be_ me_ co_ Q_ D A_ 2 0 0 (wMd m cI tx sz ap pt rk cd fr mc mg mz nc nt ld (fillN k false qap) qpt qrk qcd qfr qmc qmg qmz qnc qnt qld nb cl gr sp ot na aw nx bg bb ab fd pv bx wy li fm en nu td lf lk) 2 [(0, .ref (m 0)), (1, .int (nI (k)))] [] := by
    intro fuel2
    induction fuel2 with
    | zero => intro k hm; exact absurd hm (Nat.not_lt_zero _)
    | succ fuel2 ih2 =>
      intro k hm hk
      refine wk_iload_n (pc := 2) S_ 1 d_Md_clearNew_2 rfl rfl ?_
      refine wk_bipush (pc := 3) (v := (nI (81))) S_ d_Md_clearNew_3 (by decide) ?_
      refine wk_icmp_geN (pc := 5) (tgt := 21) S_ d_Md_clearNew_5 (by decide) (by omega) (by omega) (fun h5 => ?_) (fun h5 => ?_)
      · -- taken
        refine wk_ext (f := bF (fillN k false qap)) (g := bF (fun _ => false)) (ws' := (wMd m cI tx sz ap pt rk cd fr mc mg mz nc nt ld (fun _ => false) qpt qrk qcd qfr qmc qmg qmz qnc qnt qld nb cl gr sp ot na aw nx bg bb ab fd pv bx wy li fm en nu td lf lk)) 12 rfl (fun j hj => by unfold bF; rw [fill_in (by omega)]) rfl ?_
        refine wk_iconst (pc := 21) (v := (nI (0))) S_ d_Md_clearNew_21 (by decide) ?_
        refine wk_istore_n (pc := 22) (lv' := [(1, .int (nI (0))), (0, .ref (m 0))]) S_ d_Md_clearNew_22 rfl (by decide) rfl ?_
        have hL23 : ∀ (fuel23 : Nat), ∀ (k : Nat), 9 - k < fuel23 → (k ≤ 9) → wk_G p_ l e_ R_ s_ m_ ar_ be_ me_ co_ Q_ D A_ 2 0 0 (wMd m cI tx sz ap pt rk cd fr mc mg mz nc nt ld (fun _ => false) (fillN k 0 qpt) (fillN k 0 qrk) (fillN k 0 qcd) qfr (fillN k 0 qmc) qmg qmz qnc qnt qld nb cl gr sp ot na aw nx bg bb ab fd pv bx wy li fm en nu td lf lk) 23 [(0, .ref (m 0)), (1, .int (nI (k)))] [] := by
          intro fuel23
          induction fuel23 with
          | zero => intro k hm; exact absurd hm (Nat.not_lt_zero _)
          | succ fuel23 ih23 =>
            intro k hm hk
            refine wk_iload_n (pc := 23) S_ 1 d_Md_clearNew_23 rfl rfl ?_
            refine wk_bipush (pc := 24) (v := (nI (9))) S_ d_Md_clearNew_24 (by decide) ?_
            refine wk_icmp_geN (pc := 26) (tgt := 63) S_ d_Md_clearNew_26 (by decide) (by omega) (by omega) (fun h26 => ?_) (fun h26 => ?_)
            · -- taken
              refine wk_ext (f := nF (fillN k 0 qpt)) (g := nF (fun _ => 0)) (ws' := (wMd m cI tx sz ap pt rk cd fr mc mg mz nc nt ld (fun _ => false) (fun _ => 0) (fillN k 0 qrk) (fillN k 0 qcd) qfr (fillN k 0 qmc) qmg qmz qnc qnt qld nb cl gr sp ot na aw nx bg bb ab fd pv bx wy li fm en nu td lf lk)) 13 rfl (fun j hj => by unfold nF; rw [fill_in (by omega)]) rfl ?_
              refine wk_ext (f := nF (fillN k 0 qrk)) (g := nF (fun _ => 0)) (ws' := (wMd m cI tx sz ap pt rk cd fr mc mg mz nc nt ld (fun _ => false) (fun _ => 0) (fun _ => 0) (fillN k 0 qcd) qfr (fillN k 0 qmc) qmg qmz qnc qnt qld nb cl gr sp ot na aw nx bg bb ab fd pv bx wy li fm en nu td lf lk)) 14 rfl (fun j hj => by unfold nF; rw [fill_in (by omega)]) rfl ?_
              refine wk_ext (f := nF (fillN k 0 qcd)) (g := nF (fun _ => 0)) (ws' := (wMd m cI tx sz ap pt rk cd fr mc mg mz nc nt ld (fun _ => false) (fun _ => 0) (fun _ => 0) (fun _ => 0) qfr (fillN k 0 qmc) qmg qmz qnc qnt qld nb cl gr sp ot na aw nx bg bb ab fd pv bx wy li fm en nu td lf lk)) 15 rfl (fun j hj => by unfold nF; rw [fill_in (by omega)]) rfl ?_
              refine wk_ext (f := nF (fillN k 0 qmc)) (g := nF (fun _ => 0)) (ws' := (wMd m cI tx sz ap pt rk cd fr mc mg mz nc nt ld (fun _ => false) (fun _ => 0) (fun _ => 0) (fun _ => 0) qfr (fun _ => 0) qmg qmz qnc qnt qld nb cl gr sp ot na aw nx bg bb ab fd pv bx wy li fm en nu td lf lk)) 16 rfl (fun j hj => by unfold nF; rw [fill_in (by omega)]) rfl ?_
              refine wk_aload_n (pc := 63) S_ 0 d_Md_clearNew_63 rfl rfl ?_
              refine wk_iconst (pc := 64) (v := (nI (0))) S_ d_Md_clearNew_64 (by decide) ?_
              refine wk_put (pc := 65) (ty := .int) (ws' := (wMd m cI tx sz ap pt rk cd fr mc mg mz nc nt ld (fun _ => false) (fun _ => 0) (fun _ => 0) (fun _ => 0) 0 (fun _ => 0) qmg qmz qnc qnt qld nb cl gr sp ot na aw nx bg bb ab fd pv bx wy li fm en nu td lf lk)) S_ 6 17 0 in_Md t_Md t_Md_ok n_Md rfl (by decide) rfl fl_Md_134 (by decide +kernel) d_Md_clearNew_65 rfl rfl rfl (Nat.le_of_ble_eq_true rfl) rfl ?_
              refine wk_iconst (pc := 68) (v := (nI (0))) S_ d_Md_clearNew_68 (by decide) ?_
              refine wk_istore_n (pc := 69) (lv' := [(1, .int (nI (0))), (0, .ref (m 0))]) S_ d_Md_clearNew_69 rfl (by decide) rfl ?_
              have hL70 : ∀ (fuel70 : Nat), ∀ (k : Nat), 4 - k < fuel70 → (k ≤ 4) → wk_G p_ l e_ R_ s_ m_ ar_ be_ me_ co_ Q_ D A_ 2 0 0 (wMd m cI tx sz ap pt rk cd fr mc mg mz nc nt ld (fun _ => false) (fun _ => 0) (fun _ => 0) (fun _ => 0) 0 (fun _ => 0) qmg qmz (fillN k 0 qnc) qnt qld nb cl gr sp ot na aw nx bg bb ab fd pv bx wy li fm en nu td lf lk) 70 [(0, .ref (m 0)), (1, .int (nI (k)))] [] := by
                intro fuel70
                induction fuel70 with
                | zero => intro k hm; exact absurd hm (Nat.not_lt_zero _)
                | succ fuel70 ih70 =>
                  intro k hm hk
                  refine wk_iload_n (pc := 70) S_ 1 d_Md_clearNew_70 rfl rfl ?_
                  refine wk_iconst (pc := 71) (v := (nI (4))) S_ d_Md_clearNew_71 (by decide) ?_
                  refine wk_icmp_geN (pc := 72) (tgt := 88) S_ d_Md_clearNew_72 (by decide) (by omega) (by omega) (fun h72 => ?_) (fun h72 => ?_)
                  · -- taken
                    refine wk_ext (f := nF (fillN k 0 qnc)) (g := nF (fun _ => 0)) (ws' := (wMd m cI tx sz ap pt rk cd fr mc mg mz nc nt ld (fun _ => false) (fun _ => 0) (fun _ => 0) (fun _ => 0) 0 (fun _ => 0) qmg qmz (fun _ => 0) qnt qld nb cl gr sp ot na aw nx bg bb ab fd pv bx wy li fm en nu td lf lk)) 19 rfl (fun j hj => by unfold nF; rw [fill_in (by omega)]) rfl ?_
                    refine wk_iconst (pc := 88) (v := (nI (0))) S_ d_Md_clearNew_88 (by decide) ?_
                    refine wk_istore_n (pc := 89) (lv' := [(1, .int (nI (0))), (0, .ref (m 0))]) S_ d_Md_clearNew_89 rfl (by decide) rfl ?_
                    have hL90 : ∀ (fuel90 : Nat), ∀ (k : Nat), 40 - k < fuel90 → (k ≤ 40) → wk_G p_ l e_ R_ s_ m_ ar_ be_ me_ co_ Q_ D A_ 2 0 0 (wMd m cI tx sz ap pt rk cd fr mc mg mz nc nt ld (fun _ => false) (fun _ => 0) (fun _ => 0) (fun _ => 0) 0 (fun _ => 0) qmg qmz (fun _ => 0) qnt (fillN k 0 qld) nb cl gr sp ot na aw nx bg bb ab fd pv bx wy li fm en nu td lf lk) 90 [(0, .ref (m 0)), (1, .int (nI (k)))] [] := by
                      intro fuel90
                      induction fuel90 with
                      | zero => intro k hm; exact absurd hm (Nat.not_lt_zero _)
                      | succ fuel90 ih90 =>
                        intro k hm hk
                        refine wk_iload_n (pc := 90) S_ 1 d_Md_clearNew_90 rfl rfl ?_
                        refine wk_bipush (pc := 91) (v := (nI (40))) S_ d_Md_clearNew_91 (by decide) ?_
                        refine wk_icmp_geN (pc := 93) (tgt := 110) S_ d_Md_clearNew_93 (by decide) (by omega) (by omega) (fun h93 => ?_) (fun h93 => ?_)
                        · -- taken
                          refine wk_ext (f := lI_F (fillN k 0 qld)) (g := lI_F (fun _ => 0)) (ws' := (wMd m cI tx sz ap pt rk cd fr mc mg mz nc nt ld (fun _ => false) (fun _ => 0) (fun _ => 0) (fun _ => 0) 0 (fun _ => 0) qmg qmz (fun _ => 0) qnt (fun _ => 0) nb cl gr sp ot na aw nx bg bb ab fd pv bx wy li fm en nu td lf lk)) 21 rfl (fun j hj => by unfold lI_F; rw [fill_in (by omega)]) rfl ?_
                          exact hQ_ () d_Md_clearNew_110 rfl trivial
                        · -- on
                          refine wk_aload_n (pc := 96) S_ 0 d_Md_clearNew_96 rfl rfl ?_
                          refine wk_get (pc := 97) (v := .ref (m 21)) S_ 6 23 0 in_Md rfl (by decide) rfl fl_Md_71 d_Md_clearNew_97 rfl rfl ?_
                          refine wk_iload_n (pc := 100) S_ 1 d_Md_clearNew_100 rfl rfl ?_
                          refine wk_bipush (pc := 101) (v := (-100)) S_ d_Md_clearNew_101 (by decide) ?_
                          refine wk_top (y := (lI (0))) rfl ?_
                          refine wk_iastD (pc := 103) (g := fillN k 0 qld) (ws' := (wMd m cI tx sz ap pt rk cd fr mc mg mz nc nt ld (fun _ => false) (fun _ => 0) (fun _ => 0) (fun _ => 0) 0 (fun _ => 0) qmg qmz (fun _ => 0) qnt (va_up (fillN k 0 qld) (k) (0)) nb cl gr sp ot na aw nx bg bb ab fd pv bx wy li fm en nu td lf lk)) S_ 21 0 d_Md_clearNew_103 rfl rfl (by omega) (by decide) rfl ?_
                          refine wk_iincN (pc := 104) (d := 1) (lv' := [(1, .int (nI (k + 1))), (0, .ref (m 0))]) S_ 1 d_Md_clearNew_104 (by decide) rfl (by decide) rfl ?_
                          refine wk_goto (pc := 107) (tgt := 90) S_ d_Md_clearNew_107 (by decide) ?_
                          refine wk_weq (ws' := (wMd m cI tx sz ap pt rk cd fr mc mg mz nc nt ld (fun _ => false) (fun _ => 0) (fun _ => 0) (fun _ => 0) 0 (fun _ => 0) qmg qmz (fun _ => 0) qnt (fillN (k + 1) 0 qld) nb cl gr sp ot na aw nx bg bb ab fd pv bx wy li fm en nu td lf lk)) (by rw [fill_up k 0 qld]) ?_
                          refine wk_lv [1, 0] ?_ (ih90 (k + 1) (by omega) (by omega))
                          rfl
                    refine wk_weq (ws' := (wMd m cI tx sz ap pt rk cd fr mc mg mz nc nt ld (fun _ => false) (fun _ => 0) (fun _ => 0) (fun _ => 0) 0 (fun _ => 0) qmg qmz (fun _ => 0) qnt (fillN 0 0 qld) nb cl gr sp ot na aw nx bg bb ab fd pv bx wy li fm en nu td lf lk)) (by rw [← fill_0 0 qld]) ?_
                    refine wk_lv [1, 0] ?_ (hL90 _ (0) (Nat.lt_succ_self _) (by omega))
                    rfl
                  · -- on
                    refine wk_aload_n (pc := 75) S_ 0 d_Md_clearNew_75 rfl rfl ?_
                    refine wk_get (pc := 76) (v := .ref (m 19)) S_ 6 21 0 in_Md rfl (by decide) rfl fl_Md_65 d_Md_clearNew_76 rfl rfl ?_
                    refine wk_iload_n (pc := 79) S_ 1 d_Md_clearNew_79 rfl rfl ?_
                    refine wk_iconst (pc := 80) (v := (nI (0))) S_ d_Md_clearNew_80 (by decide) ?_
                    refine wk_iastN (pc := 81) (g := fillN k 0 qnc) (ws' := (wMd m cI tx sz ap pt rk cd fr mc mg mz nc nt ld (fun _ => false) (fun _ => 0) (fun _ => 0) (fun _ => 0) 0 (fun _ => 0) qmg qmz (va_up (fillN k 0 qnc) (k) (0)) qnt qld nb cl gr sp ot na aw nx bg bb ab fd pv bx wy li fm en nu td lf lk)) S_ 19 0 d_Md_clearNew_81 rfl rfl (by omega) (by decide) rfl ?_
                    refine wk_iincN (pc := 82) (d := 1) (lv' := [(1, .int (nI (k + 1))), (0, .ref (m 0))]) S_ 1 d_Md_clearNew_82 (by decide) rfl (by decide) rfl ?_
                    refine wk_goto (pc := 85) (tgt := 70) S_ d_Md_clearNew_85 (by decide) ?_
                    refine wk_weq (ws' := (wMd m cI tx sz ap pt rk cd fr mc mg mz nc nt ld (fun _ => false) (fun _ => 0) (fun _ => 0) (fun _ => 0) 0 (fun _ => 0) qmg qmz (fillN (k + 1) 0 qnc) qnt qld nb cl gr sp ot na aw nx bg bb ab fd pv bx wy li fm en nu td lf lk)) (by rw [fill_up k 0 qnc]) ?_
                    refine wk_lv [1, 0] ?_ (ih70 (k + 1) (by omega) (by omega))
                    rfl
              refine wk_weq (ws' := (wMd m cI tx sz ap pt rk cd fr mc mg mz nc nt ld (fun _ => false) (fun _ => 0) (fun _ => 0) (fun _ => 0) 0 (fun _ => 0) qmg qmz (fillN 0 0 qnc) qnt qld nb cl gr sp ot na aw nx bg bb ab fd pv bx wy li fm en nu td lf lk)) (by rw [← fill_0 0 qnc]) ?_
              refine wk_lv [1, 0] ?_ (hL70 _ (0) (Nat.lt_succ_self _) (by omega))
              rfl
            · -- on
              refine wk_aload_n (pc := 29) S_ 0 d_Md_clearNew_29 rfl rfl ?_
              refine wk_get (pc := 30) (v := .ref (m 13)) S_ 6 14 0 in_Md rfl (by decide) rfl fl_Md_47 d_Md_clearNew_30 rfl rfl ?_
              refine wk_iload_n (pc := 33) S_ 1 d_Md_clearNew_33 rfl rfl ?_
              refine wk_iconst (pc := 34) (v := (nI (0))) S_ d_Md_clearNew_34 (by decide) ?_
              refine wk_iastN (pc := 35) (g := fillN k 0 qpt) (ws' := (wMd m cI tx sz ap pt rk cd fr mc mg mz nc nt ld (fun _ => false) (va_up (fillN k 0 qpt) (k) (0)) (fillN k 0 qrk) (fillN k 0 qcd) qfr (fillN k 0 qmc) qmg qmz qnc qnt qld nb cl gr sp ot na aw nx bg bb ab fd pv bx wy li fm en nu td lf lk)) S_ 13 0 d_Md_clearNew_35 rfl rfl (by omega) (by decide) rfl ?_
              refine wk_aload_n (pc := 36) S_ 0 d_Md_clearNew_36 rfl rfl ?_
              refine wk_get (pc := 37) (v := .ref (m 14)) S_ 6 15 0 in_Md rfl (by decide) rfl fl_Md_50 d_Md_clearNew_37 rfl rfl ?_
              refine wk_iload_n (pc := 40) S_ 1 d_Md_clearNew_40 rfl rfl ?_
              refine wk_iconst (pc := 41) (v := (nI (0))) S_ d_Md_clearNew_41 (by decide) ?_
              refine wk_iastN (pc := 42) (g := fillN k 0 qrk) (ws' := (wMd m cI tx sz ap pt rk cd fr mc mg mz nc nt ld (fun _ => false) (va_up (fillN k 0 qpt) (k) (0)) (va_up (fillN k 0 qrk) (k) (0)) (fillN k 0 qcd) qfr (fillN k 0 qmc) qmg qmz qnc qnt qld nb cl gr sp ot na aw nx bg bb ab fd pv bx wy li fm en nu td lf lk)) S_ 14 0 d_Md_clearNew_42 rfl rfl (by omega) (by decide) rfl ?_
              refine wk_aload_n (pc := 43) S_ 0 d_Md_clearNew_43 rfl rfl ?_
              refine wk_get (pc := 44) (v := .ref (m 15)) S_ 6 16 0 in_Md rfl (by decide) rfl fl_Md_53 d_Md_clearNew_44 rfl rfl ?_
              refine wk_iload_n (pc := 47) S_ 1 d_Md_clearNew_47 rfl rfl ?_
              refine wk_iconst (pc := 48) (v := (nI (0))) S_ d_Md_clearNew_48 (by decide) ?_
              refine wk_iastN (pc := 49) (g := fillN k 0 qcd) (ws' := (wMd m cI tx sz ap pt rk cd fr mc mg mz nc nt ld (fun _ => false) (va_up (fillN k 0 qpt) (k) (0)) (va_up (fillN k 0 qrk) (k) (0)) (va_up (fillN k 0 qcd) (k) (0)) qfr (fillN k 0 qmc) qmg qmz qnc qnt qld nb cl gr sp ot na aw nx bg bb ab fd pv bx wy li fm en nu td lf lk)) S_ 15 0 d_Md_clearNew_49 rfl rfl (by omega) (by decide) rfl ?_
              refine wk_aload_n (pc := 50) S_ 0 d_Md_clearNew_50 rfl rfl ?_
              refine wk_get (pc := 51) (v := .ref (m 16)) S_ 6 18 0 in_Md rfl (by decide) rfl fl_Md_56 d_Md_clearNew_51 rfl rfl ?_
              refine wk_iload_n (pc := 54) S_ 1 d_Md_clearNew_54 rfl rfl ?_
              refine wk_iconst (pc := 55) (v := (nI (0))) S_ d_Md_clearNew_55 (by decide) ?_
              refine wk_iastN (pc := 56) (g := fillN k 0 qmc) (ws' := (wMd m cI tx sz ap pt rk cd fr mc mg mz nc nt ld (fun _ => false) (va_up (fillN k 0 qpt) (k) (0)) (va_up (fillN k 0 qrk) (k) (0)) (va_up (fillN k 0 qcd) (k) (0)) qfr (va_up (fillN k 0 qmc) (k) (0)) qmg qmz qnc qnt qld nb cl gr sp ot na aw nx bg bb ab fd pv bx wy li fm en nu td lf lk)) S_ 16 0 d_Md_clearNew_56 rfl rfl (by omega) (by decide) rfl ?_
              refine wk_iincN (pc := 57) (d := 1) (lv' := [(1, .int (nI (k + 1))), (0, .ref (m 0))]) S_ 1 d_Md_clearNew_57 (by decide) rfl (by decide) rfl ?_
              refine wk_goto (pc := 60) (tgt := 23) S_ d_Md_clearNew_60 (by decide) ?_
              refine wk_weq (ws' := (wMd m cI tx sz ap pt rk cd fr mc mg mz nc nt ld (fun _ => false) (fillN (k + 1) 0 qpt) (va_up (fillN k 0 qrk) (k) (0)) (va_up (fillN k 0 qcd) (k) (0)) qfr (va_up (fillN k 0 qmc) (k) (0)) qmg qmz qnc qnt qld nb cl gr sp ot na aw nx bg bb ab fd pv bx wy li fm en nu td lf lk)) (by rw [fill_up k 0 qpt]) ?_
              refine wk_weq (ws' := (wMd m cI tx sz ap pt rk cd fr mc mg mz nc nt ld (fun _ => false) (fillN (k + 1) 0 qpt) (fillN (k + 1) 0 qrk) (va_up (fillN k 0 qcd) (k) (0)) qfr (va_up (fillN k 0 qmc) (k) (0)) qmg qmz qnc qnt qld nb cl gr sp ot na aw nx bg bb ab fd pv bx wy li fm en nu td lf lk)) (by rw [fill_up k 0 qrk]) ?_
              refine wk_weq (ws' := (wMd m cI tx sz ap pt rk cd fr mc mg mz nc nt ld (fun _ => false) (fillN (k + 1) 0 qpt) (fillN (k + 1) 0 qrk) (fillN (k + 1) 0 qcd) qfr (va_up (fillN k 0 qmc) (k) (0)) qmg qmz qnc qnt qld nb cl gr sp ot na aw nx bg bb ab fd pv bx wy li fm en nu td lf lk)) (by rw [fill_up k 0 qcd]) ?_
              refine wk_weq (ws' := (wMd m cI tx sz ap pt rk cd fr mc mg mz nc nt ld (fun _ => false) (fillN (k + 1) 0 qpt) (fillN (k + 1) 0 qrk) (fillN (k + 1) 0 qcd) qfr (fillN (k + 1) 0 qmc) qmg qmz qnc qnt qld nb cl gr sp ot na aw nx bg bb ab fd pv bx wy li fm en nu td lf lk)) (by rw [fill_up k 0 qmc]) ?_
              refine wk_lv [1, 0] ?_ (ih23 (k + 1) (by omega) (by omega))
              rfl
        refine wk_weq (ws' := (wMd m cI tx sz ap pt rk cd fr mc mg mz nc nt ld (fun _ => false) (fillN 0 0 qpt) qrk qcd qfr qmc qmg qmz qnc qnt qld nb cl gr sp ot na aw nx bg bb ab fd pv bx wy li fm en nu td lf lk)) (by rw [← fill_0 0 qpt]) ?_
        refine wk_weq (ws' := (wMd m cI tx sz ap pt rk cd fr mc mg mz nc nt ld (fun _ => false) (fillN 0 0 qpt) (fillN 0 0 qrk) qcd qfr qmc qmg qmz qnc qnt qld nb cl gr sp ot na aw nx bg bb ab fd pv bx wy li fm en nu td lf lk)) (by rw [← fill_0 0 qrk]) ?_
        refine wk_weq (ws' := (wMd m cI tx sz ap pt rk cd fr mc mg mz nc nt ld (fun _ => false) (fillN 0 0 qpt) (fillN 0 0 qrk) (fillN 0 0 qcd) qfr qmc qmg qmz qnc qnt qld nb cl gr sp ot na aw nx bg bb ab fd pv bx wy li fm en nu td lf lk)) (by rw [← fill_0 0 qcd]) ?_
        refine wk_weq (ws' := (wMd m cI tx sz ap pt rk cd fr mc mg mz nc nt ld (fun _ => false) (fillN 0 0 qpt) (fillN 0 0 qrk) (fillN 0 0 qcd) qfr (fillN 0 0 qmc) qmg qmz qnc qnt qld nb cl gr sp ot na aw nx bg bb ab fd pv bx wy li fm en nu td lf lk)) (by rw [← fill_0 0 qmc]) ?_
        refine wk_lv [1, 0] ?_ (hL23 _ (0) (Nat.lt_succ_self _) (by omega))
        rfl
      · -- on
        refine wk_aload_n (pc := 8) S_ 0 d_Md_clearNew_8 rfl rfl ?_
        refine wk_get (pc := 9) (v := .ref (m 12)) S_ 6 13 0 in_Md rfl (by decide) rfl fl_Md_44 d_Md_clearNew_9 rfl rfl ?_
        refine wk_iload_n (pc := 12) S_ 1 d_Md_clearNew_12 rfl rfl ?_
        refine wk_iconst (pc := 13) (v := (nI (0))) S_ d_Md_clearNew_13 (by decide) ?_
        refine wk_top (y := bI false) rfl ?_
        refine wk_zast (pc := 14) (g := fillN k false qap) (ws' := (wMd m cI tx sz ap pt rk cd fr mc mg mz nc nt ld (va_up (fillN k false qap) (k) (false)) qpt qrk qcd qfr qmc qmg qmz qnc qnt qld nb cl gr sp ot na aw nx bg bb ab fd pv bx wy li fm en nu td lf lk)) S_ 12 1 d_Md_clearNew_14 rfl rfl (by omega) (by decide) rfl ?_
        refine wk_iincN (pc := 15) (d := 1) (lv' := [(1, .int (nI (k + 1))), (0, .ref (m 0))]) S_ 1 d_Md_clearNew_15 (by decide) rfl (by decide) rfl ?_
        refine wk_goto (pc := 18) (tgt := 2) S_ d_Md_clearNew_18 (by decide) ?_
        refine wk_weq (ws' := (wMd m cI tx sz ap pt rk cd fr mc mg mz nc nt ld (fillN (k + 1) false qap) qpt qrk qcd qfr qmc qmg qmz qnc qnt qld nb cl gr sp ot na aw nx bg bb ab fd pv bx wy li fm en nu td lf lk)) (by rw [fill_up k false qap]) ?_
        refine wk_lv [1, 0] ?_ (ih2 (k + 1) (by omega) (by omega))
        rfl
  refine wk_weq (ws' := (wMd m cI tx sz ap pt rk cd fr mc mg mz nc nt ld (fillN 0 false qap) qpt qrk qcd qfr qmc qmg qmz qnc qnt qld nb cl gr sp ot na aw nx bg bb ab fd pv bx wy li fm en nu td lf lk)) (by rw [← fill_0 false qap]) ?_
  refine wk_lv [1, 0] ?_ (hL2 _ (0) (Nat.lt_succ_self _) (by omega))
  rfl
set_option maxHeartbeats 4000000 in
set_option maxRecDepth 100000 in
theorem c_Md_take (l : Launch) (D : va_G) (cI : CiT) (z : GzT) (m : Nat → Nat) (tx : (Nat → Nat)) (sz : Nat) (ap : (Nat → Bool)) (pt : (Nat → Nat)) (rk : (Nat → Nat)) (cd : (Nat → Nat)) (fr : Nat) (mc : (Nat → Nat)) (mg : (Nat → Nat)) (mz : (Nat → Nat)) (nc : (Nat → Nat)) (nt : (Nat → Nat)) (ld : (Nat → Nat)) (qap : (Nat → Bool)) (qpt : (Nat → Nat)) (qrk : (Nat → Nat)) (qcd : (Nat → Nat)) (qfr : Nat) (qmc : (Nat → Nat)) (qmg : (Nat → Nat)) (qmz : (Nat → Nat)) (qnc : (Nat → Nat)) (qnt : (Nat → Nat)) (qld : (Nat → Nat)) (nb : Nat) (cl : (Nat → Nat)) (gr : (Nat → Nat)) (sp : (Nat → Nat)) (ot : (Nat → Bool)) (na : Nat) (aw : (Nat → Nat)) (nx : Nat) (bg : (Nat → Nat)) (bb : (Nat → Nat)) (ab : (Nat → Nat)) (fd : Bool) (pv : Bool) (bx : (Nat → Nat)) (wy : (Nat → Nat)) (li : (Nat → Nat)) (fm : Nat) (en : Nat) (nu : Nat) (td : (Nat → Nat)) (lf : Int32) (lk : Int32) : wk_C l D (tyK cI) (gX z) y_Md_take b_Md_take 2 none 0 0 0 0 [.ref (m 0)] (wMd m cI tx sz ap pt rk cd fr mc mg mz nc nt ld qap qpt qrk qcd qfr qmc qmg qmz qnc qnt qld nb cl gr sp ot na aw nx bg bb ab fd pv bx wy li fm en nu td lf lk) wk_v (fun (_ : Unit) (_ : Unit) => True) (fun _ => (wMd m cI tx sz qap qpt qrk qcd qfr qmc qmg qmz qnc qnt qld qap qpt qrk qcd qfr qmc qmg qmz qnc qnt qld nb cl gr sp ot na aw nx bg bb ab fd pv bx wy li fm en nu td lf lk)) := by
  refine wk_methV (own := R_Md) [(0, .ref (m 0))] (by decide) rfl (Nat.le_of_ble_eq_true rfl) rfl (gX_ok z) (fun p_ e_ R_ s_ m_ ar_ be_ me_ co_ Q_ A_ hR_ S_ hnm_ hQ_ => ?_)
  refine wk_iconst (pc := 0) (v := (nI (0))) S_ d_Md_take_0 (by decide) ?_
  refine wk_istore_n (pc := 1) (lv' := [(1, .int (nI (0))), (0, .ref (m 0))]) S_ d_Md_take_1 rfl (by decide) rfl ?_
  have hL2 : ∀ (fuel2 : Nat), ∀ (k : Nat), 81 - k < fuel2 → (k ≤ 81) → wk_G p_ l e_ R_ s_ m_ ar_ be_ me_ co_ Q_ D A_ 2 0 0 (wMd m cI tx sz (cpN k qap ap) pt rk cd fr mc mg mz nc nt ld qap qpt qrk qcd qfr qmc qmg qmz qnc qnt qld nb cl gr sp ot na aw nx bg bb ab fd pv bx wy li fm en nu td lf lk) 2 [(0, .ref (m 0)), (1, .int (nI (k)))] [] := by
    intro fuel2
    induction fuel2 with
    | zero => intro k hm; exact absurd hm (Nat.not_lt_zero _)
    | succ fuel2 ih2 =>
      intro k hm hk
      refine wk_iload_n (pc := 2) S_ 1 d_Md_take_2 rfl rfl ?_
      refine wk_bipush (pc := 3) (v := (nI (81))) S_ d_Md_take_3 (by decide) ?_
      refine wk_icmp_geN (pc := 5) (tgt := 26) S_ d_Md_take_5 (by decide) (by omega) (by omega) (fun h5 => ?_) (fun h5 => ?_)
      · -- taken
        refine wk_ext (f := bF (cpN k qap ap)) (g := bF (qap)) (ws' := (wMd m cI tx sz qap pt rk cd fr mc mg mz nc nt ld qap qpt qrk qcd qfr qmc qmg qmz qnc qnt qld nb cl gr sp ot na aw nx bg bb ab fd pv bx wy li fm en nu td lf lk)) 2 rfl (fun j hj => by unfold bF; rw [cp_in (by omega)]) rfl ?_
        refine wk_iconst (pc := 26) (v := (nI (0))) S_ d_Md_take_26 (by decide) ?_
        refine wk_istore_n (pc := 27) (lv' := [(1, .int (nI (0))), (0, .ref (m 0))]) S_ d_Md_take_27 rfl (by decide) rfl ?_
        have hL28 : ∀ (fuel28 : Nat), ∀ (k : Nat), 9 - k < fuel28 → (k ≤ 9) → wk_G p_ l e_ R_ s_ m_ ar_ be_ me_ co_ Q_ D A_ 2 0 0 (wMd m cI tx sz qap (cpN k qpt pt) (cpN k qrk rk) (cpN k qcd cd) fr (cpN k qmc mc) mg mz nc nt ld qap qpt qrk qcd qfr qmc qmg qmz qnc qnt qld nb cl gr sp ot na aw nx bg bb ab fd pv bx wy li fm en nu td lf lk) 28 [(0, .ref (m 0)), (1, .int (nI (k)))] [] := by
          intro fuel28
          induction fuel28 with
          | zero => intro k hm; exact absurd hm (Nat.not_lt_zero _)
          | succ fuel28 ih28 =>
            intro k hm hk
            refine wk_iload_n (pc := 28) S_ 1 d_Md_take_28 rfl rfl ?_
            refine wk_bipush (pc := 29) (v := (nI (9))) S_ d_Md_take_29 (by decide) ?_
            refine wk_icmp_geN (pc := 31) (tgt := 88) S_ d_Md_take_31 (by decide) (by omega) (by omega) (fun h31 => ?_) (fun h31 => ?_)
            · -- taken
              refine wk_ext (f := nF (cpN k qpt pt)) (g := nF (qpt)) (ws' := (wMd m cI tx sz qap qpt (cpN k qrk rk) (cpN k qcd cd) fr (cpN k qmc mc) mg mz nc nt ld qap qpt qrk qcd qfr qmc qmg qmz qnc qnt qld nb cl gr sp ot na aw nx bg bb ab fd pv bx wy li fm en nu td lf lk)) 3 rfl (fun j hj => by unfold nF; rw [cp_in (by omega)]) rfl ?_
              refine wk_ext (f := nF (cpN k qrk rk)) (g := nF (qrk)) (ws' := (wMd m cI tx sz qap qpt qrk (cpN k qcd cd) fr (cpN k qmc mc) mg mz nc nt ld qap qpt qrk qcd qfr qmc qmg qmz qnc qnt qld nb cl gr sp ot na aw nx bg bb ab fd pv bx wy li fm en nu td lf lk)) 4 rfl (fun j hj => by unfold nF; rw [cp_in (by omega)]) rfl ?_
              refine wk_ext (f := nF (cpN k qcd cd)) (g := nF (qcd)) (ws' := (wMd m cI tx sz qap qpt qrk qcd fr (cpN k qmc mc) mg mz nc nt ld qap qpt qrk qcd qfr qmc qmg qmz qnc qnt qld nb cl gr sp ot na aw nx bg bb ab fd pv bx wy li fm en nu td lf lk)) 5 rfl (fun j hj => by unfold nF; rw [cp_in (by omega)]) rfl ?_
              refine wk_ext (f := nF (cpN k qmc mc)) (g := nF (qmc)) (ws' := (wMd m cI tx sz qap qpt qrk qcd fr qmc mg mz nc nt ld qap qpt qrk qcd qfr qmc qmg qmz qnc qnt qld nb cl gr sp ot na aw nx bg bb ab fd pv bx wy li fm en nu td lf lk)) 6 rfl (fun j hj => by unfold nF; rw [cp_in (by omega)]) rfl ?_
              refine wk_aload_n (pc := 88) S_ 0 d_Md_take_88 rfl rfl ?_
              refine wk_aload_n (pc := 89) S_ 0 d_Md_take_89 rfl rfl ?_
              refine wk_get (pc := 90) (v := .int (nI (qfr))) S_ 6 17 0 in_Md rfl (by decide) rfl fl_Md_134 d_Md_take_90 rfl rfl ?_
              refine wk_put (pc := 93) (ty := .int) (ws' := (wMd m cI tx sz qap qpt qrk qcd qfr qmc mg mz nc nt ld qap qpt qrk qcd qfr qmc qmg qmz qnc qnt qld nb cl gr sp ot na aw nx bg bb ab fd pv bx wy li fm en nu td lf lk)) S_ 6 6 0 in_Md t_Md t_Md_ok n_Md rfl (by decide) rfl fl_Md_137 (by decide +kernel) d_Md_take_93 rfl rfl rfl (Nat.le_of_ble_eq_true rfl) rfl ?_
              refine wk_iconst (pc := 96) (v := (nI (0))) S_ d_Md_take_96 (by decide) ?_
              refine wk_istore_n (pc := 97) (lv' := [(1, .int (nI (0))), (0, .ref (m 0))]) S_ d_Md_take_97 rfl (by decide) rfl ?_
              have hL98 : ∀ (fuel98 : Nat), ∀ (k : Nat), 54 - k < fuel98 → (k ≤ 54) → wk_G p_ l e_ R_ s_ m_ ar_ be_ me_ co_ Q_ D A_ 2 0 0 (wMd m cI tx sz qap qpt qrk qcd qfr qmc (cpN k qmg mg) (cpN k qmz mz) nc nt ld qap qpt qrk qcd qfr qmc qmg qmz qnc qnt qld nb cl gr sp ot na aw nx bg bb ab fd pv bx wy li fm en nu td lf lk) 98 [(0, .ref (m 0)), (1, .int (nI (k)))] [] := by
                intro fuel98
                induction fuel98 with
                | zero => intro k hm; exact absurd hm (Nat.not_lt_zero _)
                | succ fuel98 ih98 =>
                  intro k hm hk
                  refine wk_iload_n (pc := 98) S_ 1 d_Md_take_98 rfl rfl ?_
                  refine wk_bipush (pc := 99) (v := (nI (54))) S_ d_Md_take_99 (by decide) ?_
                  refine wk_icmp_geN (pc := 101) (tgt := 134) S_ d_Md_take_101 (by decide) (by omega) (by omega) (fun h101 => ?_) (fun h101 => ?_)
                  · -- taken
                    refine wk_ext (f := nF (cpN k qmg mg)) (g := nF (qmg)) (ws' := (wMd m cI tx sz qap qpt qrk qcd qfr qmc qmg (cpN k qmz mz) nc nt ld qap qpt qrk qcd qfr qmc qmg qmz qnc qnt qld nb cl gr sp ot na aw nx bg bb ab fd pv bx wy li fm en nu td lf lk)) 7 rfl (fun j hj => by unfold nF; rw [cp_in (by omega)]) rfl ?_
                    refine wk_ext (f := nF (cpN k qmz mz)) (g := nF (qmz)) (ws' := (wMd m cI tx sz qap qpt qrk qcd qfr qmc qmg qmz nc nt ld qap qpt qrk qcd qfr qmc qmg qmz qnc qnt qld nb cl gr sp ot na aw nx bg bb ab fd pv bx wy li fm en nu td lf lk)) 8 rfl (fun j hj => by unfold nF; rw [cp_in (by omega)]) rfl ?_
                    refine wk_iconst (pc := 134) (v := (nI (0))) S_ d_Md_take_134 (by decide) ?_
                    refine wk_istore_n (pc := 135) (lv' := [(1, .int (nI (0))), (0, .ref (m 0))]) S_ d_Md_take_135 rfl (by decide) rfl ?_
                    have hL136 : ∀ (fuel136 : Nat), ∀ (k : Nat), 4 - k < fuel136 → (k ≤ 4) → wk_G p_ l e_ R_ s_ m_ ar_ be_ me_ co_ Q_ D A_ 2 0 0 (wMd m cI tx sz qap qpt qrk qcd qfr qmc qmg qmz (cpN k qnc nc) nt ld qap qpt qrk qcd qfr qmc qmg qmz qnc qnt qld nb cl gr sp ot na aw nx bg bb ab fd pv bx wy li fm en nu td lf lk) 136 [(0, .ref (m 0)), (1, .int (nI (k)))] [] := by
                      intro fuel136
                      induction fuel136 with
                      | zero => intro k hm; exact absurd hm (Nat.not_lt_zero _)
                      | succ fuel136 ih136 =>
                        intro k hm hk
                        refine wk_iload_n (pc := 136) S_ 1 d_Md_take_136 rfl rfl ?_
                        refine wk_iconst (pc := 137) (v := (nI (4))) S_ d_Md_take_137 (by decide) ?_
                        refine wk_icmp_geN (pc := 138) (tgt := 159) S_ d_Md_take_138 (by decide) (by omega) (by omega) (fun h138 => ?_) (fun h138 => ?_)
                        · -- taken
                          refine wk_ext (f := nF (cpN k qnc nc)) (g := nF (qnc)) (ws' := (wMd m cI tx sz qap qpt qrk qcd qfr qmc qmg qmz qnc nt ld qap qpt qrk qcd qfr qmc qmg qmz qnc qnt qld nb cl gr sp ot na aw nx bg bb ab fd pv bx wy li fm en nu td lf lk)) 9 rfl (fun j hj => by unfold nF; rw [cp_in (by omega)]) rfl ?_
                          refine wk_iconst (pc := 159) (v := (nI (0))) S_ d_Md_take_159 (by decide) ?_
                          refine wk_istore_n (pc := 160) (lv' := [(1, .int (nI (0))), (0, .ref (m 0))]) S_ d_Md_take_160 rfl (by decide) rfl ?_
                          have hL161 : ∀ (fuel161 : Nat), ∀ (k : Nat), 32 - k < fuel161 → (k ≤ 32) → wk_G p_ l e_ R_ s_ m_ ar_ be_ me_ co_ Q_ D A_ 2 0 0 (wMd m cI tx sz qap qpt qrk qcd qfr qmc qmg qmz qnc (cpN k qnt nt) ld qap qpt qrk qcd qfr qmc qmg qmz qnc qnt qld nb cl gr sp ot na aw nx bg bb ab fd pv bx wy li fm en nu td lf lk) 161 [(0, .ref (m 0)), (1, .int (nI (k)))] [] := by
                            intro fuel161
                            induction fuel161 with
                            | zero => intro k hm; exact absurd hm (Nat.not_lt_zero _)
                            | succ fuel161 ih161 =>
                              intro k hm hk
                              refine wk_iload_n (pc := 161) S_ 1 d_Md_take_161 rfl rfl ?_
                              refine wk_bipush (pc := 162) (v := (nI (32))) S_ d_Md_take_162 (by decide) ?_
                              refine wk_icmp_geN (pc := 164) (tgt := 185) S_ d_Md_take_164 (by decide) (by omega) (by omega) (fun h164 => ?_) (fun h164 => ?_)
                              · -- taken
                                refine wk_ext (f := nF (cpN k qnt nt)) (g := nF (qnt)) (ws' := (wMd m cI tx sz qap qpt qrk qcd qfr qmc qmg qmz qnc qnt ld qap qpt qrk qcd qfr qmc qmg qmz qnc qnt qld nb cl gr sp ot na aw nx bg bb ab fd pv bx wy li fm en nu td lf lk)) 10 rfl (fun j hj => by unfold nF; rw [cp_in (by omega)]) rfl ?_
                                refine wk_iconst (pc := 185) (v := (nI (0))) S_ d_Md_take_185 (by decide) ?_
                                refine wk_istore_n (pc := 186) (lv' := [(1, .int (nI (0))), (0, .ref (m 0))]) S_ d_Md_take_186 rfl (by decide) rfl ?_
                                have hL187 : ∀ (fuel187 : Nat), ∀ (k : Nat), 40 - k < fuel187 → (k ≤ 40) → wk_G p_ l e_ R_ s_ m_ ar_ be_ me_ co_ Q_ D A_ 2 0 0 (wMd m cI tx sz qap qpt qrk qcd qfr qmc qmg qmz qnc qnt (cpN k qld ld) qap qpt qrk qcd qfr qmc qmg qmz qnc qnt qld nb cl gr sp ot na aw nx bg bb ab fd pv bx wy li fm en nu td lf lk) 187 [(0, .ref (m 0)), (1, .int (nI (k)))] [] := by
                                  intro fuel187
                                  induction fuel187 with
                                  | zero => intro k hm; exact absurd hm (Nat.not_lt_zero _)
                                  | succ fuel187 ih187 =>
                                    intro k hm hk
                                    refine wk_iload_n (pc := 187) S_ 1 d_Md_take_187 rfl rfl ?_
                                    refine wk_bipush (pc := 188) (v := (nI (40))) S_ d_Md_take_188 (by decide) ?_
                                    refine wk_icmp_geN (pc := 190) (tgt := 211) S_ d_Md_take_190 (by decide) (by omega) (by omega) (fun h190 => ?_) (fun h190 => ?_)
                                    · -- taken
                                      refine wk_ext (f := lI_F (cpN k qld ld)) (g := lI_F (qld)) (ws' := (wMd m cI tx sz qap qpt qrk qcd qfr qmc qmg qmz qnc qnt qld qap qpt qrk qcd qfr qmc qmg qmz qnc qnt qld nb cl gr sp ot na aw nx bg bb ab fd pv bx wy li fm en nu td lf lk)) 11 rfl (fun j hj => by unfold lI_F; rw [cp_in (by omega)]) rfl ?_
                                      exact hQ_ () d_Md_take_211 rfl trivial
                                    · -- on
                                      refine wk_aload_n (pc := 193) S_ 0 d_Md_take_193 rfl rfl ?_
                                      refine wk_get (pc := 194) (v := .ref (m 11)) S_ 6 12 0 in_Md rfl (by decide) rfl fl_Md_41 d_Md_take_194 rfl rfl ?_
                                      refine wk_iload_n (pc := 197) S_ 1 d_Md_take_197 rfl rfl ?_
                                      refine wk_aload_n (pc := 198) S_ 0 d_Md_take_198 rfl rfl ?_
                                      refine wk_get (pc := 199) (v := .ref (m 21)) S_ 6 23 0 in_Md rfl (by decide) rfl fl_Md_71 d_Md_take_199 rfl rfl ?_
                                      refine wk_iload_n (pc := 202) S_ 1 d_Md_take_202 rfl rfl ?_
                                      refine wk_ialdD (pc := 203) (g := qld) S_ 21 0 d_Md_take_203 rfl rfl (by omega) (by decide) ?_
                                      refine wk_iastD (pc := 204) (g := cpN k qld ld) (ws' := (wMd m cI tx sz qap qpt qrk qcd qfr qmc qmg qmz qnc qnt (va_up (cpN k qld ld) (k) ((qld) (k))) qap qpt qrk qcd qfr qmc qmg qmz qnc qnt qld nb cl gr sp ot na aw nx bg bb ab fd pv bx wy li fm en nu td lf lk)) S_ 11 0 d_Md_take_204 rfl rfl (by omega) (by decide) rfl ?_
                                      refine wk_iincN (pc := 205) (d := 1) (lv' := [(1, .int (nI (k + 1))), (0, .ref (m 0))]) S_ 1 d_Md_take_205 (by decide) rfl (by decide) rfl ?_
                                      refine wk_goto (pc := 208) (tgt := 187) S_ d_Md_take_208 (by decide) ?_
                                      refine wk_weq (ws' := (wMd m cI tx sz qap qpt qrk qcd qfr qmc qmg qmz qnc qnt (cpN (k + 1) qld ld) qap qpt qrk qcd qfr qmc qmg qmz qnc qnt qld nb cl gr sp ot na aw nx bg bb ab fd pv bx wy li fm en nu td lf lk)) (by rw [cp_up k qld ld]) ?_
                                      refine wk_lv [1, 0] ?_ (ih187 (k + 1) (by omega) (by omega))
                                      rfl
                                refine wk_weq (ws' := (wMd m cI tx sz qap qpt qrk qcd qfr qmc qmg qmz qnc qnt (cpN 0 qld ld) qap qpt qrk qcd qfr qmc qmg qmz qnc qnt qld nb cl gr sp ot na aw nx bg bb ab fd pv bx wy li fm en nu td lf lk)) (by rw [← cp_0 qld ld]) ?_
                                refine wk_lv [1, 0] ?_ (hL187 _ (0) (Nat.lt_succ_self _) (by omega))
                                rfl
                              · -- on
                                refine wk_aload_n (pc := 167) S_ 0 d_Md_take_167 rfl rfl ?_
                                refine wk_get (pc := 168) (v := .ref (m 10)) S_ 6 11 0 in_Md rfl (by decide) rfl fl_Md_38 d_Md_take_168 rfl rfl ?_
                                refine wk_iload_n (pc := 171) S_ 1 d_Md_take_171 rfl rfl ?_
                                refine wk_aload_n (pc := 172) S_ 0 d_Md_take_172 rfl rfl ?_
                                refine wk_get (pc := 173) (v := .ref (m 20)) S_ 6 22 0 in_Md rfl (by decide) rfl fl_Md_68 d_Md_take_173 rfl rfl ?_
                                refine wk_iload_n (pc := 176) S_ 1 d_Md_take_176 rfl rfl ?_
                                refine wk_ialdN (pc := 177) (g := qnt) S_ 20 0 d_Md_take_177 rfl rfl (by omega) (by decide) ?_
                                refine wk_iastN (pc := 178) (g := cpN k qnt nt) (ws' := (wMd m cI tx sz qap qpt qrk qcd qfr qmc qmg qmz qnc (va_up (cpN k qnt nt) (k) ((qnt) (k))) ld qap qpt qrk qcd qfr qmc qmg qmz qnc qnt qld nb cl gr sp ot na aw nx bg bb ab fd pv bx wy li fm en nu td lf lk)) S_ 10 0 d_Md_take_178 rfl rfl (by omega) (by decide) rfl ?_
                                refine wk_iincN (pc := 179) (d := 1) (lv' := [(1, .int (nI (k + 1))), (0, .ref (m 0))]) S_ 1 d_Md_take_179 (by decide) rfl (by decide) rfl ?_
                                refine wk_goto (pc := 182) (tgt := 161) S_ d_Md_take_182 (by decide) ?_
                                refine wk_weq (ws' := (wMd m cI tx sz qap qpt qrk qcd qfr qmc qmg qmz qnc (cpN (k + 1) qnt nt) ld qap qpt qrk qcd qfr qmc qmg qmz qnc qnt qld nb cl gr sp ot na aw nx bg bb ab fd pv bx wy li fm en nu td lf lk)) (by rw [cp_up k qnt nt]) ?_
                                refine wk_lv [1, 0] ?_ (ih161 (k + 1) (by omega) (by omega))
                                rfl
                          refine wk_weq (ws' := (wMd m cI tx sz qap qpt qrk qcd qfr qmc qmg qmz qnc (cpN 0 qnt nt) ld qap qpt qrk qcd qfr qmc qmg qmz qnc qnt qld nb cl gr sp ot na aw nx bg bb ab fd pv bx wy li fm en nu td lf lk)) (by rw [← cp_0 qnt nt]) ?_
                          refine wk_lv [1, 0] ?_ (hL161 _ (0) (Nat.lt_succ_self _) (by omega))
                          rfl
                        · -- on
                          refine wk_aload_n (pc := 141) S_ 0 d_Md_take_141 rfl rfl ?_
                          refine wk_get (pc := 142) (v := .ref (m 9)) S_ 6 10 0 in_Md rfl (by decide) rfl fl_Md_35 d_Md_take_142 rfl rfl ?_
                          refine wk_iload_n (pc := 145) S_ 1 d_Md_take_145 rfl rfl ?_
                          refine wk_aload_n (pc := 146) S_ 0 d_Md_take_146 rfl rfl ?_
                          refine wk_get (pc := 147) (v := .ref (m 19)) S_ 6 21 0 in_Md rfl (by decide) rfl fl_Md_65 d_Md_take_147 rfl rfl ?_
                          refine wk_iload_n (pc := 150) S_ 1 d_Md_take_150 rfl rfl ?_
                          refine wk_ialdN (pc := 151) (g := qnc) S_ 19 0 d_Md_take_151 rfl rfl (by omega) (by decide) ?_
                          refine wk_iastN (pc := 152) (g := cpN k qnc nc) (ws' := (wMd m cI tx sz qap qpt qrk qcd qfr qmc qmg qmz (va_up (cpN k qnc nc) (k) ((qnc) (k))) nt ld qap qpt qrk qcd qfr qmc qmg qmz qnc qnt qld nb cl gr sp ot na aw nx bg bb ab fd pv bx wy li fm en nu td lf lk)) S_ 9 0 d_Md_take_152 rfl rfl (by omega) (by decide) rfl ?_
                          refine wk_iincN (pc := 153) (d := 1) (lv' := [(1, .int (nI (k + 1))), (0, .ref (m 0))]) S_ 1 d_Md_take_153 (by decide) rfl (by decide) rfl ?_
                          refine wk_goto (pc := 156) (tgt := 136) S_ d_Md_take_156 (by decide) ?_
                          refine wk_weq (ws' := (wMd m cI tx sz qap qpt qrk qcd qfr qmc qmg qmz (cpN (k + 1) qnc nc) nt ld qap qpt qrk qcd qfr qmc qmg qmz qnc qnt qld nb cl gr sp ot na aw nx bg bb ab fd pv bx wy li fm en nu td lf lk)) (by rw [cp_up k qnc nc]) ?_
                          refine wk_lv [1, 0] ?_ (ih136 (k + 1) (by omega) (by omega))
                          rfl
                    refine wk_weq (ws' := (wMd m cI tx sz qap qpt qrk qcd qfr qmc qmg qmz (cpN 0 qnc nc) nt ld qap qpt qrk qcd qfr qmc qmg qmz qnc qnt qld nb cl gr sp ot na aw nx bg bb ab fd pv bx wy li fm en nu td lf lk)) (by rw [← cp_0 qnc nc]) ?_
                    refine wk_lv [1, 0] ?_ (hL136 _ (0) (Nat.lt_succ_self _) (by omega))
                    rfl
                  · -- on
                    refine wk_aload_n (pc := 104) S_ 0 d_Md_take_104 rfl rfl ?_
                    refine wk_get (pc := 105) (v := .ref (m 7)) S_ 6 8 0 in_Md rfl (by decide) rfl fl_Md_29 d_Md_take_105 rfl rfl ?_
                    refine wk_iload_n (pc := 108) S_ 1 d_Md_take_108 rfl rfl ?_
                    refine wk_aload_n (pc := 109) S_ 0 d_Md_take_109 rfl rfl ?_
                    refine wk_get (pc := 110) (v := .ref (m 17)) S_ 6 19 0 in_Md rfl (by decide) rfl fl_Md_59 d_Md_take_110 rfl rfl ?_
                    refine wk_iload_n (pc := 113) S_ 1 d_Md_take_113 rfl rfl ?_
                    refine wk_ialdN (pc := 114) (g := qmg) S_ 17 0 d_Md_take_114 rfl rfl (by omega) (by decide) ?_
                    refine wk_iastN (pc := 115) (g := cpN k qmg mg) (ws' := (wMd m cI tx sz qap qpt qrk qcd qfr qmc (va_up (cpN k qmg mg) (k) ((qmg) (k))) (cpN k qmz mz) nc nt ld qap qpt qrk qcd qfr qmc qmg qmz qnc qnt qld nb cl gr sp ot na aw nx bg bb ab fd pv bx wy li fm en nu td lf lk)) S_ 7 0 d_Md_take_115 rfl rfl (by omega) (by decide) rfl ?_
                    refine wk_aload_n (pc := 116) S_ 0 d_Md_take_116 rfl rfl ?_
                    refine wk_get (pc := 117) (v := .ref (m 8)) S_ 6 9 0 in_Md rfl (by decide) rfl fl_Md_32 d_Md_take_117 rfl rfl ?_
                    refine wk_iload_n (pc := 120) S_ 1 d_Md_take_120 rfl rfl ?_
                    refine wk_aload_n (pc := 121) S_ 0 d_Md_take_121 rfl rfl ?_
                    refine wk_get (pc := 122) (v := .ref (m 18)) S_ 6 20 0 in_Md rfl (by decide) rfl fl_Md_62 d_Md_take_122 rfl rfl ?_
                    refine wk_iload_n (pc := 125) S_ 1 d_Md_take_125 rfl rfl ?_
                    refine wk_ialdN (pc := 126) (g := qmz) S_ 18 0 d_Md_take_126 rfl rfl (by omega) (by decide) ?_
                    refine wk_iastN (pc := 127) (g := cpN k qmz mz) (ws' := (wMd m cI tx sz qap qpt qrk qcd qfr qmc (va_up (cpN k qmg mg) (k) ((qmg) (k))) (va_up (cpN k qmz mz) (k) ((qmz) (k))) nc nt ld qap qpt qrk qcd qfr qmc qmg qmz qnc qnt qld nb cl gr sp ot na aw nx bg bb ab fd pv bx wy li fm en nu td lf lk)) S_ 8 0 d_Md_take_127 rfl rfl (by omega) (by decide) rfl ?_
                    refine wk_iincN (pc := 128) (d := 1) (lv' := [(1, .int (nI (k + 1))), (0, .ref (m 0))]) S_ 1 d_Md_take_128 (by decide) rfl (by decide) rfl ?_
                    refine wk_goto (pc := 131) (tgt := 98) S_ d_Md_take_131 (by decide) ?_
                    refine wk_weq (ws' := (wMd m cI tx sz qap qpt qrk qcd qfr qmc (cpN (k + 1) qmg mg) (va_up (cpN k qmz mz) (k) ((qmz) (k))) nc nt ld qap qpt qrk qcd qfr qmc qmg qmz qnc qnt qld nb cl gr sp ot na aw nx bg bb ab fd pv bx wy li fm en nu td lf lk)) (by rw [cp_up k qmg mg]) ?_
                    refine wk_weq (ws' := (wMd m cI tx sz qap qpt qrk qcd qfr qmc (cpN (k + 1) qmg mg) (cpN (k + 1) qmz mz) nc nt ld qap qpt qrk qcd qfr qmc qmg qmz qnc qnt qld nb cl gr sp ot na aw nx bg bb ab fd pv bx wy li fm en nu td lf lk)) (by rw [cp_up k qmz mz]) ?_
                    refine wk_lv [1, 0] ?_ (ih98 (k + 1) (by omega) (by omega))
                    rfl
              refine wk_weq (ws' := (wMd m cI tx sz qap qpt qrk qcd qfr qmc (cpN 0 qmg mg) mz nc nt ld qap qpt qrk qcd qfr qmc qmg qmz qnc qnt qld nb cl gr sp ot na aw nx bg bb ab fd pv bx wy li fm en nu td lf lk)) (by rw [← cp_0 qmg mg]) ?_
              refine wk_weq (ws' := (wMd m cI tx sz qap qpt qrk qcd qfr qmc (cpN 0 qmg mg) (cpN 0 qmz mz) nc nt ld qap qpt qrk qcd qfr qmc qmg qmz qnc qnt qld nb cl gr sp ot na aw nx bg bb ab fd pv bx wy li fm en nu td lf lk)) (by rw [← cp_0 qmz mz]) ?_
              refine wk_lv [1, 0] ?_ (hL98 _ (0) (Nat.lt_succ_self _) (by omega))
              rfl
            · -- on
              refine wk_aload_n (pc := 34) S_ 0 d_Md_take_34 rfl rfl ?_
              refine wk_get (pc := 35) (v := .ref (m 3)) S_ 6 3 0 in_Md rfl (by decide) rfl fl_Md_17 d_Md_take_35 rfl rfl ?_
              refine wk_iload_n (pc := 38) S_ 1 d_Md_take_38 rfl rfl ?_
              refine wk_aload_n (pc := 39) S_ 0 d_Md_take_39 rfl rfl ?_
              refine wk_get (pc := 40) (v := .ref (m 13)) S_ 6 14 0 in_Md rfl (by decide) rfl fl_Md_47 d_Md_take_40 rfl rfl ?_
              refine wk_iload_n (pc := 43) S_ 1 d_Md_take_43 rfl rfl ?_
              refine wk_ialdN (pc := 44) (g := qpt) S_ 13 0 d_Md_take_44 rfl rfl (by omega) (by decide) ?_
              refine wk_iastN (pc := 45) (g := cpN k qpt pt) (ws' := (wMd m cI tx sz qap (va_up (cpN k qpt pt) (k) ((qpt) (k))) (cpN k qrk rk) (cpN k qcd cd) fr (cpN k qmc mc) mg mz nc nt ld qap qpt qrk qcd qfr qmc qmg qmz qnc qnt qld nb cl gr sp ot na aw nx bg bb ab fd pv bx wy li fm en nu td lf lk)) S_ 3 0 d_Md_take_45 rfl rfl (by omega) (by decide) rfl ?_
              refine wk_aload_n (pc := 46) S_ 0 d_Md_take_46 rfl rfl ?_
              refine wk_get (pc := 47) (v := .ref (m 4)) S_ 6 4 0 in_Md rfl (by decide) rfl fl_Md_20 d_Md_take_47 rfl rfl ?_
              refine wk_iload_n (pc := 50) S_ 1 d_Md_take_50 rfl rfl ?_
              refine wk_aload_n (pc := 51) S_ 0 d_Md_take_51 rfl rfl ?_
              refine wk_get (pc := 52) (v := .ref (m 14)) S_ 6 15 0 in_Md rfl (by decide) rfl fl_Md_50 d_Md_take_52 rfl rfl ?_
              refine wk_iload_n (pc := 55) S_ 1 d_Md_take_55 rfl rfl ?_
              refine wk_ialdN (pc := 56) (g := qrk) S_ 14 0 d_Md_take_56 rfl rfl (by omega) (by decide) ?_
              refine wk_iastN (pc := 57) (g := cpN k qrk rk) (ws' := (wMd m cI tx sz qap (va_up (cpN k qpt pt) (k) ((qpt) (k))) (va_up (cpN k qrk rk) (k) ((qrk) (k))) (cpN k qcd cd) fr (cpN k qmc mc) mg mz nc nt ld qap qpt qrk qcd qfr qmc qmg qmz qnc qnt qld nb cl gr sp ot na aw nx bg bb ab fd pv bx wy li fm en nu td lf lk)) S_ 4 0 d_Md_take_57 rfl rfl (by omega) (by decide) rfl ?_
              refine wk_aload_n (pc := 58) S_ 0 d_Md_take_58 rfl rfl ?_
              refine wk_get (pc := 59) (v := .ref (m 5)) S_ 6 5 0 in_Md rfl (by decide) rfl fl_Md_23 d_Md_take_59 rfl rfl ?_
              refine wk_iload_n (pc := 62) S_ 1 d_Md_take_62 rfl rfl ?_
              refine wk_aload_n (pc := 63) S_ 0 d_Md_take_63 rfl rfl ?_
              refine wk_get (pc := 64) (v := .ref (m 15)) S_ 6 16 0 in_Md rfl (by decide) rfl fl_Md_53 d_Md_take_64 rfl rfl ?_
              refine wk_iload_n (pc := 67) S_ 1 d_Md_take_67 rfl rfl ?_
              refine wk_ialdN (pc := 68) (g := qcd) S_ 15 0 d_Md_take_68 rfl rfl (by omega) (by decide) ?_
              refine wk_iastN (pc := 69) (g := cpN k qcd cd) (ws' := (wMd m cI tx sz qap (va_up (cpN k qpt pt) (k) ((qpt) (k))) (va_up (cpN k qrk rk) (k) ((qrk) (k))) (va_up (cpN k qcd cd) (k) ((qcd) (k))) fr (cpN k qmc mc) mg mz nc nt ld qap qpt qrk qcd qfr qmc qmg qmz qnc qnt qld nb cl gr sp ot na aw nx bg bb ab fd pv bx wy li fm en nu td lf lk)) S_ 5 0 d_Md_take_69 rfl rfl (by omega) (by decide) rfl ?_
              refine wk_aload_n (pc := 70) S_ 0 d_Md_take_70 rfl rfl ?_
              refine wk_get (pc := 71) (v := .ref (m 6)) S_ 6 7 0 in_Md rfl (by decide) rfl fl_Md_26 d_Md_take_71 rfl rfl ?_
              refine wk_iload_n (pc := 74) S_ 1 d_Md_take_74 rfl rfl ?_
              refine wk_aload_n (pc := 75) S_ 0 d_Md_take_75 rfl rfl ?_
              refine wk_get (pc := 76) (v := .ref (m 16)) S_ 6 18 0 in_Md rfl (by decide) rfl fl_Md_56 d_Md_take_76 rfl rfl ?_
              refine wk_iload_n (pc := 79) S_ 1 d_Md_take_79 rfl rfl ?_
              refine wk_ialdN (pc := 80) (g := qmc) S_ 16 0 d_Md_take_80 rfl rfl (by omega) (by decide) ?_
              refine wk_iastN (pc := 81) (g := cpN k qmc mc) (ws' := (wMd m cI tx sz qap (va_up (cpN k qpt pt) (k) ((qpt) (k))) (va_up (cpN k qrk rk) (k) ((qrk) (k))) (va_up (cpN k qcd cd) (k) ((qcd) (k))) fr (va_up (cpN k qmc mc) (k) ((qmc) (k))) mg mz nc nt ld qap qpt qrk qcd qfr qmc qmg qmz qnc qnt qld nb cl gr sp ot na aw nx bg bb ab fd pv bx wy li fm en nu td lf lk)) S_ 6 0 d_Md_take_81 rfl rfl (by omega) (by decide) rfl ?_
              refine wk_iincN (pc := 82) (d := 1) (lv' := [(1, .int (nI (k + 1))), (0, .ref (m 0))]) S_ 1 d_Md_take_82 (by decide) rfl (by decide) rfl ?_
              refine wk_goto (pc := 85) (tgt := 28) S_ d_Md_take_85 (by decide) ?_
              refine wk_weq (ws' := (wMd m cI tx sz qap (cpN (k + 1) qpt pt) (va_up (cpN k qrk rk) (k) ((qrk) (k))) (va_up (cpN k qcd cd) (k) ((qcd) (k))) fr (va_up (cpN k qmc mc) (k) ((qmc) (k))) mg mz nc nt ld qap qpt qrk qcd qfr qmc qmg qmz qnc qnt qld nb cl gr sp ot na aw nx bg bb ab fd pv bx wy li fm en nu td lf lk)) (by rw [cp_up k qpt pt]) ?_
              refine wk_weq (ws' := (wMd m cI tx sz qap (cpN (k + 1) qpt pt) (cpN (k + 1) qrk rk) (va_up (cpN k qcd cd) (k) ((qcd) (k))) fr (va_up (cpN k qmc mc) (k) ((qmc) (k))) mg mz nc nt ld qap qpt qrk qcd qfr qmc qmg qmz qnc qnt qld nb cl gr sp ot na aw nx bg bb ab fd pv bx wy li fm en nu td lf lk)) (by rw [cp_up k qrk rk]) ?_
              refine wk_weq (ws' := (wMd m cI tx sz qap (cpN (k + 1) qpt pt) (cpN (k + 1) qrk rk) (cpN (k + 1) qcd cd) fr (va_up (cpN k qmc mc) (k) ((qmc) (k))) mg mz nc nt ld qap qpt qrk qcd qfr qmc qmg qmz qnc qnt qld nb cl gr sp ot na aw nx bg bb ab fd pv bx wy li fm en nu td lf lk)) (by rw [cp_up k qcd cd]) ?_
              refine wk_weq (ws' := (wMd m cI tx sz qap (cpN (k + 1) qpt pt) (cpN (k + 1) qrk rk) (cpN (k + 1) qcd cd) fr (cpN (k + 1) qmc mc) mg mz nc nt ld qap qpt qrk qcd qfr qmc qmg qmz qnc qnt qld nb cl gr sp ot na aw nx bg bb ab fd pv bx wy li fm en nu td lf lk)) (by rw [cp_up k qmc mc]) ?_
              refine wk_lv [1, 0] ?_ (ih28 (k + 1) (by omega) (by omega))
              rfl
        refine wk_weq (ws' := (wMd m cI tx sz qap (cpN 0 qpt pt) rk cd fr mc mg mz nc nt ld qap qpt qrk qcd qfr qmc qmg qmz qnc qnt qld nb cl gr sp ot na aw nx bg bb ab fd pv bx wy li fm en nu td lf lk)) (by rw [← cp_0 qpt pt]) ?_
        refine wk_weq (ws' := (wMd m cI tx sz qap (cpN 0 qpt pt) (cpN 0 qrk rk) cd fr mc mg mz nc nt ld qap qpt qrk qcd qfr qmc qmg qmz qnc qnt qld nb cl gr sp ot na aw nx bg bb ab fd pv bx wy li fm en nu td lf lk)) (by rw [← cp_0 qrk rk]) ?_
        refine wk_weq (ws' := (wMd m cI tx sz qap (cpN 0 qpt pt) (cpN 0 qrk rk) (cpN 0 qcd cd) fr mc mg mz nc nt ld qap qpt qrk qcd qfr qmc qmg qmz qnc qnt qld nb cl gr sp ot na aw nx bg bb ab fd pv bx wy li fm en nu td lf lk)) (by rw [← cp_0 qcd cd]) ?_
        refine wk_weq (ws' := (wMd m cI tx sz qap (cpN 0 qpt pt) (cpN 0 qrk rk) (cpN 0 qcd cd) fr (cpN 0 qmc mc) mg mz nc nt ld qap qpt qrk qcd qfr qmc qmg qmz qnc qnt qld nb cl gr sp ot na aw nx bg bb ab fd pv bx wy li fm en nu td lf lk)) (by rw [← cp_0 qmc mc]) ?_
        refine wk_lv [1, 0] ?_ (hL28 _ (0) (Nat.lt_succ_self _) (by omega))
        rfl
      · -- on
        refine wk_aload_n (pc := 8) S_ 0 d_Md_take_8 rfl rfl ?_
        refine wk_get (pc := 9) (v := .ref (m 2)) S_ 6 2 0 in_Md rfl (by decide) rfl fl_Md_13 d_Md_take_9 rfl rfl ?_
        refine wk_iload_n (pc := 12) S_ 1 d_Md_take_12 rfl rfl ?_
        refine wk_aload_n (pc := 13) S_ 0 d_Md_take_13 rfl rfl ?_
        refine wk_get (pc := 14) (v := .ref (m 12)) S_ 6 13 0 in_Md rfl (by decide) rfl fl_Md_44 d_Md_take_14 rfl rfl ?_
        refine wk_iload_n (pc := 17) S_ 1 d_Md_take_17 rfl rfl ?_
        refine wk_zald (pc := 18) (g := qap) S_ 12 1 d_Md_take_18 rfl rfl (by omega) (by decide) ?_
        refine wk_zast (pc := 19) (g := cpN k qap ap) (ws' := (wMd m cI tx sz (va_up (cpN k qap ap) (k) ((qap) (k))) pt rk cd fr mc mg mz nc nt ld qap qpt qrk qcd qfr qmc qmg qmz qnc qnt qld nb cl gr sp ot na aw nx bg bb ab fd pv bx wy li fm en nu td lf lk)) S_ 2 1 d_Md_take_19 rfl rfl (by omega) (by decide) rfl ?_
        refine wk_iincN (pc := 20) (d := 1) (lv' := [(1, .int (nI (k + 1))), (0, .ref (m 0))]) S_ 1 d_Md_take_20 (by decide) rfl (by decide) rfl ?_
        refine wk_goto (pc := 23) (tgt := 2) S_ d_Md_take_23 (by decide) ?_
        refine wk_weq (ws' := (wMd m cI tx sz (cpN (k + 1) qap ap) pt rk cd fr mc mg mz nc nt ld qap qpt qrk qcd qfr qmc qmg qmz qnc qnt qld nb cl gr sp ot na aw nx bg bb ab fd pv bx wy li fm en nu td lf lk)) (by rw [cp_up k qap ap]) ?_
        refine wk_lv [1, 0] ?_ (ih2 (k + 1) (by omega) (by omega))
        rfl
  refine wk_weq (ws' := (wMd m cI tx sz (cpN 0 qap ap) pt rk cd fr mc mg mz nc nt ld qap qpt qrk qcd qfr qmc qmg qmz qnc qnt qld nb cl gr sp ot na aw nx bg bb ab fd pv bx wy li fm en nu td lf lk)) (by rw [← cp_0 qap ap]) ?_
  refine wk_lv [1, 0] ?_ (hL2 _ (0) (Nat.lt_succ_self _) (by omega))
  rfl
set_option maxHeartbeats 4000000 in
set_option maxRecDepth 100000 in
theorem c_Md_order (l : Launch) (D : va_G) (cI : CiT) (z : GzT) (m : Nat → Nat) (tx : (Nat → Nat)) (sz : Nat) (ap : (Nat → Bool)) (pt : (Nat → Nat)) (rk : (Nat → Nat)) (cd : (Nat → Nat)) (fr : Nat) (mc : (Nat → Nat)) (mg : (Nat → Nat)) (mz : (Nat → Nat)) (nc : (Nat → Nat)) (nt : (Nat → Nat)) (ld : (Nat → Nat)) (qap : (Nat → Bool)) (qpt : (Nat → Nat)) (qrk : (Nat → Nat)) (qcd : (Nat → Nat)) (qfr : Nat) (qmc : (Nat → Nat)) (qmg : (Nat → Nat)) (qmz : (Nat → Nat)) (qnc : (Nat → Nat)) (qnt : (Nat → Nat)) (qld : (Nat → Nat)) (nb : Nat) (cl : (Nat → Nat)) (gr : (Nat → Nat)) (sp : (Nat → Nat)) (ot : (Nat → Bool)) (na : Nat) (aw : (Nat → Nat)) (nx : Nat) (bg : (Nat → Nat)) (bb : (Nat → Nat)) (ab : (Nat → Nat)) (fd : Bool) (pv : Bool) (bx : (Nat → Nat)) (wy : (Nat → Nat)) (li : (Nat → Nat)) (fm : Nat) (en : Nat) (nu : Nat) (td : (Nat → Nat)) (lf : Int32) (lk : Int32) (k : Int32) (hnb : nb ≤ 8) (hgr : ∀ b, gr b ≤ 100000) (hcl : ∀ b, cl b ≤ 9) (hF : fd = false → ∀ b, bx b = 0) (hb : ∀ b, bx b ≤ 5) (hrk : ∀ c, rk c ≤ 99) : wk_C l D (tyK cI) (gX z) y_Md_order b_Md_order 5 (some .int) 4 91 0 0 [.ref (m 0), .int (k)] (wMd m cI tx sz ap pt rk cd fr mc mg mz nc nt ld qap qpt qrk qcd qfr qmc qmg qmz qnc qnt qld nb cl gr sp ot na aw nx bg bb ab fd pv bx wy li fm en nu td lf lk) wk_i (fun (r : Int32) (_ : Unit) => r = (zI (odS cl bx nb (nmF rk (fun c => goN cl gr bx c nb)) k 9 0 0))) (fun _ => (wMd m cI tx sz ap pt rk cd fr mc mg mz nc nt ld qap qpt qrk qcd qfr qmc qmg qmz qnc qnt qld nb cl gr sp ot na aw nx bg bb ab fd pv bx wy li fm en nu td lf lk)) := by
  refine wk_methI (own := R_Md) [(0, .ref (m 0)), (1, .int (k))] (by decide) rfl (Nat.le_of_ble_eq_true rfl) rfl (gX_ok z) (fun p_ e_ R_ s_ m_ ar_ be_ me_ co_ Q_ A_ hR_ S_ hnm_ hQ_ => ?_)
  refine wk_iconst (pc := 0) (v := (nI (0))) S_ d_Md_order_0 (by decide) ?_
  refine wk_istore_n (pc := 1) (lv' := [(2, .int (nI (0))), (0, .ref (m 0)), (1, .int (k))]) S_ d_Md_order_1 rfl (by decide) rfl ?_
  refine wk_iconst (pc := 2) (v := (nI (0))) S_ d_Md_order_2 (by decide) ?_
  refine wk_istore_n (pc := 3) (lv' := [(3, .int (nI (0))), (2, .int (nI (0))), (0, .ref (m 0)), (1, .int (k))]) S_ d_Md_order_3 rfl (by decide) rfl ?_
  have hL4 : ∀ (fuel4 : Nat), ∀ (q : Nat) (i : Nat) (t : Nat), q < fuel4 → (i + q = 9) → (t ≤ 8 * i) → (odS cl bx nb (nmF rk (fun c => goN cl gr bx c nb)) k q i t = odS cl bx nb (nmF rk (fun c => goN cl gr bx c nb)) k 9 0 0) → wk_G p_ l e_ R_ s_ m_ ar_ be_ me_ co_ Q_ D A_ 5 0 0 (wMd m cI tx sz ap pt rk cd fr mc mg mz nc nt ld qap qpt qrk qcd qfr qmc qmg qmz qnc qnt qld nb cl gr sp ot na aw nx bg bb ab fd pv bx wy li fm en nu td lf lk) 4 [(0, .ref (m 0)), (1, .int (k)), (2, .int (nI (t))), (3, .int (nI (i)))] [] := by
    intro fuel4
    induction fuel4 with
    | zero => intro q i t hm; exact absurd hm (Nat.not_lt_zero _)
    | succ fuel4 ih4 =>
      intro q i t hm hk ht hE
      refine wk_iload_n (pc := 4) S_ 3 d_Md_order_4 rfl rfl ?_
      refine wk_bipush (pc := 5) (v := (nI (9))) S_ d_Md_order_5 (by decide) ?_
      refine wk_icmp_geN (pc := 7) (tgt := 69) S_ d_Md_order_7 (by decide) (by omega) (by omega) (fun h7 => ?_) (fun h7 => ?_)
      · -- taken
        refine wk_iconst (pc := 69) (v := (-1)) S_ d_Md_order_69 (by decide) ?_
        exact hQ_ (-1) () d_Md_order_70 rfl (by rw [← hE, show q = 0 by omega]; exact zI_0.symm)
      · -- on
        refine wk_iconst (pc := 10) (v := (nI (0))) S_ d_Md_order_10 (by decide) ?_
        refine wk_istore (pc := 11) (lv' := [(4, .int (nI (0))), (0, .ref (m 0)), (1, .int (k)), (2, .int (nI (t))), (3, .int (nI (i)))]) S_ d_Md_order_11 (by decide) rfl ?_
        have hL13 : ∀ (fuel13 : Nat), ∀ (q2 : Nat) (b : Nat) (y : Nat), q2 < fuel13 → (b + q2 = nb) → (y ≤ t + b) → (obS cl bx ((nmF rk (fun c => goN cl gr bx c nb)) i) k q2 b y = obS cl bx ((nmF rk (fun c => goN cl gr bx c nb)) i) k nb 0 t) → wk_G p_ l e_ R_ s_ m_ ar_ be_ me_ co_ Q_ D A_ 5 0 0 (wMd m cI tx sz ap pt rk cd fr mc mg mz nc nt ld qap qpt qrk qcd qfr qmc qmg qmz qnc qnt qld nb cl gr sp ot na aw nx bg bb ab fd pv bx wy li fm en nu td lf lk) 13 [(0, .ref (m 0)), (1, .int (k)), (2, .int (nI (y))), (3, .int (nI (i))), (4, .int (nI (b)))] [] := by
          intro fuel13
          induction fuel13 with
          | zero => intro q2 b y hm; exact absurd hm (Nat.not_lt_zero _)
          | succ fuel13 ih13 =>
            intro q2 b y hm hk2 hy hE2
            refine wk_iload (pc := 13) S_ 4 d_Md_order_13 rfl ?_
            refine wk_aload_n (pc := 15) S_ 0 d_Md_order_15 rfl rfl ?_
            refine wk_get (pc := 16) (v := .int (nI (nb))) S_ 6 24 0 in_Md rfl (by decide) rfl fl_Md_117 d_Md_order_16 rfl rfl ?_
            refine wk_icmp_geN (pc := 19) (tgt := 63) S_ d_Md_order_19 (by decide) (by omega) (by omega) (fun h19 => ?_) (fun h19 => ?_)
            · -- taken
              refine wk_iincN (pc := 63) (d := 1) (lv' := [(3, .int (nI (i + 1))), (0, .ref (m 0)), (1, .int (k)), (2, .int (nI (y))), (4, .int (nI (b)))]) S_ 3 d_Md_order_63 (by decide) rfl (by decide) rfl ?_
              refine wk_goto (pc := 66) (tgt := 4) S_ d_Md_order_66 (by decide) ?_
              refine wk_lv [1, 2, 3, 0] ?_ (ih4 (q - 1) (i + 1) (y) (by omega) (by omega) (by omega) (by rw [← hE]; obtain ⟨r, rfl⟩ : ∃ r, q = r + 1 := ⟨q - 1, by omega⟩; rw [odS, ← hE2, show q2 = 0 by omega, obS]; rfl))
              rfl
            · -- on
              refine wk_aload_n (pc := 22) S_ 0 d_Md_order_22 rfl rfl ?_
              refine wk_iload (pc := 23) S_ 4 d_Md_order_23 rfl ?_
              refine wk_run (pc := 25) (rest := []) (wr := []) (wN := fun _ => (wMd m cI tx sz ap pt rk cd fr mc mg mz nc nt ld qap qpt qrk qcd qfr qmc qmg qmz qnc qnt qld nb cl gr sp ot na aw nx bg bb ab fd pv bx wy li fm en nu td lf lk)) S_ (wk_rV S_ (c_Md_isLoaded l D cI z (m) (tx) (sz) (ap) (pt) (rk) (cd) (fr) (mc) (mg) (mz) (nc) (nt) (ld) (qap) (qpt) (qrk) (qcd) (qfr) (qmc) (qmg) (qmz) (qnc) (qnt) (qld) (nb) (cl) (gr) (sp) (ot) (na) (aw) (nx) (bg) (bb) (ab) (fd) (pv) (bx) (wy) (li) (fm) (en) (nu) (td) (lf) (lk) (b) (by omega) hF hb) mv_Md_245 (wk_rcv S_ 0 6 rfl rfl rfl) rfl rfl (Nat.le_of_ble_eq_true rfl) (by rw [hR_]; decide) (by rw [hR_]; decide) d_Md_order_25) [0, 1, 2, 3, 4, 5, 6, 7, 8, 9, 10, 11, 12, 13, 14, 15, 16, 17, 18, 19, 20, 21, 22, 23, 24, 25, 26, 27, 28, 29, 30, 31, 32, 33] [] [0, 1, 2, 3, 4, 5, 6, 7, 8, 9, 10, 11, 12, 13, 14, 15, 16, 17, 18, 19, 20, 21, 22, 23, 24, 25, 26, 27, 28, 29, 30, 31, 32, 33] rfl rfl rfl (by decide) (by decide) (by decide) (by decide) (fun _ => rfl) (fun _ => rfl) (fun r25 _ hw25 => ?_)
              refine wk_st (st' := [.int (r25)]) rfl ?_
              refine wk_top (y := (bI (decide ((bx) (b) ≠ 0)))) hw25 ?_
              refine wk_if_eqB (pc := 28) (tgt := 57) S_ d_Md_order_28 (by decide) (fun h28 => ?_) (fun h28 => ?_)
              · -- taken
                refine wk_iincN (pc := 57) (d := 1) (lv' := [(4, .int (nI (b + 1))), (0, .ref (m 0)), (1, .int (k)), (2, .int (nI (y))), (3, .int (nI (i)))]) S_ 4 d_Md_order_57 (by decide) rfl (by decide) rfl ?_
                refine wk_goto (pc := 60) (tgt := 13) S_ d_Md_order_60 (by decide) ?_
                refine wk_lv [1, 2, 3, 4, 0] ?_ (ih13 (q2 - 1) (b + 1) (y) (by omega) (by omega) (by omega) (by rw [← hE2]; obtain ⟨r, rfl⟩ : ∃ r, q2 = r + 1 := ⟨q2 - 1, by omega⟩; rw [obS, if_neg (fun z => by simp [z.1] at h28)]; rfl))
                rfl
              · -- on
                refine wk_aload_n (pc := 31) S_ 0 d_Md_order_31 rfl rfl ?_
                refine wk_get (pc := 32) (v := .ref (m 22)) S_ 6 25 0 in_Md rfl (by decide) rfl fl_Md_74 d_Md_order_32 rfl rfl ?_
                refine wk_iload (pc := 35) S_ 4 d_Md_order_35 rfl ?_
                refine wk_ialdY (pc := 37) (g := cl) S_ 22 0 d_Md_order_37 rfl rfl (by omega) (by decide) ?_
                refine wk_aload_n (pc := 38) S_ 0 d_Md_order_38 rfl rfl ?_
                refine wk_iload_n (pc := 39) S_ 3 d_Md_order_39 rfl rfl ?_
                refine wk_run (pc := 40) (rest := [.int (zI ((cl) (b)))]) (wr := []) (wN := fun _ => (wMd m cI tx sz ap pt rk cd fr mc mg mz nc nt ld qap qpt qrk qcd qfr qmc qmg qmz qnc qnt qld nb cl gr sp ot na aw nx bg bb ab fd pv bx wy li fm en nu td lf lk)) S_ (wk_rV S_ (c_Md_name l D cI z (m) (tx) (sz) (ap) (pt) (rk) (cd) (fr) (mc) (mg) (mz) (nc) (nt) (ld) (qap) (qpt) (qrk) (qcd) (qfr) (qmc) (qmg) (qmz) (qnc) (qnt) (qld) (nb) (cl) (gr) (sp) (ot) (na) (aw) (nx) (bg) (bb) (ab) (fd) (pv) (bx) (wy) (li) (fm) (en) (nu) (td) (lf) (lk) ((nI (i))) (by omega) hgr hcl hF hb hrk) mv_Md_265 (wk_rcv S_ 0 6 rfl rfl rfl) rfl rfl (Nat.le_of_ble_eq_true rfl) (by rw [hR_]; decide) (by rw [hR_]; decide) d_Md_order_40) [0, 1, 2, 3, 4, 5, 6, 7, 8, 9, 10, 11, 12, 13, 14, 15, 16, 17, 18, 19, 20, 21, 22, 23, 24, 25, 26, 27, 28, 29, 30, 31, 32, 33] [] [0, 1, 2, 3, 4, 5, 6, 7, 8, 9, 10, 11, 12, 13, 14, 15, 16, 17, 18, 19, 20, 21, 22, 23, 24, 25, 26, 27, 28, 29, 30, 31, 32, 33] rfl rfl rfl (by decide) (by decide) (by decide) (by decide) (fun _ => rfl) (fun _ => rfl) (fun r40 _ hw40 => ?_)
                refine wk_st (st' := [.int (r40), .int (zI ((cl) (b)))]) rfl ?_
                refine wk_top (y := (zI (nmS (rk) (fun c => goN (cl) (gr) (bx) c (nb)) ((nI (i))) 9 0))) hw40 ?_
                have hn1 := nmF_le (rk := rk) (go := fun c => goN cl gr bx c nb) (i := i)
                unfold nmF at hn1
                have hc1 := hcl b
                refine wk_icmp_neYY (pc := 43) (tgt := 57) S_ d_Md_order_43 (by decide) (by omega) (by omega) (fun h43 => ?_) (fun h43 => ?_)
                · -- taken
                  refine wk_iincN (pc := 57) (d := 1) (lv' := [(4, .int (nI (b + 1))), (0, .ref (m 0)), (1, .int (k)), (2, .int (nI (y))), (3, .int (nI (i)))]) S_ 4 d_Md_order_57 (by decide) rfl (by decide) rfl ?_
                  refine wk_goto (pc := 60) (tgt := 13) S_ d_Md_order_60 (by decide) ?_
                  refine wk_lv [1, 2, 3, 4, 0] ?_ (ih13 (q2 - 1) (b + 1) (y) (by omega) (by omega) (by omega) (by rw [← hE2]; obtain ⟨r, rfl⟩ : ∃ r, q2 = r + 1 := ⟨q2 - 1, by omega⟩; rw [obS, if_neg (fun z => h43 z.2)]; rfl))
                  rfl
                · -- on
                  refine wk_iload_n (pc := 46) S_ 2 d_Md_order_46 rfl rfl ?_
                  refine wk_iload_n (pc := 47) S_ 1 d_Md_order_47 rfl rfl ?_
                  refine wk_icmp_ne (pc := 48) (tgt := 54) S_ d_Md_order_48 (by decide) (fun h48 => ?_) (fun h48 => ?_)
                  · -- taken
                    refine wk_iincN (pc := 54) (d := 1) (lv' := [(2, .int (nI (y + 1))), (0, .ref (m 0)), (1, .int (k)), (3, .int (nI (i))), (4, .int (nI (b)))]) S_ 2 d_Md_order_54 (by decide) rfl (by decide) rfl ?_
                    refine wk_iincN (pc := 57) (d := 1) (lv' := [(4, .int (nI (b + 1))), (2, .int (nI (y + 1))), (0, .ref (m 0)), (1, .int (k)), (3, .int (nI (i)))]) S_ 4 d_Md_order_57 (by decide) rfl (by decide) rfl ?_
                    refine wk_goto (pc := 60) (tgt := 13) S_ d_Md_order_60 (by decide) ?_
                    refine wk_lv [2, 3, 1, 4, 0] ?_ (ih13 (q2 - 1) (b + 1) (y + 1) (by omega) (by omega) (by omega) (by rw [← hE2]; obtain ⟨r, rfl⟩ : ∃ r, q2 = r + 1 := ⟨q2 - 1, by omega⟩; rw [obS, if_pos ⟨by simpa using h28, h43⟩, if_neg h48]; rfl))
                    rfl
                  · -- on
                    refine wk_iload (pc := 51) S_ 4 d_Md_order_51 rfl ?_
                    exact hQ_ (nI (b)) () d_Md_order_53 rfl (by have h9 : obS cl bx (nmF rk (fun c => goN cl gr bx c nb) i) k nb 0 t = (b + 1, y) := (by rw [← hE2]; obtain ⟨r2, rfl⟩ : ∃ r, q2 = r + 1 := ⟨q2 - 1, by omega⟩; rw [obS, if_pos ⟨by simpa using h28, h43⟩, if_pos h48]); rw [← hE]; obtain ⟨r, rfl⟩ : ∃ r, q = r + 1 := ⟨q - 1, by omega⟩; rw [odS, h9, if_pos (by show b + 1 ≠ 0; omega)]; exact (zI_s b).symm)
        refine wk_lv [1, 2, 3, 4, 0] ?_ (hL13 _ (nb) (0) (t) (Nat.lt_succ_self _) (by omega) (by omega) rfl)
        rfl
  refine wk_lv [2, 3, 1, 0] ?_ (hL4 _ (9) (0) (0) (Nat.lt_succ_self _) (by omega) (by omega) rfl)
  rfl
set_option maxHeartbeats 4000000 in
set_option maxRecDepth 100000 in
theorem c_Md_putNumber (l : Launch) (D : va_G) (cI : CiT) (z : GzT) (m : Nat → Nat) (tx : (Nat → Nat)) (sz : Nat) (ap : (Nat → Bool)) (pt : (Nat → Nat)) (rk : (Nat → Nat)) (cd : (Nat → Nat)) (fr : Nat) (mc : (Nat → Nat)) (mg : (Nat → Nat)) (mz : (Nat → Nat)) (nc : (Nat → Nat)) (nt : (Nat → Nat)) (ld : (Nat → Nat)) (qap : (Nat → Bool)) (qpt : (Nat → Nat)) (qrk : (Nat → Nat)) (qcd : (Nat → Nat)) (qfr : Nat) (qmc : (Nat → Nat)) (qmg : (Nat → Nat)) (qmz : (Nat → Nat)) (qnc : (Nat → Nat)) (qnt : (Nat → Nat)) (qld : (Nat → Nat)) (nb : Nat) (cl : (Nat → Nat)) (gr : (Nat → Nat)) (sp : (Nat → Nat)) (ot : (Nat → Bool)) (na : Nat) (aw : (Nat → Nat)) (nx : Nat) (bg : (Nat → Nat)) (bb : (Nat → Nat)) (ab : (Nat → Nat)) (fd : Bool) (pv : Bool) (bx : (Nat → Nat)) (wy : (Nat → Nat)) (li : (Nat → Nat)) (fm : Nat) (en : Nat) (nu : Nat) (td : (Nat → Nat)) (lf : Int32) (lk : Int32) (w : Nat) (hw : w < 1000000000) : wk_C l D (tyK cI) (gX z) y_Md_putNumber b_Md_putNumber 5 none 1 21 0 0 [.ref (m 0), .long (lN (w))] (wMd m cI tx sz ap pt rk cd fr mc mg mz nc nt ld qap qpt qrk qcd qfr qmc qmg qmz qnc qnt qld nb cl gr sp ot na aw nx bg bb ab fd pv bx wy li fm en nu td lf lk) wk_v (fun (_ : Unit) (_ : Unit) => True) (fun _ => (wMd m cI tx sz ap pt rk cd fr mc mg mz nc nt ld qap qpt qrk qcd qfr qmc qmg qmz qnc qnt qld nb cl gr sp ot na aw nx bg bb ab fd pv bx wy li fm en nu td ((putL (lf, lk) (decs w)).1) ((putL (lf, lk) (decs w)).2))) := by
  refine wk_methV (own := R_Md) [(0, .ref (m 0)), (1, .long (lN (w)))] (by decide) rfl (Nat.le_of_ble_eq_true rfl) rfl (gX_ok z) (fun p_ e_ R_ s_ m_ ar_ be_ me_ co_ Q_ A_ hR_ S_ hnm_ hQ_ => ?_)
  refine wk_lconst (pc := 0) (v := (lN (1))) S_ d_Md_putNumber_0 (by decide) ?_
  refine wk_lstore_n (pc := 1) (lv' := [(3, .long (lN (1))), (0, .ref (m 0)), (1, .long (lN (w)))]) S_ d_Md_putNumber_1 rfl (by decide) rfl ?_
  have hL2 : ∀ (fuel2 : Nat), ∀ (f : Nat) (k : Nat), f < fuel2 → (k + f = 9) → (dgK w f k = dgK w 9 0) → wk_G p_ l e_ R_ s_ m_ ar_ be_ me_ co_ Q_ D A_ 5 0 0 (wMd m cI tx sz ap pt rk cd fr mc mg mz nc nt ld qap qpt qrk qcd qfr qmc qmg qmz qnc qnt qld nb cl gr sp ot na aw nx bg bb ab fd pv bx wy li fm en nu td lf lk) 2 [(0, .ref (m 0)), (1, .long (lN (w))), (3, .long (lN (10 ^ k)))] [] := by
    intro fuel2
    induction fuel2 with
    | zero => intro f k hm; exact absurd hm (Nat.not_lt_zero _)
    | succ fuel2 ih2 =>
      intro f k hm hk hE
      refine wk_lload_n (pc := 2) S_ 1 d_Md_putNumber_2 rfl rfl ?_
      refine wk_lload_n (pc := 3) S_ 2 d_Md_putNumber_3 rfl rfl ?_
      have hp1 := p10 (show k ≤ 9 by omega)
      have hp0 := p10_0 k
      refine wk_ldivN (pc := 4) S_ d_Md_putNumber_4 (by omega) (by omega) (by omega) ?_
      refine wk_ldc2 (pc := 5) (v := (lN (9))) S_ kc_Md_223 d_Md_putNumber_5 ?_
      refine wk_lcmp (pc := 8) S_ d_Md_putNumber_8 ?_
      have hd1 := Nat.div_le_self w (10 ^ k)
      refine wk_cmp_leN (pc := 9) (tgt := 21) S_ d_Md_putNumber_9 (by decide) (by omega) (by omega) (fun h9 => ?_) (fun h9 => ?_)
      · -- taken
        have hL21 : ∀ (fuel21 : Nat), ∀ (j : Nat) (lf1 : Int32) (lk1 : Int32), j < fuel21 → (j ≤ 10) → (putL (lf1, lk1) (dgJ w j) = putL (lf, lk) (decs w)) → wk_G p_ l e_ R_ s_ m_ ar_ be_ me_ co_ Q_ D A_ 5 0 0 (wMd m cI tx sz ap pt rk cd fr mc mg mz nc nt ld qap qpt qrk qcd qfr qmc qmg qmz qnc qnt qld nb cl gr sp ot na aw nx bg bb ab fd pv bx wy li fm en nu td lf1 lk1) 21 [(0, .ref (m 0)), (1, .long (lN (w))), (3, .long (lN (pw j)))] [] := by
          intro fuel21
          induction fuel21 with
          | zero => intro j lf1 lk1 hm; exact absurd hm (Nat.not_lt_zero _)
          | succ fuel21 ih21 =>
            intro j lf1 lk1 hm hj hP
            refine wk_lload_n (pc := 21) S_ 2 d_Md_putNumber_21 rfl rfl ?_
            refine wk_lconst (pc := 22) (v := (lN (0))) S_ d_Md_putNumber_22 (by decide) ?_
            refine wk_lcmp (pc := 23) S_ d_Md_putNumber_23 ?_
            have hpj : pw j ≤ 1000000000 := by { cases j with | zero => exact Nat.zero_le _ | succ j => exact p10 (by omega) }
            refine wk_cmp_leN (pc := 24) (tgt := 52) S_ d_Md_putNumber_24 (by decide) (by omega) (by omega) (fun h24 => ?_) (fun h24 => ?_)
            · -- taken
              exact hQ_ () d_Md_putNumber_52 (by rw [← hP, show j = 0 by { cases j with | zero => rfl | succ j => exact absurd h24 (Nat.not_le.mpr (p10_0 j)) }]; rfl) trivial
            · -- on
              have hj0 : j ≠ 0 := fun z => by rw [z] at h24; exact absurd h24 (by decide)
              refine wk_aload_n (pc := 27) S_ 0 d_Md_putNumber_27 rfl rfl ?_
              refine wk_ldc2 (pc := 28) (v := (lN (48))) S_ kc_Md_276 d_Md_putNumber_28 ?_
              refine wk_lload_n (pc := 31) S_ 1 d_Md_putNumber_31 rfl rfl ?_
              refine wk_lload_n (pc := 32) S_ 2 d_Md_putNumber_32 rfl rfl ?_
              refine wk_ldivN (pc := 33) S_ d_Md_putNumber_33 (by omega) (by omega) (by omega) ?_
              refine wk_ldc2 (pc := 34) (v := (lN (10))) S_ kc_Md_274 d_Md_putNumber_34 ?_
              have hd2 := Nat.div_le_self w (pw j)
              refine wk_lremN (pc := 37) S_ d_Md_putNumber_37 (by omega) (by omega) (by omega) ?_
              refine wk_laddN (pc := 38) S_ d_Md_putNumber_38 ?_
              refine wk_l2iN (pc := 39) S_ d_Md_putNumber_39 ?_
              refine wk_top (y := (nI (48 + w / 10 ^ (j - 1) % 10))) (by obtain ⟨r, rfl⟩ : ∃ r, j = r + 1 := ⟨j - 1, by omega⟩; rfl) ?_
              refine wk_run (pc := 40) (rest := []) (wr := []) (wN := fun _ => (wMd m cI tx sz ap pt rk cd fr mc mg mz nc nt ld qap qpt qrk qcd qfr qmc qmg qmz qnc qnt qld nb cl gr sp ot na aw nx bg bb ab fd pv bx wy li fm en nu td ((lf1) - 1) (if (lf1) = 0 then ((nI (48 + w / 10 ^ (j - 1) % 10))) else (lk1)))) S_ (wk_rV S_ (c_Md_put l D cI z (m) (tx) (sz) (ap) (pt) (rk) (cd) (fr) (mc) (mg) (mz) (nc) (nt) (ld) (qap) (qpt) (qrk) (qcd) (qfr) (qmc) (qmg) (qmz) (qnc) (qnt) (qld) (nb) (cl) (gr) (sp) (ot) (na) (aw) (nx) (bg) (bb) (ab) (fd) (pv) (bx) (wy) (li) (fm) (en) (nu) (td) (lf1) (lk1) ((nI (48 + w / 10 ^ (j - 1) % 10)))) mv_Md_278 (wk_rcv S_ 0 6 rfl rfl rfl) rfl rfl (Nat.le_of_ble_eq_true rfl) (by rw [hR_]; decide) (by rw [hR_]; decide) d_Md_putNumber_40) [0, 1, 2, 3, 4, 5, 6, 7, 8, 9, 10, 11, 12, 13, 14, 15, 16, 17, 18, 19, 20, 21, 22, 23, 24, 25, 26, 27, 28, 29, 30, 31, 32, 33] [] [0, 1, 2, 3, 4, 5, 6, 7, 8, 9, 10, 11, 12, 13, 14, 15, 16, 17, 18, 19, 20, 21, 22, 23, 24, 25, 26, 27, 28, 29, 30, 31, 32, 33] rfl rfl rfl (by decide) (by decide) (by decide) (by decide) (fun _ => rfl) (fun _ => rfl) (fun r40 _ hw40 => ?_)
              refine wk_st (st' := []) rfl ?_
              refine wk_lload_n (pc := 43) S_ 2 d_Md_putNumber_43 rfl rfl ?_
              refine wk_ldc2 (pc := 44) (v := (lN (10))) S_ kc_Md_274 d_Md_putNumber_44 ?_
              refine wk_ldivN (pc := 47) S_ d_Md_putNumber_47 (by omega) (by omega) (by omega) ?_
              refine wk_topl (y := (lN (pw (j - 1)))) (congrArg lN (by obtain ⟨r, rfl⟩ : ∃ r, j = r + 1 := ⟨j - 1, by omega⟩; exact pw_div r)) ?_
              refine wk_lstore_n (pc := 48) (lv' := [(3, .long (lN (pw (j - 1)))), (0, .ref (m 0)), (1, .long (lN (w)))]) S_ d_Md_putNumber_48 rfl (by decide) rfl ?_
              refine wk_goto (pc := 49) (tgt := 21) S_ d_Md_putNumber_49 (by decide) ?_
              refine wk_lv [1, 2, 0] ?_ (ih21 (j - 1) ((lf1) - 1) (if (lf1) = 0 then ((nI (48 + w / 10 ^ (j - 1) % 10))) else (lk1)) (by omega) (by omega) (by rw [← hP]; obtain ⟨r, rfl⟩ : ∃ r, j = r + 1 := ⟨j - 1, by omega⟩; rw [dgJ_s]; rfl))
              rfl
        refine wk_lv [0, 1, 2] ?_ (hL21 _ (k + 1) (lf) (lk) (Nat.lt_succ_self _) (by omega) (by rw [decs, ← hE]; have h7 : dgK w f k = k := by { cases f with | zero => rfl | succ f => rw [dgK, if_neg (by omega)] }; rw [h7]; rfl))
        rfl
      · -- on
        refine wk_lload_n (pc := 12) S_ 2 d_Md_putNumber_12 rfl rfl ?_
        refine wk_ldc2 (pc := 13) (v := (lN (10))) S_ kc_Md_274 d_Md_putNumber_13 ?_
        refine wk_lmulN (pc := 16) S_ d_Md_putNumber_16 ?_
        refine wk_topl (y := (lN (10 ^ (k + 1)))) (congrArg lN (Nat.pow_succ 10 k).symm) ?_
        refine wk_lstore_n (pc := 17) (lv' := [(3, .long (lN (10 ^ (k + 1)))), (0, .ref (m 0)), (1, .long (lN (w)))]) S_ d_Md_putNumber_17 rfl (by decide) rfl ?_
        refine wk_goto (pc := 18) (tgt := 2) S_ d_Md_putNumber_18 (by decide) ?_
        have hf0 : f ≠ 0 := fun z => by rw [show k = 9 by omega] at h9; have := Nat.div_le_div_right (c := 10 ^ 9) (Nat.le_of_lt hw); omega
        refine wk_lv [1, 2, 0] ?_ (ih2 (f - 1) (k + 1) (by omega) (by omega) (by rw [← hE]; obtain ⟨r, rfl⟩ : ∃ r, f = r + 1 := ⟨f - 1, by omega⟩; rw [dgK, if_pos h9]; rfl))
        rfl
  refine wk_lv [1, 2, 0] ?_ (hL2 _ (9) (0) (Nat.lt_succ_self _) (by omega) rfl)
  rfl
end
section
def blk (u : Nat) : Bool := decide (u = 32 ∨ u = 10)
/-- the first place from i on (r places are left) that is no blank; that is one -/
def skB (tx : Nat → Nat) : Nat → Nat → Nat
  | 0, i => i
  | r + 1, i => if blk (tx i) = true then skB tx r (i + 1) else i
def skW (tx : Nat → Nat) : Nat → Nat → Nat
  | 0, i => i
  | r + 1, i => if blk (tx i) = true then i else skW tx r (i + 1)
theorem skB_le {tx : Nat → Nat} : ∀ r i, i ≤ skB tx r i ∧ skB tx r i ≤ i + r
  | 0, i => ⟨Nat.le_refl _, Nat.le_refl _⟩
  | r + 1, i => by
    have h := skB_le (tx := tx) r (i + 1)
    rw [skB]
    split <;> omega
theorem skW_le {tx : Nat → Nat} : ∀ r i, i ≤ skW tx r i ∧ skW tx r i ≤ i + r
  | 0, i => ⟨Nat.le_refl _, Nat.le_refl _⟩
  | r + 1, i => by
    have h := skW_le (tx := tx) r (i + 1)
    rw [skW]
    split <;> omega
/-- n bytes from s on, as one number -/
def tbN (c : Nat → Nat) (s : Nat) : Nat → Nat
  | 0 => 0
  | n + 1 => tbN c s n * 256 + c (s + n)
theorem tb_eq {c d : Nat → Nat} {s t : Nat} (hc : ∀ i, c i < 256) (hd : ∀ i, d i < 256) : ∀ n, tbN c s n = tbN d t n ↔ ∀ i, i < n → c (s + i) = d (t + i)
  | 0 => ⟨fun _ _ h => absurd h (Nat.not_lt_zero _), fun _ => rfl⟩
  | n + 1 => by
    have h1 := hc (s + n)
    have h2 := hd (t + n)
    have ih := tb_eq (c := c) (d := d) (s := s) (t := t) hc hd n
    constructor
    · intro h i hi
      rw [tbN, tbN] at h
      have e1 : tbN c s n = tbN d t n := by omega
      by_cases e : i = n
      · subst e; omega
      · exact ih.mp e1 i (by omega)
    · intro h
      have e1 := ih.mpr (fun i hi => h i (by omega))
      have e2 := h n (by omega)
      rw [tbN, tbN, e1, e2]
theorem tb_le {c : Nat → Nat} {s : Nat} (hc : ∀ i, c i < 256) : ∀ n, tbN c s n < 256 ^ n
  | 0 => Nat.zero_lt_one
  | n + 1 => by
    have h1 := hc (s + n)
    have ih := tb_le (s := s) hc n
    rw [tbN, Nat.pow_succ]
    omega
theorem tb_pos {c : Nat → Nat} {s : Nat} (h : 0 < c s) : ∀ n, 0 < n → 0 < tbN c s n
  | 0, h0 => absurd h0 (Nat.lt_irrefl _)
  | n + 1, _ => by
    rw [tbN]
    by_cases e : n = 0
    · subst e; have h1 : c (s + 0) = c s := rfl; omega
    · have := tb_pos (c := c) (s := s) h n (by omega)
      omega
def ch (L : List Nat) : Nat → Nat := fun i => L.getD i 0
def wIs (tx : Nat → Nat) (s e : Nat) (c : Nat → Nat) (n : Nat) : Bool := decide (e - s = n ∧ ∀ i, i < n → tx (s + i) = c i)
def kwd : Nat → List Nat
  | 0 => [97, 112, 97, 114, 116]
  | 1 => [112, 111, 105, 110, 116, 115]
  | 2 => [114, 97, 110, 107]
  | 3 => [102, 114, 101, 101]
  | 4 => [109, 97, 114, 107]
  | 5 => [116, 117, 110, 110, 101, 108]
  | 6 => [110, 111, 116, 101]
  | 7 => [115, 116, 101, 112]
  | _ => [99, 108, 97, 115, 115]
def kwI (tx : Nat → Nat) (s e k : Nat) : Bool := wIs tx s e (ch (kwd k)) (kwd k).length
/-- the kind of a word, sought from k on in r steps (0: none, else one more) -/
def kdS (tx : Nat → Nat) (s e : Nat) : Nat → Nat → Nat
  | 0, _ => 0
  | r + 1, k => if kwI tx s e k = true then k + 1 else kdS tx s e r (k + 1)
/-- a number's digits, from k on (v: 0 none, else one more) -/
def nuS (tx : Nat → Nat) : Nat → Nat → Nat → Nat
  | 0, _, v => v
  | r + 1, k, v => if v = 0 then 0 else if 48 ≤ tx k ∧ tx k ≤ 57 then nuS tx r (k + 1) (10 * (v - 1) + (tx k - 48) + 1) else 0
theorem nuS_0 (tx : Nat → Nat) : ∀ r k, nuS tx r k 0 = 0
  | 0, _ => rfl
  | r + 1, k => by rw [nuS, if_pos rfl]
def nuN (tx : Nat → Nat) (s e : Nat) : Nat := if 1 ≤ e - s ∧ e - s ≤ 6 then nuS tx (e - s) s 1 else 0
theorem nuS_le {tx : Nat → Nat} : ∀ r k v, v ≤ 10 ^ (6 - r) → r ≤ 6 → nuS tx r k v ≤ 1000000
  | 0, _, v, h, _ => h
  | r + 1, k, v, h, hr => by
    rw [nuS]
    split
    · omega
    · split
      · refine nuS_le r (k + 1) _ ?_ (by omega)
        have e : 10 ^ (6 - r) = 10 ^ (6 - (r + 1)) * 10 := by
          rw [← Nat.pow_succ]
          congr 1
          omega
        rw [e]
        omega
      · omega
def ptsK (s : Nat) : Nat := if s = 3 then 1 else if s = 4 ∨ 6 < s then 3 else 2
def lsK (s p : Nat) : Nat := if (s = 4 ∧ p = 2) ∨ (s = 5 ∧ p = 1) then 1 else 0
def grK : Nat → Nat → Nat
  | 0, _ => 8
  | 1, p => if p = 0 then 8 else 1000
  | 2, p => if p = 0 then 8 else 99
  | 3, _ => 999999
  | 4, p => if p = 0 then 8 else if p = 1 then 999999 else 9
  | 5, p => if p = 0 then 8 else 5
  | 6, p => if p = 0 then 3 else 999999
  | 7, p => if p = 0 then 9 else if p = 1 then 3 else 9
  | _, p => if p = 0 then 9 else if p = 1 then 3 else 8
/-- the place of a mark, sought from i on in r steps -/
def mpS (mg : Nat → Nat) (c g : Nat) : Nat → Nat → Nat
  | 0, i => i
  | r + 1, i => if mg (6 * c + i) = g then i else mpS mg c g r (i + 1)
theorem mpS_le {mg : Nat → Nat} {c g : Nat} : ∀ r i, i ≤ mpS mg c g r i ∧ mpS mg c g r i ≤ i + r
  | 0, i => ⟨Nat.le_refl _, Nat.le_refl _⟩
  | r + 1, i => by
    have h := mpS_le (mg := mg) (c := c) (g := g) r (i + 1)
    rw [mpS]
    split <;> omega
def hrS (nc : Nat → Nat) : Nat → Bool
  | 0 => false
  | n + 1 => hrS nc n || decide (nc n < 8)
theorem d_Md_isBlank_0 : decode b_Md_isBlank 0 = .ok (.iload_n 0, 1) := by decide +kernel
theorem d_Md_isBlank_1 : decode b_Md_isBlank 1 = .ok (.bipush 32, 2) := by decide +kernel
theorem d_Md_isBlank_3 : decode b_Md_isBlank 3 = .ok (.if_icmp .eq 9, 3) := by decide +kernel
theorem d_Md_isBlank_6 : decode b_Md_isBlank 6 = .ok (.iload_n 0, 1) := by decide +kernel
theorem d_Md_isBlank_7 : decode b_Md_isBlank 7 = .ok (.bipush 10, 2) := by decide +kernel
theorem d_Md_isBlank_9 : decode b_Md_isBlank 9 = .ok (.if_icmp .ne 7, 3) := by decide +kernel
theorem d_Md_isBlank_12 : decode b_Md_isBlank 12 = .ok (.iconst 1, 1) := by decide +kernel
theorem d_Md_isBlank_13 : decode b_Md_isBlank 13 = .ok (.goto 4, 3) := by decide +kernel
theorem d_Md_isBlank_16 : decode b_Md_isBlank 16 = .ok (.iconst 0, 1) := by decide +kernel
theorem d_Md_isBlank_17 : decode b_Md_isBlank 17 = .ok (.ireturn, 1) := by decide +kernel
theorem fl_Md_140 : Cond.fieldLink R_Md 140 R_Md "end" "I" ∈ lw_gd := (gd _ (tb2 _ (List.mem_of_getElem? (i := 185) rfl)) rfl)
theorem fl_Md_143 : Cond.fieldLink R_Md 143 R_Md "from" "I" ∈ lw_gd := (gd _ (tb2 _ (List.mem_of_getElem? (i := 184) rfl)) rfl)
theorem mv_Md_146 : wk_T R_Md 146 y_Md_isBlank b_Md_isBlank 1 (some .boolean) 1 := ⟨(gd _ (tb3 _ (List.mem_of_getElem? (i := 62) rfl)) rfl), (gd _ (tb0 _ (List.mem_of_getElem? (i := 8) rfl)) rfl), (gd _ (tb3 _ (List.mem_of_getElem? (i := 60) rfl)) rfl), (by decide +kernel), (gd _ (tb3 _ (List.mem_of_getElem? (i := 61) rfl)) rfl)⟩
theorem d_Md_next_0 : decode b_Md_next 0 = .ok (.aload_n 0, 1) := by decide +kernel
theorem d_Md_next_1 : decode b_Md_next 1 = .ok (.aload_n 0, 1) := by decide +kernel
theorem d_Md_next_2 : decode b_Md_next 2 = .ok (.getfield 140, 3) := by decide +kernel
theorem d_Md_next_5 : decode b_Md_next 5 = .ok (.putfield 143, 3) := by decide +kernel
theorem d_Md_next_8 : decode b_Md_next 8 = .ok (.aload_n 0, 1) := by decide +kernel
theorem d_Md_next_9 : decode b_Md_next 9 = .ok (.getfield 143, 3) := by decide +kernel
theorem d_Md_next_12 : decode b_Md_next 12 = .ok (.aload_n 0, 1) := by decide +kernel
theorem d_Md_next_13 : decode b_Md_next 13 = .ok (.getfield 127, 3) := by decide +kernel
theorem d_Md_next_16 : decode b_Md_next 16 = .ok (.if_icmp .ge 31, 3) := by decide +kernel
theorem d_Md_next_19 : decode b_Md_next 19 = .ok (.aload_n 0, 1) := by decide +kernel
theorem d_Md_next_20 : decode b_Md_next 20 = .ok (.getfield 7, 3) := by decide +kernel
theorem d_Md_next_23 : decode b_Md_next 23 = .ok (.aload_n 0, 1) := by decide +kernel
theorem d_Md_next_24 : decode b_Md_next 24 = .ok (.getfield 143, 3) := by decide +kernel
theorem d_Md_next_27 : decode b_Md_next 27 = .ok (.iaload, 1) := by decide +kernel
theorem d_Md_next_28 : decode b_Md_next 28 = .ok (.invokestatic 146, 3) := by decide +kernel
theorem d_Md_next_31 : decode b_Md_next 31 = .ok (.ifCond .eq 16, 3) := by decide +kernel
theorem d_Md_next_34 : decode b_Md_next 34 = .ok (.aload_n 0, 1) := by decide +kernel
theorem d_Md_next_35 : decode b_Md_next 35 = .ok (.dup, 1) := by decide +kernel
theorem d_Md_next_36 : decode b_Md_next 36 = .ok (.getfield 143, 3) := by decide +kernel
theorem d_Md_next_39 : decode b_Md_next 39 = .ok (.iconst 1, 1) := by decide +kernel
theorem d_Md_next_40 : decode b_Md_next 40 = .ok (.iadd, 1) := by decide +kernel
theorem d_Md_next_41 : decode b_Md_next 41 = .ok (.putfield 143, 3) := by decide +kernel
theorem d_Md_next_44 : decode b_Md_next 44 = .ok (.goto (-36), 3) := by decide +kernel
theorem d_Md_next_47 : decode b_Md_next 47 = .ok (.aload_n 0, 1) := by decide +kernel
theorem d_Md_next_48 : decode b_Md_next 48 = .ok (.aload_n 0, 1) := by decide +kernel
theorem d_Md_next_49 : decode b_Md_next 49 = .ok (.getfield 143, 3) := by decide +kernel
theorem d_Md_next_52 : decode b_Md_next 52 = .ok (.putfield 140, 3) := by decide +kernel
theorem d_Md_next_55 : decode b_Md_next 55 = .ok (.aload_n 0, 1) := by decide +kernel
theorem d_Md_next_56 : decode b_Md_next 56 = .ok (.getfield 140, 3) := by decide +kernel
theorem d_Md_next_59 : decode b_Md_next 59 = .ok (.aload_n 0, 1) := by decide +kernel
theorem d_Md_next_60 : decode b_Md_next 60 = .ok (.getfield 127, 3) := by decide +kernel
theorem d_Md_next_63 : decode b_Md_next 63 = .ok (.if_icmp .ge 31, 3) := by decide +kernel
theorem d_Md_next_66 : decode b_Md_next 66 = .ok (.aload_n 0, 1) := by decide +kernel
theorem d_Md_next_67 : decode b_Md_next 67 = .ok (.getfield 7, 3) := by decide +kernel
theorem d_Md_next_70 : decode b_Md_next 70 = .ok (.aload_n 0, 1) := by decide +kernel
theorem d_Md_next_71 : decode b_Md_next 71 = .ok (.getfield 140, 3) := by decide +kernel
theorem d_Md_next_74 : decode b_Md_next 74 = .ok (.iaload, 1) := by decide +kernel
theorem d_Md_next_75 : decode b_Md_next 75 = .ok (.invokestatic 146, 3) := by decide +kernel
theorem d_Md_next_78 : decode b_Md_next 78 = .ok (.ifCond .ne 16, 3) := by decide +kernel
theorem d_Md_next_81 : decode b_Md_next 81 = .ok (.aload_n 0, 1) := by decide +kernel
theorem d_Md_next_82 : decode b_Md_next 82 = .ok (.dup, 1) := by decide +kernel
theorem d_Md_next_83 : decode b_Md_next 83 = .ok (.getfield 140, 3) := by decide +kernel
theorem d_Md_next_86 : decode b_Md_next 86 = .ok (.iconst 1, 1) := by decide +kernel
theorem d_Md_next_87 : decode b_Md_next 87 = .ok (.iadd, 1) := by decide +kernel
theorem d_Md_next_88 : decode b_Md_next 88 = .ok (.putfield 140, 3) := by decide +kernel
theorem d_Md_next_91 : decode b_Md_next 91 = .ok (.goto (-36), 3) := by decide +kernel
theorem d_Md_next_94 : decode b_Md_next 94 = .ok (.aload_n 0, 1) := by decide +kernel
theorem d_Md_next_95 : decode b_Md_next 95 = .ok (.getfield 143, 3) := by decide +kernel
theorem d_Md_next_98 : decode b_Md_next 98 = .ok (.aload_n 0, 1) := by decide +kernel
theorem d_Md_next_99 : decode b_Md_next 99 = .ok (.getfield 127, 3) := by decide +kernel
theorem d_Md_next_102 : decode b_Md_next 102 = .ok (.if_icmp .ge 7, 3) := by decide +kernel
theorem d_Md_next_105 : decode b_Md_next 105 = .ok (.iconst 1, 1) := by decide +kernel
theorem d_Md_next_106 : decode b_Md_next 106 = .ok (.goto 4, 3) := by decide +kernel
theorem d_Md_next_109 : decode b_Md_next 109 = .ok (.iconst 0, 1) := by decide +kernel
theorem d_Md_next_110 : decode b_Md_next 110 = .ok (.ireturn, 1) := by decide +kernel
theorem kc_Md_150 : Cond.constantLong R_Md 150 (lN 256) ∈ lw_gd := (gd _ (tb3 _ (List.mem_of_getElem? (i := 72) rfl)) rfl)
theorem d_Md_is_0 : decode b_Md_is 0 = .ok (.iconst 0, 1) := by decide +kernel
theorem d_Md_is_1 : decode b_Md_is 1 = .ok (.istore_n 3, 1) := by decide +kernel
theorem d_Md_is_2 : decode b_Md_is 2 = .ok (.lload_n 1, 1) := by decide +kernel
theorem d_Md_is_3 : decode b_Md_is 3 = .ok (.lstore 4, 2) := by decide +kernel
theorem d_Md_is_5 : decode b_Md_is 5 = .ok (.lload 4, 2) := by decide +kernel
theorem d_Md_is_7 : decode b_Md_is 7 = .ok (.lconst 0, 1) := by decide +kernel
theorem d_Md_is_8 : decode b_Md_is 8 = .ok (.lcmp, 1) := by decide +kernel
theorem d_Md_is_9 : decode b_Md_is 9 = .ok (.ifCond .le 17, 3) := by decide +kernel
theorem d_Md_is_12 : decode b_Md_is 12 = .ok (.iinc 3 1, 3) := by decide +kernel
theorem d_Md_is_15 : decode b_Md_is 15 = .ok (.lload 4, 2) := by decide +kernel
theorem d_Md_is_17 : decode b_Md_is 17 = .ok (.ldc2_w 150, 3) := by decide +kernel
theorem d_Md_is_20 : decode b_Md_is 20 = .ok (.ldiv, 1) := by decide +kernel
theorem d_Md_is_21 : decode b_Md_is 21 = .ok (.lstore 4, 2) := by decide +kernel
theorem d_Md_is_23 : decode b_Md_is 23 = .ok (.goto (-18), 3) := by decide +kernel
theorem d_Md_is_26 : decode b_Md_is 26 = .ok (.lconst 0, 1) := by decide +kernel
theorem d_Md_is_27 : decode b_Md_is 27 = .ok (.lstore 4, 2) := by decide +kernel
theorem d_Md_is_29 : decode b_Md_is 29 = .ok (.aload_n 0, 1) := by decide +kernel
theorem d_Md_is_30 : decode b_Md_is 30 = .ok (.getfield 143, 3) := by decide +kernel
theorem d_Md_is_33 : decode b_Md_is 33 = .ok (.istore 6, 2) := by decide +kernel
theorem d_Md_is_35 : decode b_Md_is 35 = .ok (.iload 6, 2) := by decide +kernel
theorem d_Md_is_37 : decode b_Md_is 37 = .ok (.aload_n 0, 1) := by decide +kernel
theorem d_Md_is_38 : decode b_Md_is 38 = .ok (.getfield 140, 3) := by decide +kernel
theorem d_Md_is_41 : decode b_Md_is 41 = .ok (.if_icmp .ge 39, 3) := by decide +kernel
theorem d_Md_is_44 : decode b_Md_is 44 = .ok (.aload_n 0, 1) := by decide +kernel
theorem d_Md_is_45 : decode b_Md_is 45 = .ok (.getfield 140, 3) := by decide +kernel
theorem d_Md_is_48 : decode b_Md_is 48 = .ok (.aload_n 0, 1) := by decide +kernel
theorem d_Md_is_49 : decode b_Md_is 49 = .ok (.getfield 143, 3) := by decide +kernel
theorem d_Md_is_52 : decode b_Md_is 52 = .ok (.isub, 1) := by decide +kernel
theorem d_Md_is_53 : decode b_Md_is 53 = .ok (.iload_n 3, 1) := by decide +kernel
theorem d_Md_is_54 : decode b_Md_is 54 = .ok (.if_icmp .ne 26, 3) := by decide +kernel
theorem d_Md_is_57 : decode b_Md_is 57 = .ok (.lload 4, 2) := by decide +kernel
theorem d_Md_is_59 : decode b_Md_is 59 = .ok (.ldc2_w 150, 3) := by decide +kernel
theorem d_Md_is_62 : decode b_Md_is 62 = .ok (.lmul, 1) := by decide +kernel
theorem d_Md_is_63 : decode b_Md_is 63 = .ok (.aload_n 0, 1) := by decide +kernel
theorem d_Md_is_64 : decode b_Md_is 64 = .ok (.getfield 7, 3) := by decide +kernel
theorem d_Md_is_67 : decode b_Md_is 67 = .ok (.iload 6, 2) := by decide +kernel
theorem d_Md_is_69 : decode b_Md_is 69 = .ok (.iaload, 1) := by decide +kernel
theorem d_Md_is_70 : decode b_Md_is 70 = .ok (.i2l, 1) := by decide +kernel
theorem d_Md_is_71 : decode b_Md_is 71 = .ok (.ladd, 1) := by decide +kernel
theorem d_Md_is_72 : decode b_Md_is 72 = .ok (.lstore 4, 2) := by decide +kernel
theorem d_Md_is_74 : decode b_Md_is 74 = .ok (.iinc 6 1, 3) := by decide +kernel
theorem d_Md_is_77 : decode b_Md_is 77 = .ok (.goto (-42), 3) := by decide +kernel
theorem d_Md_is_80 : decode b_Md_is 80 = .ok (.aload_n 0, 1) := by decide +kernel
theorem d_Md_is_81 : decode b_Md_is 81 = .ok (.getfield 140, 3) := by decide +kernel
theorem d_Md_is_84 : decode b_Md_is 84 = .ok (.aload_n 0, 1) := by decide +kernel
theorem d_Md_is_85 : decode b_Md_is 85 = .ok (.getfield 143, 3) := by decide +kernel
theorem d_Md_is_88 : decode b_Md_is 88 = .ok (.isub, 1) := by decide +kernel
theorem d_Md_is_89 : decode b_Md_is 89 = .ok (.iload_n 3, 1) := by decide +kernel
theorem d_Md_is_90 : decode b_Md_is 90 = .ok (.if_icmp .ne 14, 3) := by decide +kernel
theorem d_Md_is_93 : decode b_Md_is 93 = .ok (.lload 4, 2) := by decide +kernel
theorem d_Md_is_95 : decode b_Md_is 95 = .ok (.lload_n 1, 1) := by decide +kernel
theorem d_Md_is_96 : decode b_Md_is 96 = .ok (.lcmp, 1) := by decide +kernel
theorem d_Md_is_97 : decode b_Md_is 97 = .ok (.ifCond .ne 7, 3) := by decide +kernel
theorem d_Md_is_100 : decode b_Md_is 100 = .ok (.iconst 1, 1) := by decide +kernel
theorem d_Md_is_101 : decode b_Md_is 101 = .ok (.goto 4, 3) := by decide +kernel
theorem d_Md_is_104 : decode b_Md_is 104 = .ok (.iconst 0, 1) := by decide +kernel
theorem d_Md_is_105 : decode b_Md_is 105 = .ok (.ireturn, 1) := by decide +kernel
set_option maxHeartbeats 4000000 in
set_option maxRecDepth 100000 in
theorem c_Md_isBlank (l : Launch) (D : va_G) (cI : CiT) (z : GzT) (x : Nat) (hx : x < 256) : wk_C l D (tyK cI) (gX z) y_Md_isBlank b_Md_isBlank 1 (some .boolean) 0 0 0 0 [.int (nI (x))] [] wk_i (fun (r : Int32) (_ : Unit) => r = (bI (blk x))) (fun _ => []) := by
  refine wk_methZ (own := R_Md) [(0, .int (nI (x)))] (by decide) rfl (Nat.le_of_ble_eq_true rfl) rfl (gX_ok z) (fun p_ e_ R_ s_ m_ ar_ be_ me_ co_ Q_ A_ hR_ S_ hnm_ hQ_ => ?_)
  refine wk_iload_n (pc := 0) S_ 0 d_Md_isBlank_0 rfl rfl ?_
  refine wk_bipush (pc := 1) (v := (nI (32))) S_ d_Md_isBlank_1 (by decide) ?_
  refine wk_icmp_eqN (pc := 3) (tgt := 12) S_ d_Md_isBlank_3 (by decide) (by omega) (by omega) (fun h3 => ?_) (fun h3 => ?_)
  · -- taken
    refine wk_iconst (pc := 12) (v := (nI (1))) S_ d_Md_isBlank_12 (by decide) ?_
    refine wk_goto (pc := 13) (tgt := 17) S_ d_Md_isBlank_13 (by decide) ?_
    exact hQ_ (nI (1)) () d_Md_isBlank_17 rfl rfl (bI_t (by (try simp at h3); simp [blk, h3]))
  · -- on
    refine wk_iload_n (pc := 6) S_ 0 d_Md_isBlank_6 rfl rfl ?_
    refine wk_bipush (pc := 7) (v := (nI (10))) S_ d_Md_isBlank_7 (by decide) ?_
    refine wk_icmp_neN (pc := 9) (tgt := 16) S_ d_Md_isBlank_9 (by decide) (by omega) (by omega) (fun h9 => ?_) (fun h9 => ?_)
    · -- taken
      refine wk_iconst (pc := 16) (v := (nI (0))) S_ d_Md_isBlank_16 (by decide) ?_
      exact hQ_ (nI (0)) () d_Md_isBlank_17 rfl rfl (bI_f (by (try simp at h3); (try simp at h9); simp [blk, h3, h9]))
    · -- on
      refine wk_iconst (pc := 12) (v := (nI (1))) S_ d_Md_isBlank_12 (by decide) ?_
      refine wk_goto (pc := 13) (tgt := 17) S_ d_Md_isBlank_13 (by decide) ?_
      exact hQ_ (nI (1)) () d_Md_isBlank_17 rfl rfl (bI_t (by (try simp at h3); (try simp at h9); simp [blk, h3, h9]))
set_option maxHeartbeats 4000000 in
set_option maxRecDepth 100000 in
theorem c_Md_next (l : Launch) (D : va_G) (cI : CiT) (z : GzT) (m : Nat → Nat) (tx : (Nat → Nat)) (sz : Nat) (ap : (Nat → Bool)) (pt : (Nat → Nat)) (rk : (Nat → Nat)) (cd : (Nat → Nat)) (fr : Nat) (mc : (Nat → Nat)) (mg : (Nat → Nat)) (mz : (Nat → Nat)) (nc : (Nat → Nat)) (nt : (Nat → Nat)) (ld : (Nat → Nat)) (qap : (Nat → Bool)) (qpt : (Nat → Nat)) (qrk : (Nat → Nat)) (qcd : (Nat → Nat)) (qfr : Nat) (qmc : (Nat → Nat)) (qmg : (Nat → Nat)) (qmz : (Nat → Nat)) (qnc : (Nat → Nat)) (qnt : (Nat → Nat)) (qld : (Nat → Nat)) (nb : Nat) (cl : (Nat → Nat)) (gr : (Nat → Nat)) (sp : (Nat → Nat)) (ot : (Nat → Bool)) (na : Nat) (aw : (Nat → Nat)) (nx : Nat) (bg : (Nat → Nat)) (bb : (Nat → Nat)) (ab : (Nat → Nat)) (fd : Bool) (pv : Bool) (bx : (Nat → Nat)) (wy : (Nat → Nat)) (li : (Nat → Nat)) (fm : Nat) (en : Nat) (nu : Nat) (td : (Nat → Nat)) (lf : Int32) (lk : Int32) (hsz : sz ≤ 1500) (hen : en ≤ sz) (htx : ∀ i, tx i < 256) : wk_C l D (tyK cI) (gX z) y_Md_next b_Md_next 1 (some .boolean) 1 20 0 0 [.ref (m 0)] (wMd m cI tx sz ap pt rk cd fr mc mg mz nc nt ld qap qpt qrk qcd qfr qmc qmg qmz qnc qnt qld nb cl gr sp ot na aw nx bg bb ab fd pv bx wy li fm en nu td lf lk) wk_i (fun (r : Int32) (_ : Unit) => r = (bI (decide (skB tx (sz - en) en < sz)))) (fun _ => (wMd m cI tx sz ap pt rk cd fr mc mg mz nc nt ld qap qpt qrk qcd qfr qmc qmg qmz qnc qnt qld nb cl gr sp ot na aw nx bg bb ab fd pv bx wy li (skB tx (sz - en) en) (skW tx (sz - skB tx (sz - en) en) (skB tx (sz - en) en)) nu td lf lk)) := by
  refine wk_methZ (own := R_Md) [(0, .ref (m 0))] (by decide) rfl (Nat.le_of_ble_eq_true rfl) rfl (gX_ok z) (fun p_ e_ R_ s_ m_ ar_ be_ me_ co_ Q_ A_ hR_ S_ hnm_ hQ_ => ?_)
  refine wk_aload_n (pc := 0) S_ 0 d_Md_next_0 rfl rfl ?_
  refine wk_aload_n (pc := 1) S_ 0 d_Md_next_1 rfl rfl ?_
  refine wk_get (pc := 2) (v := .int (nI (en))) S_ 6 41 0 in_Md rfl (by decide) rfl fl_Md_140 d_Md_next_2 rfl rfl ?_
  refine wk_put (pc := 5) (ty := .int) (ws' := (wMd m cI tx sz ap pt rk cd fr mc mg mz nc nt ld qap qpt qrk qcd qfr qmc qmg qmz qnc qnt qld nb cl gr sp ot na aw nx bg bb ab fd pv bx wy li en en nu td lf lk)) S_ 6 40 0 in_Md t_Md t_Md_ok n_Md rfl (by decide) rfl fl_Md_143 (by decide +kernel) d_Md_next_5 rfl rfl rfl (Nat.le_of_ble_eq_true rfl) rfl ?_
  have hL8 : ∀ (fuel8 : Nat), ∀ (i : Nat), sz - i < fuel8 → (en ≤ i ∧ i ≤ sz) → (skB tx (sz - i) i = skB tx (sz - en) en) → wk_G p_ l e_ R_ s_ m_ ar_ be_ me_ co_ Q_ D A_ 1 0 0 (wMd m cI tx sz ap pt rk cd fr mc mg mz nc nt ld qap qpt qrk qcd qfr qmc qmg qmz qnc qnt qld nb cl gr sp ot na aw nx bg bb ab fd pv bx wy li i en nu td lf lk) 8 [(0, .ref (m 0))] [] := by
    intro fuel8
    induction fuel8 with
    | zero => intro i hm; exact absurd hm (Nat.not_lt_zero _)
    | succ fuel8 ih8 =>
      intro i hm hi hE
      refine wk_aload_n (pc := 8) S_ 0 d_Md_next_8 rfl rfl ?_
      refine wk_get (pc := 9) (v := .int (nI (i))) S_ 6 40 0 in_Md rfl (by decide) rfl fl_Md_143 d_Md_next_9 rfl rfl ?_
      refine wk_aload_n (pc := 12) S_ 0 d_Md_next_12 rfl rfl ?_
      refine wk_get (pc := 13) (v := .int (nI (sz))) S_ 6 1 0 in_Md rfl (by decide) rfl fl_Md_127 d_Md_next_13 rfl rfl ?_
      refine wk_icmp_geN (pc := 16) (tgt := 47) S_ d_Md_next_16 (by decide) (by omega) (by omega) (fun h16 => ?_) (fun h16 => ?_)
      · -- taken
        have hB : i = skB tx (sz - en) en := by rw [← hE]; rw [show sz - i = 0 by omega]; rfl
        refine wk_aload_n (pc := 47) S_ 0 d_Md_next_47 rfl rfl ?_
        refine wk_aload_n (pc := 48) S_ 0 d_Md_next_48 rfl rfl ?_
        refine wk_get (pc := 49) (v := .int (nI (i))) S_ 6 40 0 in_Md rfl (by decide) rfl fl_Md_143 d_Md_next_49 rfl rfl ?_
        refine wk_put (pc := 52) (ty := .int) (ws' := (wMd m cI tx sz ap pt rk cd fr mc mg mz nc nt ld qap qpt qrk qcd qfr qmc qmg qmz qnc qnt qld nb cl gr sp ot na aw nx bg bb ab fd pv bx wy li i i nu td lf lk)) S_ 6 41 0 in_Md t_Md t_Md_ok n_Md rfl (by decide) rfl fl_Md_140 (by decide +kernel) d_Md_next_52 rfl rfl rfl (Nat.le_of_ble_eq_true rfl) rfl ?_
        have hL55 : ∀ (fuel55 : Nat), ∀ (j : Nat), sz - j < fuel55 → (i ≤ j ∧ j ≤ sz) → (skW tx (sz - j) j = skW tx (sz - i) i) → wk_G p_ l e_ R_ s_ m_ ar_ be_ me_ co_ Q_ D A_ 1 0 0 (wMd m cI tx sz ap pt rk cd fr mc mg mz nc nt ld qap qpt qrk qcd qfr qmc qmg qmz qnc qnt qld nb cl gr sp ot na aw nx bg bb ab fd pv bx wy li i j nu td lf lk) 55 [(0, .ref (m 0))] [] := by
          intro fuel55
          induction fuel55 with
          | zero => intro j hm; exact absurd hm (Nat.not_lt_zero _)
          | succ fuel55 ih55 =>
            intro j hm hj hE2
            refine wk_aload_n (pc := 55) S_ 0 d_Md_next_55 rfl rfl ?_
            refine wk_get (pc := 56) (v := .int (nI (j))) S_ 6 41 0 in_Md rfl (by decide) rfl fl_Md_140 d_Md_next_56 rfl rfl ?_
            refine wk_aload_n (pc := 59) S_ 0 d_Md_next_59 rfl rfl ?_
            refine wk_get (pc := 60) (v := .int (nI (sz))) S_ 6 1 0 in_Md rfl (by decide) rfl fl_Md_127 d_Md_next_60 rfl rfl ?_
            refine wk_icmp_geN (pc := 63) (tgt := 94) S_ d_Md_next_63 (by decide) (by omega) (by omega) (fun h63 => ?_) (fun h63 => ?_)
            · -- taken
              have hW : j = skW tx (sz - i) i := by rw [← hE2]; rw [show sz - j = 0 by omega]; rfl
              refine wk_aload_n (pc := 94) S_ 0 d_Md_next_94 rfl rfl ?_
              refine wk_get (pc := 95) (v := .int (nI (i))) S_ 6 40 0 in_Md rfl (by decide) rfl fl_Md_143 d_Md_next_95 rfl rfl ?_
              refine wk_aload_n (pc := 98) S_ 0 d_Md_next_98 rfl rfl ?_
              refine wk_get (pc := 99) (v := .int (nI (sz))) S_ 6 1 0 in_Md rfl (by decide) rfl fl_Md_127 d_Md_next_99 rfl rfl ?_
              refine wk_icmp_geN (pc := 102) (tgt := 109) S_ d_Md_next_102 (by decide) (by omega) (by omega) (fun h102 => ?_) (fun h102 => ?_)
              · -- taken
                refine wk_iconst (pc := 109) (v := (nI (0))) S_ d_Md_next_109 (by decide) ?_
                exact hQ_ (nI (0)) () d_Md_next_110 rfl (by rw [← hB, ← hW]) (bI_f (by rw [← hB]; simp; omega))
              · -- on
                refine wk_iconst (pc := 105) (v := (nI (1))) S_ d_Md_next_105 (by decide) ?_
                refine wk_goto (pc := 106) (tgt := 110) S_ d_Md_next_106 (by decide) ?_
                exact hQ_ (nI (1)) () d_Md_next_110 rfl (by rw [← hB, ← hW]) (bI_t (by rw [← hB]; simp; omega))
            · -- on
              refine wk_aload_n (pc := 66) S_ 0 d_Md_next_66 rfl rfl ?_
              refine wk_get (pc := 67) (v := .ref (m 1)) S_ 6 0 0 in_Md rfl (by decide) rfl fl_Md_7 d_Md_next_67 rfl rfl ?_
              refine wk_aload_n (pc := 70) S_ 0 d_Md_next_70 rfl rfl ?_
              refine wk_get (pc := 71) (v := .int (nI (j))) S_ 6 41 0 in_Md rfl (by decide) rfl fl_Md_140 d_Md_next_71 rfl rfl ?_
              refine wk_ialdN (pc := 74) (g := tx) S_ 1 0 d_Md_next_74 rfl rfl (by omega) (by decide) ?_
              refine wk_run (pc := 75) (rest := []) (wr := (wMd m cI tx sz ap pt rk cd fr mc mg mz nc nt ld qap qpt qrk qcd qfr qmc qmg qmz qnc qnt qld nb cl gr sp ot na aw nx bg bb ab fd pv bx wy li i j nu td lf lk)) (wN := fun _ => (wMd m cI tx sz ap pt rk cd fr mc mg mz nc nt ld qap qpt qrk qcd qfr qmc qmg qmz qnc qnt qld nb cl gr sp ot na aw nx bg bb ab fd pv bx wy li i j nu td lf lk)) S_ (wk_rS S_ (c_Md_isBlank l D cI z ((tx) (j)) (htx j)) mv_Md_146 rfl rfl (Nat.le_of_ble_eq_true rfl) (by rw [hR_]; decide) (by rw [hR_]; decide) d_Md_next_75) [] [0, 1, 2, 3, 4, 5, 6, 7, 8, 9, 10, 11, 12, 13, 14, 15, 16, 17, 18, 19, 20, 21, 22, 23, 24, 25, 26, 27, 28, 29, 30, 31, 32, 33] [0, 1, 2, 3, 4, 5, 6, 7, 8, 9, 10, 11, 12, 13, 14, 15, 16, 17, 18, 19, 20, 21, 22, 23, 24, 25, 26, 27, 28, 29, 30, 31, 32, 33] rfl rfl rfl (by decide) (by decide) (by decide) (by decide) (fun _ => rfl) (fun _ => rfl) (fun r75 _ hw75 => ?_)
              refine wk_st (st' := [.int (r75)]) rfl ?_
              refine wk_top (y := (bI (blk ((tx) (j))))) hw75 ?_
              refine wk_if_neB (pc := 78) (tgt := 94) S_ d_Md_next_78 (by decide) (fun h78 => ?_) (fun h78 => ?_)
              · -- taken
                have hW : j = skW tx (sz - i) i := by rw [← hE2]; rw [show sz - j = (sz - (j + 1)) + 1 by omega, skW, if_pos h78]
                refine wk_aload_n (pc := 94) S_ 0 d_Md_next_94 rfl rfl ?_
                refine wk_get (pc := 95) (v := .int (nI (i))) S_ 6 40 0 in_Md rfl (by decide) rfl fl_Md_143 d_Md_next_95 rfl rfl ?_
                refine wk_aload_n (pc := 98) S_ 0 d_Md_next_98 rfl rfl ?_
                refine wk_get (pc := 99) (v := .int (nI (sz))) S_ 6 1 0 in_Md rfl (by decide) rfl fl_Md_127 d_Md_next_99 rfl rfl ?_
                refine wk_icmp_geN (pc := 102) (tgt := 109) S_ d_Md_next_102 (by decide) (by omega) (by omega) (fun h102 => ?_) (fun h102 => ?_)
                · -- taken
                  refine wk_iconst (pc := 109) (v := (nI (0))) S_ d_Md_next_109 (by decide) ?_
                  exact hQ_ (nI (0)) () d_Md_next_110 rfl (by rw [← hB, ← hW]) (bI_f (by rw [← hB]; simp; omega))
                · -- on
                  refine wk_iconst (pc := 105) (v := (nI (1))) S_ d_Md_next_105 (by decide) ?_
                  refine wk_goto (pc := 106) (tgt := 110) S_ d_Md_next_106 (by decide) ?_
                  exact hQ_ (nI (1)) () d_Md_next_110 rfl (by rw [← hB, ← hW]) (bI_t (by rw [← hB]; simp; omega))
              · -- on
                refine wk_aload_n (pc := 81) S_ 0 d_Md_next_81 rfl rfl ?_
                refine wk_dup (pc := 82) S_ d_Md_next_82 rfl ?_
                refine wk_get (pc := 83) (v := .int (nI (j))) S_ 6 41 0 in_Md rfl (by decide) rfl fl_Md_140 d_Md_next_83 rfl rfl ?_
                refine wk_iconst (pc := 86) (v := (nI (1))) S_ d_Md_next_86 (by decide) ?_
                refine wk_iaddN (pc := 87) S_ d_Md_next_87 ?_
                refine wk_put (pc := 88) (ty := .int) (ws' := (wMd m cI tx sz ap pt rk cd fr mc mg mz nc nt ld qap qpt qrk qcd qfr qmc qmg qmz qnc qnt qld nb cl gr sp ot na aw nx bg bb ab fd pv bx wy li i ((j) + (1)) nu td lf lk)) S_ 6 41 0 in_Md t_Md t_Md_ok n_Md rfl (by decide) rfl fl_Md_140 (by decide +kernel) d_Md_next_88 rfl rfl rfl (Nat.le_of_ble_eq_true rfl) rfl ?_
                refine wk_goto (pc := 91) (tgt := 55) S_ d_Md_next_91 (by decide) ?_
                refine wk_lv [0] ?_ (ih55 ((j) + (1)) (by omega) (by omega) (by rw [← hE2, show sz - j = (sz - (j + 1)) + 1 by omega, skW, if_neg (by rw [h78]; decide)]))
                rfl
        refine wk_lv [0] ?_ (hL55 _ (i) (Nat.lt_succ_self _) (by omega) rfl)
        rfl
      · -- on
        refine wk_aload_n (pc := 19) S_ 0 d_Md_next_19 rfl rfl ?_
        refine wk_get (pc := 20) (v := .ref (m 1)) S_ 6 0 0 in_Md rfl (by decide) rfl fl_Md_7 d_Md_next_20 rfl rfl ?_
        refine wk_aload_n (pc := 23) S_ 0 d_Md_next_23 rfl rfl ?_
        refine wk_get (pc := 24) (v := .int (nI (i))) S_ 6 40 0 in_Md rfl (by decide) rfl fl_Md_143 d_Md_next_24 rfl rfl ?_
        refine wk_ialdN (pc := 27) (g := tx) S_ 1 0 d_Md_next_27 rfl rfl (by omega) (by decide) ?_
        refine wk_run (pc := 28) (rest := []) (wr := (wMd m cI tx sz ap pt rk cd fr mc mg mz nc nt ld qap qpt qrk qcd qfr qmc qmg qmz qnc qnt qld nb cl gr sp ot na aw nx bg bb ab fd pv bx wy li i en nu td lf lk)) (wN := fun _ => (wMd m cI tx sz ap pt rk cd fr mc mg mz nc nt ld qap qpt qrk qcd qfr qmc qmg qmz qnc qnt qld nb cl gr sp ot na aw nx bg bb ab fd pv bx wy li i en nu td lf lk)) S_ (wk_rS S_ (c_Md_isBlank l D cI z ((tx) (i)) (htx i)) mv_Md_146 rfl rfl (Nat.le_of_ble_eq_true rfl) (by rw [hR_]; decide) (by rw [hR_]; decide) d_Md_next_28) [] [0, 1, 2, 3, 4, 5, 6, 7, 8, 9, 10, 11, 12, 13, 14, 15, 16, 17, 18, 19, 20, 21, 22, 23, 24, 25, 26, 27, 28, 29, 30, 31, 32, 33] [0, 1, 2, 3, 4, 5, 6, 7, 8, 9, 10, 11, 12, 13, 14, 15, 16, 17, 18, 19, 20, 21, 22, 23, 24, 25, 26, 27, 28, 29, 30, 31, 32, 33] rfl rfl rfl (by decide) (by decide) (by decide) (by decide) (fun _ => rfl) (fun _ => rfl) (fun r28 _ hw28 => ?_)
        refine wk_st (st' := [.int (r28)]) rfl ?_
        refine wk_top (y := (bI (blk ((tx) (i))))) hw28 ?_
        refine wk_if_eqB (pc := 31) (tgt := 47) S_ d_Md_next_31 (by decide) (fun h31 => ?_) (fun h31 => ?_)
        · -- taken
          have hB : i = skB tx (sz - en) en := by rw [← hE]; rw [show sz - i = (sz - (i + 1)) + 1 by omega, skB, if_neg (by rw [h31]; decide)]
          refine wk_aload_n (pc := 47) S_ 0 d_Md_next_47 rfl rfl ?_
          refine wk_aload_n (pc := 48) S_ 0 d_Md_next_48 rfl rfl ?_
          refine wk_get (pc := 49) (v := .int (nI (i))) S_ 6 40 0 in_Md rfl (by decide) rfl fl_Md_143 d_Md_next_49 rfl rfl ?_
          refine wk_put (pc := 52) (ty := .int) (ws' := (wMd m cI tx sz ap pt rk cd fr mc mg mz nc nt ld qap qpt qrk qcd qfr qmc qmg qmz qnc qnt qld nb cl gr sp ot na aw nx bg bb ab fd pv bx wy li i i nu td lf lk)) S_ 6 41 0 in_Md t_Md t_Md_ok n_Md rfl (by decide) rfl fl_Md_140 (by decide +kernel) d_Md_next_52 rfl rfl rfl (Nat.le_of_ble_eq_true rfl) rfl ?_
          have hL55 : ∀ (fuel55 : Nat), ∀ (j : Nat), sz - j < fuel55 → (i ≤ j ∧ j ≤ sz) → (skW tx (sz - j) j = skW tx (sz - i) i) → wk_G p_ l e_ R_ s_ m_ ar_ be_ me_ co_ Q_ D A_ 1 0 0 (wMd m cI tx sz ap pt rk cd fr mc mg mz nc nt ld qap qpt qrk qcd qfr qmc qmg qmz qnc qnt qld nb cl gr sp ot na aw nx bg bb ab fd pv bx wy li i j nu td lf lk) 55 [(0, .ref (m 0))] [] := by
            intro fuel55
            induction fuel55 with
            | zero => intro j hm; exact absurd hm (Nat.not_lt_zero _)
            | succ fuel55 ih55 =>
              intro j hm hj hE2
              refine wk_aload_n (pc := 55) S_ 0 d_Md_next_55 rfl rfl ?_
              refine wk_get (pc := 56) (v := .int (nI (j))) S_ 6 41 0 in_Md rfl (by decide) rfl fl_Md_140 d_Md_next_56 rfl rfl ?_
              refine wk_aload_n (pc := 59) S_ 0 d_Md_next_59 rfl rfl ?_
              refine wk_get (pc := 60) (v := .int (nI (sz))) S_ 6 1 0 in_Md rfl (by decide) rfl fl_Md_127 d_Md_next_60 rfl rfl ?_
              refine wk_icmp_geN (pc := 63) (tgt := 94) S_ d_Md_next_63 (by decide) (by omega) (by omega) (fun h63 => ?_) (fun h63 => ?_)
              · -- taken
                have hW : j = skW tx (sz - i) i := by rw [← hE2]; rw [show sz - j = 0 by omega]; rfl
                refine wk_aload_n (pc := 94) S_ 0 d_Md_next_94 rfl rfl ?_
                refine wk_get (pc := 95) (v := .int (nI (i))) S_ 6 40 0 in_Md rfl (by decide) rfl fl_Md_143 d_Md_next_95 rfl rfl ?_
                refine wk_aload_n (pc := 98) S_ 0 d_Md_next_98 rfl rfl ?_
                refine wk_get (pc := 99) (v := .int (nI (sz))) S_ 6 1 0 in_Md rfl (by decide) rfl fl_Md_127 d_Md_next_99 rfl rfl ?_
                refine wk_icmp_geN (pc := 102) (tgt := 109) S_ d_Md_next_102 (by decide) (by omega) (by omega) (fun h102 => ?_) (fun h102 => ?_)
                · -- taken
                  refine wk_iconst (pc := 109) (v := (nI (0))) S_ d_Md_next_109 (by decide) ?_
                  exact hQ_ (nI (0)) () d_Md_next_110 rfl (by rw [← hB, ← hW]) (bI_f (by rw [← hB]; simp; omega))
                · -- on
                  refine wk_iconst (pc := 105) (v := (nI (1))) S_ d_Md_next_105 (by decide) ?_
                  refine wk_goto (pc := 106) (tgt := 110) S_ d_Md_next_106 (by decide) ?_
                  exact hQ_ (nI (1)) () d_Md_next_110 rfl (by rw [← hB, ← hW]) (bI_t (by rw [← hB]; simp; omega))
              · -- on
                refine wk_aload_n (pc := 66) S_ 0 d_Md_next_66 rfl rfl ?_
                refine wk_get (pc := 67) (v := .ref (m 1)) S_ 6 0 0 in_Md rfl (by decide) rfl fl_Md_7 d_Md_next_67 rfl rfl ?_
                refine wk_aload_n (pc := 70) S_ 0 d_Md_next_70 rfl rfl ?_
                refine wk_get (pc := 71) (v := .int (nI (j))) S_ 6 41 0 in_Md rfl (by decide) rfl fl_Md_140 d_Md_next_71 rfl rfl ?_
                refine wk_ialdN (pc := 74) (g := tx) S_ 1 0 d_Md_next_74 rfl rfl (by omega) (by decide) ?_
                refine wk_run (pc := 75) (rest := []) (wr := (wMd m cI tx sz ap pt rk cd fr mc mg mz nc nt ld qap qpt qrk qcd qfr qmc qmg qmz qnc qnt qld nb cl gr sp ot na aw nx bg bb ab fd pv bx wy li i j nu td lf lk)) (wN := fun _ => (wMd m cI tx sz ap pt rk cd fr mc mg mz nc nt ld qap qpt qrk qcd qfr qmc qmg qmz qnc qnt qld nb cl gr sp ot na aw nx bg bb ab fd pv bx wy li i j nu td lf lk)) S_ (wk_rS S_ (c_Md_isBlank l D cI z ((tx) (j)) (htx j)) mv_Md_146 rfl rfl (Nat.le_of_ble_eq_true rfl) (by rw [hR_]; decide) (by rw [hR_]; decide) d_Md_next_75) [] [0, 1, 2, 3, 4, 5, 6, 7, 8, 9, 10, 11, 12, 13, 14, 15, 16, 17, 18, 19, 20, 21, 22, 23, 24, 25, 26, 27, 28, 29, 30, 31, 32, 33] [0, 1, 2, 3, 4, 5, 6, 7, 8, 9, 10, 11, 12, 13, 14, 15, 16, 17, 18, 19, 20, 21, 22, 23, 24, 25, 26, 27, 28, 29, 30, 31, 32, 33] rfl rfl rfl (by decide) (by decide) (by decide) (by decide) (fun _ => rfl) (fun _ => rfl) (fun r75 _ hw75 => ?_)
                refine wk_st (st' := [.int (r75)]) rfl ?_
                refine wk_top (y := (bI (blk ((tx) (j))))) hw75 ?_
                refine wk_if_neB (pc := 78) (tgt := 94) S_ d_Md_next_78 (by decide) (fun h78 => ?_) (fun h78 => ?_)
                · -- taken
                  have hW : j = skW tx (sz - i) i := by rw [← hE2]; rw [show sz - j = (sz - (j + 1)) + 1 by omega, skW, if_pos h78]
                  refine wk_aload_n (pc := 94) S_ 0 d_Md_next_94 rfl rfl ?_
                  refine wk_get (pc := 95) (v := .int (nI (i))) S_ 6 40 0 in_Md rfl (by decide) rfl fl_Md_143 d_Md_next_95 rfl rfl ?_
                  refine wk_aload_n (pc := 98) S_ 0 d_Md_next_98 rfl rfl ?_
                  refine wk_get (pc := 99) (v := .int (nI (sz))) S_ 6 1 0 in_Md rfl (by decide) rfl fl_Md_127 d_Md_next_99 rfl rfl ?_
                  refine wk_icmp_geN (pc := 102) (tgt := 109) S_ d_Md_next_102 (by decide) (by omega) (by omega) (fun h102 => ?_) (fun h102 => ?_)
                  · -- taken
                    refine wk_iconst (pc := 109) (v := (nI (0))) S_ d_Md_next_109 (by decide) ?_
                    exact hQ_ (nI (0)) () d_Md_next_110 rfl (by rw [← hB, ← hW]) (bI_f (by rw [← hB]; simp; omega))
                  · -- on
                    refine wk_iconst (pc := 105) (v := (nI (1))) S_ d_Md_next_105 (by decide) ?_
                    refine wk_goto (pc := 106) (tgt := 110) S_ d_Md_next_106 (by decide) ?_
                    exact hQ_ (nI (1)) () d_Md_next_110 rfl (by rw [← hB, ← hW]) (bI_t (by rw [← hB]; simp; omega))
                · -- on
                  refine wk_aload_n (pc := 81) S_ 0 d_Md_next_81 rfl rfl ?_
                  refine wk_dup (pc := 82) S_ d_Md_next_82 rfl ?_
                  refine wk_get (pc := 83) (v := .int (nI (j))) S_ 6 41 0 in_Md rfl (by decide) rfl fl_Md_140 d_Md_next_83 rfl rfl ?_
                  refine wk_iconst (pc := 86) (v := (nI (1))) S_ d_Md_next_86 (by decide) ?_
                  refine wk_iaddN (pc := 87) S_ d_Md_next_87 ?_
                  refine wk_put (pc := 88) (ty := .int) (ws' := (wMd m cI tx sz ap pt rk cd fr mc mg mz nc nt ld qap qpt qrk qcd qfr qmc qmg qmz qnc qnt qld nb cl gr sp ot na aw nx bg bb ab fd pv bx wy li i ((j) + (1)) nu td lf lk)) S_ 6 41 0 in_Md t_Md t_Md_ok n_Md rfl (by decide) rfl fl_Md_140 (by decide +kernel) d_Md_next_88 rfl rfl rfl (Nat.le_of_ble_eq_true rfl) rfl ?_
                  refine wk_goto (pc := 91) (tgt := 55) S_ d_Md_next_91 (by decide) ?_
                  refine wk_lv [0] ?_ (ih55 ((j) + (1)) (by omega) (by omega) (by rw [← hE2, show sz - j = (sz - (j + 1)) + 1 by omega, skW, if_neg (by rw [h78]; decide)]))
                  rfl
          refine wk_lv [0] ?_ (hL55 _ (i) (Nat.lt_succ_self _) (by omega) rfl)
          rfl
        · -- on
          refine wk_aload_n (pc := 34) S_ 0 d_Md_next_34 rfl rfl ?_
          refine wk_dup (pc := 35) S_ d_Md_next_35 rfl ?_
          refine wk_get (pc := 36) (v := .int (nI (i))) S_ 6 40 0 in_Md rfl (by decide) rfl fl_Md_143 d_Md_next_36 rfl rfl ?_
          refine wk_iconst (pc := 39) (v := (nI (1))) S_ d_Md_next_39 (by decide) ?_
          refine wk_iaddN (pc := 40) S_ d_Md_next_40 ?_
          refine wk_put (pc := 41) (ty := .int) (ws' := (wMd m cI tx sz ap pt rk cd fr mc mg mz nc nt ld qap qpt qrk qcd qfr qmc qmg qmz qnc qnt qld nb cl gr sp ot na aw nx bg bb ab fd pv bx wy li ((i) + (1)) en nu td lf lk)) S_ 6 40 0 in_Md t_Md t_Md_ok n_Md rfl (by decide) rfl fl_Md_143 (by decide +kernel) d_Md_next_41 rfl rfl rfl (Nat.le_of_ble_eq_true rfl) rfl ?_
          refine wk_goto (pc := 44) (tgt := 8) S_ d_Md_next_44 (by decide) ?_
          refine wk_lv [0] ?_ (ih8 ((i) + (1)) (by omega) (by omega) (by rw [← hE, show sz - i = (sz - (i + 1)) + 1 by omega, skB, if_pos h31]))
          rfl
  refine wk_lv [0] ?_ (hL8 _ (en) (Nat.lt_succ_self _) (by omega) rfl)
  rfl
set_option maxHeartbeats 4000000 in
set_option maxRecDepth 100000 in
theorem c_Md_is (l : Launch) (D : va_G) (cI : CiT) (z : GzT) (m : Nat → Nat) (tx : (Nat → Nat)) (sz : Nat) (ap : (Nat → Bool)) (pt : (Nat → Nat)) (rk : (Nat → Nat)) (cd : (Nat → Nat)) (fr : Nat) (mc : (Nat → Nat)) (mg : (Nat → Nat)) (mz : (Nat → Nat)) (nc : (Nat → Nat)) (nt : (Nat → Nat)) (ld : (Nat → Nat)) (qap : (Nat → Bool)) (qpt : (Nat → Nat)) (qrk : (Nat → Nat)) (qcd : (Nat → Nat)) (qfr : Nat) (qmc : (Nat → Nat)) (qmg : (Nat → Nat)) (qmz : (Nat → Nat)) (qnc : (Nat → Nat)) (qnt : (Nat → Nat)) (qld : (Nat → Nat)) (nb : Nat) (cl : (Nat → Nat)) (gr : (Nat → Nat)) (sp : (Nat → Nat)) (ot : (Nat → Bool)) (na : Nat) (aw : (Nat → Nat)) (nx : Nat) (bg : (Nat → Nat)) (bb : (Nat → Nat)) (ab : (Nat → Nat)) (fd : Bool) (pv : Bool) (bx : (Nat → Nat)) (wy : (Nat → Nat)) (li : (Nat → Nat)) (fm : Nat) (en : Nat) (nu : Nat) (td : (Nat → Nat)) (lf : Int32) (lk : Int32) (c : Nat → Nat) (n : Nat) (hc : ∀ i, c i < 256) (hc0 : 0 < c 0) (hn : 0 < n ∧ n ≤ 6) (htx : ∀ i, tx i < 256) (hfe : fm ≤ en ∧ en ≤ 1500) : wk_C l D (tyK cI) (gX z) y_Md_is b_Md_is 7 (some .boolean) 0 0 0 0 [.ref (m 0), .long (lN (tbN c 0 n))] (wMd m cI tx sz ap pt rk cd fr mc mg mz nc nt ld qap qpt qrk qcd qfr qmc qmg qmz qnc qnt qld nb cl gr sp ot na aw nx bg bb ab fd pv bx wy li fm en nu td lf lk) wk_i (fun (r : Int32) (_ : Unit) => r = (bI (wIs tx fm en c n))) (fun _ => (wMd m cI tx sz ap pt rk cd fr mc mg mz nc nt ld qap qpt qrk qcd qfr qmc qmg qmz qnc qnt qld nb cl gr sp ot na aw nx bg bb ab fd pv bx wy li fm en nu td lf lk)) := by
  refine wk_methZ (own := R_Md) [(0, .ref (m 0)), (1, .long (lN (tbN c 0 n)))] (by decide) rfl (Nat.le_of_ble_eq_true rfl) rfl (gX_ok z) (fun p_ e_ R_ s_ m_ ar_ be_ me_ co_ Q_ A_ hR_ S_ hnm_ hQ_ => ?_)
  refine wk_iconst (pc := 0) (v := (nI (0))) S_ d_Md_is_0 (by decide) ?_
  refine wk_istore_n (pc := 1) (lv' := [(3, .int (nI (0))), (0, .ref (m 0)), (1, .long (lN (tbN c 0 n)))]) S_ d_Md_is_1 rfl (by decide) rfl ?_
  refine wk_lload_n (pc := 2) S_ 2 d_Md_is_2 rfl rfl ?_
  refine wk_lstore (pc := 3) (lv' := [(4, .long (lN (tbN c 0 n))), (3, .int (nI (0))), (0, .ref (m 0)), (1, .long (lN (tbN c 0 n)))]) S_ d_Md_is_3 (by decide) rfl ?_
  have hL5 : ∀ (fuel5 : Nat), ∀ (j : Nat), n - j < fuel5 → (j ≤ n) → wk_G p_ l e_ R_ s_ m_ ar_ be_ me_ co_ Q_ D A_ 7 0 0 (wMd m cI tx sz ap pt rk cd fr mc mg mz nc nt ld qap qpt qrk qcd qfr qmc qmg qmz qnc qnt qld nb cl gr sp ot na aw nx bg bb ab fd pv bx wy li fm en nu td lf lk) 5 [(0, .ref (m 0)), (1, .long (lN (tbN c 0 n))), (3, .int (nI (j))), (4, .long (lN (tbN c 0 (n - j))))] [] := by
    intro fuel5
    induction fuel5 with
    | zero => intro j hm; exact absurd hm (Nat.not_lt_zero _)
    | succ fuel5 ih5 =>
      intro j hm hj
      refine wk_lload (pc := 5) S_ 3 d_Md_is_5 rfl ?_
      refine wk_lconst (pc := 7) (v := (lN (0))) S_ d_Md_is_7 (by decide) ?_
      refine wk_lcmp (pc := 8) S_ d_Md_is_8 ?_
      have hb1 := tb_le (s := 0) hc (n - j)
      have hb2 : 256 ^ (n - j) ≤ 256 ^ 6 := Nat.pow_le_pow_right (by decide) (by omega)
      refine wk_cmp_leN (pc := 9) (tgt := 26) S_ d_Md_is_9 (by decide) (by omega) (by omega) (fun h9 => ?_) (fun h9 => ?_)
      · -- taken
        have hjn : j = n := by rcases Nat.lt_or_ge j n with z | z; have h7 := tb_pos hc0 (n - j) (by omega); omega; omega
        refine wk_lconst (pc := 26) (v := (lN (0))) S_ d_Md_is_26 (by decide) ?_
        refine wk_lstore (pc := 27) (lv' := [(4, .long (lN (0))), (0, .ref (m 0)), (1, .long (lN (tbN c 0 n))), (3, .int (nI (j)))]) S_ d_Md_is_27 (by decide) rfl ?_
        refine wk_aload_n (pc := 29) S_ 1 d_Md_is_29 rfl rfl ?_
        refine wk_get (pc := 30) (v := .int (nI (fm))) S_ 6 40 0 in_Md rfl (by decide) rfl fl_Md_143 d_Md_is_30 rfl rfl ?_
        refine wk_istore (pc := 33) (lv' := [(6, .int (nI (fm))), (4, .long (lN (0))), (0, .ref (m 0)), (1, .long (lN (tbN c 0 n))), (3, .int (nI (j)))]) S_ d_Md_is_33 (by decide) rfl ?_
        have hL35 : ∀ (fuel35 : Nat), ∀ (k : Nat) (o : Nat), en - k < fuel35 → (fm ≤ k ∧ k ≤ en) → (en - fm = n → o = tbN tx fm (k - fm)) → (o ≤ 256 ^ 6) → wk_G p_ l e_ R_ s_ m_ ar_ be_ me_ co_ Q_ D A_ 7 0 0 (wMd m cI tx sz ap pt rk cd fr mc mg mz nc nt ld qap qpt qrk qcd qfr qmc qmg qmz qnc qnt qld nb cl gr sp ot na aw nx bg bb ab fd pv bx wy li fm en nu td lf lk) 35 [(0, .ref (m 0)), (1, .long (lN (tbN c 0 n))), (3, .int (nI (j))), (4, .long (lN (o))), (6, .int (nI (k)))] [] := by
          intro fuel35
          induction fuel35 with
          | zero => intro k o hm; exact absurd hm (Nat.not_lt_zero _)
          | succ fuel35 ih35 =>
            intro k o hm hk hO ho
            refine wk_iload (pc := 35) S_ 4 d_Md_is_35 rfl ?_
            refine wk_aload_n (pc := 37) S_ 0 d_Md_is_37 rfl rfl ?_
            refine wk_get (pc := 38) (v := .int (nI (en))) S_ 6 41 0 in_Md rfl (by decide) rfl fl_Md_140 d_Md_is_38 rfl rfl ?_
            refine wk_icmp_geN (pc := 41) (tgt := 80) S_ d_Md_is_41 (by decide) (by omega) (by omega) (fun h41 => ?_) (fun h41 => ?_)
            · -- taken
              refine wk_aload_n (pc := 80) S_ 0 d_Md_is_80 rfl rfl ?_
              refine wk_get (pc := 81) (v := .int (nI (en))) S_ 6 41 0 in_Md rfl (by decide) rfl fl_Md_140 d_Md_is_81 rfl rfl ?_
              refine wk_aload_n (pc := 84) S_ 0 d_Md_is_84 rfl rfl ?_
              refine wk_get (pc := 85) (v := .int (nI (fm))) S_ 6 40 0 in_Md rfl (by decide) rfl fl_Md_143 d_Md_is_85 rfl rfl ?_
              refine wk_isubN (pc := 88) S_ d_Md_is_88 (by omega) ?_
              refine wk_iload_n (pc := 89) S_ 2 d_Md_is_89 rfl rfl ?_
              refine wk_icmp_neN (pc := 90) (tgt := 104) S_ d_Md_is_90 (by decide) (by omega) (by omega) (fun h90 => ?_) (fun h90 => ?_)
              · -- taken
                refine wk_iconst (pc := 104) (v := (nI (0))) S_ d_Md_is_104 (by decide) ?_
                exact hQ_ (nI (0)) () d_Md_is_105 rfl rfl (bI_f (by simp [wIs]; omega))
              · -- on
                refine wk_lload (pc := 93) S_ 3 d_Md_is_93 rfl ?_
                refine wk_lload_n (pc := 95) S_ 1 d_Md_is_95 rfl rfl ?_
                refine wk_lcmp (pc := 96) S_ d_Md_is_96 ?_
                have hb3 := tb_le (s := 0) hc n
                have hb4 : 256 ^ n ≤ 256 ^ 6 := Nat.pow_le_pow_right (by decide) (by omega)
                refine wk_cmp_neN (pc := 97) (tgt := 104) S_ d_Md_is_97 (by decide) (by omega) (by omega) (fun h97 => ?_) (fun h97 => ?_)
                · -- taken
                  refine wk_iconst (pc := 104) (v := (nI (0))) S_ d_Md_is_104 (by decide) ?_
                  exact hQ_ (nI (0)) () d_Md_is_105 rfl rfl (bI_f (by rw [wIs, decide_eq_false_iff_not]; intro z; apply h97; rw [hO (by omega), show k - fm = n by omega]; exact (tb_eq htx hc n).mpr (fun i hi => by rw [Nat.zero_add]; exact z.2 i hi)))
                · -- on
                  refine wk_iconst (pc := 100) (v := (nI (1))) S_ d_Md_is_100 (by decide) ?_
                  refine wk_goto (pc := 101) (tgt := 105) S_ d_Md_is_101 (by decide) ?_
                  exact hQ_ (nI (1)) () d_Md_is_105 rfl rfl (bI_t (by rw [wIs, decide_eq_true_eq]; refine ⟨by omega, fun i hi => ?_⟩; have h7 := (tb_eq htx hc n).mp (by rw [← h97, hO (by omega), show k - fm = n by omega]) i hi; rwa [Nat.zero_add] at h7))
            · -- on
              refine wk_aload_n (pc := 44) S_ 0 d_Md_is_44 rfl rfl ?_
              refine wk_get (pc := 45) (v := .int (nI (en))) S_ 6 41 0 in_Md rfl (by decide) rfl fl_Md_140 d_Md_is_45 rfl rfl ?_
              refine wk_aload_n (pc := 48) S_ 0 d_Md_is_48 rfl rfl ?_
              refine wk_get (pc := 49) (v := .int (nI (fm))) S_ 6 40 0 in_Md rfl (by decide) rfl fl_Md_143 d_Md_is_49 rfl rfl ?_
              refine wk_isubN (pc := 52) S_ d_Md_is_52 (by omega) ?_
              refine wk_iload_n (pc := 53) S_ 2 d_Md_is_53 rfl rfl ?_
              refine wk_icmp_neN (pc := 54) (tgt := 80) S_ d_Md_is_54 (by decide) (by omega) (by omega) (fun h54 => ?_) (fun h54 => ?_)
              · -- taken
                refine wk_aload_n (pc := 80) S_ 0 d_Md_is_80 rfl rfl ?_
                refine wk_get (pc := 81) (v := .int (nI (en))) S_ 6 41 0 in_Md rfl (by decide) rfl fl_Md_140 d_Md_is_81 rfl rfl ?_
                refine wk_aload_n (pc := 84) S_ 0 d_Md_is_84 rfl rfl ?_
                refine wk_get (pc := 85) (v := .int (nI (fm))) S_ 6 40 0 in_Md rfl (by decide) rfl fl_Md_143 d_Md_is_85 rfl rfl ?_
                refine wk_isubN (pc := 88) S_ d_Md_is_88 (by omega) ?_
                refine wk_iload_n (pc := 89) S_ 2 d_Md_is_89 rfl rfl ?_
                refine wk_icmp_neN (pc := 90) (tgt := 104) S_ d_Md_is_90 (by decide) (by omega) (by omega) (fun h90 => ?_) (fun h90 => ?_)
                · -- taken
                  refine wk_iconst (pc := 104) (v := (nI (0))) S_ d_Md_is_104 (by decide) ?_
                  exact hQ_ (nI (0)) () d_Md_is_105 rfl rfl (bI_f (by simp [wIs]; omega))
                · -- on
                  refine wk_lload (pc := 93) S_ 3 d_Md_is_93 rfl ?_
                  refine wk_lload_n (pc := 95) S_ 1 d_Md_is_95 rfl rfl ?_
                  refine wk_lcmp (pc := 96) S_ d_Md_is_96 ?_
                  have hb3 := tb_le (s := 0) hc n
                  have hb4 : 256 ^ n ≤ 256 ^ 6 := Nat.pow_le_pow_right (by decide) (by omega)
                  refine wk_cmp_neN (pc := 97) (tgt := 104) S_ d_Md_is_97 (by decide) (by omega) (by omega) (fun h97 => ?_) (fun h97 => ?_)
                  · -- taken
                    refine wk_iconst (pc := 104) (v := (nI (0))) S_ d_Md_is_104 (by decide) ?_
                    exact hQ_ (nI (0)) () d_Md_is_105 rfl rfl (bI_f (by rw [wIs, decide_eq_false_iff_not]; intro z; apply h97; rw [hO (by omega), show k - fm = n by omega]; exact (tb_eq htx hc n).mpr (fun i hi => by rw [Nat.zero_add]; exact z.2 i hi)))
                  · -- on
                    refine wk_iconst (pc := 100) (v := (nI (1))) S_ d_Md_is_100 (by decide) ?_
                    refine wk_goto (pc := 101) (tgt := 105) S_ d_Md_is_101 (by decide) ?_
                    exact hQ_ (nI (1)) () d_Md_is_105 rfl rfl (bI_t (by rw [wIs, decide_eq_true_eq]; refine ⟨by omega, fun i hi => ?_⟩; have h7 := (tb_eq htx hc n).mp (by rw [← h97, hO (by omega), show k - fm = n by omega]) i hi; rwa [Nat.zero_add] at h7))
              · -- on
                refine wk_lload (pc := 57) S_ 3 d_Md_is_57 rfl ?_
                refine wk_ldc2 (pc := 59) (v := (lN (256))) S_ kc_Md_150 d_Md_is_59 ?_
                have ht1 := htx k
                refine wk_lmulN (pc := 62) S_ d_Md_is_62 ?_
                refine wk_aload_n (pc := 63) S_ 0 d_Md_is_63 rfl rfl ?_
                refine wk_get (pc := 64) (v := .ref (m 1)) S_ 6 0 0 in_Md rfl (by decide) rfl fl_Md_7 d_Md_is_64 rfl rfl ?_
                refine wk_iload (pc := 67) S_ 4 d_Md_is_67 rfl ?_
                refine wk_ialdN (pc := 69) (g := tx) S_ 1 0 d_Md_is_69 rfl rfl (by omega) (by decide) ?_
                have ht2 := htx k
                refine wk_i2lN (pc := 70) S_ d_Md_is_70 (by omega) ?_
                refine wk_laddN (pc := 71) S_ d_Md_is_71 ?_
                refine wk_lstore (pc := 72) (lv' := [(4, .long (lN (((o) * (256)) + ((tx) (k))))), (0, .ref (m 0)), (1, .long (lN (tbN c 0 n))), (3, .int (nI (j))), (6, .int (nI (k)))]) S_ d_Md_is_72 (by decide) rfl ?_
                refine wk_iincN (pc := 74) (d := 1) (lv' := [(6, .int (nI (k + 1))), (4, .long (lN (((o) * (256)) + ((tx) (k))))), (0, .ref (m 0)), (1, .long (lN (tbN c 0 n))), (3, .int (nI (j)))]) S_ 4 d_Md_is_74 (by decide) rfl (by decide) rfl ?_
                refine wk_goto (pc := 77) (tgt := 35) S_ d_Md_is_77 (by decide) ?_
                refine wk_lv [2, 3, 4, 1, 0] ?_ (ih35 (k + 1) (((o) * (256)) + ((tx) (k))) (by omega) (by omega) (fun z => by rw [show k + 1 - fm = (k - fm) + 1 by omega, tbN, ← hO z, show fm + (k - fm) = k by omega]) (by have h7 := hO (by omega); have h8 := tb_le (s := fm) htx (k - fm); have h9 := htx k; have h6 : 256 ^ (k - fm) ≤ 256 ^ 5 := Nat.pow_le_pow_right (by decide) (by omega); omega))
                rfl
        refine wk_lv [2, 3, 4, 1, 0] ?_ (hL35 _ (fm) (0) (Nat.lt_succ_self _) (by omega) (fun _ => by rw [Nat.sub_self]; rfl) (Nat.zero_le _))
        rfl
      · -- on
        have hjn : j < n := by rcases Nat.lt_or_ge j n with z | z; exact z; rw [show n - j = 0 by omega] at h9; exact absurd h9 (Nat.lt_irrefl 0)
        refine wk_iincN (pc := 12) (d := 1) (lv' := [(3, .int (nI (j + 1))), (0, .ref (m 0)), (1, .long (lN (tbN c 0 n))), (4, .long (lN (tbN c 0 (n - j))))]) S_ 2 d_Md_is_12 (by decide) rfl (by decide) rfl ?_
        refine wk_lload (pc := 15) S_ 3 d_Md_is_15 rfl ?_
        refine wk_ldc2 (pc := 17) (v := (lN (256))) S_ kc_Md_150 d_Md_is_17 ?_
        refine wk_ldivN (pc := 20) S_ d_Md_is_20 (by omega) (by omega) (by omega) ?_
        refine wk_topl (y := (lN (tbN c 0 (n - (j + 1))))) (congrArg lN (by have h7 := hc (n - (j + 1)); rw [show n - j = (n - (j + 1)) + 1 by omega, tbN, Nat.zero_add]; omega)) ?_
        refine wk_lstore (pc := 21) (lv' := [(4, .long (lN (tbN c 0 (n - (j + 1))))), (3, .int (nI (j + 1))), (0, .ref (m 0)), (1, .long (lN (tbN c 0 n)))]) S_ d_Md_is_21 (by decide) rfl ?_
        refine wk_goto (pc := 23) (tgt := 5) S_ d_Md_is_23 (by decide) ?_
        refine wk_lv [2, 3, 1, 0] ?_ (ih5 (j + 1) (by omega) (by omega))
        rfl
  refine wk_lv [2, 3, 1, 0] ?_ (hL5 _ (0) (Nat.lt_succ_self _) (by omega))
  rfl
end
section
theorem kw_all : ∀ k, k < 9 → ∀ c ∈ kwd k, c < 256 := by decide
theorem kw_lt (k : Nat) : ∀ i, ch (kwd k) i < 256 := by
  intro i
  have h : ∀ c ∈ kwd k, c < 256 := by
    by_cases hk : k < 9
    · exact kw_all k hk
    · have e : kwd k = kwd 8 := by
        rcases k with _ | _ | _ | _ | _ | _ | _ | _ | k
        all_goals first | rfl | omega
      rw [e]
      exact kw_all 8 (by decide)
  unfold ch
  rw [List.getD_eq_getElem?_getD]
  cases e : (kwd k)[i]? with
  | none => decide
  | some c => exact h c (List.mem_of_getElem? e)
abbrev RT : Type := (Nat → Bool) × (Nat → Nat) × (Nat → Nat) × (Nat → Nat) × Nat × (Nat → Nat) × (Nat → Nat) × (Nat → Nat) × (Nat → Nat) × (Nat → Nat) × (Nat → Nat)
/-- what a sentence tells: apart, points, ranks, codes, free, counts of marks, their grams, their sizes, counts of notes, notes, leads -/
def tellS (x a b c : Nat) (q : RT) : RT :=
  match q with
  | (ap, pt, rk, cd, fr, mc, mg, mz, nc, nt, ld) =>
    match x with
    | 0 => (va_up (va_up ap (9 * a + b) true) (9 * b + a) true, pt, rk, cd, fr, mc, mg, mz, nc, nt, ld)
    | 1 => (ap, va_up pt a b, rk, cd, fr, mc, mg, mz, nc, nt, ld)
    | 2 => (ap, pt, va_up rk a b, cd, fr, mc, mg, mz, nc, nt, ld)
    | 3 => (ap, pt, rk, cd, a, mc, mg, mz, nc, nt, ld)
    | 4 => (ap, pt, rk, cd, fr, va_up mc a (mc a + (if mpS mg a b (mc a) 0 = mc a then 1 else 0)), va_up mg (6 * a + mpS mg a b (mc a) 0) b, va_up mz (6 * a + mpS mg a b (mc a) 0) c, nc, nt, ld)
    | 5 => (ap, pt, rk, va_up cd a b, fr, mc, mg, mz, nc, nt, ld)
    | 6 => (ap, pt, rk, cd, fr, mc, mg, mz, va_up nc a (nc a + 1), va_up nt (8 * a + nc a) b, ld)
    | 7 => (ap, pt, rk, cd, fr, mc, mg, mz, nc, nt, va_up ld (4 * a + b) (c + 1))
    | _ => (ap, pt, rk, cd, fr, mc, mg, mz, nc, nt, va_up ld (4 * a + b) (c + 11))
theorem tellS4 (a b c : Nat) (ap : Nat → Bool) (pt rk cd : Nat → Nat) (fr : Nat) (mc mg mz nc nt ld : Nat → Nat) : tellS 4 a b c (ap, pt, rk, cd, fr, mc, mg, mz, nc, nt, ld) = (ap, pt, rk, cd, fr, va_up mc a (mc a + (if mpS mg a b (mc a) 0 = mc a then 1 else 0)), va_up mg (6 * a + mpS mg a b (mc a) 0) b, va_up mz (6 * a + mpS mg a b (mc a) 0) c, nc, nt, ld) := rfl
theorem d_Md_numberAt_0 : decode b_Md_numberAt 0 = .ok (.aload_n 0, 1) := by decide +kernel
theorem d_Md_numberAt_1 : decode b_Md_numberAt 1 = .ok (.getfield 140, 3) := by decide +kernel
theorem d_Md_numberAt_4 : decode b_Md_numberAt 4 = .ok (.aload_n 0, 1) := by decide +kernel
theorem d_Md_numberAt_5 : decode b_Md_numberAt 5 = .ok (.getfield 143, 3) := by decide +kernel
theorem d_Md_numberAt_8 : decode b_Md_numberAt 8 = .ok (.isub, 1) := by decide +kernel
theorem d_Md_numberAt_9 : decode b_Md_numberAt 9 = .ok (.iconst 1, 1) := by decide +kernel
theorem d_Md_numberAt_10 : decode b_Md_numberAt 10 = .ok (.if_icmp .lt 21, 3) := by decide +kernel
theorem d_Md_numberAt_13 : decode b_Md_numberAt 13 = .ok (.aload_n 0, 1) := by decide +kernel
theorem d_Md_numberAt_14 : decode b_Md_numberAt 14 = .ok (.getfield 140, 3) := by decide +kernel
theorem d_Md_numberAt_17 : decode b_Md_numberAt 17 = .ok (.aload_n 0, 1) := by decide +kernel
theorem d_Md_numberAt_18 : decode b_Md_numberAt 18 = .ok (.getfield 143, 3) := by decide +kernel
theorem d_Md_numberAt_21 : decode b_Md_numberAt 21 = .ok (.isub, 1) := by decide +kernel
theorem d_Md_numberAt_22 : decode b_Md_numberAt 22 = .ok (.bipush 6, 2) := by decide +kernel
theorem d_Md_numberAt_24 : decode b_Md_numberAt 24 = .ok (.if_icmp .gt 7, 3) := by decide +kernel
theorem d_Md_numberAt_27 : decode b_Md_numberAt 27 = .ok (.iconst 0, 1) := by decide +kernel
theorem d_Md_numberAt_28 : decode b_Md_numberAt 28 = .ok (.goto 4, 3) := by decide +kernel
theorem d_Md_numberAt_31 : decode b_Md_numberAt 31 = .ok (.iconst (-1), 1) := by decide +kernel
theorem d_Md_numberAt_32 : decode b_Md_numberAt 32 = .ok (.istore_n 1, 1) := by decide +kernel
theorem d_Md_numberAt_33 : decode b_Md_numberAt 33 = .ok (.aload_n 0, 1) := by decide +kernel
theorem d_Md_numberAt_34 : decode b_Md_numberAt 34 = .ok (.getfield 143, 3) := by decide +kernel
theorem d_Md_numberAt_37 : decode b_Md_numberAt 37 = .ok (.istore_n 2, 1) := by decide +kernel
theorem d_Md_numberAt_38 : decode b_Md_numberAt 38 = .ok (.iload_n 2, 1) := by decide +kernel
theorem d_Md_numberAt_39 : decode b_Md_numberAt 39 = .ok (.aload_n 0, 1) := by decide +kernel
theorem d_Md_numberAt_40 : decode b_Md_numberAt 40 = .ok (.getfield 140, 3) := by decide +kernel
theorem d_Md_numberAt_43 : decode b_Md_numberAt 43 = .ok (.if_icmp .ge 54, 3) := by decide +kernel
theorem d_Md_numberAt_46 : decode b_Md_numberAt 46 = .ok (.iload_n 1, 1) := by decide +kernel
theorem d_Md_numberAt_47 : decode b_Md_numberAt 47 = .ok (.ifCond .lt 50, 3) := by decide +kernel
theorem d_Md_numberAt_50 : decode b_Md_numberAt 50 = .ok (.aload_n 0, 1) := by decide +kernel
theorem d_Md_numberAt_51 : decode b_Md_numberAt 51 = .ok (.getfield 7, 3) := by decide +kernel
theorem d_Md_numberAt_54 : decode b_Md_numberAt 54 = .ok (.iload_n 2, 1) := by decide +kernel
theorem d_Md_numberAt_55 : decode b_Md_numberAt 55 = .ok (.iaload, 1) := by decide +kernel
theorem d_Md_numberAt_56 : decode b_Md_numberAt 56 = .ok (.bipush 48, 2) := by decide +kernel
theorem d_Md_numberAt_58 : decode b_Md_numberAt 58 = .ok (.if_icmp .lt 31, 3) := by decide +kernel
theorem d_Md_numberAt_61 : decode b_Md_numberAt 61 = .ok (.aload_n 0, 1) := by decide +kernel
theorem d_Md_numberAt_62 : decode b_Md_numberAt 62 = .ok (.getfield 7, 3) := by decide +kernel
theorem d_Md_numberAt_65 : decode b_Md_numberAt 65 = .ok (.iload_n 2, 1) := by decide +kernel
theorem d_Md_numberAt_66 : decode b_Md_numberAt 66 = .ok (.iaload, 1) := by decide +kernel
theorem d_Md_numberAt_67 : decode b_Md_numberAt 67 = .ok (.bipush 57, 2) := by decide +kernel
theorem d_Md_numberAt_69 : decode b_Md_numberAt 69 = .ok (.if_icmp .gt 20, 3) := by decide +kernel
theorem d_Md_numberAt_72 : decode b_Md_numberAt 72 = .ok (.bipush 10, 2) := by decide +kernel
theorem d_Md_numberAt_74 : decode b_Md_numberAt 74 = .ok (.iload_n 1, 1) := by decide +kernel
theorem d_Md_numberAt_75 : decode b_Md_numberAt 75 = .ok (.imul, 1) := by decide +kernel
theorem d_Md_numberAt_76 : decode b_Md_numberAt 76 = .ok (.aload_n 0, 1) := by decide +kernel
theorem d_Md_numberAt_77 : decode b_Md_numberAt 77 = .ok (.getfield 7, 3) := by decide +kernel
theorem d_Md_numberAt_80 : decode b_Md_numberAt 80 = .ok (.iload_n 2, 1) := by decide +kernel
theorem d_Md_numberAt_81 : decode b_Md_numberAt 81 = .ok (.iaload, 1) := by decide +kernel
theorem d_Md_numberAt_82 : decode b_Md_numberAt 82 = .ok (.iadd, 1) := by decide +kernel
theorem d_Md_numberAt_83 : decode b_Md_numberAt 83 = .ok (.bipush 48, 2) := by decide +kernel
theorem d_Md_numberAt_85 : decode b_Md_numberAt 85 = .ok (.isub, 1) := by decide +kernel
theorem d_Md_numberAt_86 : decode b_Md_numberAt 86 = .ok (.goto 4, 3) := by decide +kernel
theorem d_Md_numberAt_89 : decode b_Md_numberAt 89 = .ok (.iconst (-1), 1) := by decide +kernel
theorem d_Md_numberAt_90 : decode b_Md_numberAt 90 = .ok (.istore_n 1, 1) := by decide +kernel
theorem d_Md_numberAt_91 : decode b_Md_numberAt 91 = .ok (.iinc 2 1, 3) := by decide +kernel
theorem d_Md_numberAt_94 : decode b_Md_numberAt 94 = .ok (.goto (-56), 3) := by decide +kernel
theorem d_Md_numberAt_97 : decode b_Md_numberAt 97 = .ok (.iload_n 1, 1) := by decide +kernel
theorem d_Md_numberAt_98 : decode b_Md_numberAt 98 = .ok (.ireturn, 1) := by decide +kernel
theorem kc_Md_152 : Cond.constantLong R_Md 152 (lN 418497262196) ∈ lw_gd := (gd _ (tb3 _ (List.mem_of_getElem? (i := 67) rfl)) rfl)
theorem mv_Md_154 : wk_V R_Md 154 R_Md y_Md_is b_Md_is 7 (some .boolean) 1 := ⟨(gd _ (tb3 _ (List.mem_of_getElem? (i := 71) rfl)) rfl), (gd _ (tb0 _ (List.mem_of_getElem? (i := 8) rfl)) rfl), (gd _ (tb3 _ (List.mem_of_getElem? (i := 68) rfl)) rfl), (by decide +kernel), (gd _ (tb3 _ (List.mem_of_getElem? (i := 70) rfl)) rfl), (gd _ (List.mem_append_left _ (by decide +kernel)) rfl)⟩
theorem kc_Md_158 : Cond.constantLong R_Md 158 (lN 123623812527219) ∈ lw_gd := (gd _ (tb3 _ (List.mem_of_getElem? (i := 73) rfl)) rfl)
theorem kc_Md_160 : Cond.constantLong R_Md 160 (lN 1918987883) ∈ lw_gd := (gd _ (tb3 _ (List.mem_of_getElem? (i := 74) rfl)) rfl)
theorem kc_Md_162 : Cond.constantLong R_Md 162 (lN 1718773093) ∈ lw_gd := (gd _ (tb3 _ (List.mem_of_getElem? (i := 75) rfl)) rfl)
theorem kc_Md_164 : Cond.constantLong R_Md 164 (lN 1835102827) ∈ lw_gd := (gd _ (tb3 _ (List.mem_of_getElem? (i := 76) rfl)) rfl)
theorem kc_Md_166 : Cond.constantLong R_Md 166 (lN 128047712724332) ∈ lw_gd := (gd _ (tb3 _ (List.mem_of_getElem? (i := 77) rfl)) rfl)
theorem kc_Md_168 : Cond.constantLong R_Md 168 (lN 1852798053) ∈ lw_gd := (gd _ (tb3 _ (List.mem_of_getElem? (i := 78) rfl)) rfl)
theorem kc_Md_170 : Cond.constantLong R_Md 170 (lN 1937007984) ∈ lw_gd := (gd _ (tb3 _ (List.mem_of_getElem? (i := 79) rfl)) rfl)
theorem kc_Md_172 : Cond.constantLong R_Md 172 (lN 427020088179) ∈ lw_gd := (gd _ (tb3 _ (List.mem_of_getElem? (i := 80) rfl)) rfl)
theorem d_Md_sentence_0 : decode b_Md_sentence 0 = .ok (.aload_n 0, 1) := by decide +kernel
theorem d_Md_sentence_1 : decode b_Md_sentence 1 = .ok (.ldc2_w 152, 3) := by decide +kernel
theorem d_Md_sentence_4 : decode b_Md_sentence 4 = .ok (.invokevirtual 154, 3) := by decide +kernel
theorem d_Md_sentence_7 : decode b_Md_sentence 7 = .ok (.ifCond .eq 5, 3) := by decide +kernel
theorem d_Md_sentence_10 : decode b_Md_sentence 10 = .ok (.iconst 0, 1) := by decide +kernel
theorem d_Md_sentence_11 : decode b_Md_sentence 11 = .ok (.ireturn, 1) := by decide +kernel
theorem d_Md_sentence_12 : decode b_Md_sentence 12 = .ok (.aload_n 0, 1) := by decide +kernel
theorem d_Md_sentence_13 : decode b_Md_sentence 13 = .ok (.ldc2_w 158, 3) := by decide +kernel
theorem d_Md_sentence_16 : decode b_Md_sentence 16 = .ok (.invokevirtual 154, 3) := by decide +kernel
theorem d_Md_sentence_19 : decode b_Md_sentence 19 = .ok (.ifCond .eq 5, 3) := by decide +kernel
theorem d_Md_sentence_22 : decode b_Md_sentence 22 = .ok (.iconst 1, 1) := by decide +kernel
theorem d_Md_sentence_23 : decode b_Md_sentence 23 = .ok (.ireturn, 1) := by decide +kernel
theorem d_Md_sentence_24 : decode b_Md_sentence 24 = .ok (.aload_n 0, 1) := by decide +kernel
theorem d_Md_sentence_25 : decode b_Md_sentence 25 = .ok (.ldc2_w 160, 3) := by decide +kernel
theorem d_Md_sentence_28 : decode b_Md_sentence 28 = .ok (.invokevirtual 154, 3) := by decide +kernel
theorem d_Md_sentence_31 : decode b_Md_sentence 31 = .ok (.ifCond .eq 5, 3) := by decide +kernel
theorem d_Md_sentence_34 : decode b_Md_sentence 34 = .ok (.iconst 2, 1) := by decide +kernel
theorem d_Md_sentence_35 : decode b_Md_sentence 35 = .ok (.ireturn, 1) := by decide +kernel
theorem d_Md_sentence_36 : decode b_Md_sentence 36 = .ok (.aload_n 0, 1) := by decide +kernel
theorem d_Md_sentence_37 : decode b_Md_sentence 37 = .ok (.ldc2_w 162, 3) := by decide +kernel
theorem d_Md_sentence_40 : decode b_Md_sentence 40 = .ok (.invokevirtual 154, 3) := by decide +kernel
theorem d_Md_sentence_43 : decode b_Md_sentence 43 = .ok (.ifCond .eq 5, 3) := by decide +kernel
theorem d_Md_sentence_46 : decode b_Md_sentence 46 = .ok (.iconst 3, 1) := by decide +kernel
theorem d_Md_sentence_47 : decode b_Md_sentence 47 = .ok (.ireturn, 1) := by decide +kernel
theorem d_Md_sentence_48 : decode b_Md_sentence 48 = .ok (.aload_n 0, 1) := by decide +kernel
theorem d_Md_sentence_49 : decode b_Md_sentence 49 = .ok (.ldc2_w 164, 3) := by decide +kernel
theorem d_Md_sentence_52 : decode b_Md_sentence 52 = .ok (.invokevirtual 154, 3) := by decide +kernel
theorem d_Md_sentence_55 : decode b_Md_sentence 55 = .ok (.ifCond .eq 5, 3) := by decide +kernel
theorem d_Md_sentence_58 : decode b_Md_sentence 58 = .ok (.iconst 4, 1) := by decide +kernel
theorem d_Md_sentence_59 : decode b_Md_sentence 59 = .ok (.ireturn, 1) := by decide +kernel
theorem d_Md_sentence_60 : decode b_Md_sentence 60 = .ok (.aload_n 0, 1) := by decide +kernel
theorem d_Md_sentence_61 : decode b_Md_sentence 61 = .ok (.ldc2_w 166, 3) := by decide +kernel
theorem d_Md_sentence_64 : decode b_Md_sentence 64 = .ok (.invokevirtual 154, 3) := by decide +kernel
theorem d_Md_sentence_67 : decode b_Md_sentence 67 = .ok (.ifCond .eq 5, 3) := by decide +kernel
theorem d_Md_sentence_70 : decode b_Md_sentence 70 = .ok (.iconst 5, 1) := by decide +kernel
theorem d_Md_sentence_71 : decode b_Md_sentence 71 = .ok (.ireturn, 1) := by decide +kernel
theorem d_Md_sentence_72 : decode b_Md_sentence 72 = .ok (.aload_n 0, 1) := by decide +kernel
theorem d_Md_sentence_73 : decode b_Md_sentence 73 = .ok (.ldc2_w 168, 3) := by decide +kernel
theorem d_Md_sentence_76 : decode b_Md_sentence 76 = .ok (.invokevirtual 154, 3) := by decide +kernel
theorem d_Md_sentence_79 : decode b_Md_sentence 79 = .ok (.ifCond .eq 6, 3) := by decide +kernel
theorem d_Md_sentence_82 : decode b_Md_sentence 82 = .ok (.bipush 6, 2) := by decide +kernel
theorem d_Md_sentence_84 : decode b_Md_sentence 84 = .ok (.ireturn, 1) := by decide +kernel
theorem d_Md_sentence_85 : decode b_Md_sentence 85 = .ok (.aload_n 0, 1) := by decide +kernel
theorem d_Md_sentence_86 : decode b_Md_sentence 86 = .ok (.ldc2_w 170, 3) := by decide +kernel
theorem d_Md_sentence_89 : decode b_Md_sentence 89 = .ok (.invokevirtual 154, 3) := by decide +kernel
theorem d_Md_sentence_92 : decode b_Md_sentence 92 = .ok (.ifCond .eq 6, 3) := by decide +kernel
theorem d_Md_sentence_95 : decode b_Md_sentence 95 = .ok (.bipush 7, 2) := by decide +kernel
theorem d_Md_sentence_97 : decode b_Md_sentence 97 = .ok (.ireturn, 1) := by decide +kernel
theorem d_Md_sentence_98 : decode b_Md_sentence 98 = .ok (.aload_n 0, 1) := by decide +kernel
theorem d_Md_sentence_99 : decode b_Md_sentence 99 = .ok (.ldc2_w 172, 3) := by decide +kernel
theorem d_Md_sentence_102 : decode b_Md_sentence 102 = .ok (.invokevirtual 154, 3) := by decide +kernel
theorem d_Md_sentence_105 : decode b_Md_sentence 105 = .ok (.ifCond .eq 8, 3) := by decide +kernel
theorem d_Md_sentence_108 : decode b_Md_sentence 108 = .ok (.bipush 8, 2) := by decide +kernel
theorem d_Md_sentence_110 : decode b_Md_sentence 110 = .ok (.goto 4, 3) := by decide +kernel
theorem d_Md_sentence_113 : decode b_Md_sentence 113 = .ok (.iconst (-1), 1) := by decide +kernel
theorem d_Md_sentence_114 : decode b_Md_sentence 114 = .ok (.ireturn, 1) := by decide +kernel
theorem d_Md_parts_0 : decode b_Md_parts 0 = .ok (.iload_n 0, 1) := by decide +kernel
theorem d_Md_parts_1 : decode b_Md_parts 1 = .ok (.iconst 3, 1) := by decide +kernel
theorem d_Md_parts_2 : decode b_Md_parts 2 = .ok (.if_icmp .ne 7, 3) := by decide +kernel
theorem d_Md_parts_5 : decode b_Md_parts 5 = .ok (.iconst 1, 1) := by decide +kernel
theorem d_Md_parts_6 : decode b_Md_parts 6 = .ok (.goto 19, 3) := by decide +kernel
theorem d_Md_parts_9 : decode b_Md_parts 9 = .ok (.iload_n 0, 1) := by decide +kernel
theorem d_Md_parts_10 : decode b_Md_parts 10 = .ok (.iconst 4, 1) := by decide +kernel
theorem d_Md_parts_11 : decode b_Md_parts 11 = .ok (.if_icmp .eq 9, 3) := by decide +kernel
theorem d_Md_parts_14 : decode b_Md_parts 14 = .ok (.iload_n 0, 1) := by decide +kernel
theorem d_Md_parts_15 : decode b_Md_parts 15 = .ok (.bipush 6, 2) := by decide +kernel
theorem d_Md_parts_17 : decode b_Md_parts 17 = .ok (.if_icmp .le 7, 3) := by decide +kernel
theorem d_Md_parts_20 : decode b_Md_parts 20 = .ok (.iconst 3, 1) := by decide +kernel
theorem d_Md_parts_21 : decode b_Md_parts 21 = .ok (.goto 4, 3) := by decide +kernel
theorem d_Md_parts_24 : decode b_Md_parts 24 = .ok (.iconst 2, 1) := by decide +kernel
theorem d_Md_parts_25 : decode b_Md_parts 25 = .ok (.ireturn, 1) := by decide +kernel
theorem d_Md_least_0 : decode b_Md_least 0 = .ok (.iload_n 0, 1) := by decide +kernel
theorem d_Md_least_1 : decode b_Md_least 1 = .ok (.iconst 4, 1) := by decide +kernel
theorem d_Md_least_2 : decode b_Md_least 2 = .ok (.if_icmp .ne 8, 3) := by decide +kernel
theorem d_Md_least_5 : decode b_Md_least 5 = .ok (.iload_n 1, 1) := by decide +kernel
theorem d_Md_least_6 : decode b_Md_least 6 = .ok (.iconst 2, 1) := by decide +kernel
theorem d_Md_least_7 : decode b_Md_least 7 = .ok (.if_icmp .eq 13, 3) := by decide +kernel
theorem d_Md_least_10 : decode b_Md_least 10 = .ok (.iload_n 0, 1) := by decide +kernel
theorem d_Md_least_11 : decode b_Md_least 11 = .ok (.iconst 5, 1) := by decide +kernel
theorem d_Md_least_12 : decode b_Md_least 12 = .ok (.if_icmp .ne 12, 3) := by decide +kernel
theorem d_Md_least_15 : decode b_Md_least 15 = .ok (.iload_n 1, 1) := by decide +kernel
theorem d_Md_least_16 : decode b_Md_least 16 = .ok (.iconst 1, 1) := by decide +kernel
theorem d_Md_least_17 : decode b_Md_least 17 = .ok (.if_icmp .ne 7, 3) := by decide +kernel
theorem d_Md_least_20 : decode b_Md_least 20 = .ok (.iconst 1, 1) := by decide +kernel
theorem d_Md_least_21 : decode b_Md_least 21 = .ok (.goto 4, 3) := by decide +kernel
theorem d_Md_least_24 : decode b_Md_least 24 = .ok (.iconst 0, 1) := by decide +kernel
theorem d_Md_least_25 : decode b_Md_least 25 = .ok (.ireturn, 1) := by decide +kernel
theorem kc_Md_174 : Cond.constant R_Md 174 (nI 999999) ∈ lw_gd := (gd _ (tb3 _ (List.mem_of_getElem? (i := 98) rfl)) rfl)
theorem d_Md_greatest_0 : decode b_Md_greatest 0 = .ok (.iload_n 0, 1) := by decide +kernel
theorem d_Md_greatest_1 : decode b_Md_greatest 1 = .ok (.tableswitch 118 0 6 #[43, 46, 59, 71, 74, 96, 107], 43) := by decide +kernel
theorem d_Md_greatest_44 : decode b_Md_greatest 44 = .ok (.bipush 8, 2) := by decide +kernel
theorem d_Md_greatest_46 : decode b_Md_greatest 46 = .ok (.ireturn, 1) := by decide +kernel
theorem d_Md_greatest_47 : decode b_Md_greatest 47 = .ok (.iload_n 1, 1) := by decide +kernel
theorem d_Md_greatest_48 : decode b_Md_greatest 48 = .ok (.ifCond .ne 8, 3) := by decide +kernel
theorem d_Md_greatest_51 : decode b_Md_greatest 51 = .ok (.bipush 8, 2) := by decide +kernel
theorem d_Md_greatest_53 : decode b_Md_greatest 53 = .ok (.goto 6, 3) := by decide +kernel
theorem d_Md_greatest_56 : decode b_Md_greatest 56 = .ok (.sipush 1000, 3) := by decide +kernel
theorem d_Md_greatest_59 : decode b_Md_greatest 59 = .ok (.ireturn, 1) := by decide +kernel
theorem d_Md_greatest_60 : decode b_Md_greatest 60 = .ok (.iload_n 1, 1) := by decide +kernel
theorem d_Md_greatest_61 : decode b_Md_greatest 61 = .ok (.ifCond .ne 8, 3) := by decide +kernel
theorem d_Md_greatest_64 : decode b_Md_greatest 64 = .ok (.bipush 8, 2) := by decide +kernel
theorem d_Md_greatest_66 : decode b_Md_greatest 66 = .ok (.goto 5, 3) := by decide +kernel
theorem d_Md_greatest_69 : decode b_Md_greatest 69 = .ok (.bipush 99, 2) := by decide +kernel
theorem d_Md_greatest_71 : decode b_Md_greatest 71 = .ok (.ireturn, 1) := by decide +kernel
theorem d_Md_greatest_72 : decode b_Md_greatest 72 = .ok (.ldc 174, 2) := by decide +kernel
theorem d_Md_greatest_74 : decode b_Md_greatest 74 = .ok (.ireturn, 1) := by decide +kernel
theorem d_Md_greatest_75 : decode b_Md_greatest 75 = .ok (.iload_n 1, 1) := by decide +kernel
theorem d_Md_greatest_76 : decode b_Md_greatest 76 = .ok (.ifCond .ne 8, 3) := by decide +kernel
theorem d_Md_greatest_79 : decode b_Md_greatest 79 = .ok (.bipush 8, 2) := by decide +kernel
theorem d_Md_greatest_81 : decode b_Md_greatest 81 = .ok (.goto 15, 3) := by decide +kernel
theorem d_Md_greatest_84 : decode b_Md_greatest 84 = .ok (.iload_n 1, 1) := by decide +kernel
theorem d_Md_greatest_85 : decode b_Md_greatest 85 = .ok (.iconst 1, 1) := by decide +kernel
theorem d_Md_greatest_86 : decode b_Md_greatest 86 = .ok (.if_icmp .ne 8, 3) := by decide +kernel
theorem d_Md_greatest_89 : decode b_Md_greatest 89 = .ok (.ldc 174, 2) := by decide +kernel
theorem d_Md_greatest_91 : decode b_Md_greatest 91 = .ok (.goto 5, 3) := by decide +kernel
theorem d_Md_greatest_94 : decode b_Md_greatest 94 = .ok (.bipush 9, 2) := by decide +kernel
theorem d_Md_greatest_96 : decode b_Md_greatest 96 = .ok (.ireturn, 1) := by decide +kernel
theorem d_Md_greatest_97 : decode b_Md_greatest 97 = .ok (.iload_n 1, 1) := by decide +kernel
theorem d_Md_greatest_98 : decode b_Md_greatest 98 = .ok (.ifCond .ne 8, 3) := by decide +kernel
theorem d_Md_greatest_101 : decode b_Md_greatest 101 = .ok (.bipush 8, 2) := by decide +kernel
theorem d_Md_greatest_103 : decode b_Md_greatest 103 = .ok (.goto 4, 3) := by decide +kernel
theorem d_Md_greatest_106 : decode b_Md_greatest 106 = .ok (.iconst 5, 1) := by decide +kernel
theorem d_Md_greatest_107 : decode b_Md_greatest 107 = .ok (.ireturn, 1) := by decide +kernel
theorem d_Md_greatest_108 : decode b_Md_greatest 108 = .ok (.iload_n 1, 1) := by decide +kernel
theorem d_Md_greatest_109 : decode b_Md_greatest 109 = .ok (.ifCond .ne 7, 3) := by decide +kernel
theorem d_Md_greatest_112 : decode b_Md_greatest 112 = .ok (.iconst 3, 1) := by decide +kernel
theorem d_Md_greatest_113 : decode b_Md_greatest 113 = .ok (.goto 5, 3) := by decide +kernel
theorem d_Md_greatest_116 : decode b_Md_greatest 116 = .ok (.ldc 174, 2) := by decide +kernel
theorem d_Md_greatest_118 : decode b_Md_greatest 118 = .ok (.ireturn, 1) := by decide +kernel
theorem d_Md_greatest_119 : decode b_Md_greatest 119 = .ok (.iload_n 1, 1) := by decide +kernel
theorem d_Md_greatest_120 : decode b_Md_greatest 120 = .ok (.ifCond .ne 8, 3) := by decide +kernel
theorem d_Md_greatest_123 : decode b_Md_greatest 123 = .ok (.bipush 9, 2) := by decide +kernel
theorem d_Md_greatest_125 : decode b_Md_greatest 125 = .ok (.goto 25, 3) := by decide +kernel
theorem d_Md_greatest_128 : decode b_Md_greatest 128 = .ok (.iload_n 1, 1) := by decide +kernel
theorem d_Md_greatest_129 : decode b_Md_greatest 129 = .ok (.iconst 1, 1) := by decide +kernel
theorem d_Md_greatest_130 : decode b_Md_greatest 130 = .ok (.if_icmp .ne 7, 3) := by decide +kernel
theorem d_Md_greatest_133 : decode b_Md_greatest 133 = .ok (.iconst 3, 1) := by decide +kernel
theorem d_Md_greatest_134 : decode b_Md_greatest 134 = .ok (.goto 16, 3) := by decide +kernel
theorem d_Md_greatest_137 : decode b_Md_greatest 137 = .ok (.iload_n 0, 1) := by decide +kernel
theorem d_Md_greatest_138 : decode b_Md_greatest 138 = .ok (.bipush 7, 2) := by decide +kernel
theorem d_Md_greatest_140 : decode b_Md_greatest 140 = .ok (.if_icmp .ne 8, 3) := by decide +kernel
theorem d_Md_greatest_143 : decode b_Md_greatest 143 = .ok (.bipush 9, 2) := by decide +kernel
theorem d_Md_greatest_145 : decode b_Md_greatest 145 = .ok (.goto 5, 3) := by decide +kernel
theorem d_Md_greatest_148 : decode b_Md_greatest 148 = .ok (.bipush 8, 2) := by decide +kernel
theorem d_Md_greatest_150 : decode b_Md_greatest 150 = .ok (.ireturn, 1) := by decide +kernel
theorem d_Md_markOf_0 : decode b_Md_markOf 0 = .ok (.iconst 0, 1) := by decide +kernel
theorem d_Md_markOf_1 : decode b_Md_markOf 1 = .ok (.istore_n 3, 1) := by decide +kernel
theorem d_Md_markOf_2 : decode b_Md_markOf 2 = .ok (.iload_n 3, 1) := by decide +kernel
theorem d_Md_markOf_3 : decode b_Md_markOf 3 = .ok (.aload_n 0, 1) := by decide +kernel
theorem d_Md_markOf_4 : decode b_Md_markOf 4 = .ok (.getfield 56, 3) := by decide +kernel
theorem d_Md_markOf_7 : decode b_Md_markOf 7 = .ok (.iload_n 1, 1) := by decide +kernel
theorem d_Md_markOf_8 : decode b_Md_markOf 8 = .ok (.iaload, 1) := by decide +kernel
theorem d_Md_markOf_9 : decode b_Md_markOf 9 = .ok (.if_icmp .ge 24, 3) := by decide +kernel
theorem d_Md_markOf_12 : decode b_Md_markOf 12 = .ok (.aload_n 0, 1) := by decide +kernel
theorem d_Md_markOf_13 : decode b_Md_markOf 13 = .ok (.getfield 59, 3) := by decide +kernel
theorem d_Md_markOf_16 : decode b_Md_markOf 16 = .ok (.bipush 6, 2) := by decide +kernel
theorem d_Md_markOf_18 : decode b_Md_markOf 18 = .ok (.iload_n 1, 1) := by decide +kernel
theorem d_Md_markOf_19 : decode b_Md_markOf 19 = .ok (.imul, 1) := by decide +kernel
theorem d_Md_markOf_20 : decode b_Md_markOf 20 = .ok (.iload_n 3, 1) := by decide +kernel
theorem d_Md_markOf_21 : decode b_Md_markOf 21 = .ok (.iadd, 1) := by decide +kernel
theorem d_Md_markOf_22 : decode b_Md_markOf 22 = .ok (.iaload, 1) := by decide +kernel
theorem d_Md_markOf_23 : decode b_Md_markOf 23 = .ok (.iload_n 2, 1) := by decide +kernel
theorem d_Md_markOf_24 : decode b_Md_markOf 24 = .ok (.if_icmp .eq 9, 3) := by decide +kernel
theorem d_Md_markOf_27 : decode b_Md_markOf 27 = .ok (.iinc 3 1, 3) := by decide +kernel
theorem d_Md_markOf_30 : decode b_Md_markOf 30 = .ok (.goto (-28), 3) := by decide +kernel
theorem d_Md_markOf_33 : decode b_Md_markOf 33 = .ok (.iload_n 3, 1) := by decide +kernel
theorem d_Md_markOf_34 : decode b_Md_markOf 34 = .ok (.ireturn, 1) := by decide +kernel
theorem d_Md_hasRoom_0 : decode b_Md_hasRoom 0 = .ok (.iconst 0, 1) := by decide +kernel
theorem d_Md_hasRoom_1 : decode b_Md_hasRoom 1 = .ok (.istore_n 1, 1) := by decide +kernel
theorem d_Md_hasRoom_2 : decode b_Md_hasRoom 2 = .ok (.iconst 0, 1) := by decide +kernel
theorem d_Md_hasRoom_3 : decode b_Md_hasRoom 3 = .ok (.istore_n 2, 1) := by decide +kernel
theorem d_Md_hasRoom_4 : decode b_Md_hasRoom 4 = .ok (.iload_n 2, 1) := by decide +kernel
theorem d_Md_hasRoom_5 : decode b_Md_hasRoom 5 = .ok (.iconst 4, 1) := by decide +kernel
theorem d_Md_hasRoom_6 : decode b_Md_hasRoom 6 = .ok (.if_icmp .ge 30, 3) := by decide +kernel
theorem d_Md_hasRoom_9 : decode b_Md_hasRoom 9 = .ok (.iload_n 1, 1) := by decide +kernel
theorem d_Md_hasRoom_10 : decode b_Md_hasRoom 10 = .ok (.ifCond .ne 14, 3) := by decide +kernel
theorem d_Md_hasRoom_13 : decode b_Md_hasRoom 13 = .ok (.aload_n 0, 1) := by decide +kernel
theorem d_Md_hasRoom_14 : decode b_Md_hasRoom 14 = .ok (.getfield 65, 3) := by decide +kernel
theorem d_Md_hasRoom_17 : decode b_Md_hasRoom 17 = .ok (.iload_n 2, 1) := by decide +kernel
theorem d_Md_hasRoom_18 : decode b_Md_hasRoom 18 = .ok (.iaload, 1) := by decide +kernel
theorem d_Md_hasRoom_19 : decode b_Md_hasRoom 19 = .ok (.bipush 8, 2) := by decide +kernel
theorem d_Md_hasRoom_21 : decode b_Md_hasRoom 21 = .ok (.if_icmp .ge 7, 3) := by decide +kernel
theorem d_Md_hasRoom_24 : decode b_Md_hasRoom 24 = .ok (.iconst 1, 1) := by decide +kernel
theorem d_Md_hasRoom_25 : decode b_Md_hasRoom 25 = .ok (.goto 4, 3) := by decide +kernel
theorem d_Md_hasRoom_28 : decode b_Md_hasRoom 28 = .ok (.iconst 0, 1) := by decide +kernel
theorem d_Md_hasRoom_29 : decode b_Md_hasRoom 29 = .ok (.istore_n 1, 1) := by decide +kernel
theorem d_Md_hasRoom_30 : decode b_Md_hasRoom 30 = .ok (.iinc 2 1, 3) := by decide +kernel
theorem d_Md_hasRoom_33 : decode b_Md_hasRoom 33 = .ok (.goto (-29), 3) := by decide +kernel
theorem d_Md_hasRoom_36 : decode b_Md_hasRoom 36 = .ok (.iload_n 1, 1) := by decide +kernel
theorem d_Md_hasRoom_37 : decode b_Md_hasRoom 37 = .ok (.ireturn, 1) := by decide +kernel
theorem mv_Md_175 : wk_V R_Md 175 R_Md y_Md_markOf b_Md_markOf 4 (some .int) 2 := ⟨(gd _ (tb3 _ (List.mem_of_getElem? (i := 102) rfl)) rfl), (gd _ (tb0 _ (List.mem_of_getElem? (i := 8) rfl)) rfl), (gd _ (tb3 _ (List.mem_of_getElem? (i := 99) rfl)) rfl), (by decide +kernel), (gd _ (tb3 _ (List.mem_of_getElem? (i := 101) rfl)) rfl), (gd _ (List.mem_append_left _ (by decide +kernel)) rfl)⟩
theorem d_Md_tell_0 : decode b_Md_tell 0 = .ok (.iload_n 1, 1) := by decide +kernel
theorem d_Md_tell_1 : decode b_Md_tell 1 = .ok (.ifCond .ne 30, 3) := by decide +kernel
theorem d_Md_tell_4 : decode b_Md_tell 4 = .ok (.aload_n 0, 1) := by decide +kernel
theorem d_Md_tell_5 : decode b_Md_tell 5 = .ok (.getfield 44, 3) := by decide +kernel
theorem d_Md_tell_8 : decode b_Md_tell 8 = .ok (.bipush 9, 2) := by decide +kernel
theorem d_Md_tell_10 : decode b_Md_tell 10 = .ok (.iload_n 2, 1) := by decide +kernel
theorem d_Md_tell_11 : decode b_Md_tell 11 = .ok (.imul, 1) := by decide +kernel
theorem d_Md_tell_12 : decode b_Md_tell 12 = .ok (.iload_n 3, 1) := by decide +kernel
theorem d_Md_tell_13 : decode b_Md_tell 13 = .ok (.iadd, 1) := by decide +kernel
theorem d_Md_tell_14 : decode b_Md_tell 14 = .ok (.iconst 1, 1) := by decide +kernel
theorem d_Md_tell_15 : decode b_Md_tell 15 = .ok (.bastore, 1) := by decide +kernel
theorem d_Md_tell_16 : decode b_Md_tell 16 = .ok (.aload_n 0, 1) := by decide +kernel
theorem d_Md_tell_17 : decode b_Md_tell 17 = .ok (.getfield 44, 3) := by decide +kernel
theorem d_Md_tell_20 : decode b_Md_tell 20 = .ok (.bipush 9, 2) := by decide +kernel
theorem d_Md_tell_22 : decode b_Md_tell 22 = .ok (.iload_n 3, 1) := by decide +kernel
theorem d_Md_tell_23 : decode b_Md_tell 23 = .ok (.imul, 1) := by decide +kernel
theorem d_Md_tell_24 : decode b_Md_tell 24 = .ok (.iload_n 2, 1) := by decide +kernel
theorem d_Md_tell_25 : decode b_Md_tell 25 = .ok (.iadd, 1) := by decide +kernel
theorem d_Md_tell_26 : decode b_Md_tell 26 = .ok (.iconst 1, 1) := by decide +kernel
theorem d_Md_tell_27 : decode b_Md_tell 27 = .ok (.bastore, 1) := by decide +kernel
theorem d_Md_tell_28 : decode b_Md_tell 28 = .ok (.goto 190, 3) := by decide +kernel
theorem d_Md_tell_31 : decode b_Md_tell 31 = .ok (.iload_n 1, 1) := by decide +kernel
theorem d_Md_tell_32 : decode b_Md_tell 32 = .ok (.iconst 1, 1) := by decide +kernel
theorem d_Md_tell_33 : decode b_Md_tell 33 = .ok (.if_icmp .ne 13, 3) := by decide +kernel
theorem d_Md_tell_36 : decode b_Md_tell 36 = .ok (.aload_n 0, 1) := by decide +kernel
theorem d_Md_tell_37 : decode b_Md_tell 37 = .ok (.getfield 47, 3) := by decide +kernel
theorem d_Md_tell_40 : decode b_Md_tell 40 = .ok (.iload_n 2, 1) := by decide +kernel
theorem d_Md_tell_41 : decode b_Md_tell 41 = .ok (.iload_n 3, 1) := by decide +kernel
theorem d_Md_tell_42 : decode b_Md_tell 42 = .ok (.iastore, 1) := by decide +kernel
theorem d_Md_tell_43 : decode b_Md_tell 43 = .ok (.goto 175, 3) := by decide +kernel
theorem d_Md_tell_46 : decode b_Md_tell 46 = .ok (.iload_n 1, 1) := by decide +kernel
theorem d_Md_tell_47 : decode b_Md_tell 47 = .ok (.iconst 2, 1) := by decide +kernel
theorem d_Md_tell_48 : decode b_Md_tell 48 = .ok (.if_icmp .ne 13, 3) := by decide +kernel
theorem d_Md_tell_51 : decode b_Md_tell 51 = .ok (.aload_n 0, 1) := by decide +kernel
theorem d_Md_tell_52 : decode b_Md_tell 52 = .ok (.getfield 50, 3) := by decide +kernel
theorem d_Md_tell_55 : decode b_Md_tell 55 = .ok (.iload_n 2, 1) := by decide +kernel
theorem d_Md_tell_56 : decode b_Md_tell 56 = .ok (.iload_n 3, 1) := by decide +kernel
theorem d_Md_tell_57 : decode b_Md_tell 57 = .ok (.iastore, 1) := by decide +kernel
theorem d_Md_tell_58 : decode b_Md_tell 58 = .ok (.goto 160, 3) := by decide +kernel
theorem d_Md_tell_61 : decode b_Md_tell 61 = .ok (.iload_n 1, 1) := by decide +kernel
theorem d_Md_tell_62 : decode b_Md_tell 62 = .ok (.iconst 3, 1) := by decide +kernel
theorem d_Md_tell_63 : decode b_Md_tell 63 = .ok (.if_icmp .ne 11, 3) := by decide +kernel
theorem d_Md_tell_66 : decode b_Md_tell 66 = .ok (.aload_n 0, 1) := by decide +kernel
theorem d_Md_tell_67 : decode b_Md_tell 67 = .ok (.iload_n 2, 1) := by decide +kernel
theorem d_Md_tell_68 : decode b_Md_tell 68 = .ok (.putfield 134, 3) := by decide +kernel
theorem d_Md_tell_71 : decode b_Md_tell 71 = .ok (.goto 147, 3) := by decide +kernel
theorem d_Md_tell_74 : decode b_Md_tell 74 = .ok (.iload_n 1, 1) := by decide +kernel
theorem d_Md_tell_75 : decode b_Md_tell 75 = .ok (.iconst 4, 1) := by decide +kernel
theorem d_Md_tell_76 : decode b_Md_tell 76 = .ok (.if_icmp .ne 66, 3) := by decide +kernel
theorem d_Md_tell_79 : decode b_Md_tell 79 = .ok (.aload_n 0, 1) := by decide +kernel
theorem d_Md_tell_80 : decode b_Md_tell 80 = .ok (.iload_n 2, 1) := by decide +kernel
theorem d_Md_tell_81 : decode b_Md_tell 81 = .ok (.iload_n 3, 1) := by decide +kernel
theorem d_Md_tell_82 : decode b_Md_tell 82 = .ok (.invokevirtual 175, 3) := by decide +kernel
theorem d_Md_tell_85 : decode b_Md_tell 85 = .ok (.istore 5, 2) := by decide +kernel
theorem d_Md_tell_87 : decode b_Md_tell 87 = .ok (.aload_n 0, 1) := by decide +kernel
theorem d_Md_tell_88 : decode b_Md_tell 88 = .ok (.getfield 59, 3) := by decide +kernel
theorem d_Md_tell_91 : decode b_Md_tell 91 = .ok (.bipush 6, 2) := by decide +kernel
theorem d_Md_tell_93 : decode b_Md_tell 93 = .ok (.iload_n 2, 1) := by decide +kernel
theorem d_Md_tell_94 : decode b_Md_tell 94 = .ok (.imul, 1) := by decide +kernel
theorem d_Md_tell_95 : decode b_Md_tell 95 = .ok (.iload 5, 2) := by decide +kernel
theorem d_Md_tell_97 : decode b_Md_tell 97 = .ok (.iadd, 1) := by decide +kernel
theorem d_Md_tell_98 : decode b_Md_tell 98 = .ok (.iload_n 3, 1) := by decide +kernel
theorem d_Md_tell_99 : decode b_Md_tell 99 = .ok (.iastore, 1) := by decide +kernel
theorem d_Md_tell_100 : decode b_Md_tell 100 = .ok (.aload_n 0, 1) := by decide +kernel
theorem d_Md_tell_101 : decode b_Md_tell 101 = .ok (.getfield 62, 3) := by decide +kernel
theorem d_Md_tell_104 : decode b_Md_tell 104 = .ok (.bipush 6, 2) := by decide +kernel
theorem d_Md_tell_106 : decode b_Md_tell 106 = .ok (.iload_n 2, 1) := by decide +kernel
theorem d_Md_tell_107 : decode b_Md_tell 107 = .ok (.imul, 1) := by decide +kernel
theorem d_Md_tell_108 : decode b_Md_tell 108 = .ok (.iload 5, 2) := by decide +kernel
theorem d_Md_tell_110 : decode b_Md_tell 110 = .ok (.iadd, 1) := by decide +kernel
theorem d_Md_tell_111 : decode b_Md_tell 111 = .ok (.iload 4, 2) := by decide +kernel
theorem d_Md_tell_113 : decode b_Md_tell 113 = .ok (.iastore, 1) := by decide +kernel
theorem d_Md_tell_114 : decode b_Md_tell 114 = .ok (.aload_n 0, 1) := by decide +kernel
theorem d_Md_tell_115 : decode b_Md_tell 115 = .ok (.getfield 56, 3) := by decide +kernel
theorem d_Md_tell_118 : decode b_Md_tell 118 = .ok (.iload_n 2, 1) := by decide +kernel
theorem d_Md_tell_119 : decode b_Md_tell 119 = .ok (.dup2, 1) := by decide +kernel
theorem d_Md_tell_120 : decode b_Md_tell 120 = .ok (.iaload, 1) := by decide +kernel
theorem d_Md_tell_121 : decode b_Md_tell 121 = .ok (.iload 5, 2) := by decide +kernel
theorem d_Md_tell_123 : decode b_Md_tell 123 = .ok (.aload_n 0, 1) := by decide +kernel
theorem d_Md_tell_124 : decode b_Md_tell 124 = .ok (.getfield 56, 3) := by decide +kernel
theorem d_Md_tell_127 : decode b_Md_tell 127 = .ok (.iload_n 2, 1) := by decide +kernel
theorem d_Md_tell_128 : decode b_Md_tell 128 = .ok (.iaload, 1) := by decide +kernel
theorem d_Md_tell_129 : decode b_Md_tell 129 = .ok (.if_icmp .ne 7, 3) := by decide +kernel
theorem d_Md_tell_132 : decode b_Md_tell 132 = .ok (.iconst 1, 1) := by decide +kernel
theorem d_Md_tell_133 : decode b_Md_tell 133 = .ok (.goto 4, 3) := by decide +kernel
theorem d_Md_tell_136 : decode b_Md_tell 136 = .ok (.iconst 0, 1) := by decide +kernel
theorem d_Md_tell_137 : decode b_Md_tell 137 = .ok (.iadd, 1) := by decide +kernel
theorem d_Md_tell_138 : decode b_Md_tell 138 = .ok (.iastore, 1) := by decide +kernel
theorem d_Md_tell_139 : decode b_Md_tell 139 = .ok (.goto 79, 3) := by decide +kernel
theorem d_Md_tell_142 : decode b_Md_tell 142 = .ok (.iload_n 1, 1) := by decide +kernel
theorem d_Md_tell_143 : decode b_Md_tell 143 = .ok (.iconst 5, 1) := by decide +kernel
theorem d_Md_tell_144 : decode b_Md_tell 144 = .ok (.if_icmp .ne 13, 3) := by decide +kernel
theorem d_Md_tell_147 : decode b_Md_tell 147 = .ok (.aload_n 0, 1) := by decide +kernel
theorem d_Md_tell_148 : decode b_Md_tell 148 = .ok (.getfield 53, 3) := by decide +kernel
theorem d_Md_tell_151 : decode b_Md_tell 151 = .ok (.iload_n 2, 1) := by decide +kernel
theorem d_Md_tell_152 : decode b_Md_tell 152 = .ok (.iload_n 3, 1) := by decide +kernel
theorem d_Md_tell_153 : decode b_Md_tell 153 = .ok (.iastore, 1) := by decide +kernel
theorem d_Md_tell_154 : decode b_Md_tell 154 = .ok (.goto 64, 3) := by decide +kernel
theorem d_Md_tell_157 : decode b_Md_tell 157 = .ok (.iload_n 1, 1) := by decide +kernel
theorem d_Md_tell_158 : decode b_Md_tell 158 = .ok (.bipush 6, 2) := by decide +kernel
theorem d_Md_tell_160 : decode b_Md_tell 160 = .ok (.if_icmp .ne 33, 3) := by decide +kernel
theorem d_Md_tell_163 : decode b_Md_tell 163 = .ok (.aload_n 0, 1) := by decide +kernel
theorem d_Md_tell_164 : decode b_Md_tell 164 = .ok (.getfield 68, 3) := by decide +kernel
theorem d_Md_tell_167 : decode b_Md_tell 167 = .ok (.bipush 8, 2) := by decide +kernel
theorem d_Md_tell_169 : decode b_Md_tell 169 = .ok (.iload_n 2, 1) := by decide +kernel
theorem d_Md_tell_170 : decode b_Md_tell 170 = .ok (.imul, 1) := by decide +kernel
theorem d_Md_tell_171 : decode b_Md_tell 171 = .ok (.aload_n 0, 1) := by decide +kernel
theorem d_Md_tell_172 : decode b_Md_tell 172 = .ok (.getfield 65, 3) := by decide +kernel
theorem d_Md_tell_175 : decode b_Md_tell 175 = .ok (.iload_n 2, 1) := by decide +kernel
theorem d_Md_tell_176 : decode b_Md_tell 176 = .ok (.iaload, 1) := by decide +kernel
theorem d_Md_tell_177 : decode b_Md_tell 177 = .ok (.iadd, 1) := by decide +kernel
theorem d_Md_tell_178 : decode b_Md_tell 178 = .ok (.iload_n 3, 1) := by decide +kernel
theorem d_Md_tell_179 : decode b_Md_tell 179 = .ok (.iastore, 1) := by decide +kernel
theorem d_Md_tell_180 : decode b_Md_tell 180 = .ok (.aload_n 0, 1) := by decide +kernel
theorem d_Md_tell_181 : decode b_Md_tell 181 = .ok (.getfield 65, 3) := by decide +kernel
theorem d_Md_tell_184 : decode b_Md_tell 184 = .ok (.iload_n 2, 1) := by decide +kernel
theorem d_Md_tell_185 : decode b_Md_tell 185 = .ok (.dup2, 1) := by decide +kernel
theorem d_Md_tell_186 : decode b_Md_tell 186 = .ok (.iaload, 1) := by decide +kernel
theorem d_Md_tell_187 : decode b_Md_tell 187 = .ok (.iconst 1, 1) := by decide +kernel
theorem d_Md_tell_188 : decode b_Md_tell 188 = .ok (.iadd, 1) := by decide +kernel
theorem d_Md_tell_189 : decode b_Md_tell 189 = .ok (.iastore, 1) := by decide +kernel
theorem d_Md_tell_190 : decode b_Md_tell 190 = .ok (.goto 28, 3) := by decide +kernel
theorem d_Md_tell_193 : decode b_Md_tell 193 = .ok (.aload_n 0, 1) := by decide +kernel
theorem d_Md_tell_194 : decode b_Md_tell 194 = .ok (.getfield 71, 3) := by decide +kernel
theorem d_Md_tell_197 : decode b_Md_tell 197 = .ok (.iconst 4, 1) := by decide +kernel
theorem d_Md_tell_198 : decode b_Md_tell 198 = .ok (.iload_n 2, 1) := by decide +kernel
theorem d_Md_tell_199 : decode b_Md_tell 199 = .ok (.imul, 1) := by decide +kernel
theorem d_Md_tell_200 : decode b_Md_tell 200 = .ok (.iload_n 3, 1) := by decide +kernel
theorem d_Md_tell_201 : decode b_Md_tell 201 = .ok (.iadd, 1) := by decide +kernel
theorem d_Md_tell_202 : decode b_Md_tell 202 = .ok (.iload_n 1, 1) := by decide +kernel
theorem d_Md_tell_203 : decode b_Md_tell 203 = .ok (.bipush 7, 2) := by decide +kernel
theorem d_Md_tell_205 : decode b_Md_tell 205 = .ok (.if_icmp .ne 8, 3) := by decide +kernel
theorem d_Md_tell_208 : decode b_Md_tell 208 = .ok (.iload 4, 2) := by decide +kernel
theorem d_Md_tell_210 : decode b_Md_tell 210 = .ok (.goto 7, 3) := by decide +kernel
theorem d_Md_tell_213 : decode b_Md_tell 213 = .ok (.iconst (-1), 1) := by decide +kernel
theorem d_Md_tell_214 : decode b_Md_tell 214 = .ok (.iload 4, 2) := by decide +kernel
theorem d_Md_tell_216 : decode b_Md_tell 216 = .ok (.isub, 1) := by decide +kernel
theorem d_Md_tell_217 : decode b_Md_tell 217 = .ok (.iastore, 1) := by decide +kernel
theorem d_Md_tell_218 : decode b_Md_tell 218 = .ok (.return_, 1) := by decide +kernel
set_option maxHeartbeats 4000000 in
set_option maxRecDepth 100000 in
theorem c_Md_numberAt (l : Launch) (D : va_G) (cI : CiT) (z : GzT) (m : Nat → Nat) (tx : (Nat → Nat)) (sz : Nat) (ap : (Nat → Bool)) (pt : (Nat → Nat)) (rk : (Nat → Nat)) (cd : (Nat → Nat)) (fr : Nat) (mc : (Nat → Nat)) (mg : (Nat → Nat)) (mz : (Nat → Nat)) (nc : (Nat → Nat)) (nt : (Nat → Nat)) (ld : (Nat → Nat)) (qap : (Nat → Bool)) (qpt : (Nat → Nat)) (qrk : (Nat → Nat)) (qcd : (Nat → Nat)) (qfr : Nat) (qmc : (Nat → Nat)) (qmg : (Nat → Nat)) (qmz : (Nat → Nat)) (qnc : (Nat → Nat)) (qnt : (Nat → Nat)) (qld : (Nat → Nat)) (nb : Nat) (cl : (Nat → Nat)) (gr : (Nat → Nat)) (sp : (Nat → Nat)) (ot : (Nat → Bool)) (na : Nat) (aw : (Nat → Nat)) (nx : Nat) (bg : (Nat → Nat)) (bb : (Nat → Nat)) (ab : (Nat → Nat)) (fd : Bool) (pv : Bool) (bx : (Nat → Nat)) (wy : (Nat → Nat)) (li : (Nat → Nat)) (fm : Nat) (en : Nat) (nu : Nat) (td : (Nat → Nat)) (lf : Int32) (lk : Int32) (hfe : fm ≤ en ∧ en ≤ 1500) (htx : ∀ i, tx i < 256) : wk_C l D (tyK cI) (gX z) y_Md_numberAt b_Md_numberAt 3 (some .int) 0 0 0 0 [.ref (m 0)] (wMd m cI tx sz ap pt rk cd fr mc mg mz nc nt ld qap qpt qrk qcd qfr qmc qmg qmz qnc qnt qld nb cl gr sp ot na aw nx bg bb ab fd pv bx wy li fm en nu td lf lk) wk_i (fun (r : Int32) (_ : Unit) => r = (zI (nuN tx fm en))) (fun _ => (wMd m cI tx sz ap pt rk cd fr mc mg mz nc nt ld qap qpt qrk qcd qfr qmc qmg qmz qnc qnt qld nb cl gr sp ot na aw nx bg bb ab fd pv bx wy li fm en nu td lf lk)) := by
  refine wk_methI (own := R_Md) [(0, .ref (m 0))] (by decide) rfl (Nat.le_of_ble_eq_true rfl) rfl (gX_ok z) (fun p_ e_ R_ s_ m_ ar_ be_ me_ co_ Q_ A_ hR_ S_ hnm_ hQ_ => ?_)
  refine wk_aload_n (pc := 0) S_ 0 d_Md_numberAt_0 rfl rfl ?_
  refine wk_get (pc := 1) (v := .int (nI (en))) S_ 6 41 0 in_Md rfl (by decide) rfl fl_Md_140 d_Md_numberAt_1 rfl rfl ?_
  refine wk_aload_n (pc := 4) S_ 0 d_Md_numberAt_4 rfl rfl ?_
  refine wk_get (pc := 5) (v := .int (nI (fm))) S_ 6 40 0 in_Md rfl (by decide) rfl fl_Md_143 d_Md_numberAt_5 rfl rfl ?_
  refine wk_isubN (pc := 8) S_ d_Md_numberAt_8 (by omega) ?_
  refine wk_iconst (pc := 9) (v := (nI (1))) S_ d_Md_numberAt_9 (by decide) ?_
  refine wk_icmp_ltN (pc := 10) (tgt := 31) S_ d_Md_numberAt_10 (by decide) (by omega) (by omega) (fun h10 => ?_) (fun h10 => ?_)
  · -- taken
    refine wk_iconst (pc := 31) (v := (-1)) S_ d_Md_numberAt_31 (by decide) ?_
    refine wk_top (y := (zI (0))) zI_0.symm ?_
    refine wk_istore_n (pc := 32) (lv' := [(1, .int (zI (0))), (0, .ref (m 0))]) S_ d_Md_numberAt_32 rfl (by decide) rfl ?_
    refine wk_aload_n (pc := 33) S_ 1 d_Md_numberAt_33 rfl rfl ?_
    refine wk_get (pc := 34) (v := .int (nI (fm))) S_ 6 40 0 in_Md rfl (by decide) rfl fl_Md_143 d_Md_numberAt_34 rfl rfl ?_
    refine wk_istore_n (pc := 37) (lv' := [(2, .int (nI (fm))), (1, .int (zI (0))), (0, .ref (m 0))]) S_ d_Md_numberAt_37 rfl (by decide) rfl ?_
    have hL38 : ∀ (fuel38 : Nat), ∀ (q : Nat) (k : Nat) (v : Nat), q < fuel38 → (k + q = en) → (v = 0 ∨ (q ≤ 6 ∧ v ≤ 10 ^ (6 - q))) → (nuS tx q k v = nuN tx fm en) → wk_G p_ l e_ R_ s_ m_ ar_ be_ me_ co_ Q_ D A_ 3 0 0 (wMd m cI tx sz ap pt rk cd fr mc mg mz nc nt ld qap qpt qrk qcd qfr qmc qmg qmz qnc qnt qld nb cl gr sp ot na aw nx bg bb ab fd pv bx wy li fm en nu td lf lk) 38 [(0, .ref (m 0)), (1, .int (zI (v))), (2, .int (nI (k)))] [] := by
      intro fuel38
      induction fuel38 with
      | zero => intro q k v hm; exact absurd hm (Nat.not_lt_zero _)
      | succ fuel38 ih38 =>
        intro q k v hm hk hv hE
        refine wk_iload_n (pc := 38) S_ 2 d_Md_numberAt_38 rfl rfl ?_
        refine wk_aload_n (pc := 39) S_ 0 d_Md_numberAt_39 rfl rfl ?_
        refine wk_get (pc := 40) (v := .int (nI (en))) S_ 6 41 0 in_Md rfl (by decide) rfl fl_Md_140 d_Md_numberAt_40 rfl rfl ?_
        refine wk_icmp_geN (pc := 43) (tgt := 97) S_ d_Md_numberAt_43 (by decide) (by omega) (by omega) (fun h43 => ?_) (fun h43 => ?_)
        · -- taken
          refine wk_iload_n (pc := 97) S_ 1 d_Md_numberAt_97 rfl rfl ?_
          exact hQ_ (zI (v)) () d_Md_numberAt_98 rfl (congrArg zI (by rw [← hE, show q = 0 by omega]; rfl))
        · -- on
          refine wk_iload_n (pc := 46) S_ 1 d_Md_numberAt_46 rfl rfl ?_
          have hp6 : 10 ^ (6 - q) ≤ 10 ^ 6 := Nat.pow_le_pow_right (by decide) (by omega)
          refine wk_if_ltY (pc := 47) (tgt := 97) S_ d_Md_numberAt_47 (by decide) (by omega) (fun h47 => ?_) (fun h47 => ?_)
          · -- taken
            refine wk_iload_n (pc := 97) S_ 1 d_Md_numberAt_97 rfl rfl ?_
            exact hQ_ (zI (v)) () d_Md_numberAt_98 rfl (congrArg zI (by rw [← hE, h47, nuS_0]))
          · -- on
            have ht1 := htx k
            refine wk_aload_n (pc := 50) S_ 0 d_Md_numberAt_50 rfl rfl ?_
            refine wk_get (pc := 51) (v := .ref (m 1)) S_ 6 0 0 in_Md rfl (by decide) rfl fl_Md_7 d_Md_numberAt_51 rfl rfl ?_
            refine wk_iload_n (pc := 54) S_ 2 d_Md_numberAt_54 rfl rfl ?_
            refine wk_ialdN (pc := 55) (g := tx) S_ 1 0 d_Md_numberAt_55 rfl rfl (by omega) (by decide) ?_
            refine wk_bipush (pc := 56) (v := (nI (48))) S_ d_Md_numberAt_56 (by decide) ?_
            refine wk_icmp_ltN (pc := 58) (tgt := 89) S_ d_Md_numberAt_58 (by decide) (by omega) (by omega) (fun h58 => ?_) (fun h58 => ?_)
            · -- taken
              refine wk_iconst (pc := 89) (v := (-1)) S_ d_Md_numberAt_89 (by decide) ?_
              refine wk_top (y := (zI (0))) zI_0.symm ?_
              refine wk_istore_n (pc := 90) (lv' := [(1, .int (zI (0))), (0, .ref (m 0)), (2, .int (nI (k)))]) S_ d_Md_numberAt_90 rfl (by decide) rfl ?_
              refine wk_iincN (pc := 91) (d := 1) (lv' := [(2, .int (nI (k + 1))), (1, .int (zI (0))), (0, .ref (m 0))]) S_ 2 d_Md_numberAt_91 (by decide) rfl (by decide) rfl ?_
              refine wk_goto (pc := 94) (tgt := 38) S_ d_Md_numberAt_94 (by decide) ?_
              refine wk_lv [2, 1, 0] ?_ (ih38 (q - 1) (k + 1) (0) (by omega) (by omega) (Or.inl rfl) (by rw [← hE]; obtain ⟨r, rfl⟩ : ∃ r, q = r + 1 := ⟨q - 1, by omega⟩; rw [nuS, if_neg h47, if_neg (by omega)]; exact nuS_0 tx _ _))
              rfl
            · -- on
              refine wk_aload_n (pc := 61) S_ 0 d_Md_numberAt_61 rfl rfl ?_
              refine wk_get (pc := 62) (v := .ref (m 1)) S_ 6 0 0 in_Md rfl (by decide) rfl fl_Md_7 d_Md_numberAt_62 rfl rfl ?_
              refine wk_iload_n (pc := 65) S_ 2 d_Md_numberAt_65 rfl rfl ?_
              refine wk_ialdN (pc := 66) (g := tx) S_ 1 0 d_Md_numberAt_66 rfl rfl (by omega) (by decide) ?_
              refine wk_bipush (pc := 67) (v := (nI (57))) S_ d_Md_numberAt_67 (by decide) ?_
              refine wk_icmp_gtN (pc := 69) (tgt := 89) S_ d_Md_numberAt_69 (by decide) (by omega) (by omega) (fun h69 => ?_) (fun h69 => ?_)
              · -- taken
                refine wk_iconst (pc := 89) (v := (-1)) S_ d_Md_numberAt_89 (by decide) ?_
                refine wk_top (y := (zI (0))) zI_0.symm ?_
                refine wk_istore_n (pc := 90) (lv' := [(1, .int (zI (0))), (0, .ref (m 0)), (2, .int (nI (k)))]) S_ d_Md_numberAt_90 rfl (by decide) rfl ?_
                refine wk_iincN (pc := 91) (d := 1) (lv' := [(2, .int (nI (k + 1))), (1, .int (zI (0))), (0, .ref (m 0))]) S_ 2 d_Md_numberAt_91 (by decide) rfl (by decide) rfl ?_
                refine wk_goto (pc := 94) (tgt := 38) S_ d_Md_numberAt_94 (by decide) ?_
                refine wk_lv [2, 1, 0] ?_ (ih38 (q - 1) (k + 1) (0) (by omega) (by omega) (Or.inl rfl) (by rw [← hE]; obtain ⟨r, rfl⟩ : ∃ r, q = r + 1 := ⟨q - 1, by omega⟩; rw [nuS, if_neg h47, if_neg (by omega)]; exact nuS_0 tx _ _))
                rfl
              · -- on
                refine wk_bipush (pc := 72) (v := (nI (10))) S_ d_Md_numberAt_72 (by decide) ?_
                refine wk_iload_n (pc := 74) S_ 1 d_Md_numberAt_74 rfl rfl ?_
                refine wk_top (y := (nI (v - 1))) (zI_p h47) ?_
                refine wk_imulN (pc := 75) S_ d_Md_numberAt_75 ?_
                refine wk_aload_n (pc := 76) S_ 0 d_Md_numberAt_76 rfl rfl ?_
                refine wk_get (pc := 77) (v := .ref (m 1)) S_ 6 0 0 in_Md rfl (by decide) rfl fl_Md_7 d_Md_numberAt_77 rfl rfl ?_
                refine wk_iload_n (pc := 80) S_ 2 d_Md_numberAt_80 rfl rfl ?_
                refine wk_ialdN (pc := 81) (g := tx) S_ 1 0 d_Md_numberAt_81 rfl rfl (by omega) (by decide) ?_
                refine wk_iaddN (pc := 82) S_ d_Md_numberAt_82 ?_
                refine wk_bipush (pc := 83) (v := (nI (48))) S_ d_Md_numberAt_83 (by decide) ?_
                refine wk_isubN (pc := 85) S_ d_Md_numberAt_85 (by omega) ?_
                refine wk_goto (pc := 86) (tgt := 90) S_ d_Md_numberAt_86 (by decide) ?_
                refine wk_top (y := (zI (10 * (v - 1) + (tx k - 48) + 1))) (by rw [zI_s]; congr 1; omega) ?_
                refine wk_istore_n (pc := 90) (lv' := [(1, .int (zI (10 * (v - 1) + (tx k - 48) + 1))), (0, .ref (m 0)), (2, .int (nI (k)))]) S_ d_Md_numberAt_90 rfl (by decide) rfl ?_
                refine wk_iincN (pc := 91) (d := 1) (lv' := [(2, .int (nI (k + 1))), (1, .int (zI (10 * (v - 1) + (tx k - 48) + 1))), (0, .ref (m 0))]) S_ 2 d_Md_numberAt_91 (by decide) rfl (by decide) rfl ?_
                refine wk_goto (pc := 94) (tgt := 38) S_ d_Md_numberAt_94 (by decide) ?_
                refine wk_lv [2, 1, 0] ?_ (ih38 (q - 1) (k + 1) (10 * (v - 1) + (tx k - 48) + 1) (by omega) (by omega) (by rcases hv with z | ⟨z1, z2⟩; exact absurd z h47; refine Or.inr ⟨by omega, ?_⟩; have e : 10 ^ (6 - (q - 1)) = 10 ^ (6 - q) * 10 := by { rw [← Nat.pow_succ]; congr 1; omega }; rw [e]; omega) (by rw [← hE]; obtain ⟨r, rfl⟩ : ∃ r, q = r + 1 := ⟨q - 1, by omega⟩; rw [nuS, if_neg h47, if_pos ⟨by omega, by omega⟩]; rfl))
                rfl
    refine wk_lv [2, 1, 0] ?_ (hL38 _ (en - fm) (fm) (0) (Nat.lt_succ_self _) (by omega) (Or.inl rfl) (by rw [nuS_0, nuN, if_neg (by omega)]))
    rfl
  · -- on
    refine wk_aload_n (pc := 13) S_ 0 d_Md_numberAt_13 rfl rfl ?_
    refine wk_get (pc := 14) (v := .int (nI (en))) S_ 6 41 0 in_Md rfl (by decide) rfl fl_Md_140 d_Md_numberAt_14 rfl rfl ?_
    refine wk_aload_n (pc := 17) S_ 0 d_Md_numberAt_17 rfl rfl ?_
    refine wk_get (pc := 18) (v := .int (nI (fm))) S_ 6 40 0 in_Md rfl (by decide) rfl fl_Md_143 d_Md_numberAt_18 rfl rfl ?_
    refine wk_isubN (pc := 21) S_ d_Md_numberAt_21 (by omega) ?_
    refine wk_bipush (pc := 22) (v := (nI (6))) S_ d_Md_numberAt_22 (by decide) ?_
    refine wk_icmp_gtN (pc := 24) (tgt := 31) S_ d_Md_numberAt_24 (by decide) (by omega) (by omega) (fun h24 => ?_) (fun h24 => ?_)
    · -- taken
      refine wk_iconst (pc := 31) (v := (-1)) S_ d_Md_numberAt_31 (by decide) ?_
      refine wk_top (y := (zI (0))) zI_0.symm ?_
      refine wk_istore_n (pc := 32) (lv' := [(1, .int (zI (0))), (0, .ref (m 0))]) S_ d_Md_numberAt_32 rfl (by decide) rfl ?_
      refine wk_aload_n (pc := 33) S_ 1 d_Md_numberAt_33 rfl rfl ?_
      refine wk_get (pc := 34) (v := .int (nI (fm))) S_ 6 40 0 in_Md rfl (by decide) rfl fl_Md_143 d_Md_numberAt_34 rfl rfl ?_
      refine wk_istore_n (pc := 37) (lv' := [(2, .int (nI (fm))), (1, .int (zI (0))), (0, .ref (m 0))]) S_ d_Md_numberAt_37 rfl (by decide) rfl ?_
      have hL38 : ∀ (fuel38 : Nat), ∀ (q : Nat) (k : Nat) (v : Nat), q < fuel38 → (k + q = en) → (v = 0 ∨ (q ≤ 6 ∧ v ≤ 10 ^ (6 - q))) → (nuS tx q k v = nuN tx fm en) → wk_G p_ l e_ R_ s_ m_ ar_ be_ me_ co_ Q_ D A_ 3 0 0 (wMd m cI tx sz ap pt rk cd fr mc mg mz nc nt ld qap qpt qrk qcd qfr qmc qmg qmz qnc qnt qld nb cl gr sp ot na aw nx bg bb ab fd pv bx wy li fm en nu td lf lk) 38 [(0, .ref (m 0)), (1, .int (zI (v))), (2, .int (nI (k)))] [] := by
        intro fuel38
        induction fuel38 with
        | zero => intro q k v hm; exact absurd hm (Nat.not_lt_zero _)
        | succ fuel38 ih38 =>
          intro q k v hm hk hv hE
          refine wk_iload_n (pc := 38) S_ 2 d_Md_numberAt_38 rfl rfl ?_
          refine wk_aload_n (pc := 39) S_ 0 d_Md_numberAt_39 rfl rfl ?_
          refine wk_get (pc := 40) (v := .int (nI (en))) S_ 6 41 0 in_Md rfl (by decide) rfl fl_Md_140 d_Md_numberAt_40 rfl rfl ?_
          refine wk_icmp_geN (pc := 43) (tgt := 97) S_ d_Md_numberAt_43 (by decide) (by omega) (by omega) (fun h43 => ?_) (fun h43 => ?_)
          · -- taken
            refine wk_iload_n (pc := 97) S_ 1 d_Md_numberAt_97 rfl rfl ?_
            exact hQ_ (zI (v)) () d_Md_numberAt_98 rfl (congrArg zI (by rw [← hE, show q = 0 by omega]; rfl))
          · -- on
            refine wk_iload_n (pc := 46) S_ 1 d_Md_numberAt_46 rfl rfl ?_
            have hp6 : 10 ^ (6 - q) ≤ 10 ^ 6 := Nat.pow_le_pow_right (by decide) (by omega)
            refine wk_if_ltY (pc := 47) (tgt := 97) S_ d_Md_numberAt_47 (by decide) (by omega) (fun h47 => ?_) (fun h47 => ?_)
            · -- taken
              refine wk_iload_n (pc := 97) S_ 1 d_Md_numberAt_97 rfl rfl ?_
              exact hQ_ (zI (v)) () d_Md_numberAt_98 rfl (congrArg zI (by rw [← hE, h47, nuS_0]))
            · -- on
              have ht1 := htx k
              refine wk_aload_n (pc := 50) S_ 0 d_Md_numberAt_50 rfl rfl ?_
              refine wk_get (pc := 51) (v := .ref (m 1)) S_ 6 0 0 in_Md rfl (by decide) rfl fl_Md_7 d_Md_numberAt_51 rfl rfl ?_
              refine wk_iload_n (pc := 54) S_ 2 d_Md_numberAt_54 rfl rfl ?_
              refine wk_ialdN (pc := 55) (g := tx) S_ 1 0 d_Md_numberAt_55 rfl rfl (by omega) (by decide) ?_
              refine wk_bipush (pc := 56) (v := (nI (48))) S_ d_Md_numberAt_56 (by decide) ?_
              refine wk_icmp_ltN (pc := 58) (tgt := 89) S_ d_Md_numberAt_58 (by decide) (by omega) (by omega) (fun h58 => ?_) (fun h58 => ?_)
              · -- taken
                refine wk_iconst (pc := 89) (v := (-1)) S_ d_Md_numberAt_89 (by decide) ?_
                refine wk_top (y := (zI (0))) zI_0.symm ?_
                refine wk_istore_n (pc := 90) (lv' := [(1, .int (zI (0))), (0, .ref (m 0)), (2, .int (nI (k)))]) S_ d_Md_numberAt_90 rfl (by decide) rfl ?_
                refine wk_iincN (pc := 91) (d := 1) (lv' := [(2, .int (nI (k + 1))), (1, .int (zI (0))), (0, .ref (m 0))]) S_ 2 d_Md_numberAt_91 (by decide) rfl (by decide) rfl ?_
                refine wk_goto (pc := 94) (tgt := 38) S_ d_Md_numberAt_94 (by decide) ?_
                refine wk_lv [2, 1, 0] ?_ (ih38 (q - 1) (k + 1) (0) (by omega) (by omega) (Or.inl rfl) (by rw [← hE]; obtain ⟨r, rfl⟩ : ∃ r, q = r + 1 := ⟨q - 1, by omega⟩; rw [nuS, if_neg h47, if_neg (by omega)]; exact nuS_0 tx _ _))
                rfl
              · -- on
                refine wk_aload_n (pc := 61) S_ 0 d_Md_numberAt_61 rfl rfl ?_
                refine wk_get (pc := 62) (v := .ref (m 1)) S_ 6 0 0 in_Md rfl (by decide) rfl fl_Md_7 d_Md_numberAt_62 rfl rfl ?_
                refine wk_iload_n (pc := 65) S_ 2 d_Md_numberAt_65 rfl rfl ?_
                refine wk_ialdN (pc := 66) (g := tx) S_ 1 0 d_Md_numberAt_66 rfl rfl (by omega) (by decide) ?_
                refine wk_bipush (pc := 67) (v := (nI (57))) S_ d_Md_numberAt_67 (by decide) ?_
                refine wk_icmp_gtN (pc := 69) (tgt := 89) S_ d_Md_numberAt_69 (by decide) (by omega) (by omega) (fun h69 => ?_) (fun h69 => ?_)
                · -- taken
                  refine wk_iconst (pc := 89) (v := (-1)) S_ d_Md_numberAt_89 (by decide) ?_
                  refine wk_top (y := (zI (0))) zI_0.symm ?_
                  refine wk_istore_n (pc := 90) (lv' := [(1, .int (zI (0))), (0, .ref (m 0)), (2, .int (nI (k)))]) S_ d_Md_numberAt_90 rfl (by decide) rfl ?_
                  refine wk_iincN (pc := 91) (d := 1) (lv' := [(2, .int (nI (k + 1))), (1, .int (zI (0))), (0, .ref (m 0))]) S_ 2 d_Md_numberAt_91 (by decide) rfl (by decide) rfl ?_
                  refine wk_goto (pc := 94) (tgt := 38) S_ d_Md_numberAt_94 (by decide) ?_
                  refine wk_lv [2, 1, 0] ?_ (ih38 (q - 1) (k + 1) (0) (by omega) (by omega) (Or.inl rfl) (by rw [← hE]; obtain ⟨r, rfl⟩ : ∃ r, q = r + 1 := ⟨q - 1, by omega⟩; rw [nuS, if_neg h47, if_neg (by omega)]; exact nuS_0 tx _ _))
                  rfl
                · -- on
                  refine wk_bipush (pc := 72) (v := (nI (10))) S_ d_Md_numberAt_72 (by decide) ?_
                  refine wk_iload_n (pc := 74) S_ 1 d_Md_numberAt_74 rfl rfl ?_
                  refine wk_top (y := (nI (v - 1))) (zI_p h47) ?_
                  refine wk_imulN (pc := 75) S_ d_Md_numberAt_75 ?_
                  refine wk_aload_n (pc := 76) S_ 0 d_Md_numberAt_76 rfl rfl ?_
                  refine wk_get (pc := 77) (v := .ref (m 1)) S_ 6 0 0 in_Md rfl (by decide) rfl fl_Md_7 d_Md_numberAt_77 rfl rfl ?_
                  refine wk_iload_n (pc := 80) S_ 2 d_Md_numberAt_80 rfl rfl ?_
                  refine wk_ialdN (pc := 81) (g := tx) S_ 1 0 d_Md_numberAt_81 rfl rfl (by omega) (by decide) ?_
                  refine wk_iaddN (pc := 82) S_ d_Md_numberAt_82 ?_
                  refine wk_bipush (pc := 83) (v := (nI (48))) S_ d_Md_numberAt_83 (by decide) ?_
                  refine wk_isubN (pc := 85) S_ d_Md_numberAt_85 (by omega) ?_
                  refine wk_goto (pc := 86) (tgt := 90) S_ d_Md_numberAt_86 (by decide) ?_
                  refine wk_top (y := (zI (10 * (v - 1) + (tx k - 48) + 1))) (by rw [zI_s]; congr 1; omega) ?_
                  refine wk_istore_n (pc := 90) (lv' := [(1, .int (zI (10 * (v - 1) + (tx k - 48) + 1))), (0, .ref (m 0)), (2, .int (nI (k)))]) S_ d_Md_numberAt_90 rfl (by decide) rfl ?_
                  refine wk_iincN (pc := 91) (d := 1) (lv' := [(2, .int (nI (k + 1))), (1, .int (zI (10 * (v - 1) + (tx k - 48) + 1))), (0, .ref (m 0))]) S_ 2 d_Md_numberAt_91 (by decide) rfl (by decide) rfl ?_
                  refine wk_goto (pc := 94) (tgt := 38) S_ d_Md_numberAt_94 (by decide) ?_
                  refine wk_lv [2, 1, 0] ?_ (ih38 (q - 1) (k + 1) (10 * (v - 1) + (tx k - 48) + 1) (by omega) (by omega) (by rcases hv with z | ⟨z1, z2⟩; exact absurd z h47; refine Or.inr ⟨by omega, ?_⟩; have e : 10 ^ (6 - (q - 1)) = 10 ^ (6 - q) * 10 := by { rw [← Nat.pow_succ]; congr 1; omega }; rw [e]; omega) (by rw [← hE]; obtain ⟨r, rfl⟩ : ∃ r, q = r + 1 := ⟨q - 1, by omega⟩; rw [nuS, if_neg h47, if_pos ⟨by omega, by omega⟩]; rfl))
                  rfl
      refine wk_lv [2, 1, 0] ?_ (hL38 _ (en - fm) (fm) (0) (Nat.lt_succ_self _) (by omega) (Or.inl rfl) (by rw [nuS_0, nuN, if_neg (by omega)]))
      rfl
    · -- on
      refine wk_iconst (pc := 27) (v := (nI (0))) S_ d_Md_numberAt_27 (by decide) ?_
      refine wk_goto (pc := 28) (tgt := 32) S_ d_Md_numberAt_28 (by decide) ?_
      refine wk_top (y := (zI (1))) (zI_s 0).symm ?_
      refine wk_istore_n (pc := 32) (lv' := [(1, .int (zI (1))), (0, .ref (m 0))]) S_ d_Md_numberAt_32 rfl (by decide) rfl ?_
      refine wk_aload_n (pc := 33) S_ 1 d_Md_numberAt_33 rfl rfl ?_
      refine wk_get (pc := 34) (v := .int (nI (fm))) S_ 6 40 0 in_Md rfl (by decide) rfl fl_Md_143 d_Md_numberAt_34 rfl rfl ?_
      refine wk_istore_n (pc := 37) (lv' := [(2, .int (nI (fm))), (1, .int (zI (1))), (0, .ref (m 0))]) S_ d_Md_numberAt_37 rfl (by decide) rfl ?_
      have hL38 : ∀ (fuel38 : Nat), ∀ (q : Nat) (k : Nat) (v : Nat), q < fuel38 → (k + q = en) → (v = 0 ∨ (q ≤ 6 ∧ v ≤ 10 ^ (6 - q))) → (nuS tx q k v = nuN tx fm en) → wk_G p_ l e_ R_ s_ m_ ar_ be_ me_ co_ Q_ D A_ 3 0 0 (wMd m cI tx sz ap pt rk cd fr mc mg mz nc nt ld qap qpt qrk qcd qfr qmc qmg qmz qnc qnt qld nb cl gr sp ot na aw nx bg bb ab fd pv bx wy li fm en nu td lf lk) 38 [(0, .ref (m 0)), (1, .int (zI (v))), (2, .int (nI (k)))] [] := by
        intro fuel38
        induction fuel38 with
        | zero => intro q k v hm; exact absurd hm (Nat.not_lt_zero _)
        | succ fuel38 ih38 =>
          intro q k v hm hk hv hE
          refine wk_iload_n (pc := 38) S_ 2 d_Md_numberAt_38 rfl rfl ?_
          refine wk_aload_n (pc := 39) S_ 0 d_Md_numberAt_39 rfl rfl ?_
          refine wk_get (pc := 40) (v := .int (nI (en))) S_ 6 41 0 in_Md rfl (by decide) rfl fl_Md_140 d_Md_numberAt_40 rfl rfl ?_
          refine wk_icmp_geN (pc := 43) (tgt := 97) S_ d_Md_numberAt_43 (by decide) (by omega) (by omega) (fun h43 => ?_) (fun h43 => ?_)
          · -- taken
            refine wk_iload_n (pc := 97) S_ 1 d_Md_numberAt_97 rfl rfl ?_
            exact hQ_ (zI (v)) () d_Md_numberAt_98 rfl (congrArg zI (by rw [← hE, show q = 0 by omega]; rfl))
          · -- on
            refine wk_iload_n (pc := 46) S_ 1 d_Md_numberAt_46 rfl rfl ?_
            have hp6 : 10 ^ (6 - q) ≤ 10 ^ 6 := Nat.pow_le_pow_right (by decide) (by omega)
            refine wk_if_ltY (pc := 47) (tgt := 97) S_ d_Md_numberAt_47 (by decide) (by omega) (fun h47 => ?_) (fun h47 => ?_)
            · -- taken
              refine wk_iload_n (pc := 97) S_ 1 d_Md_numberAt_97 rfl rfl ?_
              exact hQ_ (zI (v)) () d_Md_numberAt_98 rfl (congrArg zI (by rw [← hE, h47, nuS_0]))
            · -- on
              have ht1 := htx k
              refine wk_aload_n (pc := 50) S_ 0 d_Md_numberAt_50 rfl rfl ?_
              refine wk_get (pc := 51) (v := .ref (m 1)) S_ 6 0 0 in_Md rfl (by decide) rfl fl_Md_7 d_Md_numberAt_51 rfl rfl ?_
              refine wk_iload_n (pc := 54) S_ 2 d_Md_numberAt_54 rfl rfl ?_
              refine wk_ialdN (pc := 55) (g := tx) S_ 1 0 d_Md_numberAt_55 rfl rfl (by omega) (by decide) ?_
              refine wk_bipush (pc := 56) (v := (nI (48))) S_ d_Md_numberAt_56 (by decide) ?_
              refine wk_icmp_ltN (pc := 58) (tgt := 89) S_ d_Md_numberAt_58 (by decide) (by omega) (by omega) (fun h58 => ?_) (fun h58 => ?_)
              · -- taken
                refine wk_iconst (pc := 89) (v := (-1)) S_ d_Md_numberAt_89 (by decide) ?_
                refine wk_top (y := (zI (0))) zI_0.symm ?_
                refine wk_istore_n (pc := 90) (lv' := [(1, .int (zI (0))), (0, .ref (m 0)), (2, .int (nI (k)))]) S_ d_Md_numberAt_90 rfl (by decide) rfl ?_
                refine wk_iincN (pc := 91) (d := 1) (lv' := [(2, .int (nI (k + 1))), (1, .int (zI (0))), (0, .ref (m 0))]) S_ 2 d_Md_numberAt_91 (by decide) rfl (by decide) rfl ?_
                refine wk_goto (pc := 94) (tgt := 38) S_ d_Md_numberAt_94 (by decide) ?_
                refine wk_lv [2, 1, 0] ?_ (ih38 (q - 1) (k + 1) (0) (by omega) (by omega) (Or.inl rfl) (by rw [← hE]; obtain ⟨r, rfl⟩ : ∃ r, q = r + 1 := ⟨q - 1, by omega⟩; rw [nuS, if_neg h47, if_neg (by omega)]; exact nuS_0 tx _ _))
                rfl
              · -- on
                refine wk_aload_n (pc := 61) S_ 0 d_Md_numberAt_61 rfl rfl ?_
                refine wk_get (pc := 62) (v := .ref (m 1)) S_ 6 0 0 in_Md rfl (by decide) rfl fl_Md_7 d_Md_numberAt_62 rfl rfl ?_
                refine wk_iload_n (pc := 65) S_ 2 d_Md_numberAt_65 rfl rfl ?_
                refine wk_ialdN (pc := 66) (g := tx) S_ 1 0 d_Md_numberAt_66 rfl rfl (by omega) (by decide) ?_
                refine wk_bipush (pc := 67) (v := (nI (57))) S_ d_Md_numberAt_67 (by decide) ?_
                refine wk_icmp_gtN (pc := 69) (tgt := 89) S_ d_Md_numberAt_69 (by decide) (by omega) (by omega) (fun h69 => ?_) (fun h69 => ?_)
                · -- taken
                  refine wk_iconst (pc := 89) (v := (-1)) S_ d_Md_numberAt_89 (by decide) ?_
                  refine wk_top (y := (zI (0))) zI_0.symm ?_
                  refine wk_istore_n (pc := 90) (lv' := [(1, .int (zI (0))), (0, .ref (m 0)), (2, .int (nI (k)))]) S_ d_Md_numberAt_90 rfl (by decide) rfl ?_
                  refine wk_iincN (pc := 91) (d := 1) (lv' := [(2, .int (nI (k + 1))), (1, .int (zI (0))), (0, .ref (m 0))]) S_ 2 d_Md_numberAt_91 (by decide) rfl (by decide) rfl ?_
                  refine wk_goto (pc := 94) (tgt := 38) S_ d_Md_numberAt_94 (by decide) ?_
                  refine wk_lv [2, 1, 0] ?_ (ih38 (q - 1) (k + 1) (0) (by omega) (by omega) (Or.inl rfl) (by rw [← hE]; obtain ⟨r, rfl⟩ : ∃ r, q = r + 1 := ⟨q - 1, by omega⟩; rw [nuS, if_neg h47, if_neg (by omega)]; exact nuS_0 tx _ _))
                  rfl
                · -- on
                  refine wk_bipush (pc := 72) (v := (nI (10))) S_ d_Md_numberAt_72 (by decide) ?_
                  refine wk_iload_n (pc := 74) S_ 1 d_Md_numberAt_74 rfl rfl ?_
                  refine wk_top (y := (nI (v - 1))) (zI_p h47) ?_
                  refine wk_imulN (pc := 75) S_ d_Md_numberAt_75 ?_
                  refine wk_aload_n (pc := 76) S_ 0 d_Md_numberAt_76 rfl rfl ?_
                  refine wk_get (pc := 77) (v := .ref (m 1)) S_ 6 0 0 in_Md rfl (by decide) rfl fl_Md_7 d_Md_numberAt_77 rfl rfl ?_
                  refine wk_iload_n (pc := 80) S_ 2 d_Md_numberAt_80 rfl rfl ?_
                  refine wk_ialdN (pc := 81) (g := tx) S_ 1 0 d_Md_numberAt_81 rfl rfl (by omega) (by decide) ?_
                  refine wk_iaddN (pc := 82) S_ d_Md_numberAt_82 ?_
                  refine wk_bipush (pc := 83) (v := (nI (48))) S_ d_Md_numberAt_83 (by decide) ?_
                  refine wk_isubN (pc := 85) S_ d_Md_numberAt_85 (by omega) ?_
                  refine wk_goto (pc := 86) (tgt := 90) S_ d_Md_numberAt_86 (by decide) ?_
                  refine wk_top (y := (zI (10 * (v - 1) + (tx k - 48) + 1))) (by rw [zI_s]; congr 1; omega) ?_
                  refine wk_istore_n (pc := 90) (lv' := [(1, .int (zI (10 * (v - 1) + (tx k - 48) + 1))), (0, .ref (m 0)), (2, .int (nI (k)))]) S_ d_Md_numberAt_90 rfl (by decide) rfl ?_
                  refine wk_iincN (pc := 91) (d := 1) (lv' := [(2, .int (nI (k + 1))), (1, .int (zI (10 * (v - 1) + (tx k - 48) + 1))), (0, .ref (m 0))]) S_ 2 d_Md_numberAt_91 (by decide) rfl (by decide) rfl ?_
                  refine wk_goto (pc := 94) (tgt := 38) S_ d_Md_numberAt_94 (by decide) ?_
                  refine wk_lv [2, 1, 0] ?_ (ih38 (q - 1) (k + 1) (10 * (v - 1) + (tx k - 48) + 1) (by omega) (by omega) (by rcases hv with z | ⟨z1, z2⟩; exact absurd z h47; refine Or.inr ⟨by omega, ?_⟩; have e : 10 ^ (6 - (q - 1)) = 10 ^ (6 - q) * 10 := by { rw [← Nat.pow_succ]; congr 1; omega }; rw [e]; omega) (by rw [← hE]; obtain ⟨r, rfl⟩ : ∃ r, q = r + 1 := ⟨q - 1, by omega⟩; rw [nuS, if_neg h47, if_pos ⟨by omega, by omega⟩]; rfl))
                  rfl
      refine wk_lv [2, 1, 0] ?_ (hL38 _ (en - fm) (fm) (1) (Nat.lt_succ_self _) (by omega) (Or.inr ⟨by omega, Nat.pow_pos (by decide)⟩) (by rw [nuN, if_pos (by omega)]))
      rfl
set_option maxHeartbeats 4000000 in
set_option maxRecDepth 100000 in
theorem c_Md_sentence (l : Launch) (D : va_G) (cI : CiT) (z : GzT) (m : Nat → Nat) (tx : (Nat → Nat)) (sz : Nat) (ap : (Nat → Bool)) (pt : (Nat → Nat)) (rk : (Nat → Nat)) (cd : (Nat → Nat)) (fr : Nat) (mc : (Nat → Nat)) (mg : (Nat → Nat)) (mz : (Nat → Nat)) (nc : (Nat → Nat)) (nt : (Nat → Nat)) (ld : (Nat → Nat)) (qap : (Nat → Bool)) (qpt : (Nat → Nat)) (qrk : (Nat → Nat)) (qcd : (Nat → Nat)) (qfr : Nat) (qmc : (Nat → Nat)) (qmg : (Nat → Nat)) (qmz : (Nat → Nat)) (qnc : (Nat → Nat)) (qnt : (Nat → Nat)) (qld : (Nat → Nat)) (nb : Nat) (cl : (Nat → Nat)) (gr : (Nat → Nat)) (sp : (Nat → Nat)) (ot : (Nat → Bool)) (na : Nat) (aw : (Nat → Nat)) (nx : Nat) (bg : (Nat → Nat)) (bb : (Nat → Nat)) (ab : (Nat → Nat)) (fd : Bool) (pv : Bool) (bx : (Nat → Nat)) (wy : (Nat → Nat)) (li : (Nat → Nat)) (fm : Nat) (en : Nat) (nu : Nat) (td : (Nat → Nat)) (lf : Int32) (lk : Int32) (hfe : fm ≤ en ∧ en ≤ 1500) (htx : ∀ i, tx i < 256) : wk_C l D (tyK cI) (gX z) y_Md_sentence b_Md_sentence 1 (some .int) 1 26 0 0 [.ref (m 0)] (wMd m cI tx sz ap pt rk cd fr mc mg mz nc nt ld qap qpt qrk qcd qfr qmc qmg qmz qnc qnt qld nb cl gr sp ot na aw nx bg bb ab fd pv bx wy li fm en nu td lf lk) wk_i (fun (r : Int32) (_ : Unit) => r = (zI (kdS tx fm en 9 0))) (fun _ => (wMd m cI tx sz ap pt rk cd fr mc mg mz nc nt ld qap qpt qrk qcd qfr qmc qmg qmz qnc qnt qld nb cl gr sp ot na aw nx bg bb ab fd pv bx wy li fm en nu td lf lk)) := by
  refine wk_methI (own := R_Md) [(0, .ref (m 0))] (by decide) rfl (Nat.le_of_ble_eq_true rfl) rfl (gX_ok z) (fun p_ e_ R_ s_ m_ ar_ be_ me_ co_ Q_ A_ hR_ S_ hnm_ hQ_ => ?_)
  refine wk_aload_n (pc := 0) S_ 0 d_Md_sentence_0 rfl rfl ?_
  refine wk_ldc2 (pc := 1) (v := (lN (418497262196))) S_ kc_Md_152 d_Md_sentence_1 ?_
  refine wk_run (pc := 4) (rest := []) (wr := []) (wN := fun _ => (wMd m cI tx sz ap pt rk cd fr mc mg mz nc nt ld qap qpt qrk qcd qfr qmc qmg qmz qnc qnt qld nb cl gr sp ot na aw nx bg bb ab fd pv bx wy li fm en nu td lf lk)) S_ (wk_rV S_ (c_Md_is l D cI z (m) (tx) (sz) (ap) (pt) (rk) (cd) (fr) (mc) (mg) (mz) (nc) (nt) (ld) (qap) (qpt) (qrk) (qcd) (qfr) (qmc) (qmg) (qmz) (qnc) (qnt) (qld) (nb) (cl) (gr) (sp) (ot) (na) (aw) (nx) (bg) (bb) (ab) (fd) (pv) (bx) (wy) (li) (fm) (en) (nu) (td) (lf) (lk) (ch (kwd 0)) ((kwd 0).length) (kw_lt 0) (by decide) (by decide) htx hfe) mv_Md_154 (wk_rcv S_ 0 6 rfl rfl rfl) rfl rfl (Nat.le_of_ble_eq_true rfl) (by rw [hR_]; decide) (by rw [hR_]; decide) d_Md_sentence_4) [0, 1, 2, 3, 4, 5, 6, 7, 8, 9, 10, 11, 12, 13, 14, 15, 16, 17, 18, 19, 20, 21, 22, 23, 24, 25, 26, 27, 28, 29, 30, 31, 32, 33] [] [0, 1, 2, 3, 4, 5, 6, 7, 8, 9, 10, 11, 12, 13, 14, 15, 16, 17, 18, 19, 20, 21, 22, 23, 24, 25, 26, 27, 28, 29, 30, 31, 32, 33] rfl rfl rfl (by decide) (by decide) (by decide) (by decide) (fun _ => rfl) (fun _ => rfl) (fun r4 _ hw4 => ?_)
  refine wk_st (st' := [.int (r4)]) rfl ?_
  refine wk_top (y := (bI (wIs (tx) (fm) (en) (ch (kwd 0)) ((kwd 0).length)))) hw4 ?_
  refine wk_top (y := (bI (kwI tx fm en 0))) rfl ?_
  refine wk_if_eqB (pc := 7) (tgt := 12) S_ d_Md_sentence_7 (by decide) (fun h7 => ?_) (fun h7 => ?_)
  · -- taken
    refine wk_aload_n (pc := 12) S_ 0 d_Md_sentence_12 rfl rfl ?_
    refine wk_ldc2 (pc := 13) (v := (lN (123623812527219))) S_ kc_Md_158 d_Md_sentence_13 ?_
    refine wk_run (pc := 16) (rest := []) (wr := []) (wN := fun _ => (wMd m cI tx sz ap pt rk cd fr mc mg mz nc nt ld qap qpt qrk qcd qfr qmc qmg qmz qnc qnt qld nb cl gr sp ot na aw nx bg bb ab fd pv bx wy li fm en nu td lf lk)) S_ (wk_rV S_ (c_Md_is l D cI z (m) (tx) (sz) (ap) (pt) (rk) (cd) (fr) (mc) (mg) (mz) (nc) (nt) (ld) (qap) (qpt) (qrk) (qcd) (qfr) (qmc) (qmg) (qmz) (qnc) (qnt) (qld) (nb) (cl) (gr) (sp) (ot) (na) (aw) (nx) (bg) (bb) (ab) (fd) (pv) (bx) (wy) (li) (fm) (en) (nu) (td) (lf) (lk) (ch (kwd 1)) ((kwd 1).length) (kw_lt 1) (by decide) (by decide) htx hfe) mv_Md_154 (wk_rcv S_ 0 6 rfl rfl rfl) rfl rfl (Nat.le_of_ble_eq_true rfl) (by rw [hR_]; decide) (by rw [hR_]; decide) d_Md_sentence_16) [0, 1, 2, 3, 4, 5, 6, 7, 8, 9, 10, 11, 12, 13, 14, 15, 16, 17, 18, 19, 20, 21, 22, 23, 24, 25, 26, 27, 28, 29, 30, 31, 32, 33] [] [0, 1, 2, 3, 4, 5, 6, 7, 8, 9, 10, 11, 12, 13, 14, 15, 16, 17, 18, 19, 20, 21, 22, 23, 24, 25, 26, 27, 28, 29, 30, 31, 32, 33] rfl rfl rfl (by decide) (by decide) (by decide) (by decide) (fun _ => rfl) (fun _ => rfl) (fun r16 _ hw16 => ?_)
    refine wk_st (st' := [.int (r16)]) rfl ?_
    refine wk_top (y := (bI (wIs (tx) (fm) (en) (ch (kwd 1)) ((kwd 1).length)))) hw16 ?_
    refine wk_top (y := (bI (kwI tx fm en 1))) rfl ?_
    refine wk_if_eqB (pc := 19) (tgt := 24) S_ d_Md_sentence_19 (by decide) (fun h19 => ?_) (fun h19 => ?_)
    · -- taken
      refine wk_aload_n (pc := 24) S_ 0 d_Md_sentence_24 rfl rfl ?_
      refine wk_ldc2 (pc := 25) (v := (lN (1918987883))) S_ kc_Md_160 d_Md_sentence_25 ?_
      refine wk_run (pc := 28) (rest := []) (wr := []) (wN := fun _ => (wMd m cI tx sz ap pt rk cd fr mc mg mz nc nt ld qap qpt qrk qcd qfr qmc qmg qmz qnc qnt qld nb cl gr sp ot na aw nx bg bb ab fd pv bx wy li fm en nu td lf lk)) S_ (wk_rV S_ (c_Md_is l D cI z (m) (tx) (sz) (ap) (pt) (rk) (cd) (fr) (mc) (mg) (mz) (nc) (nt) (ld) (qap) (qpt) (qrk) (qcd) (qfr) (qmc) (qmg) (qmz) (qnc) (qnt) (qld) (nb) (cl) (gr) (sp) (ot) (na) (aw) (nx) (bg) (bb) (ab) (fd) (pv) (bx) (wy) (li) (fm) (en) (nu) (td) (lf) (lk) (ch (kwd 2)) ((kwd 2).length) (kw_lt 2) (by decide) (by decide) htx hfe) mv_Md_154 (wk_rcv S_ 0 6 rfl rfl rfl) rfl rfl (Nat.le_of_ble_eq_true rfl) (by rw [hR_]; decide) (by rw [hR_]; decide) d_Md_sentence_28) [0, 1, 2, 3, 4, 5, 6, 7, 8, 9, 10, 11, 12, 13, 14, 15, 16, 17, 18, 19, 20, 21, 22, 23, 24, 25, 26, 27, 28, 29, 30, 31, 32, 33] [] [0, 1, 2, 3, 4, 5, 6, 7, 8, 9, 10, 11, 12, 13, 14, 15, 16, 17, 18, 19, 20, 21, 22, 23, 24, 25, 26, 27, 28, 29, 30, 31, 32, 33] rfl rfl rfl (by decide) (by decide) (by decide) (by decide) (fun _ => rfl) (fun _ => rfl) (fun r28 _ hw28 => ?_)
      refine wk_st (st' := [.int (r28)]) rfl ?_
      refine wk_top (y := (bI (wIs (tx) (fm) (en) (ch (kwd 2)) ((kwd 2).length)))) hw28 ?_
      refine wk_top (y := (bI (kwI tx fm en 2))) rfl ?_
      refine wk_if_eqB (pc := 31) (tgt := 36) S_ d_Md_sentence_31 (by decide) (fun h31 => ?_) (fun h31 => ?_)
      · -- taken
        refine wk_aload_n (pc := 36) S_ 0 d_Md_sentence_36 rfl rfl ?_
        refine wk_ldc2 (pc := 37) (v := (lN (1718773093))) S_ kc_Md_162 d_Md_sentence_37 ?_
        refine wk_run (pc := 40) (rest := []) (wr := []) (wN := fun _ => (wMd m cI tx sz ap pt rk cd fr mc mg mz nc nt ld qap qpt qrk qcd qfr qmc qmg qmz qnc qnt qld nb cl gr sp ot na aw nx bg bb ab fd pv bx wy li fm en nu td lf lk)) S_ (wk_rV S_ (c_Md_is l D cI z (m) (tx) (sz) (ap) (pt) (rk) (cd) (fr) (mc) (mg) (mz) (nc) (nt) (ld) (qap) (qpt) (qrk) (qcd) (qfr) (qmc) (qmg) (qmz) (qnc) (qnt) (qld) (nb) (cl) (gr) (sp) (ot) (na) (aw) (nx) (bg) (bb) (ab) (fd) (pv) (bx) (wy) (li) (fm) (en) (nu) (td) (lf) (lk) (ch (kwd 3)) ((kwd 3).length) (kw_lt 3) (by decide) (by decide) htx hfe) mv_Md_154 (wk_rcv S_ 0 6 rfl rfl rfl) rfl rfl (Nat.le_of_ble_eq_true rfl) (by rw [hR_]; decide) (by rw [hR_]; decide) d_Md_sentence_40) [0, 1, 2, 3, 4, 5, 6, 7, 8, 9, 10, 11, 12, 13, 14, 15, 16, 17, 18, 19, 20, 21, 22, 23, 24, 25, 26, 27, 28, 29, 30, 31, 32, 33] [] [0, 1, 2, 3, 4, 5, 6, 7, 8, 9, 10, 11, 12, 13, 14, 15, 16, 17, 18, 19, 20, 21, 22, 23, 24, 25, 26, 27, 28, 29, 30, 31, 32, 33] rfl rfl rfl (by decide) (by decide) (by decide) (by decide) (fun _ => rfl) (fun _ => rfl) (fun r40 _ hw40 => ?_)
        refine wk_st (st' := [.int (r40)]) rfl ?_
        refine wk_top (y := (bI (wIs (tx) (fm) (en) (ch (kwd 3)) ((kwd 3).length)))) hw40 ?_
        refine wk_top (y := (bI (kwI tx fm en 3))) rfl ?_
        refine wk_if_eqB (pc := 43) (tgt := 48) S_ d_Md_sentence_43 (by decide) (fun h43 => ?_) (fun h43 => ?_)
        · -- taken
          refine wk_aload_n (pc := 48) S_ 0 d_Md_sentence_48 rfl rfl ?_
          refine wk_ldc2 (pc := 49) (v := (lN (1835102827))) S_ kc_Md_164 d_Md_sentence_49 ?_
          refine wk_run (pc := 52) (rest := []) (wr := []) (wN := fun _ => (wMd m cI tx sz ap pt rk cd fr mc mg mz nc nt ld qap qpt qrk qcd qfr qmc qmg qmz qnc qnt qld nb cl gr sp ot na aw nx bg bb ab fd pv bx wy li fm en nu td lf lk)) S_ (wk_rV S_ (c_Md_is l D cI z (m) (tx) (sz) (ap) (pt) (rk) (cd) (fr) (mc) (mg) (mz) (nc) (nt) (ld) (qap) (qpt) (qrk) (qcd) (qfr) (qmc) (qmg) (qmz) (qnc) (qnt) (qld) (nb) (cl) (gr) (sp) (ot) (na) (aw) (nx) (bg) (bb) (ab) (fd) (pv) (bx) (wy) (li) (fm) (en) (nu) (td) (lf) (lk) (ch (kwd 4)) ((kwd 4).length) (kw_lt 4) (by decide) (by decide) htx hfe) mv_Md_154 (wk_rcv S_ 0 6 rfl rfl rfl) rfl rfl (Nat.le_of_ble_eq_true rfl) (by rw [hR_]; decide) (by rw [hR_]; decide) d_Md_sentence_52) [0, 1, 2, 3, 4, 5, 6, 7, 8, 9, 10, 11, 12, 13, 14, 15, 16, 17, 18, 19, 20, 21, 22, 23, 24, 25, 26, 27, 28, 29, 30, 31, 32, 33] [] [0, 1, 2, 3, 4, 5, 6, 7, 8, 9, 10, 11, 12, 13, 14, 15, 16, 17, 18, 19, 20, 21, 22, 23, 24, 25, 26, 27, 28, 29, 30, 31, 32, 33] rfl rfl rfl (by decide) (by decide) (by decide) (by decide) (fun _ => rfl) (fun _ => rfl) (fun r52 _ hw52 => ?_)
          refine wk_st (st' := [.int (r52)]) rfl ?_
          refine wk_top (y := (bI (wIs (tx) (fm) (en) (ch (kwd 4)) ((kwd 4).length)))) hw52 ?_
          refine wk_top (y := (bI (kwI tx fm en 4))) rfl ?_
          refine wk_if_eqB (pc := 55) (tgt := 60) S_ d_Md_sentence_55 (by decide) (fun h55 => ?_) (fun h55 => ?_)
          · -- taken
            refine wk_aload_n (pc := 60) S_ 0 d_Md_sentence_60 rfl rfl ?_
            refine wk_ldc2 (pc := 61) (v := (lN (128047712724332))) S_ kc_Md_166 d_Md_sentence_61 ?_
            refine wk_run (pc := 64) (rest := []) (wr := []) (wN := fun _ => (wMd m cI tx sz ap pt rk cd fr mc mg mz nc nt ld qap qpt qrk qcd qfr qmc qmg qmz qnc qnt qld nb cl gr sp ot na aw nx bg bb ab fd pv bx wy li fm en nu td lf lk)) S_ (wk_rV S_ (c_Md_is l D cI z (m) (tx) (sz) (ap) (pt) (rk) (cd) (fr) (mc) (mg) (mz) (nc) (nt) (ld) (qap) (qpt) (qrk) (qcd) (qfr) (qmc) (qmg) (qmz) (qnc) (qnt) (qld) (nb) (cl) (gr) (sp) (ot) (na) (aw) (nx) (bg) (bb) (ab) (fd) (pv) (bx) (wy) (li) (fm) (en) (nu) (td) (lf) (lk) (ch (kwd 5)) ((kwd 5).length) (kw_lt 5) (by decide) (by decide) htx hfe) mv_Md_154 (wk_rcv S_ 0 6 rfl rfl rfl) rfl rfl (Nat.le_of_ble_eq_true rfl) (by rw [hR_]; decide) (by rw [hR_]; decide) d_Md_sentence_64) [0, 1, 2, 3, 4, 5, 6, 7, 8, 9, 10, 11, 12, 13, 14, 15, 16, 17, 18, 19, 20, 21, 22, 23, 24, 25, 26, 27, 28, 29, 30, 31, 32, 33] [] [0, 1, 2, 3, 4, 5, 6, 7, 8, 9, 10, 11, 12, 13, 14, 15, 16, 17, 18, 19, 20, 21, 22, 23, 24, 25, 26, 27, 28, 29, 30, 31, 32, 33] rfl rfl rfl (by decide) (by decide) (by decide) (by decide) (fun _ => rfl) (fun _ => rfl) (fun r64 _ hw64 => ?_)
            refine wk_st (st' := [.int (r64)]) rfl ?_
            refine wk_top (y := (bI (wIs (tx) (fm) (en) (ch (kwd 5)) ((kwd 5).length)))) hw64 ?_
            refine wk_top (y := (bI (kwI tx fm en 5))) rfl ?_
            refine wk_if_eqB (pc := 67) (tgt := 72) S_ d_Md_sentence_67 (by decide) (fun h67 => ?_) (fun h67 => ?_)
            · -- taken
              refine wk_aload_n (pc := 72) S_ 0 d_Md_sentence_72 rfl rfl ?_
              refine wk_ldc2 (pc := 73) (v := (lN (1852798053))) S_ kc_Md_168 d_Md_sentence_73 ?_
              refine wk_run (pc := 76) (rest := []) (wr := []) (wN := fun _ => (wMd m cI tx sz ap pt rk cd fr mc mg mz nc nt ld qap qpt qrk qcd qfr qmc qmg qmz qnc qnt qld nb cl gr sp ot na aw nx bg bb ab fd pv bx wy li fm en nu td lf lk)) S_ (wk_rV S_ (c_Md_is l D cI z (m) (tx) (sz) (ap) (pt) (rk) (cd) (fr) (mc) (mg) (mz) (nc) (nt) (ld) (qap) (qpt) (qrk) (qcd) (qfr) (qmc) (qmg) (qmz) (qnc) (qnt) (qld) (nb) (cl) (gr) (sp) (ot) (na) (aw) (nx) (bg) (bb) (ab) (fd) (pv) (bx) (wy) (li) (fm) (en) (nu) (td) (lf) (lk) (ch (kwd 6)) ((kwd 6).length) (kw_lt 6) (by decide) (by decide) htx hfe) mv_Md_154 (wk_rcv S_ 0 6 rfl rfl rfl) rfl rfl (Nat.le_of_ble_eq_true rfl) (by rw [hR_]; decide) (by rw [hR_]; decide) d_Md_sentence_76) [0, 1, 2, 3, 4, 5, 6, 7, 8, 9, 10, 11, 12, 13, 14, 15, 16, 17, 18, 19, 20, 21, 22, 23, 24, 25, 26, 27, 28, 29, 30, 31, 32, 33] [] [0, 1, 2, 3, 4, 5, 6, 7, 8, 9, 10, 11, 12, 13, 14, 15, 16, 17, 18, 19, 20, 21, 22, 23, 24, 25, 26, 27, 28, 29, 30, 31, 32, 33] rfl rfl rfl (by decide) (by decide) (by decide) (by decide) (fun _ => rfl) (fun _ => rfl) (fun r76 _ hw76 => ?_)
              refine wk_st (st' := [.int (r76)]) rfl ?_
              refine wk_top (y := (bI (wIs (tx) (fm) (en) (ch (kwd 6)) ((kwd 6).length)))) hw76 ?_
              refine wk_top (y := (bI (kwI tx fm en 6))) rfl ?_
              refine wk_if_eqB (pc := 79) (tgt := 85) S_ d_Md_sentence_79 (by decide) (fun h79 => ?_) (fun h79 => ?_)
              · -- taken
                refine wk_aload_n (pc := 85) S_ 0 d_Md_sentence_85 rfl rfl ?_
                refine wk_ldc2 (pc := 86) (v := (lN (1937007984))) S_ kc_Md_170 d_Md_sentence_86 ?_
                refine wk_run (pc := 89) (rest := []) (wr := []) (wN := fun _ => (wMd m cI tx sz ap pt rk cd fr mc mg mz nc nt ld qap qpt qrk qcd qfr qmc qmg qmz qnc qnt qld nb cl gr sp ot na aw nx bg bb ab fd pv bx wy li fm en nu td lf lk)) S_ (wk_rV S_ (c_Md_is l D cI z (m) (tx) (sz) (ap) (pt) (rk) (cd) (fr) (mc) (mg) (mz) (nc) (nt) (ld) (qap) (qpt) (qrk) (qcd) (qfr) (qmc) (qmg) (qmz) (qnc) (qnt) (qld) (nb) (cl) (gr) (sp) (ot) (na) (aw) (nx) (bg) (bb) (ab) (fd) (pv) (bx) (wy) (li) (fm) (en) (nu) (td) (lf) (lk) (ch (kwd 7)) ((kwd 7).length) (kw_lt 7) (by decide) (by decide) htx hfe) mv_Md_154 (wk_rcv S_ 0 6 rfl rfl rfl) rfl rfl (Nat.le_of_ble_eq_true rfl) (by rw [hR_]; decide) (by rw [hR_]; decide) d_Md_sentence_89) [0, 1, 2, 3, 4, 5, 6, 7, 8, 9, 10, 11, 12, 13, 14, 15, 16, 17, 18, 19, 20, 21, 22, 23, 24, 25, 26, 27, 28, 29, 30, 31, 32, 33] [] [0, 1, 2, 3, 4, 5, 6, 7, 8, 9, 10, 11, 12, 13, 14, 15, 16, 17, 18, 19, 20, 21, 22, 23, 24, 25, 26, 27, 28, 29, 30, 31, 32, 33] rfl rfl rfl (by decide) (by decide) (by decide) (by decide) (fun _ => rfl) (fun _ => rfl) (fun r89 _ hw89 => ?_)
                refine wk_st (st' := [.int (r89)]) rfl ?_
                refine wk_top (y := (bI (wIs (tx) (fm) (en) (ch (kwd 7)) ((kwd 7).length)))) hw89 ?_
                refine wk_top (y := (bI (kwI tx fm en 7))) rfl ?_
                refine wk_if_eqB (pc := 92) (tgt := 98) S_ d_Md_sentence_92 (by decide) (fun h92 => ?_) (fun h92 => ?_)
                · -- taken
                  refine wk_aload_n (pc := 98) S_ 0 d_Md_sentence_98 rfl rfl ?_
                  refine wk_ldc2 (pc := 99) (v := (lN (427020088179))) S_ kc_Md_172 d_Md_sentence_99 ?_
                  refine wk_run (pc := 102) (rest := []) (wr := []) (wN := fun _ => (wMd m cI tx sz ap pt rk cd fr mc mg mz nc nt ld qap qpt qrk qcd qfr qmc qmg qmz qnc qnt qld nb cl gr sp ot na aw nx bg bb ab fd pv bx wy li fm en nu td lf lk)) S_ (wk_rV S_ (c_Md_is l D cI z (m) (tx) (sz) (ap) (pt) (rk) (cd) (fr) (mc) (mg) (mz) (nc) (nt) (ld) (qap) (qpt) (qrk) (qcd) (qfr) (qmc) (qmg) (qmz) (qnc) (qnt) (qld) (nb) (cl) (gr) (sp) (ot) (na) (aw) (nx) (bg) (bb) (ab) (fd) (pv) (bx) (wy) (li) (fm) (en) (nu) (td) (lf) (lk) (ch (kwd 8)) ((kwd 8).length) (kw_lt 8) (by decide) (by decide) htx hfe) mv_Md_154 (wk_rcv S_ 0 6 rfl rfl rfl) rfl rfl (Nat.le_of_ble_eq_true rfl) (by rw [hR_]; decide) (by rw [hR_]; decide) d_Md_sentence_102) [0, 1, 2, 3, 4, 5, 6, 7, 8, 9, 10, 11, 12, 13, 14, 15, 16, 17, 18, 19, 20, 21, 22, 23, 24, 25, 26, 27, 28, 29, 30, 31, 32, 33] [] [0, 1, 2, 3, 4, 5, 6, 7, 8, 9, 10, 11, 12, 13, 14, 15, 16, 17, 18, 19, 20, 21, 22, 23, 24, 25, 26, 27, 28, 29, 30, 31, 32, 33] rfl rfl rfl (by decide) (by decide) (by decide) (by decide) (fun _ => rfl) (fun _ => rfl) (fun r102 _ hw102 => ?_)
                  refine wk_st (st' := [.int (r102)]) rfl ?_
                  refine wk_top (y := (bI (wIs (tx) (fm) (en) (ch (kwd 8)) ((kwd 8).length)))) hw102 ?_
                  refine wk_top (y := (bI (kwI tx fm en 8))) rfl ?_
                  refine wk_if_eqB (pc := 105) (tgt := 113) S_ d_Md_sentence_105 (by decide) (fun h105 => ?_) (fun h105 => ?_)
                  · -- taken
                    refine wk_iconst (pc := 113) (v := (-1)) S_ d_Md_sentence_113 (by decide) ?_
                    exact hQ_ (-1) () d_Md_sentence_114 rfl (by rw [show kdS tx fm en 9 0 = 0 from by simp [kdS, h7, h19, h31, h43, h55, h67, h79, h92, h105]]; decide)
                  · -- on
                    refine wk_bipush (pc := 108) (v := (nI (8))) S_ d_Md_sentence_108 (by decide) ?_
                    refine wk_goto (pc := 110) (tgt := 114) S_ d_Md_sentence_110 (by decide) ?_
                    exact hQ_ (nI (8)) () d_Md_sentence_114 rfl (by rw [show kdS tx fm en 9 0 = 9 from by simp [kdS, h7, h19, h31, h43, h55, h67, h79, h92, h105]]; decide)
                · -- on
                  refine wk_bipush (pc := 95) (v := (nI (7))) S_ d_Md_sentence_95 (by decide) ?_
                  exact hQ_ (nI (7)) () d_Md_sentence_97 rfl (by rw [show kdS tx fm en 9 0 = 8 from by simp [kdS, h7, h19, h31, h43, h55, h67, h79, h92]]; decide)
              · -- on
                refine wk_bipush (pc := 82) (v := (nI (6))) S_ d_Md_sentence_82 (by decide) ?_
                exact hQ_ (nI (6)) () d_Md_sentence_84 rfl (by rw [show kdS tx fm en 9 0 = 7 from by simp [kdS, h7, h19, h31, h43, h55, h67, h79]]; decide)
            · -- on
              refine wk_iconst (pc := 70) (v := (nI (5))) S_ d_Md_sentence_70 (by decide) ?_
              exact hQ_ (nI (5)) () d_Md_sentence_71 rfl (by rw [show kdS tx fm en 9 0 = 6 from by simp [kdS, h7, h19, h31, h43, h55, h67]]; decide)
          · -- on
            refine wk_iconst (pc := 58) (v := (nI (4))) S_ d_Md_sentence_58 (by decide) ?_
            exact hQ_ (nI (4)) () d_Md_sentence_59 rfl (by rw [show kdS tx fm en 9 0 = 5 from by simp [kdS, h7, h19, h31, h43, h55]]; decide)
        · -- on
          refine wk_iconst (pc := 46) (v := (nI (3))) S_ d_Md_sentence_46 (by decide) ?_
          exact hQ_ (nI (3)) () d_Md_sentence_47 rfl (by rw [show kdS tx fm en 9 0 = 4 from by simp [kdS, h7, h19, h31, h43]]; decide)
      · -- on
        refine wk_iconst (pc := 34) (v := (nI (2))) S_ d_Md_sentence_34 (by decide) ?_
        exact hQ_ (nI (2)) () d_Md_sentence_35 rfl (by rw [show kdS tx fm en 9 0 = 3 from by simp [kdS, h7, h19, h31]]; decide)
    · -- on
      refine wk_iconst (pc := 22) (v := (nI (1))) S_ d_Md_sentence_22 (by decide) ?_
      exact hQ_ (nI (1)) () d_Md_sentence_23 rfl (by rw [show kdS tx fm en 9 0 = 2 from by simp [kdS, h7, h19]]; decide)
  · -- on
    refine wk_iconst (pc := 10) (v := (nI (0))) S_ d_Md_sentence_10 (by decide) ?_
    exact hQ_ (nI (0)) () d_Md_sentence_11 rfl (by rw [show kdS tx fm en 9 0 = 1 from by simp [kdS, h7]]; decide)
set_option maxHeartbeats 4000000 in
set_option maxRecDepth 100000 in
theorem c_Md_parts (l : Launch) (D : va_G) (cI : CiT) (z : GzT) (x : Nat) (hx : x < 9) : wk_C l D (tyK cI) (gX z) y_Md_parts b_Md_parts 1 (some .int) 0 0 0 0 [.int (nI (x))] [] wk_i (fun (r : Int32) (_ : Unit) => r = (nI (ptsK x))) (fun _ => []) := by
  refine wk_methI (own := R_Md) [(0, .int (nI (x)))] (by decide) rfl (Nat.le_of_ble_eq_true rfl) rfl (gX_ok z) (fun p_ e_ R_ s_ m_ ar_ be_ me_ co_ Q_ A_ hR_ S_ hnm_ hQ_ => ?_)
  refine wk_iload_n (pc := 0) S_ 0 d_Md_parts_0 rfl rfl ?_
  refine wk_iconst (pc := 1) (v := (nI (3))) S_ d_Md_parts_1 (by decide) ?_
  refine wk_icmp_neN (pc := 2) (tgt := 9) S_ d_Md_parts_2 (by decide) (by omega) (by omega) (fun h2 => ?_) (fun h2 => ?_)
  · -- taken
    refine wk_iload_n (pc := 9) S_ 0 d_Md_parts_9 rfl rfl ?_
    refine wk_iconst (pc := 10) (v := (nI (4))) S_ d_Md_parts_10 (by decide) ?_
    refine wk_icmp_eqN (pc := 11) (tgt := 20) S_ d_Md_parts_11 (by decide) (by omega) (by omega) (fun h11 => ?_) (fun h11 => ?_)
    · -- taken
      refine wk_iconst (pc := 20) (v := (nI (3))) S_ d_Md_parts_20 (by decide) ?_
      refine wk_goto (pc := 21) (tgt := 25) S_ d_Md_parts_21 (by decide) ?_
      exact hQ_ (nI (3)) () d_Md_parts_25 rfl (congrArg nI (by unfold ptsK; (repeat' split) <;> omega))
    · -- on
      refine wk_iload_n (pc := 14) S_ 0 d_Md_parts_14 rfl rfl ?_
      refine wk_bipush (pc := 15) (v := (nI (6))) S_ d_Md_parts_15 (by decide) ?_
      refine wk_icmp_leN (pc := 17) (tgt := 24) S_ d_Md_parts_17 (by decide) (by omega) (by omega) (fun h17 => ?_) (fun h17 => ?_)
      · -- taken
        refine wk_iconst (pc := 24) (v := (nI (2))) S_ d_Md_parts_24 (by decide) ?_
        exact hQ_ (nI (2)) () d_Md_parts_25 rfl (congrArg nI (by unfold ptsK; (repeat' split) <;> omega))
      · -- on
        refine wk_iconst (pc := 20) (v := (nI (3))) S_ d_Md_parts_20 (by decide) ?_
        refine wk_goto (pc := 21) (tgt := 25) S_ d_Md_parts_21 (by decide) ?_
        exact hQ_ (nI (3)) () d_Md_parts_25 rfl (congrArg nI (by unfold ptsK; (repeat' split) <;> omega))
  · -- on
    refine wk_iconst (pc := 5) (v := (nI (1))) S_ d_Md_parts_5 (by decide) ?_
    refine wk_goto (pc := 6) (tgt := 25) S_ d_Md_parts_6 (by decide) ?_
    exact hQ_ (nI (1)) () d_Md_parts_25 rfl (congrArg nI (by unfold ptsK; (repeat' split) <;> omega))
set_option maxHeartbeats 4000000 in
set_option maxRecDepth 100000 in
theorem c_Md_least (l : Launch) (D : va_G) (cI : CiT) (z : GzT) (x : Nat) (y : Nat) (hx : x < 9) (hy : y < 3) : wk_C l D (tyK cI) (gX z) y_Md_least b_Md_least 2 (some .int) 0 0 0 0 [.int (nI (x)), .int (nI (y))] [] wk_i (fun (r : Int32) (_ : Unit) => r = (nI (lsK x y))) (fun _ => []) := by
  refine wk_methI (own := R_Md) [(0, .int (nI (x))), (1, .int (nI (y)))] (by decide) rfl (Nat.le_of_ble_eq_true rfl) rfl (gX_ok z) (fun p_ e_ R_ s_ m_ ar_ be_ me_ co_ Q_ A_ hR_ S_ hnm_ hQ_ => ?_)
  refine wk_iload_n (pc := 0) S_ 0 d_Md_least_0 rfl rfl ?_
  refine wk_iconst (pc := 1) (v := (nI (4))) S_ d_Md_least_1 (by decide) ?_
  refine wk_icmp_neN (pc := 2) (tgt := 10) S_ d_Md_least_2 (by decide) (by omega) (by omega) (fun h2 => ?_) (fun h2 => ?_)
  · -- taken
    refine wk_iload_n (pc := 10) S_ 0 d_Md_least_10 rfl rfl ?_
    refine wk_iconst (pc := 11) (v := (nI (5))) S_ d_Md_least_11 (by decide) ?_
    refine wk_icmp_neN (pc := 12) (tgt := 24) S_ d_Md_least_12 (by decide) (by omega) (by omega) (fun h12 => ?_) (fun h12 => ?_)
    · -- taken
      refine wk_iconst (pc := 24) (v := (nI (0))) S_ d_Md_least_24 (by decide) ?_
      exact hQ_ (nI (0)) () d_Md_least_25 rfl (congrArg nI (by unfold lsK; (repeat' split) <;> omega))
    · -- on
      refine wk_iload_n (pc := 15) S_ 1 d_Md_least_15 rfl rfl ?_
      refine wk_iconst (pc := 16) (v := (nI (1))) S_ d_Md_least_16 (by decide) ?_
      refine wk_icmp_neN (pc := 17) (tgt := 24) S_ d_Md_least_17 (by decide) (by omega) (by omega) (fun h17 => ?_) (fun h17 => ?_)
      · -- taken
        refine wk_iconst (pc := 24) (v := (nI (0))) S_ d_Md_least_24 (by decide) ?_
        exact hQ_ (nI (0)) () d_Md_least_25 rfl (congrArg nI (by unfold lsK; (repeat' split) <;> omega))
      · -- on
        refine wk_iconst (pc := 20) (v := (nI (1))) S_ d_Md_least_20 (by decide) ?_
        refine wk_goto (pc := 21) (tgt := 25) S_ d_Md_least_21 (by decide) ?_
        exact hQ_ (nI (1)) () d_Md_least_25 rfl (congrArg nI (by unfold lsK; (repeat' split) <;> omega))
  · -- on
    refine wk_iload_n (pc := 5) S_ 1 d_Md_least_5 rfl rfl ?_
    refine wk_iconst (pc := 6) (v := (nI (2))) S_ d_Md_least_6 (by decide) ?_
    refine wk_icmp_eqN (pc := 7) (tgt := 20) S_ d_Md_least_7 (by decide) (by omega) (by omega) (fun h7 => ?_) (fun h7 => ?_)
    · -- taken
      refine wk_iconst (pc := 20) (v := (nI (1))) S_ d_Md_least_20 (by decide) ?_
      refine wk_goto (pc := 21) (tgt := 25) S_ d_Md_least_21 (by decide) ?_
      exact hQ_ (nI (1)) () d_Md_least_25 rfl (congrArg nI (by unfold lsK; (repeat' split) <;> omega))
    · -- on
      refine wk_iload_n (pc := 10) S_ 0 d_Md_least_10 rfl rfl ?_
      refine wk_iconst (pc := 11) (v := (nI (5))) S_ d_Md_least_11 (by decide) ?_
      refine wk_icmp_neN (pc := 12) (tgt := 24) S_ d_Md_least_12 (by decide) (by omega) (by omega) (fun h12 => ?_) (fun h12 => ?_)
      · -- taken
        refine wk_iconst (pc := 24) (v := (nI (0))) S_ d_Md_least_24 (by decide) ?_
        exact hQ_ (nI (0)) () d_Md_least_25 rfl (congrArg nI (by unfold lsK; (repeat' split) <;> omega))
      · -- on
        refine wk_iload_n (pc := 15) S_ 1 d_Md_least_15 rfl rfl ?_
        refine wk_iconst (pc := 16) (v := (nI (1))) S_ d_Md_least_16 (by decide) ?_
        refine wk_icmp_neN (pc := 17) (tgt := 24) S_ d_Md_least_17 (by decide) (by omega) (by omega) (fun h17 => ?_) (fun h17 => ?_)
        · -- taken
          refine wk_iconst (pc := 24) (v := (nI (0))) S_ d_Md_least_24 (by decide) ?_
          exact hQ_ (nI (0)) () d_Md_least_25 rfl (congrArg nI (by unfold lsK; (repeat' split) <;> omega))
        · -- on
          refine wk_iconst (pc := 20) (v := (nI (1))) S_ d_Md_least_20 (by decide) ?_
          refine wk_goto (pc := 21) (tgt := 25) S_ d_Md_least_21 (by decide) ?_
          exact hQ_ (nI (1)) () d_Md_least_25 rfl (congrArg nI (by unfold lsK; (repeat' split) <;> omega))
set_option maxHeartbeats 4000000 in
set_option maxRecDepth 100000 in
theorem c_Md_greatest (l : Launch) (D : va_G) (cI : CiT) (z : GzT) (x : Nat) (y : Nat) (hx : x < 9) (hy : y < 3) : wk_C l D (tyK cI) (gX z) y_Md_greatest b_Md_greatest 2 (some .int) 0 0 0 0 [.int (nI (x)), .int (nI (y))] [] wk_i (fun (r : Int32) (_ : Unit) => r = (nI (grK x y))) (fun _ => []) := by
  refine wk_methI (own := R_Md) [(0, .int (nI (x))), (1, .int (nI (y)))] (by decide) rfl (Nat.le_of_ble_eq_true rfl) rfl (gX_ok z) (fun p_ e_ R_ s_ m_ ar_ be_ me_ co_ Q_ A_ hR_ S_ hnm_ hQ_ => ?_)
  rcases (show x = 0 ∨ x = 1 ∨ x = 2 ∨ x = 3 ∨ x = 4 ∨ x = 5 ∨ x = 6 ∨ x = 7 ∨ x = 8 by omega) with rfl | rfl | rfl | rfl | rfl | rfl | rfl | rfl | rfl
  · -- 0
    refine wk_iload_n (pc := 0) S_ 0 d_Md_greatest_0 rfl rfl ?_
    refine wk_tblI (pc := 1) (off := 43) (tgt := 44) S_ d_Md_greatest_1 (by decide) (by decide) (by decide) (by decide) ?_
    refine wk_bipush (pc := 44) (v := (nI (8))) S_ d_Md_greatest_44 (by decide) ?_
    exact hQ_ (nI (8)) () d_Md_greatest_46 rfl (congrArg nI (by simp [grK]))
  · -- 1
    refine wk_iload_n (pc := 0) S_ 0 d_Md_greatest_0 rfl rfl ?_
    refine wk_tblI (pc := 1) (off := 46) (tgt := 47) S_ d_Md_greatest_1 (by decide) (by decide) (by decide) (by decide) ?_
    refine wk_iload_n (pc := 47) S_ 1 d_Md_greatest_47 rfl rfl ?_
    refine wk_if_neN (pc := 48) (tgt := 56) S_ d_Md_greatest_48 (by decide) (by omega) (fun h48 => ?_) (fun h48 => ?_)
    · -- taken
      refine wk_sipush (pc := 56) (v := (nI (1000))) S_ d_Md_greatest_56 (by decide) ?_
      exact hQ_ (nI (1000)) () d_Md_greatest_59 rfl (congrArg nI (by simp [grK, h48]))
    · -- on
      refine wk_bipush (pc := 51) (v := (nI (8))) S_ d_Md_greatest_51 (by decide) ?_
      refine wk_goto (pc := 53) (tgt := 59) S_ d_Md_greatest_53 (by decide) ?_
      exact hQ_ (nI (8)) () d_Md_greatest_59 rfl (congrArg nI (by simp [grK, h48]))
  · -- 2
    refine wk_iload_n (pc := 0) S_ 0 d_Md_greatest_0 rfl rfl ?_
    refine wk_tblI (pc := 1) (off := 59) (tgt := 60) S_ d_Md_greatest_1 (by decide) (by decide) (by decide) (by decide) ?_
    refine wk_iload_n (pc := 60) S_ 1 d_Md_greatest_60 rfl rfl ?_
    refine wk_if_neN (pc := 61) (tgt := 69) S_ d_Md_greatest_61 (by decide) (by omega) (fun h61 => ?_) (fun h61 => ?_)
    · -- taken
      refine wk_bipush (pc := 69) (v := (nI (99))) S_ d_Md_greatest_69 (by decide) ?_
      exact hQ_ (nI (99)) () d_Md_greatest_71 rfl (congrArg nI (by simp [grK, h61]))
    · -- on
      refine wk_bipush (pc := 64) (v := (nI (8))) S_ d_Md_greatest_64 (by decide) ?_
      refine wk_goto (pc := 66) (tgt := 71) S_ d_Md_greatest_66 (by decide) ?_
      exact hQ_ (nI (8)) () d_Md_greatest_71 rfl (congrArg nI (by simp [grK, h61]))
  · -- 3
    refine wk_iload_n (pc := 0) S_ 0 d_Md_greatest_0 rfl rfl ?_
    refine wk_tblI (pc := 1) (off := 71) (tgt := 72) S_ d_Md_greatest_1 (by decide) (by decide) (by decide) (by decide) ?_
    refine wk_ldc (pc := 72) (v := (nI (999999))) S_ kc_Md_174 d_Md_greatest_72 ?_
    exact hQ_ (nI (999999)) () d_Md_greatest_74 rfl (congrArg nI (by simp [grK]))
  · -- 4
    refine wk_iload_n (pc := 0) S_ 0 d_Md_greatest_0 rfl rfl ?_
    refine wk_tblI (pc := 1) (off := 74) (tgt := 75) S_ d_Md_greatest_1 (by decide) (by decide) (by decide) (by decide) ?_
    refine wk_iload_n (pc := 75) S_ 1 d_Md_greatest_75 rfl rfl ?_
    refine wk_if_neN (pc := 76) (tgt := 84) S_ d_Md_greatest_76 (by decide) (by omega) (fun h76 => ?_) (fun h76 => ?_)
    · -- taken
      refine wk_iload_n (pc := 84) S_ 1 d_Md_greatest_84 rfl rfl ?_
      refine wk_iconst (pc := 85) (v := (nI (1))) S_ d_Md_greatest_85 (by decide) ?_
      refine wk_icmp_neN (pc := 86) (tgt := 94) S_ d_Md_greatest_86 (by decide) (by omega) (by omega) (fun h86 => ?_) (fun h86 => ?_)
      · -- taken
        refine wk_bipush (pc := 94) (v := (nI (9))) S_ d_Md_greatest_94 (by decide) ?_
        exact hQ_ (nI (9)) () d_Md_greatest_96 rfl (congrArg nI (by simp [grK, h76, h86]))
      · -- on
        refine wk_ldc (pc := 89) (v := (nI (999999))) S_ kc_Md_174 d_Md_greatest_89 ?_
        refine wk_goto (pc := 91) (tgt := 96) S_ d_Md_greatest_91 (by decide) ?_
        exact hQ_ (nI (999999)) () d_Md_greatest_96 rfl (congrArg nI (by simp [grK, h76, h86]))
    · -- on
      refine wk_bipush (pc := 79) (v := (nI (8))) S_ d_Md_greatest_79 (by decide) ?_
      refine wk_goto (pc := 81) (tgt := 96) S_ d_Md_greatest_81 (by decide) ?_
      exact hQ_ (nI (8)) () d_Md_greatest_96 rfl (congrArg nI (by simp [grK, h76]))
  · -- 5
    refine wk_iload_n (pc := 0) S_ 0 d_Md_greatest_0 rfl rfl ?_
    refine wk_tblI (pc := 1) (off := 96) (tgt := 97) S_ d_Md_greatest_1 (by decide) (by decide) (by decide) (by decide) ?_
    refine wk_iload_n (pc := 97) S_ 1 d_Md_greatest_97 rfl rfl ?_
    refine wk_if_neN (pc := 98) (tgt := 106) S_ d_Md_greatest_98 (by decide) (by omega) (fun h98 => ?_) (fun h98 => ?_)
    · -- taken
      refine wk_iconst (pc := 106) (v := (nI (5))) S_ d_Md_greatest_106 (by decide) ?_
      exact hQ_ (nI (5)) () d_Md_greatest_107 rfl (congrArg nI (by simp [grK, h98]))
    · -- on
      refine wk_bipush (pc := 101) (v := (nI (8))) S_ d_Md_greatest_101 (by decide) ?_
      refine wk_goto (pc := 103) (tgt := 107) S_ d_Md_greatest_103 (by decide) ?_
      exact hQ_ (nI (8)) () d_Md_greatest_107 rfl (congrArg nI (by simp [grK, h98]))
  · -- 6
    refine wk_iload_n (pc := 0) S_ 0 d_Md_greatest_0 rfl rfl ?_
    refine wk_tblI (pc := 1) (off := 107) (tgt := 108) S_ d_Md_greatest_1 (by decide) (by decide) (by decide) (by decide) ?_
    refine wk_iload_n (pc := 108) S_ 1 d_Md_greatest_108 rfl rfl ?_
    refine wk_if_neN (pc := 109) (tgt := 116) S_ d_Md_greatest_109 (by decide) (by omega) (fun h109 => ?_) (fun h109 => ?_)
    · -- taken
      refine wk_ldc (pc := 116) (v := (nI (999999))) S_ kc_Md_174 d_Md_greatest_116 ?_
      exact hQ_ (nI (999999)) () d_Md_greatest_118 rfl (congrArg nI (by simp [grK, h109]))
    · -- on
      refine wk_iconst (pc := 112) (v := (nI (3))) S_ d_Md_greatest_112 (by decide) ?_
      refine wk_goto (pc := 113) (tgt := 118) S_ d_Md_greatest_113 (by decide) ?_
      exact hQ_ (nI (3)) () d_Md_greatest_118 rfl (congrArg nI (by simp [grK, h109]))
  · -- 7
    refine wk_iload_n (pc := 0) S_ 0 d_Md_greatest_0 rfl rfl ?_
    refine wk_tblO (pc := 1) (tgt := 119) S_ d_Md_greatest_1 (by decide) (by decide) ?_
    refine wk_iload_n (pc := 119) S_ 1 d_Md_greatest_119 rfl rfl ?_
    refine wk_if_neN (pc := 120) (tgt := 128) S_ d_Md_greatest_120 (by decide) (by omega) (fun h120 => ?_) (fun h120 => ?_)
    · -- taken
      refine wk_iload_n (pc := 128) S_ 1 d_Md_greatest_128 rfl rfl ?_
      refine wk_iconst (pc := 129) (v := (nI (1))) S_ d_Md_greatest_129 (by decide) ?_
      refine wk_icmp_neN (pc := 130) (tgt := 137) S_ d_Md_greatest_130 (by decide) (by omega) (by omega) (fun h130 => ?_) (fun h130 => ?_)
      · -- taken
        refine wk_iload_n (pc := 137) S_ 0 d_Md_greatest_137 rfl rfl ?_
        refine wk_bipush (pc := 138) (v := (nI (7))) S_ d_Md_greatest_138 (by decide) ?_
        refine wk_icmp_neN (pc := 140) (tgt := 148) S_ d_Md_greatest_140 (by decide) (by omega) (by omega) (fun h140 => absurd h140 (by decide)) (fun h140 => ?_)
        refine wk_bipush (pc := 143) (v := (nI (9))) S_ d_Md_greatest_143 (by decide) ?_
        refine wk_goto (pc := 145) (tgt := 150) S_ d_Md_greatest_145 (by decide) ?_
        exact hQ_ (nI (9)) () d_Md_greatest_150 rfl (congrArg nI (by simp [grK, h120, h130]))
      · -- on
        refine wk_iconst (pc := 133) (v := (nI (3))) S_ d_Md_greatest_133 (by decide) ?_
        refine wk_goto (pc := 134) (tgt := 150) S_ d_Md_greatest_134 (by decide) ?_
        exact hQ_ (nI (3)) () d_Md_greatest_150 rfl (congrArg nI (by simp [grK, h120, h130]))
    · -- on
      refine wk_bipush (pc := 123) (v := (nI (9))) S_ d_Md_greatest_123 (by decide) ?_
      refine wk_goto (pc := 125) (tgt := 150) S_ d_Md_greatest_125 (by decide) ?_
      exact hQ_ (nI (9)) () d_Md_greatest_150 rfl (congrArg nI (by simp [grK, h120]))
  · -- 8
    refine wk_iload_n (pc := 0) S_ 0 d_Md_greatest_0 rfl rfl ?_
    refine wk_tblO (pc := 1) (tgt := 119) S_ d_Md_greatest_1 (by decide) (by decide) ?_
    refine wk_iload_n (pc := 119) S_ 1 d_Md_greatest_119 rfl rfl ?_
    refine wk_if_neN (pc := 120) (tgt := 128) S_ d_Md_greatest_120 (by decide) (by omega) (fun h120 => ?_) (fun h120 => ?_)
    · -- taken
      refine wk_iload_n (pc := 128) S_ 1 d_Md_greatest_128 rfl rfl ?_
      refine wk_iconst (pc := 129) (v := (nI (1))) S_ d_Md_greatest_129 (by decide) ?_
      refine wk_icmp_neN (pc := 130) (tgt := 137) S_ d_Md_greatest_130 (by decide) (by omega) (by omega) (fun h130 => ?_) (fun h130 => ?_)
      · -- taken
        refine wk_iload_n (pc := 137) S_ 0 d_Md_greatest_137 rfl rfl ?_
        refine wk_bipush (pc := 138) (v := (nI (7))) S_ d_Md_greatest_138 (by decide) ?_
        refine wk_icmp_neN (pc := 140) (tgt := 148) S_ d_Md_greatest_140 (by decide) (by omega) (by omega) (fun h140 => ?_) (fun h140 => absurd h140 (by decide))
        refine wk_bipush (pc := 148) (v := (nI (8))) S_ d_Md_greatest_148 (by decide) ?_
        exact hQ_ (nI (8)) () d_Md_greatest_150 rfl (congrArg nI (by simp [grK, h120, h130]))
      · -- on
        refine wk_iconst (pc := 133) (v := (nI (3))) S_ d_Md_greatest_133 (by decide) ?_
        refine wk_goto (pc := 134) (tgt := 150) S_ d_Md_greatest_134 (by decide) ?_
        exact hQ_ (nI (3)) () d_Md_greatest_150 rfl (congrArg nI (by simp [grK, h120, h130]))
    · -- on
      refine wk_bipush (pc := 123) (v := (nI (9))) S_ d_Md_greatest_123 (by decide) ?_
      refine wk_goto (pc := 125) (tgt := 150) S_ d_Md_greatest_125 (by decide) ?_
      exact hQ_ (nI (9)) () d_Md_greatest_150 rfl (congrArg nI (by simp [grK, h120]))
set_option maxHeartbeats 4000000 in
set_option maxRecDepth 100000 in
theorem c_Md_markOf (l : Launch) (D : va_G) (cI : CiT) (z : GzT) (m : Nat → Nat) (tx : (Nat → Nat)) (sz : Nat) (ap : (Nat → Bool)) (pt : (Nat → Nat)) (rk : (Nat → Nat)) (cd : (Nat → Nat)) (fr : Nat) (mc : (Nat → Nat)) (mg : (Nat → Nat)) (mz : (Nat → Nat)) (nc : (Nat → Nat)) (nt : (Nat → Nat)) (ld : (Nat → Nat)) (qap : (Nat → Bool)) (qpt : (Nat → Nat)) (qrk : (Nat → Nat)) (qcd : (Nat → Nat)) (qfr : Nat) (qmc : (Nat → Nat)) (qmg : (Nat → Nat)) (qmz : (Nat → Nat)) (qnc : (Nat → Nat)) (qnt : (Nat → Nat)) (qld : (Nat → Nat)) (nb : Nat) (cl : (Nat → Nat)) (gr : (Nat → Nat)) (sp : (Nat → Nat)) (ot : (Nat → Bool)) (na : Nat) (aw : (Nat → Nat)) (nx : Nat) (bg : (Nat → Nat)) (bb : (Nat → Nat)) (ab : (Nat → Nat)) (fd : Bool) (pv : Bool) (bx : (Nat → Nat)) (wy : (Nat → Nat)) (li : (Nat → Nat)) (fm : Nat) (en : Nat) (nu : Nat) (td : (Nat → Nat)) (lf : Int32) (lk : Int32) (c : Nat) (w : Nat) (hc : c < 9) (hw : w < 2 ^ 31) (hmc : ∀ c, qmc c ≤ 6) (hmg : ∀ c, qmg c ≤ 999999) : wk_C l D (tyK cI) (gX z) y_Md_markOf b_Md_markOf 4 (some .int) 0 0 0 0 [.ref (m 0), .int (nI (c)), .int (nI (w))] (wMd m cI tx sz ap pt rk cd fr mc mg mz nc nt ld qap qpt qrk qcd qfr qmc qmg qmz qnc qnt qld nb cl gr sp ot na aw nx bg bb ab fd pv bx wy li fm en nu td lf lk) wk_i (fun (r : Int32) (_ : Unit) => r = (nI (mpS qmg c w (qmc c) 0))) (fun _ => (wMd m cI tx sz ap pt rk cd fr mc mg mz nc nt ld qap qpt qrk qcd qfr qmc qmg qmz qnc qnt qld nb cl gr sp ot na aw nx bg bb ab fd pv bx wy li fm en nu td lf lk)) := by
  refine wk_methI (own := R_Md) [(0, .ref (m 0)), (1, .int (nI (c))), (2, .int (nI (w)))] (by decide) rfl (Nat.le_of_ble_eq_true rfl) rfl (gX_ok z) (fun p_ e_ R_ s_ m_ ar_ be_ me_ co_ Q_ A_ hR_ S_ hnm_ hQ_ => ?_)
  refine wk_iconst (pc := 0) (v := (nI (0))) S_ d_Md_markOf_0 (by decide) ?_
  refine wk_istore_n (pc := 1) (lv' := [(3, .int (nI (0))), (0, .ref (m 0)), (1, .int (nI (c))), (2, .int (nI (w)))]) S_ d_Md_markOf_1 rfl (by decide) rfl ?_
  have hL2 : ∀ (fuel2 : Nat), ∀ (q : Nat) (i : Nat), q < fuel2 → (i + q = qmc c) → (mpS qmg c w q i = mpS qmg c w (qmc c) 0) → wk_G p_ l e_ R_ s_ m_ ar_ be_ me_ co_ Q_ D A_ 4 0 0 (wMd m cI tx sz ap pt rk cd fr mc mg mz nc nt ld qap qpt qrk qcd qfr qmc qmg qmz qnc qnt qld nb cl gr sp ot na aw nx bg bb ab fd pv bx wy li fm en nu td lf lk) 2 [(0, .ref (m 0)), (1, .int (nI (c))), (2, .int (nI (w))), (3, .int (nI (i)))] [] := by
    intro fuel2
    induction fuel2 with
    | zero => intro q i hm; exact absurd hm (Nat.not_lt_zero _)
    | succ fuel2 ih2 =>
      intro q i hm hk hE
      refine wk_iload_n (pc := 2) S_ 3 d_Md_markOf_2 rfl rfl ?_
      refine wk_aload_n (pc := 3) S_ 0 d_Md_markOf_3 rfl rfl ?_
      refine wk_get (pc := 4) (v := .ref (m 16)) S_ 6 18 0 in_Md rfl (by decide) rfl fl_Md_56 d_Md_markOf_4 rfl rfl ?_
      refine wk_iload_n (pc := 7) S_ 1 d_Md_markOf_7 rfl rfl ?_
      refine wk_ialdN (pc := 8) (g := qmc) S_ 16 0 d_Md_markOf_8 rfl rfl (by omega) (by decide) ?_
      have hm1 := hmc c
      refine wk_icmp_geN (pc := 9) (tgt := 33) S_ d_Md_markOf_9 (by decide) (by omega) (by omega) (fun h9 => ?_) (fun h9 => ?_)
      · -- taken
        refine wk_iload_n (pc := 33) S_ 3 d_Md_markOf_33 rfl rfl ?_
        exact hQ_ (nI (i)) () d_Md_markOf_34 rfl (congrArg nI (by rw [← hE, show q = 0 by omega]; rfl))
      · -- on
        refine wk_aload_n (pc := 12) S_ 0 d_Md_markOf_12 rfl rfl ?_
        refine wk_get (pc := 13) (v := .ref (m 17)) S_ 6 19 0 in_Md rfl (by decide) rfl fl_Md_59 d_Md_markOf_13 rfl rfl ?_
        refine wk_bipush (pc := 16) (v := (nI (6))) S_ d_Md_markOf_16 (by decide) ?_
        refine wk_iload_n (pc := 18) S_ 1 d_Md_markOf_18 rfl rfl ?_
        refine wk_imulN (pc := 19) S_ d_Md_markOf_19 ?_
        refine wk_iload_n (pc := 20) S_ 3 d_Md_markOf_20 rfl rfl ?_
        refine wk_iaddN (pc := 21) S_ d_Md_markOf_21 ?_
        refine wk_ialdN (pc := 22) (g := qmg) S_ 17 0 d_Md_markOf_22 rfl rfl (by omega) (by decide) ?_
        refine wk_iload_n (pc := 23) S_ 2 d_Md_markOf_23 rfl rfl ?_
        have hm2 := hmg (6 * c + i)
        refine wk_icmp_eqN (pc := 24) (tgt := 33) S_ d_Md_markOf_24 (by decide) (by omega) (by omega) (fun h24 => ?_) (fun h24 => ?_)
        · -- taken
          refine wk_iload_n (pc := 33) S_ 3 d_Md_markOf_33 rfl rfl ?_
          exact hQ_ (nI (i)) () d_Md_markOf_34 rfl (congrArg nI (by rw [← hE]; obtain ⟨r, rfl⟩ : ∃ r, q = r + 1 := ⟨q - 1, by omega⟩; rw [mpS, if_pos h24]))
        · -- on
          refine wk_iincN (pc := 27) (d := 1) (lv' := [(3, .int (nI (i + 1))), (0, .ref (m 0)), (1, .int (nI (c))), (2, .int (nI (w)))]) S_ 3 d_Md_markOf_27 (by decide) rfl (by decide) rfl ?_
          refine wk_goto (pc := 30) (tgt := 2) S_ d_Md_markOf_30 (by decide) ?_
          refine wk_lv [1, 2, 3, 0] ?_ (ih2 (q - 1) (i + 1) (by omega) (by omega) (by rw [← hE]; obtain ⟨r, rfl⟩ : ∃ r, q = r + 1 := ⟨q - 1, by omega⟩; rw [mpS, if_neg h24]; rfl))
          rfl
  refine wk_lv [1, 2, 3, 0] ?_ (hL2 _ (qmc c) (0) (Nat.lt_succ_self _) (by omega) rfl)
  rfl
set_option maxHeartbeats 4000000 in
set_option maxRecDepth 100000 in
theorem c_Md_hasRoom (l : Launch) (D : va_G) (cI : CiT) (z : GzT) (m : Nat → Nat) (tx : (Nat → Nat)) (sz : Nat) (ap : (Nat → Bool)) (pt : (Nat → Nat)) (rk : (Nat → Nat)) (cd : (Nat → Nat)) (fr : Nat) (mc : (Nat → Nat)) (mg : (Nat → Nat)) (mz : (Nat → Nat)) (nc : (Nat → Nat)) (nt : (Nat → Nat)) (ld : (Nat → Nat)) (qap : (Nat → Bool)) (qpt : (Nat → Nat)) (qrk : (Nat → Nat)) (qcd : (Nat → Nat)) (qfr : Nat) (qmc : (Nat → Nat)) (qmg : (Nat → Nat)) (qmz : (Nat → Nat)) (qnc : (Nat → Nat)) (qnt : (Nat → Nat)) (qld : (Nat → Nat)) (nb : Nat) (cl : (Nat → Nat)) (gr : (Nat → Nat)) (sp : (Nat → Nat)) (ot : (Nat → Bool)) (na : Nat) (aw : (Nat → Nat)) (nx : Nat) (bg : (Nat → Nat)) (bb : (Nat → Nat)) (ab : (Nat → Nat)) (fd : Bool) (pv : Bool) (bx : (Nat → Nat)) (wy : (Nat → Nat)) (li : (Nat → Nat)) (fm : Nat) (en : Nat) (nu : Nat) (td : (Nat → Nat)) (lf : Int32) (lk : Int32) (hnc : ∀ c, qnc c ≤ 8) : wk_C l D (tyK cI) (gX z) y_Md_hasRoom b_Md_hasRoom 3 (some .boolean) 0 0 0 0 [.ref (m 0)] (wMd m cI tx sz ap pt rk cd fr mc mg mz nc nt ld qap qpt qrk qcd qfr qmc qmg qmz qnc qnt qld nb cl gr sp ot na aw nx bg bb ab fd pv bx wy li fm en nu td lf lk) wk_i (fun (r : Int32) (_ : Unit) => r = (bI (hrS qnc 4))) (fun _ => (wMd m cI tx sz ap pt rk cd fr mc mg mz nc nt ld qap qpt qrk qcd qfr qmc qmg qmz qnc qnt qld nb cl gr sp ot na aw nx bg bb ab fd pv bx wy li fm en nu td lf lk)) := by
  refine wk_methZ (own := R_Md) [(0, .ref (m 0))] (by decide) rfl (Nat.le_of_ble_eq_true rfl) rfl (gX_ok z) (fun p_ e_ R_ s_ m_ ar_ be_ me_ co_ Q_ A_ hR_ S_ hnm_ hQ_ => ?_)
  refine wk_iconst (pc := 0) (v := (nI (0))) S_ d_Md_hasRoom_0 (by decide) ?_
  refine wk_istore_n (pc := 1) (lv' := [(1, .int (nI (0))), (0, .ref (m 0))]) S_ d_Md_hasRoom_1 rfl (by decide) rfl ?_
  refine wk_iconst (pc := 2) (v := (nI (0))) S_ d_Md_hasRoom_2 (by decide) ?_
  refine wk_istore_n (pc := 3) (lv' := [(2, .int (nI (0))), (1, .int (nI (0))), (0, .ref (m 0))]) S_ d_Md_hasRoom_3 rfl (by decide) rfl ?_
  have hL4 : ∀ (fuel4 : Nat), ∀ (k : Nat), 4 - k < fuel4 → (k ≤ 4) → wk_G p_ l e_ R_ s_ m_ ar_ be_ me_ co_ Q_ D A_ 3 0 0 (wMd m cI tx sz ap pt rk cd fr mc mg mz nc nt ld qap qpt qrk qcd qfr qmc qmg qmz qnc qnt qld nb cl gr sp ot na aw nx bg bb ab fd pv bx wy li fm en nu td lf lk) 4 [(0, .ref (m 0)), (1, .int (bI (hrS qnc k))), (2, .int (nI (k)))] [] := by
    intro fuel4
    induction fuel4 with
    | zero => intro k hm; exact absurd hm (Nat.not_lt_zero _)
    | succ fuel4 ih4 =>
      intro k hm hk
      refine wk_iload_n (pc := 4) S_ 2 d_Md_hasRoom_4 rfl rfl ?_
      refine wk_iconst (pc := 5) (v := (nI (4))) S_ d_Md_hasRoom_5 (by decide) ?_
      refine wk_icmp_geN (pc := 6) (tgt := 36) S_ d_Md_hasRoom_6 (by decide) (by omega) (by omega) (fun h6 => ?_) (fun h6 => ?_)
      · -- taken
        refine wk_iload_n (pc := 36) S_ 1 d_Md_hasRoom_36 rfl rfl ?_
        exact hQ_ (bI (hrS qnc k)) () d_Md_hasRoom_37 (bI_z _) rfl (congrArg bI (by rw [show k = 4 by omega]))
      · -- on
        refine wk_iload_n (pc := 9) S_ 1 d_Md_hasRoom_9 rfl rfl ?_
        refine wk_if_neB (pc := 10) (tgt := 24) S_ d_Md_hasRoom_10 (by decide) (fun h10 => ?_) (fun h10 => ?_)
        · -- taken
          refine wk_iconst (pc := 24) (v := (nI (1))) S_ d_Md_hasRoom_24 (by decide) ?_
          refine wk_goto (pc := 25) (tgt := 29) S_ d_Md_hasRoom_25 (by decide) ?_
          refine wk_top (y := (bI (hrS qnc (k + 1)))) (bI_t (by simp [hrS, h10])) ?_
          refine wk_istore_n (pc := 29) (lv' := [(1, .int (bI (hrS qnc (k + 1)))), (0, .ref (m 0)), (2, .int (nI (k)))]) S_ d_Md_hasRoom_29 rfl (by decide) rfl ?_
          refine wk_iincN (pc := 30) (d := 1) (lv' := [(2, .int (nI (k + 1))), (1, .int (bI (hrS qnc (k + 1)))), (0, .ref (m 0))]) S_ 2 d_Md_hasRoom_30 (by decide) rfl (by decide) rfl ?_
          refine wk_goto (pc := 33) (tgt := 4) S_ d_Md_hasRoom_33 (by decide) ?_
          refine wk_lv [2, 1, 0] ?_ (ih4 (k + 1) (by omega) (by omega))
          rfl
        · -- on
          refine wk_aload_n (pc := 13) S_ 0 d_Md_hasRoom_13 rfl rfl ?_
          refine wk_get (pc := 14) (v := .ref (m 19)) S_ 6 21 0 in_Md rfl (by decide) rfl fl_Md_65 d_Md_hasRoom_14 rfl rfl ?_
          refine wk_iload_n (pc := 17) S_ 2 d_Md_hasRoom_17 rfl rfl ?_
          refine wk_ialdN (pc := 18) (g := qnc) S_ 19 0 d_Md_hasRoom_18 rfl rfl (by omega) (by decide) ?_
          refine wk_bipush (pc := 19) (v := (nI (8))) S_ d_Md_hasRoom_19 (by decide) ?_
          have hn1 := hnc k
          refine wk_icmp_geN (pc := 21) (tgt := 28) S_ d_Md_hasRoom_21 (by decide) (by omega) (by omega) (fun h21 => ?_) (fun h21 => ?_)
          · -- taken
            refine wk_iconst (pc := 28) (v := (nI (0))) S_ d_Md_hasRoom_28 (by decide) ?_
            refine wk_top (y := (bI (hrS qnc (k + 1)))) (bI_f (by simp [hrS, h10]; omega)) ?_
            refine wk_istore_n (pc := 29) (lv' := [(1, .int (bI (hrS qnc (k + 1)))), (0, .ref (m 0)), (2, .int (nI (k)))]) S_ d_Md_hasRoom_29 rfl (by decide) rfl ?_
            refine wk_iincN (pc := 30) (d := 1) (lv' := [(2, .int (nI (k + 1))), (1, .int (bI (hrS qnc (k + 1)))), (0, .ref (m 0))]) S_ 2 d_Md_hasRoom_30 (by decide) rfl (by decide) rfl ?_
            refine wk_goto (pc := 33) (tgt := 4) S_ d_Md_hasRoom_33 (by decide) ?_
            refine wk_lv [2, 1, 0] ?_ (ih4 (k + 1) (by omega) (by omega))
            rfl
          · -- on
            refine wk_iconst (pc := 24) (v := (nI (1))) S_ d_Md_hasRoom_24 (by decide) ?_
            refine wk_goto (pc := 25) (tgt := 29) S_ d_Md_hasRoom_25 (by decide) ?_
            refine wk_top (y := (bI (hrS qnc (k + 1)))) (bI_t (by simp [hrS]; omega)) ?_
            refine wk_istore_n (pc := 29) (lv' := [(1, .int (bI (hrS qnc (k + 1)))), (0, .ref (m 0)), (2, .int (nI (k)))]) S_ d_Md_hasRoom_29 rfl (by decide) rfl ?_
            refine wk_iincN (pc := 30) (d := 1) (lv' := [(2, .int (nI (k + 1))), (1, .int (bI (hrS qnc (k + 1)))), (0, .ref (m 0))]) S_ 2 d_Md_hasRoom_30 (by decide) rfl (by decide) rfl ?_
            refine wk_goto (pc := 33) (tgt := 4) S_ d_Md_hasRoom_33 (by decide) ?_
            refine wk_lv [2, 1, 0] ?_ (ih4 (k + 1) (by omega) (by omega))
            rfl
  refine wk_lv [2, 1, 0] ?_ (hL4 _ (0) (Nat.lt_succ_self _) (by omega))
  rfl
set_option maxHeartbeats 4000000 in
set_option maxRecDepth 100000 in
theorem c_Md_tell (l : Launch) (D : va_G) (cI : CiT) (z : GzT) (m : Nat → Nat) (tx : (Nat → Nat)) (sz : Nat) (ap : (Nat → Bool)) (pt : (Nat → Nat)) (rk : (Nat → Nat)) (cd : (Nat → Nat)) (fr : Nat) (mc : (Nat → Nat)) (mg : (Nat → Nat)) (mz : (Nat → Nat)) (nc : (Nat → Nat)) (nt : (Nat → Nat)) (ld : (Nat → Nat)) (qap : (Nat → Bool)) (qpt : (Nat → Nat)) (qrk : (Nat → Nat)) (qcd : (Nat → Nat)) (qfr : Nat) (qmc : (Nat → Nat)) (qmg : (Nat → Nat)) (qmz : (Nat → Nat)) (qnc : (Nat → Nat)) (qnt : (Nat → Nat)) (qld : (Nat → Nat)) (nb : Nat) (cl : (Nat → Nat)) (gr : (Nat → Nat)) (sp : (Nat → Nat)) (ot : (Nat → Bool)) (na : Nat) (aw : (Nat → Nat)) (nx : Nat) (bg : (Nat → Nat)) (bb : (Nat → Nat)) (ab : (Nat → Nat)) (fd : Bool) (pv : Bool) (bx : (Nat → Nat)) (wy : (Nat → Nat)) (li : (Nat → Nat)) (fm : Nat) (en : Nat) (nu : Nat) (td : (Nat → Nat)) (lf : Int32) (lk : Int32) (x : Nat) (a1 : Nat) (b1 : Nat) (c1 : Nat) (hx : x < 9) (h1 : a1 ≠ 0) (h2 : x = 3 ∨ b1 ≠ 0) (h3 : (x ≠ 4 ∧ x < 7) ∨ c1 ≠ 0) (hA : a1 - 1 ≤ grK x 0) (hB : x = 3 ∨ b1 - 1 ≤ grK x 1) (hC : (x ≠ 4 ∧ x < 7) ∨ c1 - 1 ≤ grK x 2) (hmc : ∀ c, qmc c ≤ 6) (hmg : ∀ c, qmg c ≤ 999999) (hnc : ∀ c, qnc c ≤ 8) (hnf : x = 6 → qnc (a1 - 1) < 8) (hmf : x = 4 → mpS qmg (a1 - 1) (b1 - 1) (qmc (a1 - 1)) 0 < 6) : wk_C l D (tyK cI) (gX z) y_Md_tell b_Md_tell 6 none 1 23 0 0 [.ref (m 0), .int (nI (x)), .int (zI (a1)), .int (zI (b1)), .int (zI (c1))] (wMd m cI tx sz ap pt rk cd fr mc mg mz nc nt ld qap qpt qrk qcd qfr qmc qmg qmz qnc qnt qld nb cl gr sp ot na aw nx bg bb ab fd pv bx wy li fm en nu td lf lk) wk_v (fun (r : Unit) (u : (Nat → Bool) × (Nat → Nat) × (Nat → Nat) × (Nat → Nat) × Nat × (Nat → Nat) × (Nat → Nat) × (Nat → Nat) × (Nat → Nat) × (Nat → Nat) × (Nat → Nat)) => u = tellS x (a1 - 1) (b1 - 1) (c1 - 1) (qap, qpt, qrk, qcd, qfr, qmc, qmg, qmz, qnc, qnt, qld)) (fun u => (wMd m cI tx sz ap pt rk cd fr mc mg mz nc nt ld u.1 u.2.1 u.2.2.1 u.2.2.2.1 u.2.2.2.2.1 u.2.2.2.2.2.1 u.2.2.2.2.2.2.1 u.2.2.2.2.2.2.2.1 u.2.2.2.2.2.2.2.2.1 u.2.2.2.2.2.2.2.2.2.1 u.2.2.2.2.2.2.2.2.2.2 nb cl gr sp ot na aw nx bg bb ab fd pv bx wy li fm en nu td lf lk)) := by
  refine wk_methV (own := R_Md) [(0, .ref (m 0)), (1, .int (nI (x))), (2, .int (zI (a1))), (3, .int (zI (b1))), (4, .int (zI (c1)))] (by decide) rfl (Nat.le_of_ble_eq_true rfl) rfl (gX_ok z) (fun p_ e_ R_ s_ m_ ar_ be_ me_ co_ Q_ A_ hR_ S_ hnm_ hQ_ => ?_)
  rcases (show x = 0 ∨ x = 1 ∨ x = 2 ∨ x = 3 ∨ x = 4 ∨ x = 5 ∨ x = 6 ∨ x = 7 ∨ x = 8 by omega) with rfl | rfl | rfl | rfl | rfl | rfl | rfl | rfl | rfl
  · -- 0
    obtain ⟨a, rfl⟩ : ∃ a, a1 = a + 1 := ⟨a1 - 1, by omega⟩
    obtain ⟨b, rfl⟩ : ∃ b, b1 = b + 1 := ⟨b1 - 1, by omega⟩
    have hA' : a ≤ 8 := hA
    have hB' : b ≤ 8 := by rcases hB with z | z; exact absurd z (by decide); exact z
    rw [zI_s a, zI_s b]
    refine wk_iload_n (pc := 0) S_ 1 d_Md_tell_0 rfl rfl ?_
    refine wk_if_neN (pc := 1) (tgt := 31) S_ d_Md_tell_1 (by decide) (by omega) (fun h1 => absurd h1 (by decide)) (fun h1 => ?_)
    refine wk_aload_n (pc := 4) S_ 0 d_Md_tell_4 rfl rfl ?_
    refine wk_get (pc := 5) (v := .ref (m 12)) S_ 6 13 0 in_Md rfl (by decide) rfl fl_Md_44 d_Md_tell_5 rfl rfl ?_
    refine wk_bipush (pc := 8) (v := (nI (9))) S_ d_Md_tell_8 (by decide) ?_
    refine wk_iload_n (pc := 10) S_ 2 d_Md_tell_10 rfl rfl ?_
    refine wk_imulN (pc := 11) S_ d_Md_tell_11 ?_
    refine wk_iload_n (pc := 12) S_ 3 d_Md_tell_12 rfl rfl ?_
    refine wk_iaddN (pc := 13) S_ d_Md_tell_13 ?_
    refine wk_iconst (pc := 14) (v := (nI (1))) S_ d_Md_tell_14 (by decide) ?_
    refine wk_top (y := bI true) rfl ?_
    refine wk_zast (pc := 15) (g := qap) (ws' := (wMd m cI tx sz ap pt rk cd fr mc mg mz nc nt ld (va_up (qap) (((9) * (a)) + (b)) (true)) qpt qrk qcd qfr qmc qmg qmz qnc qnt qld nb cl gr sp ot na aw nx bg bb ab fd pv bx wy li fm en nu td lf lk)) S_ 12 1 d_Md_tell_15 rfl rfl (by omega) (by decide) rfl ?_
    refine wk_aload_n (pc := 16) S_ 0 d_Md_tell_16 rfl rfl ?_
    refine wk_get (pc := 17) (v := .ref (m 12)) S_ 6 13 0 in_Md rfl (by decide) rfl fl_Md_44 d_Md_tell_17 rfl rfl ?_
    refine wk_bipush (pc := 20) (v := (nI (9))) S_ d_Md_tell_20 (by decide) ?_
    refine wk_iload_n (pc := 22) S_ 3 d_Md_tell_22 rfl rfl ?_
    refine wk_imulN (pc := 23) S_ d_Md_tell_23 ?_
    refine wk_iload_n (pc := 24) S_ 2 d_Md_tell_24 rfl rfl ?_
    refine wk_iaddN (pc := 25) S_ d_Md_tell_25 ?_
    refine wk_iconst (pc := 26) (v := (nI (1))) S_ d_Md_tell_26 (by decide) ?_
    refine wk_top (y := bI true) rfl ?_
    refine wk_zast (pc := 27) (g := va_up (qap) (((9) * (a)) + (b)) (true)) (ws' := (wMd m cI tx sz ap pt rk cd fr mc mg mz nc nt ld (va_up (va_up (qap) (((9) * (a)) + (b)) (true)) (((9) * (b)) + (a)) (true)) qpt qrk qcd qfr qmc qmg qmz qnc qnt qld nb cl gr sp ot na aw nx bg bb ab fd pv bx wy li fm en nu td lf lk)) S_ 12 1 d_Md_tell_27 rfl rfl (by omega) (by decide) rfl ?_
    refine wk_goto (pc := 28) (tgt := 218) S_ d_Md_tell_28 (by decide) ?_
    exact hQ_ (va_up (va_up (qap) (((9) * (a)) + (b)) (true)) (((9) * (b)) + (a)) (true), qpt, qrk, qcd, qfr, qmc, qmg, qmz, qnc, qnt, qld) d_Md_tell_218 rfl rfl
  · -- 1
    obtain ⟨a, rfl⟩ : ∃ a, a1 = a + 1 := ⟨a1 - 1, by omega⟩
    obtain ⟨b, rfl⟩ : ∃ b, b1 = b + 1 := ⟨b1 - 1, by omega⟩
    have hA' : a ≤ 8 := hA
    have hB' : b ≤ 1000 := by rcases hB with z | z; exact absurd z (by decide); exact z
    rw [zI_s a, zI_s b]
    refine wk_iload_n (pc := 0) S_ 1 d_Md_tell_0 rfl rfl ?_
    refine wk_if_neN (pc := 1) (tgt := 31) S_ d_Md_tell_1 (by decide) (by omega) (fun h1 => ?_) (fun h1 => absurd h1 (by decide))
    refine wk_iload_n (pc := 31) S_ 1 d_Md_tell_31 rfl rfl ?_
    refine wk_iconst (pc := 32) (v := (nI (1))) S_ d_Md_tell_32 (by decide) ?_
    refine wk_icmp_neN (pc := 33) (tgt := 46) S_ d_Md_tell_33 (by decide) (by omega) (by omega) (fun h33 => absurd h33 (by decide)) (fun h33 => ?_)
    refine wk_aload_n (pc := 36) S_ 0 d_Md_tell_36 rfl rfl ?_
    refine wk_get (pc := 37) (v := .ref (m 13)) S_ 6 14 0 in_Md rfl (by decide) rfl fl_Md_47 d_Md_tell_37 rfl rfl ?_
    refine wk_iload_n (pc := 40) S_ 2 d_Md_tell_40 rfl rfl ?_
    refine wk_iload_n (pc := 41) S_ 3 d_Md_tell_41 rfl rfl ?_
    refine wk_iastN (pc := 42) (g := qpt) (ws' := (wMd m cI tx sz ap pt rk cd fr mc mg mz nc nt ld qap (va_up (qpt) (a) (b)) qrk qcd qfr qmc qmg qmz qnc qnt qld nb cl gr sp ot na aw nx bg bb ab fd pv bx wy li fm en nu td lf lk)) S_ 13 0 d_Md_tell_42 rfl rfl (by omega) (by decide) rfl ?_
    refine wk_goto (pc := 43) (tgt := 218) S_ d_Md_tell_43 (by decide) ?_
    exact hQ_ (qap, va_up (qpt) (a) (b), qrk, qcd, qfr, qmc, qmg, qmz, qnc, qnt, qld) d_Md_tell_218 rfl rfl
  · -- 2
    obtain ⟨a, rfl⟩ : ∃ a, a1 = a + 1 := ⟨a1 - 1, by omega⟩
    obtain ⟨b, rfl⟩ : ∃ b, b1 = b + 1 := ⟨b1 - 1, by omega⟩
    have hA' : a ≤ 8 := hA
    have hB' : b ≤ 99 := by rcases hB with z | z; exact absurd z (by decide); exact z
    rw [zI_s a, zI_s b]
    refine wk_iload_n (pc := 0) S_ 1 d_Md_tell_0 rfl rfl ?_
    refine wk_if_neN (pc := 1) (tgt := 31) S_ d_Md_tell_1 (by decide) (by omega) (fun h1 => ?_) (fun h1 => absurd h1 (by decide))
    refine wk_iload_n (pc := 31) S_ 1 d_Md_tell_31 rfl rfl ?_
    refine wk_iconst (pc := 32) (v := (nI (1))) S_ d_Md_tell_32 (by decide) ?_
    refine wk_icmp_neN (pc := 33) (tgt := 46) S_ d_Md_tell_33 (by decide) (by omega) (by omega) (fun h33 => ?_) (fun h33 => absurd h33 (by decide))
    refine wk_iload_n (pc := 46) S_ 1 d_Md_tell_46 rfl rfl ?_
    refine wk_iconst (pc := 47) (v := (nI (2))) S_ d_Md_tell_47 (by decide) ?_
    refine wk_icmp_neN (pc := 48) (tgt := 61) S_ d_Md_tell_48 (by decide) (by omega) (by omega) (fun h48 => absurd h48 (by decide)) (fun h48 => ?_)
    refine wk_aload_n (pc := 51) S_ 0 d_Md_tell_51 rfl rfl ?_
    refine wk_get (pc := 52) (v := .ref (m 14)) S_ 6 15 0 in_Md rfl (by decide) rfl fl_Md_50 d_Md_tell_52 rfl rfl ?_
    refine wk_iload_n (pc := 55) S_ 2 d_Md_tell_55 rfl rfl ?_
    refine wk_iload_n (pc := 56) S_ 3 d_Md_tell_56 rfl rfl ?_
    refine wk_iastN (pc := 57) (g := qrk) (ws' := (wMd m cI tx sz ap pt rk cd fr mc mg mz nc nt ld qap qpt (va_up (qrk) (a) (b)) qcd qfr qmc qmg qmz qnc qnt qld nb cl gr sp ot na aw nx bg bb ab fd pv bx wy li fm en nu td lf lk)) S_ 14 0 d_Md_tell_57 rfl rfl (by omega) (by decide) rfl ?_
    refine wk_goto (pc := 58) (tgt := 218) S_ d_Md_tell_58 (by decide) ?_
    exact hQ_ (qap, qpt, va_up (qrk) (a) (b), qcd, qfr, qmc, qmg, qmz, qnc, qnt, qld) d_Md_tell_218 rfl rfl
  · -- 3
    obtain ⟨a, rfl⟩ : ∃ a, a1 = a + 1 := ⟨a1 - 1, by omega⟩
    have hA' : a ≤ 999999 := hA
    rw [zI_s a]
    refine wk_iload_n (pc := 0) S_ 1 d_Md_tell_0 rfl rfl ?_
    refine wk_if_neN (pc := 1) (tgt := 31) S_ d_Md_tell_1 (by decide) (by omega) (fun h1 => ?_) (fun h1 => absurd h1 (by decide))
    refine wk_iload_n (pc := 31) S_ 1 d_Md_tell_31 rfl rfl ?_
    refine wk_iconst (pc := 32) (v := (nI (1))) S_ d_Md_tell_32 (by decide) ?_
    refine wk_icmp_neN (pc := 33) (tgt := 46) S_ d_Md_tell_33 (by decide) (by omega) (by omega) (fun h33 => ?_) (fun h33 => absurd h33 (by decide))
    refine wk_iload_n (pc := 46) S_ 1 d_Md_tell_46 rfl rfl ?_
    refine wk_iconst (pc := 47) (v := (nI (2))) S_ d_Md_tell_47 (by decide) ?_
    refine wk_icmp_neN (pc := 48) (tgt := 61) S_ d_Md_tell_48 (by decide) (by omega) (by omega) (fun h48 => ?_) (fun h48 => absurd h48 (by decide))
    refine wk_iload_n (pc := 61) S_ 1 d_Md_tell_61 rfl rfl ?_
    refine wk_iconst (pc := 62) (v := (nI (3))) S_ d_Md_tell_62 (by decide) ?_
    refine wk_icmp_neN (pc := 63) (tgt := 74) S_ d_Md_tell_63 (by decide) (by omega) (by omega) (fun h63 => absurd h63 (by decide)) (fun h63 => ?_)
    refine wk_aload_n (pc := 66) S_ 0 d_Md_tell_66 rfl rfl ?_
    refine wk_iload_n (pc := 67) S_ 2 d_Md_tell_67 rfl rfl ?_
    refine wk_put (pc := 68) (ty := .int) (ws' := (wMd m cI tx sz ap pt rk cd fr mc mg mz nc nt ld qap qpt qrk qcd a qmc qmg qmz qnc qnt qld nb cl gr sp ot na aw nx bg bb ab fd pv bx wy li fm en nu td lf lk)) S_ 6 17 0 in_Md t_Md t_Md_ok n_Md rfl (by decide) rfl fl_Md_134 (by decide +kernel) d_Md_tell_68 rfl rfl rfl (Nat.le_of_ble_eq_true rfl) rfl ?_
    refine wk_goto (pc := 71) (tgt := 218) S_ d_Md_tell_71 (by decide) ?_
    exact hQ_ (qap, qpt, qrk, qcd, a, qmc, qmg, qmz, qnc, qnt, qld) d_Md_tell_218 rfl rfl
  · -- 4
    obtain ⟨a, rfl⟩ : ∃ a, a1 = a + 1 := ⟨a1 - 1, by omega⟩
    obtain ⟨b, rfl⟩ : ∃ b, b1 = b + 1 := ⟨b1 - 1, by omega⟩
    obtain ⟨c, rfl⟩ : ∃ c, c1 = c + 1 := ⟨c1 - 1, by omega⟩
    have hA' : a ≤ 8 := hA
    have hB' : b ≤ 999999 := by rcases hB with z | z; exact absurd z (by decide); exact z
    have hC' : c ≤ 9 := by rcases hC with z | z; exact absurd z (by decide); exact z
    rw [zI_s a, zI_s b, zI_s c]
    refine wk_iload_n (pc := 0) S_ 1 d_Md_tell_0 rfl rfl ?_
    refine wk_if_neN (pc := 1) (tgt := 31) S_ d_Md_tell_1 (by decide) (by omega) (fun h1 => ?_) (fun h1 => absurd h1 (by decide))
    refine wk_iload_n (pc := 31) S_ 1 d_Md_tell_31 rfl rfl ?_
    refine wk_iconst (pc := 32) (v := (nI (1))) S_ d_Md_tell_32 (by decide) ?_
    refine wk_icmp_neN (pc := 33) (tgt := 46) S_ d_Md_tell_33 (by decide) (by omega) (by omega) (fun h33 => ?_) (fun h33 => absurd h33 (by decide))
    refine wk_iload_n (pc := 46) S_ 1 d_Md_tell_46 rfl rfl ?_
    refine wk_iconst (pc := 47) (v := (nI (2))) S_ d_Md_tell_47 (by decide) ?_
    refine wk_icmp_neN (pc := 48) (tgt := 61) S_ d_Md_tell_48 (by decide) (by omega) (by omega) (fun h48 => ?_) (fun h48 => absurd h48 (by decide))
    refine wk_iload_n (pc := 61) S_ 1 d_Md_tell_61 rfl rfl ?_
    refine wk_iconst (pc := 62) (v := (nI (3))) S_ d_Md_tell_62 (by decide) ?_
    refine wk_icmp_neN (pc := 63) (tgt := 74) S_ d_Md_tell_63 (by decide) (by omega) (by omega) (fun h63 => ?_) (fun h63 => absurd h63 (by decide))
    refine wk_iload_n (pc := 74) S_ 1 d_Md_tell_74 rfl rfl ?_
    refine wk_iconst (pc := 75) (v := (nI (4))) S_ d_Md_tell_75 (by decide) ?_
    refine wk_icmp_neN (pc := 76) (tgt := 142) S_ d_Md_tell_76 (by decide) (by omega) (by omega) (fun h76 => absurd h76 (by decide)) (fun h76 => ?_)
    refine wk_aload_n (pc := 79) S_ 0 d_Md_tell_79 rfl rfl ?_
    refine wk_iload_n (pc := 80) S_ 2 d_Md_tell_80 rfl rfl ?_
    refine wk_iload_n (pc := 81) S_ 3 d_Md_tell_81 rfl rfl ?_
    refine wk_run (pc := 82) (rest := []) (wr := []) (wN := fun _ => (wMd m cI tx sz ap pt rk cd fr mc mg mz nc nt ld qap qpt qrk qcd qfr qmc qmg qmz qnc qnt qld nb cl gr sp ot na aw nx bg bb ab fd pv bx wy li fm en nu td lf lk)) S_ (wk_rV S_ (c_Md_markOf l D cI z (m) (tx) (sz) (ap) (pt) (rk) (cd) (fr) (mc) (mg) (mz) (nc) (nt) (ld) (qap) (qpt) (qrk) (qcd) (qfr) (qmc) (qmg) (qmz) (qnc) (qnt) (qld) (nb) (cl) (gr) (sp) (ot) (na) (aw) (nx) (bg) (bb) (ab) (fd) (pv) (bx) (wy) (li) (fm) (en) (nu) (td) (lf) (lk) (a) (b) (by omega) (by omega) hmc hmg) mv_Md_175 (wk_rcv S_ 0 6 rfl rfl rfl) rfl rfl (Nat.le_of_ble_eq_true rfl) (by rw [hR_]; decide) (by rw [hR_]; decide) d_Md_tell_82) [0, 1, 2, 3, 4, 5, 6, 7, 8, 9, 10, 11, 12, 13, 14, 15, 16, 17, 18, 19, 20, 21, 22, 23, 24, 25, 26, 27, 28, 29, 30, 31, 32, 33] [] [0, 1, 2, 3, 4, 5, 6, 7, 8, 9, 10, 11, 12, 13, 14, 15, 16, 17, 18, 19, 20, 21, 22, 23, 24, 25, 26, 27, 28, 29, 30, 31, 32, 33] rfl rfl rfl (by decide) (by decide) (by decide) (by decide) (fun _ => rfl) (fun _ => rfl) (fun r82 _ hw82 => ?_)
    refine wk_st (st' := [.int (r82)]) rfl ?_
    refine wk_top (y := (nI (mpS (qmg) (a) (b) ((qmc) (a)) 0))) hw82 ?_
    have hmf' : mpS qmg a b (qmc a) 0 < 6 := hmf rfl
    refine wk_istore (pc := 85) (lv' := [(5, .int (nI (mpS (qmg) (a) (b) ((qmc) (a)) 0))), (0, .ref (m 0)), (1, .int (nI (4))), (2, .int (nI (a))), (3, .int (nI (b))), (4, .int (nI (c)))]) S_ d_Md_tell_85 (by decide) rfl ?_
    refine wk_aload_n (pc := 87) S_ 1 d_Md_tell_87 rfl rfl ?_
    refine wk_get (pc := 88) (v := .ref (m 17)) S_ 6 19 0 in_Md rfl (by decide) rfl fl_Md_59 d_Md_tell_88 rfl rfl ?_
    refine wk_bipush (pc := 91) (v := (nI (6))) S_ d_Md_tell_91 (by decide) ?_
    refine wk_iload_n (pc := 93) S_ 3 d_Md_tell_93 rfl rfl ?_
    refine wk_imulN (pc := 94) S_ d_Md_tell_94 ?_
    refine wk_iload (pc := 95) S_ 0 d_Md_tell_95 rfl ?_
    refine wk_iaddN (pc := 97) S_ d_Md_tell_97 ?_
    refine wk_iload_n (pc := 98) S_ 4 d_Md_tell_98 rfl rfl ?_
    refine wk_iastN (pc := 99) (g := qmg) (ws' := (wMd m cI tx sz ap pt rk cd fr mc mg mz nc nt ld qap qpt qrk qcd qfr qmc (va_up (qmg) (((6) * (a)) + (mpS (qmg) (a) (b) ((qmc) (a)) 0)) (b)) qmz qnc qnt qld nb cl gr sp ot na aw nx bg bb ab fd pv bx wy li fm en nu td lf lk)) S_ 17 0 d_Md_tell_99 rfl rfl (by omega) (by decide) rfl ?_
    refine wk_aload_n (pc := 100) S_ 1 d_Md_tell_100 rfl rfl ?_
    refine wk_get (pc := 101) (v := .ref (m 18)) S_ 6 20 0 in_Md rfl (by decide) rfl fl_Md_62 d_Md_tell_101 rfl rfl ?_
    refine wk_bipush (pc := 104) (v := (nI (6))) S_ d_Md_tell_104 (by decide) ?_
    refine wk_iload_n (pc := 106) S_ 3 d_Md_tell_106 rfl rfl ?_
    refine wk_imulN (pc := 107) S_ d_Md_tell_107 ?_
    refine wk_iload (pc := 108) S_ 0 d_Md_tell_108 rfl ?_
    refine wk_iaddN (pc := 110) S_ d_Md_tell_110 ?_
    refine wk_iload (pc := 111) S_ 5 d_Md_tell_111 rfl ?_
    refine wk_iastN (pc := 113) (g := qmz) (ws' := (wMd m cI tx sz ap pt rk cd fr mc mg mz nc nt ld qap qpt qrk qcd qfr qmc (va_up (qmg) (((6) * (a)) + (mpS (qmg) (a) (b) ((qmc) (a)) 0)) (b)) (va_up (qmz) (((6) * (a)) + (mpS (qmg) (a) (b) ((qmc) (a)) 0)) (c)) qnc qnt qld nb cl gr sp ot na aw nx bg bb ab fd pv bx wy li fm en nu td lf lk)) S_ 18 0 d_Md_tell_113 rfl rfl (by omega) (by decide) rfl ?_
    refine wk_aload_n (pc := 114) S_ 1 d_Md_tell_114 rfl rfl ?_
    refine wk_get (pc := 115) (v := .ref (m 16)) S_ 6 18 0 in_Md rfl (by decide) rfl fl_Md_56 d_Md_tell_115 rfl rfl ?_
    refine wk_iload_n (pc := 118) S_ 3 d_Md_tell_118 rfl rfl ?_
    refine wk_dup2 (pc := 119) S_ d_Md_tell_119 rfl rfl ?_
    refine wk_ialdN (pc := 120) (g := qmc) S_ 16 0 d_Md_tell_120 rfl rfl (by omega) (by decide) ?_
    refine wk_iload (pc := 121) S_ 0 d_Md_tell_121 rfl ?_
    refine wk_aload_n (pc := 123) S_ 1 d_Md_tell_123 rfl rfl ?_
    refine wk_get (pc := 124) (v := .ref (m 16)) S_ 6 18 0 in_Md rfl (by decide) rfl fl_Md_56 d_Md_tell_124 rfl rfl ?_
    refine wk_iload_n (pc := 127) S_ 3 d_Md_tell_127 rfl rfl ?_
    refine wk_ialdN (pc := 128) (g := qmc) S_ 16 0 d_Md_tell_128 rfl rfl (by omega) (by decide) ?_
    have hm1 := hmc a
    refine wk_icmp_neN (pc := 129) (tgt := 136) S_ d_Md_tell_129 (by decide) (by omega) (by omega) (fun h129 => ?_) (fun h129 => ?_)
    · -- taken
      refine wk_iconst (pc := 136) (v := (nI (0))) S_ d_Md_tell_136 (by decide) ?_
      refine wk_iaddN (pc := 137) S_ d_Md_tell_137 ?_
      refine wk_iastN (pc := 138) (g := qmc) (ws' := (wMd m cI tx sz ap pt rk cd fr mc mg mz nc nt ld qap qpt qrk qcd qfr (va_up (qmc) (a) (((qmc) (a)) + (0))) (va_up (qmg) (((6) * (a)) + (mpS (qmg) (a) (b) ((qmc) (a)) 0)) (b)) (va_up (qmz) (((6) * (a)) + (mpS (qmg) (a) (b) ((qmc) (a)) 0)) (c)) qnc qnt qld nb cl gr sp ot na aw nx bg bb ab fd pv bx wy li fm en nu td lf lk)) S_ 16 0 d_Md_tell_138 rfl rfl (by omega) (by decide) rfl ?_
      refine wk_goto (pc := 139) (tgt := 218) S_ d_Md_tell_139 (by decide) ?_
      exact hQ_ (qap, qpt, qrk, qcd, qfr, va_up (qmc) (a) (((qmc) (a)) + (0)), va_up (qmg) (((6) * (a)) + (mpS (qmg) (a) (b) ((qmc) (a)) 0)) (b), va_up (qmz) (((6) * (a)) + (mpS (qmg) (a) (b) ((qmc) (a)) 0)) (c), qnc, qnt, qld) d_Md_tell_218 rfl (show _ = tellS 4 a b c _ from by rw [tellS4, if_neg h129])
    · -- on
      refine wk_iconst (pc := 132) (v := (nI (1))) S_ d_Md_tell_132 (by decide) ?_
      refine wk_goto (pc := 133) (tgt := 137) S_ d_Md_tell_133 (by decide) ?_
      refine wk_iaddN (pc := 137) S_ d_Md_tell_137 ?_
      refine wk_iastN (pc := 138) (g := qmc) (ws' := (wMd m cI tx sz ap pt rk cd fr mc mg mz nc nt ld qap qpt qrk qcd qfr (va_up (qmc) (a) (((qmc) (a)) + (1))) (va_up (qmg) (((6) * (a)) + (mpS (qmg) (a) (b) ((qmc) (a)) 0)) (b)) (va_up (qmz) (((6) * (a)) + (mpS (qmg) (a) (b) ((qmc) (a)) 0)) (c)) qnc qnt qld nb cl gr sp ot na aw nx bg bb ab fd pv bx wy li fm en nu td lf lk)) S_ 16 0 d_Md_tell_138 rfl rfl (by omega) (by decide) rfl ?_
      refine wk_goto (pc := 139) (tgt := 218) S_ d_Md_tell_139 (by decide) ?_
      exact hQ_ (qap, qpt, qrk, qcd, qfr, va_up (qmc) (a) (((qmc) (a)) + (1)), va_up (qmg) (((6) * (a)) + (mpS (qmg) (a) (b) ((qmc) (a)) 0)) (b), va_up (qmz) (((6) * (a)) + (mpS (qmg) (a) (b) ((qmc) (a)) 0)) (c), qnc, qnt, qld) d_Md_tell_218 rfl (show _ = tellS 4 a b c _ from by rw [tellS4, if_pos h129])
  · -- 5
    obtain ⟨a, rfl⟩ : ∃ a, a1 = a + 1 := ⟨a1 - 1, by omega⟩
    obtain ⟨b, rfl⟩ : ∃ b, b1 = b + 1 := ⟨b1 - 1, by omega⟩
    have hA' : a ≤ 8 := hA
    have hB' : b ≤ 5 := by rcases hB with z | z; exact absurd z (by decide); exact z
    rw [zI_s a, zI_s b]
    refine wk_iload_n (pc := 0) S_ 1 d_Md_tell_0 rfl rfl ?_
    refine wk_if_neN (pc := 1) (tgt := 31) S_ d_Md_tell_1 (by decide) (by omega) (fun h1 => ?_) (fun h1 => absurd h1 (by decide))
    refine wk_iload_n (pc := 31) S_ 1 d_Md_tell_31 rfl rfl ?_
    refine wk_iconst (pc := 32) (v := (nI (1))) S_ d_Md_tell_32 (by decide) ?_
    refine wk_icmp_neN (pc := 33) (tgt := 46) S_ d_Md_tell_33 (by decide) (by omega) (by omega) (fun h33 => ?_) (fun h33 => absurd h33 (by decide))
    refine wk_iload_n (pc := 46) S_ 1 d_Md_tell_46 rfl rfl ?_
    refine wk_iconst (pc := 47) (v := (nI (2))) S_ d_Md_tell_47 (by decide) ?_
    refine wk_icmp_neN (pc := 48) (tgt := 61) S_ d_Md_tell_48 (by decide) (by omega) (by omega) (fun h48 => ?_) (fun h48 => absurd h48 (by decide))
    refine wk_iload_n (pc := 61) S_ 1 d_Md_tell_61 rfl rfl ?_
    refine wk_iconst (pc := 62) (v := (nI (3))) S_ d_Md_tell_62 (by decide) ?_
    refine wk_icmp_neN (pc := 63) (tgt := 74) S_ d_Md_tell_63 (by decide) (by omega) (by omega) (fun h63 => ?_) (fun h63 => absurd h63 (by decide))
    refine wk_iload_n (pc := 74) S_ 1 d_Md_tell_74 rfl rfl ?_
    refine wk_iconst (pc := 75) (v := (nI (4))) S_ d_Md_tell_75 (by decide) ?_
    refine wk_icmp_neN (pc := 76) (tgt := 142) S_ d_Md_tell_76 (by decide) (by omega) (by omega) (fun h76 => ?_) (fun h76 => absurd h76 (by decide))
    refine wk_iload_n (pc := 142) S_ 1 d_Md_tell_142 rfl rfl ?_
    refine wk_iconst (pc := 143) (v := (nI (5))) S_ d_Md_tell_143 (by decide) ?_
    refine wk_icmp_neN (pc := 144) (tgt := 157) S_ d_Md_tell_144 (by decide) (by omega) (by omega) (fun h144 => absurd h144 (by decide)) (fun h144 => ?_)
    refine wk_aload_n (pc := 147) S_ 0 d_Md_tell_147 rfl rfl ?_
    refine wk_get (pc := 148) (v := .ref (m 15)) S_ 6 16 0 in_Md rfl (by decide) rfl fl_Md_53 d_Md_tell_148 rfl rfl ?_
    refine wk_iload_n (pc := 151) S_ 2 d_Md_tell_151 rfl rfl ?_
    refine wk_iload_n (pc := 152) S_ 3 d_Md_tell_152 rfl rfl ?_
    refine wk_iastN (pc := 153) (g := qcd) (ws' := (wMd m cI tx sz ap pt rk cd fr mc mg mz nc nt ld qap qpt qrk (va_up (qcd) (a) (b)) qfr qmc qmg qmz qnc qnt qld nb cl gr sp ot na aw nx bg bb ab fd pv bx wy li fm en nu td lf lk)) S_ 15 0 d_Md_tell_153 rfl rfl (by omega) (by decide) rfl ?_
    refine wk_goto (pc := 154) (tgt := 218) S_ d_Md_tell_154 (by decide) ?_
    exact hQ_ (qap, qpt, qrk, va_up (qcd) (a) (b), qfr, qmc, qmg, qmz, qnc, qnt, qld) d_Md_tell_218 rfl rfl
  · -- 6
    obtain ⟨a, rfl⟩ : ∃ a, a1 = a + 1 := ⟨a1 - 1, by omega⟩
    obtain ⟨b, rfl⟩ : ∃ b, b1 = b + 1 := ⟨b1 - 1, by omega⟩
    have hA' : a ≤ 3 := hA
    have hB' : b ≤ 999999 := by rcases hB with z | z; exact absurd z (by decide); exact z
    rw [zI_s a, zI_s b]
    refine wk_iload_n (pc := 0) S_ 1 d_Md_tell_0 rfl rfl ?_
    refine wk_if_neN (pc := 1) (tgt := 31) S_ d_Md_tell_1 (by decide) (by omega) (fun h1 => ?_) (fun h1 => absurd h1 (by decide))
    refine wk_iload_n (pc := 31) S_ 1 d_Md_tell_31 rfl rfl ?_
    refine wk_iconst (pc := 32) (v := (nI (1))) S_ d_Md_tell_32 (by decide) ?_
    refine wk_icmp_neN (pc := 33) (tgt := 46) S_ d_Md_tell_33 (by decide) (by omega) (by omega) (fun h33 => ?_) (fun h33 => absurd h33 (by decide))
    refine wk_iload_n (pc := 46) S_ 1 d_Md_tell_46 rfl rfl ?_
    refine wk_iconst (pc := 47) (v := (nI (2))) S_ d_Md_tell_47 (by decide) ?_
    refine wk_icmp_neN (pc := 48) (tgt := 61) S_ d_Md_tell_48 (by decide) (by omega) (by omega) (fun h48 => ?_) (fun h48 => absurd h48 (by decide))
    refine wk_iload_n (pc := 61) S_ 1 d_Md_tell_61 rfl rfl ?_
    refine wk_iconst (pc := 62) (v := (nI (3))) S_ d_Md_tell_62 (by decide) ?_
    refine wk_icmp_neN (pc := 63) (tgt := 74) S_ d_Md_tell_63 (by decide) (by omega) (by omega) (fun h63 => ?_) (fun h63 => absurd h63 (by decide))
    refine wk_iload_n (pc := 74) S_ 1 d_Md_tell_74 rfl rfl ?_
    refine wk_iconst (pc := 75) (v := (nI (4))) S_ d_Md_tell_75 (by decide) ?_
    refine wk_icmp_neN (pc := 76) (tgt := 142) S_ d_Md_tell_76 (by decide) (by omega) (by omega) (fun h76 => ?_) (fun h76 => absurd h76 (by decide))
    refine wk_iload_n (pc := 142) S_ 1 d_Md_tell_142 rfl rfl ?_
    refine wk_iconst (pc := 143) (v := (nI (5))) S_ d_Md_tell_143 (by decide) ?_
    refine wk_icmp_neN (pc := 144) (tgt := 157) S_ d_Md_tell_144 (by decide) (by omega) (by omega) (fun h144 => ?_) (fun h144 => absurd h144 (by decide))
    refine wk_iload_n (pc := 157) S_ 1 d_Md_tell_157 rfl rfl ?_
    refine wk_bipush (pc := 158) (v := (nI (6))) S_ d_Md_tell_158 (by decide) ?_
    refine wk_icmp_neN (pc := 160) (tgt := 193) S_ d_Md_tell_160 (by decide) (by omega) (by omega) (fun h160 => absurd h160 (by decide)) (fun h160 => ?_)
    refine wk_aload_n (pc := 163) S_ 0 d_Md_tell_163 rfl rfl ?_
    refine wk_get (pc := 164) (v := .ref (m 20)) S_ 6 22 0 in_Md rfl (by decide) rfl fl_Md_68 d_Md_tell_164 rfl rfl ?_
    refine wk_bipush (pc := 167) (v := (nI (8))) S_ d_Md_tell_167 (by decide) ?_
    refine wk_iload_n (pc := 169) S_ 2 d_Md_tell_169 rfl rfl ?_
    refine wk_imulN (pc := 170) S_ d_Md_tell_170 ?_
    refine wk_aload_n (pc := 171) S_ 0 d_Md_tell_171 rfl rfl ?_
    refine wk_get (pc := 172) (v := .ref (m 19)) S_ 6 21 0 in_Md rfl (by decide) rfl fl_Md_65 d_Md_tell_172 rfl rfl ?_
    refine wk_iload_n (pc := 175) S_ 2 d_Md_tell_175 rfl rfl ?_
    have hnf' : qnc a < 8 := hnf rfl
    refine wk_ialdN (pc := 176) (g := qnc) S_ 19 0 d_Md_tell_176 rfl rfl (by omega) (by decide) ?_
    refine wk_iaddN (pc := 177) S_ d_Md_tell_177 ?_
    refine wk_iload_n (pc := 178) S_ 3 d_Md_tell_178 rfl rfl ?_
    refine wk_iastN (pc := 179) (g := qnt) (ws' := (wMd m cI tx sz ap pt rk cd fr mc mg mz nc nt ld qap qpt qrk qcd qfr qmc qmg qmz qnc (va_up (qnt) (((8) * (a)) + ((qnc) (a))) (b)) qld nb cl gr sp ot na aw nx bg bb ab fd pv bx wy li fm en nu td lf lk)) S_ 20 0 d_Md_tell_179 rfl rfl (by omega) (by decide) rfl ?_
    refine wk_aload_n (pc := 180) S_ 0 d_Md_tell_180 rfl rfl ?_
    refine wk_get (pc := 181) (v := .ref (m 19)) S_ 6 21 0 in_Md rfl (by decide) rfl fl_Md_65 d_Md_tell_181 rfl rfl ?_
    refine wk_iload_n (pc := 184) S_ 2 d_Md_tell_184 rfl rfl ?_
    refine wk_dup2 (pc := 185) S_ d_Md_tell_185 rfl rfl ?_
    refine wk_ialdN (pc := 186) (g := qnc) S_ 19 0 d_Md_tell_186 rfl rfl (by omega) (by decide) ?_
    refine wk_iconst (pc := 187) (v := (nI (1))) S_ d_Md_tell_187 (by decide) ?_
    refine wk_iaddN (pc := 188) S_ d_Md_tell_188 ?_
    refine wk_iastN (pc := 189) (g := qnc) (ws' := (wMd m cI tx sz ap pt rk cd fr mc mg mz nc nt ld qap qpt qrk qcd qfr qmc qmg qmz (va_up (qnc) (a) (((qnc) (a)) + (1))) (va_up (qnt) (((8) * (a)) + ((qnc) (a))) (b)) qld nb cl gr sp ot na aw nx bg bb ab fd pv bx wy li fm en nu td lf lk)) S_ 19 0 d_Md_tell_189 rfl rfl (by omega) (by decide) rfl ?_
    refine wk_goto (pc := 190) (tgt := 218) S_ d_Md_tell_190 (by decide) ?_
    exact hQ_ (qap, qpt, qrk, qcd, qfr, qmc, qmg, qmz, va_up (qnc) (a) (((qnc) (a)) + (1)), va_up (qnt) (((8) * (a)) + ((qnc) (a))) (b), qld) d_Md_tell_218 rfl rfl
  · -- 7
    obtain ⟨a, rfl⟩ : ∃ a, a1 = a + 1 := ⟨a1 - 1, by omega⟩
    obtain ⟨b, rfl⟩ : ∃ b, b1 = b + 1 := ⟨b1 - 1, by omega⟩
    obtain ⟨c, rfl⟩ : ∃ c, c1 = c + 1 := ⟨c1 - 1, by omega⟩
    have hA' : a ≤ 9 := hA
    have hB' : b ≤ 3 := by rcases hB with z | z; exact absurd z (by decide); exact z
    have hC' : c ≤ 9 := by rcases hC with z | z; exact absurd z (by decide); exact z
    rw [zI_s a, zI_s b, zI_s c]
    refine wk_iload_n (pc := 0) S_ 1 d_Md_tell_0 rfl rfl ?_
    refine wk_if_neN (pc := 1) (tgt := 31) S_ d_Md_tell_1 (by decide) (by omega) (fun h1 => ?_) (fun h1 => absurd h1 (by decide))
    refine wk_iload_n (pc := 31) S_ 1 d_Md_tell_31 rfl rfl ?_
    refine wk_iconst (pc := 32) (v := (nI (1))) S_ d_Md_tell_32 (by decide) ?_
    refine wk_icmp_neN (pc := 33) (tgt := 46) S_ d_Md_tell_33 (by decide) (by omega) (by omega) (fun h33 => ?_) (fun h33 => absurd h33 (by decide))
    refine wk_iload_n (pc := 46) S_ 1 d_Md_tell_46 rfl rfl ?_
    refine wk_iconst (pc := 47) (v := (nI (2))) S_ d_Md_tell_47 (by decide) ?_
    refine wk_icmp_neN (pc := 48) (tgt := 61) S_ d_Md_tell_48 (by decide) (by omega) (by omega) (fun h48 => ?_) (fun h48 => absurd h48 (by decide))
    refine wk_iload_n (pc := 61) S_ 1 d_Md_tell_61 rfl rfl ?_
    refine wk_iconst (pc := 62) (v := (nI (3))) S_ d_Md_tell_62 (by decide) ?_
    refine wk_icmp_neN (pc := 63) (tgt := 74) S_ d_Md_tell_63 (by decide) (by omega) (by omega) (fun h63 => ?_) (fun h63 => absurd h63 (by decide))
    refine wk_iload_n (pc := 74) S_ 1 d_Md_tell_74 rfl rfl ?_
    refine wk_iconst (pc := 75) (v := (nI (4))) S_ d_Md_tell_75 (by decide) ?_
    refine wk_icmp_neN (pc := 76) (tgt := 142) S_ d_Md_tell_76 (by decide) (by omega) (by omega) (fun h76 => ?_) (fun h76 => absurd h76 (by decide))
    refine wk_iload_n (pc := 142) S_ 1 d_Md_tell_142 rfl rfl ?_
    refine wk_iconst (pc := 143) (v := (nI (5))) S_ d_Md_tell_143 (by decide) ?_
    refine wk_icmp_neN (pc := 144) (tgt := 157) S_ d_Md_tell_144 (by decide) (by omega) (by omega) (fun h144 => ?_) (fun h144 => absurd h144 (by decide))
    refine wk_iload_n (pc := 157) S_ 1 d_Md_tell_157 rfl rfl ?_
    refine wk_bipush (pc := 158) (v := (nI (6))) S_ d_Md_tell_158 (by decide) ?_
    refine wk_icmp_neN (pc := 160) (tgt := 193) S_ d_Md_tell_160 (by decide) (by omega) (by omega) (fun h160 => ?_) (fun h160 => absurd h160 (by decide))
    refine wk_aload_n (pc := 193) S_ 0 d_Md_tell_193 rfl rfl ?_
    refine wk_get (pc := 194) (v := .ref (m 21)) S_ 6 23 0 in_Md rfl (by decide) rfl fl_Md_71 d_Md_tell_194 rfl rfl ?_
    refine wk_iconst (pc := 197) (v := (nI (4))) S_ d_Md_tell_197 (by decide) ?_
    refine wk_iload_n (pc := 198) S_ 2 d_Md_tell_198 rfl rfl ?_
    refine wk_imulN (pc := 199) S_ d_Md_tell_199 ?_
    refine wk_iload_n (pc := 200) S_ 3 d_Md_tell_200 rfl rfl ?_
    refine wk_iaddN (pc := 201) S_ d_Md_tell_201 ?_
    refine wk_iload_n (pc := 202) S_ 1 d_Md_tell_202 rfl rfl ?_
    refine wk_bipush (pc := 203) (v := (nI (7))) S_ d_Md_tell_203 (by decide) ?_
    refine wk_icmp_neN (pc := 205) (tgt := 213) S_ d_Md_tell_205 (by decide) (by omega) (by omega) (fun h205 => absurd h205 (by decide)) (fun h205 => ?_)
    refine wk_iload (pc := 208) S_ 4 d_Md_tell_208 rfl ?_
    refine wk_goto (pc := 210) (tgt := 217) S_ d_Md_tell_210 (by decide) ?_
    refine wk_top (y := (lI (c + 1))) (by rw [lI_st (by omega) (by omega)]; rfl) ?_
    refine wk_iastD (pc := 217) (g := qld) (ws' := (wMd m cI tx sz ap pt rk cd fr mc mg mz nc nt ld qap qpt qrk qcd qfr qmc qmg qmz qnc qnt (va_up (qld) (((4) * (a)) + (b)) (c + 1)) nb cl gr sp ot na aw nx bg bb ab fd pv bx wy li fm en nu td lf lk)) S_ 21 0 d_Md_tell_217 rfl rfl (by omega) (by decide) rfl ?_
    exact hQ_ (qap, qpt, qrk, qcd, qfr, qmc, qmg, qmz, qnc, qnt, va_up (qld) (((4) * (a)) + (b)) (c + 1)) d_Md_tell_218 rfl rfl
  · -- 8
    obtain ⟨a, rfl⟩ : ∃ a, a1 = a + 1 := ⟨a1 - 1, by omega⟩
    obtain ⟨b, rfl⟩ : ∃ b, b1 = b + 1 := ⟨b1 - 1, by omega⟩
    obtain ⟨c, rfl⟩ : ∃ c, c1 = c + 1 := ⟨c1 - 1, by omega⟩
    have hA' : a ≤ 9 := hA
    have hB' : b ≤ 3 := by rcases hB with z | z; exact absurd z (by decide); exact z
    have hC' : c ≤ 8 := by rcases hC with z | z; exact absurd z (by decide); exact z
    rw [zI_s a, zI_s b, zI_s c]
    refine wk_iload_n (pc := 0) S_ 1 d_Md_tell_0 rfl rfl ?_
    refine wk_if_neN (pc := 1) (tgt := 31) S_ d_Md_tell_1 (by decide) (by omega) (fun h1 => ?_) (fun h1 => absurd h1 (by decide))
    refine wk_iload_n (pc := 31) S_ 1 d_Md_tell_31 rfl rfl ?_
    refine wk_iconst (pc := 32) (v := (nI (1))) S_ d_Md_tell_32 (by decide) ?_
    refine wk_icmp_neN (pc := 33) (tgt := 46) S_ d_Md_tell_33 (by decide) (by omega) (by omega) (fun h33 => ?_) (fun h33 => absurd h33 (by decide))
    refine wk_iload_n (pc := 46) S_ 1 d_Md_tell_46 rfl rfl ?_
    refine wk_iconst (pc := 47) (v := (nI (2))) S_ d_Md_tell_47 (by decide) ?_
    refine wk_icmp_neN (pc := 48) (tgt := 61) S_ d_Md_tell_48 (by decide) (by omega) (by omega) (fun h48 => ?_) (fun h48 => absurd h48 (by decide))
    refine wk_iload_n (pc := 61) S_ 1 d_Md_tell_61 rfl rfl ?_
    refine wk_iconst (pc := 62) (v := (nI (3))) S_ d_Md_tell_62 (by decide) ?_
    refine wk_icmp_neN (pc := 63) (tgt := 74) S_ d_Md_tell_63 (by decide) (by omega) (by omega) (fun h63 => ?_) (fun h63 => absurd h63 (by decide))
    refine wk_iload_n (pc := 74) S_ 1 d_Md_tell_74 rfl rfl ?_
    refine wk_iconst (pc := 75) (v := (nI (4))) S_ d_Md_tell_75 (by decide) ?_
    refine wk_icmp_neN (pc := 76) (tgt := 142) S_ d_Md_tell_76 (by decide) (by omega) (by omega) (fun h76 => ?_) (fun h76 => absurd h76 (by decide))
    refine wk_iload_n (pc := 142) S_ 1 d_Md_tell_142 rfl rfl ?_
    refine wk_iconst (pc := 143) (v := (nI (5))) S_ d_Md_tell_143 (by decide) ?_
    refine wk_icmp_neN (pc := 144) (tgt := 157) S_ d_Md_tell_144 (by decide) (by omega) (by omega) (fun h144 => ?_) (fun h144 => absurd h144 (by decide))
    refine wk_iload_n (pc := 157) S_ 1 d_Md_tell_157 rfl rfl ?_
    refine wk_bipush (pc := 158) (v := (nI (6))) S_ d_Md_tell_158 (by decide) ?_
    refine wk_icmp_neN (pc := 160) (tgt := 193) S_ d_Md_tell_160 (by decide) (by omega) (by omega) (fun h160 => ?_) (fun h160 => absurd h160 (by decide))
    refine wk_aload_n (pc := 193) S_ 0 d_Md_tell_193 rfl rfl ?_
    refine wk_get (pc := 194) (v := .ref (m 21)) S_ 6 23 0 in_Md rfl (by decide) rfl fl_Md_71 d_Md_tell_194 rfl rfl ?_
    refine wk_iconst (pc := 197) (v := (nI (4))) S_ d_Md_tell_197 (by decide) ?_
    refine wk_iload_n (pc := 198) S_ 2 d_Md_tell_198 rfl rfl ?_
    refine wk_imulN (pc := 199) S_ d_Md_tell_199 ?_
    refine wk_iload_n (pc := 200) S_ 3 d_Md_tell_200 rfl rfl ?_
    refine wk_iaddN (pc := 201) S_ d_Md_tell_201 ?_
    refine wk_iload_n (pc := 202) S_ 1 d_Md_tell_202 rfl rfl ?_
    refine wk_bipush (pc := 203) (v := (nI (7))) S_ d_Md_tell_203 (by decide) ?_
    refine wk_icmp_neN (pc := 205) (tgt := 213) S_ d_Md_tell_205 (by decide) (by omega) (by omega) (fun h205 => ?_) (fun h205 => absurd h205 (by decide))
    refine wk_iconst (pc := 213) (v := (-1)) S_ d_Md_tell_213 (by decide) ?_
    refine wk_iload (pc := 214) S_ 4 d_Md_tell_214 rfl ?_
    refine wk_isub (pc := 216) S_ d_Md_tell_216 ?_
    refine wk_top (y := (lI (c + 11))) (by rw [lI, if_neg (by omega), if_neg (by omega)]; rfl) ?_
    refine wk_iastD (pc := 217) (g := qld) (ws' := (wMd m cI tx sz ap pt rk cd fr mc mg mz nc nt ld qap qpt qrk qcd qfr qmc qmg qmz qnc qnt (va_up (qld) (((4) * (a)) + (b)) (c + 11)) nb cl gr sp ot na aw nx bg bb ab fd pv bx wy li fm en nu td lf lk)) S_ 21 0 d_Md_tell_217 rfl rfl (by omega) (by decide) rfl ?_
    exact hQ_ (qap, qpt, qrk, qcd, qfr, qmc, qmg, qmz, qnc, qnt, va_up (qld) (((4) * (a)) + (b)) (c + 11)) d_Md_tell_218 rfl rfl
end
section
/-- how many of the first n are x; their grams -/
def cnN (gv : Nat → Nat) (x : Nat) : Nat → Nat
  | 0 => 0
  | n + 1 => cnN gv x n + (if gv n = x then 1 else 0)
def smN (gr gv : Nat → Nat) (x : Nat) : Nat → Nat
  | 0 => 0
  | n + 1 => smN gr gv x n + (if gv n = x then gr n else 0)
theorem cnN_le {gv : Nat → Nat} {x : Nat} : ∀ n, cnN gv x n ≤ n
  | 0 => Nat.le_refl _
  | n + 1 => by
    have h := cnN_le (gv := gv) (x := x) n
    rw [cnN]
    split <;> omega
theorem smN_le {gr gv : Nat → Nat} {x : Nat} (hg : ∀ b, gr b ≤ 100000) : ∀ n, smN gr gv x n ≤ 100000 * n
  | 0 => Nat.le_refl _
  | n + 1 => by
    have h := smN_le (gv := gv) (x := x) hg n
    have h2 := hg n
    rw [smN]
    split <;> omega
/-- one box is well filled -/
def bxP (ap : Nat → Bool) (cl gr gv bg bb ab : Nat → Nat) (nb x : Nat) : Prop :=
  (∀ b, b < nb → gv b = x + 1 → ∀ d, d < b → gv d = x + 1 → ap (9 * (cl b - 1) + (cl d - 1)) = false) ∧ cnN gv (x + 1) nb ≤ bb x ∧ (cnN gv (x + 1) nb = 0 ∨ ab x + smN gr gv (x + 1) nb ≤ bg x)
def kpP (ap : Nat → Bool) (cl gr gv bg bb ab : Nat → Nat) (nb nx : Nat) : Prop := ∀ x, x < nx → bxP ap cl gr gv bg bb ab nb x
noncomputable def kpB (ap : Nat → Bool) (cl gr gv bg bb ab : Nat → Nat) (nb nx : Nat) : Bool := @decide (kpP ap cl gr gv bg bb ab nb nx) (Classical.propDecidable _)
theorem kpB_t {ap : Nat → Bool} {cl gr gv bg bb ab : Nat → Nat} {nb nx : Nat} (h : kpP ap cl gr gv bg bb ab nb nx) : kpB ap cl gr gv bg bb ab nb nx = true := @decide_eq_true _ (Classical.propDecidable _) h
theorem kpB_f {ap : Nat → Bool} {cl gr gv bg bb ab : Nat → Nat} {nb nx : Nat} (h : ¬ kpP ap cl gr gv bg bb ab nb nx) : kpB ap cl gr gv bg bb ab nb nx = false := @decide_eq_false _ (Classical.propDecidable _) h
/-- boxes in use: their bits, how many -/
def usS (gv : Nat → Nat) : Nat → Nat × Nat
  | 0 => (0, 0)
  | n + 1 => if gv n ≠ 0 ∧ (usS gv n).1 / 2 ^ (gv n - 1) &&& 1 = 0 then ((usS gv n).1 ||| 2 ^ (gv n - 1), (usS gv n).2 + 1) else usS gv n
theorem usS_le {gv : Nat → Nat} (h : ∀ b, gv b ≤ 5) : ∀ n, (usS gv n).1 < 32 ∧ (usS gv n).2 ≤ n
  | 0 => by simp [usS]
  | n + 1 => by
    have ih := usS_le h n
    have h1 := h n
    rw [usS]
    split
    · refine ⟨?_, by show _ + 1 ≤ _; omega⟩
      show (usS gv n).1 ||| 2 ^ (gv n - 1) < 2 ^ 5
      exact Nat.or_lt_two_pow ih.1 (Nat.pow_lt_pow_right (by decide) (by omega))
    · omega
/-- the next way -/
def trS (li : Nat → Nat) (nx : Nat) : Nat → (Nat → Nat) → (Nat → Nat) × Bool
  | 0, wy => (wy, false)
  | k + 1, wy => if wy (li k) = nx then trS li nx k (va_up wy (li k) 1) else (va_up wy (li k) (wy (li k) + 1), true)
/-- all that are to be packed have a box, and no others -/
def smB (ot : Nat → Bool) (cl bx : Nat → Nat) (fd : Bool) : Nat → Bool
  | 0 => fd
  | n + 1 => smB ot cl bx fd n && decide ((ot n = false ∧ cl n ≠ 0) ↔ bx n ≠ 0)
theorem bI_inj {a b : Bool} (h : bI a = bI b) : a = b := by
  cases a <;> cases b <;> first | rfl | exact absurd h (by decide)
theorem d_Md_keeps_0 : decode b_Md_keeps 0 = .ok (.iconst 0, 1) := by decide +kernel
theorem d_Md_keeps_1 : decode b_Md_keeps 1 = .ok (.istore_n 2, 1) := by decide +kernel
theorem d_Md_keeps_2 : decode b_Md_keeps 2 = .ok (.iload_n 2, 1) := by decide +kernel
theorem d_Md_keeps_3 : decode b_Md_keeps 3 = .ok (.aload_n 0, 1) := by decide +kernel
theorem d_Md_keeps_4 : decode b_Md_keeps 4 = .ok (.getfield 213, 3) := by decide +kernel
theorem d_Md_keeps_7 : decode b_Md_keeps 7 = .ok (.if_icmp .ge 140, 3) := by decide +kernel
theorem d_Md_keeps_10 : decode b_Md_keeps 10 = .ok (.iconst 0, 1) := by decide +kernel
theorem d_Md_keeps_11 : decode b_Md_keeps 11 = .ok (.istore_n 3, 1) := by decide +kernel
theorem d_Md_keeps_12 : decode b_Md_keeps 12 = .ok (.aload_n 0, 1) := by decide +kernel
theorem d_Md_keeps_13 : decode b_Md_keeps 13 = .ok (.getfield 96, 3) := by decide +kernel
theorem d_Md_keeps_16 : decode b_Md_keeps 16 = .ok (.iload_n 2, 1) := by decide +kernel
theorem d_Md_keeps_17 : decode b_Md_keeps 17 = .ok (.laload, 1) := by decide +kernel
theorem d_Md_keeps_18 : decode b_Md_keeps 18 = .ok (.lstore 4, 2) := by decide +kernel
theorem d_Md_keeps_20 : decode b_Md_keeps 20 = .ok (.iconst 0, 1) := by decide +kernel
theorem d_Md_keeps_21 : decode b_Md_keeps 21 = .ok (.istore 6, 2) := by decide +kernel
theorem d_Md_keeps_23 : decode b_Md_keeps 23 = .ok (.iload 6, 2) := by decide +kernel
theorem d_Md_keeps_25 : decode b_Md_keeps 25 = .ok (.aload_n 0, 1) := by decide +kernel
theorem d_Md_keeps_26 : decode b_Md_keeps 26 = .ok (.getfield 117, 3) := by decide +kernel
theorem d_Md_keeps_29 : decode b_Md_keeps 29 = .ok (.if_icmp .ge 84, 3) := by decide +kernel
theorem d_Md_keeps_32 : decode b_Md_keeps 32 = .ok (.aload_n 1, 1) := by decide +kernel
theorem d_Md_keeps_33 : decode b_Md_keeps 33 = .ok (.iload 6, 2) := by decide +kernel
theorem d_Md_keeps_35 : decode b_Md_keeps 35 = .ok (.iaload, 1) := by decide +kernel
theorem d_Md_keeps_36 : decode b_Md_keeps 36 = .ok (.iload_n 2, 1) := by decide +kernel
theorem d_Md_keeps_37 : decode b_Md_keeps 37 = .ok (.if_icmp .ne 70, 3) := by decide +kernel
theorem d_Md_keeps_40 : decode b_Md_keeps 40 = .ok (.iinc 3 1, 3) := by decide +kernel
theorem d_Md_keeps_43 : decode b_Md_keeps 43 = .ok (.lload 4, 2) := by decide +kernel
theorem d_Md_keeps_45 : decode b_Md_keeps 45 = .ok (.aload_n 0, 1) := by decide +kernel
theorem d_Md_keeps_46 : decode b_Md_keeps 46 = .ok (.getfield 77, 3) := by decide +kernel
theorem d_Md_keeps_49 : decode b_Md_keeps 49 = .ok (.iload 6, 2) := by decide +kernel
theorem d_Md_keeps_51 : decode b_Md_keeps 51 = .ok (.laload, 1) := by decide +kernel
theorem d_Md_keeps_52 : decode b_Md_keeps 52 = .ok (.ladd, 1) := by decide +kernel
theorem d_Md_keeps_53 : decode b_Md_keeps 53 = .ok (.lstore 4, 2) := by decide +kernel
theorem d_Md_keeps_55 : decode b_Md_keeps 55 = .ok (.iconst 0, 1) := by decide +kernel
theorem d_Md_keeps_56 : decode b_Md_keeps 56 = .ok (.istore 7, 2) := by decide +kernel
theorem d_Md_keeps_58 : decode b_Md_keeps 58 = .ok (.iload 7, 2) := by decide +kernel
theorem d_Md_keeps_60 : decode b_Md_keeps 60 = .ok (.iload 6, 2) := by decide +kernel
theorem d_Md_keeps_62 : decode b_Md_keeps 62 = .ok (.if_icmp .ge 45, 3) := by decide +kernel
theorem d_Md_keeps_65 : decode b_Md_keeps 65 = .ok (.aload_n 1, 1) := by decide +kernel
theorem d_Md_keeps_66 : decode b_Md_keeps 66 = .ok (.iload 7, 2) := by decide +kernel
theorem d_Md_keeps_68 : decode b_Md_keeps 68 = .ok (.iaload, 1) := by decide +kernel
theorem d_Md_keeps_69 : decode b_Md_keeps 69 = .ok (.iload_n 2, 1) := by decide +kernel
theorem d_Md_keeps_70 : decode b_Md_keeps 70 = .ok (.if_icmp .ne 31, 3) := by decide +kernel
theorem d_Md_keeps_73 : decode b_Md_keeps 73 = .ok (.aload_n 0, 1) := by decide +kernel
theorem d_Md_keeps_74 : decode b_Md_keeps 74 = .ok (.getfield 13, 3) := by decide +kernel
theorem d_Md_keeps_77 : decode b_Md_keeps 77 = .ok (.bipush 9, 2) := by decide +kernel
theorem d_Md_keeps_79 : decode b_Md_keeps 79 = .ok (.aload_n 0, 1) := by decide +kernel
theorem d_Md_keeps_80 : decode b_Md_keeps 80 = .ok (.getfield 74, 3) := by decide +kernel
theorem d_Md_keeps_83 : decode b_Md_keeps 83 = .ok (.iload 6, 2) := by decide +kernel
theorem d_Md_keeps_85 : decode b_Md_keeps 85 = .ok (.iaload, 1) := by decide +kernel
theorem d_Md_keeps_86 : decode b_Md_keeps 86 = .ok (.imul, 1) := by decide +kernel
theorem d_Md_keeps_87 : decode b_Md_keeps 87 = .ok (.aload_n 0, 1) := by decide +kernel
theorem d_Md_keeps_88 : decode b_Md_keeps 88 = .ok (.getfield 74, 3) := by decide +kernel
theorem d_Md_keeps_91 : decode b_Md_keeps 91 = .ok (.iload 7, 2) := by decide +kernel
theorem d_Md_keeps_93 : decode b_Md_keeps 93 = .ok (.iaload, 1) := by decide +kernel
theorem d_Md_keeps_94 : decode b_Md_keeps 94 = .ok (.iadd, 1) := by decide +kernel
theorem d_Md_keeps_95 : decode b_Md_keeps 95 = .ok (.baload, 1) := by decide +kernel
theorem d_Md_keeps_96 : decode b_Md_keeps 96 = .ok (.ifCond .eq 5, 3) := by decide +kernel
theorem d_Md_keeps_99 : decode b_Md_keeps 99 = .ok (.iconst 0, 1) := by decide +kernel
theorem d_Md_keeps_100 : decode b_Md_keeps 100 = .ok (.ireturn, 1) := by decide +kernel
theorem d_Md_keeps_101 : decode b_Md_keeps 101 = .ok (.iinc 7 1, 3) := by decide +kernel
theorem d_Md_keeps_104 : decode b_Md_keeps 104 = .ok (.goto (-46), 3) := by decide +kernel
theorem d_Md_keeps_107 : decode b_Md_keeps 107 = .ok (.iinc 6 1, 3) := by decide +kernel
theorem d_Md_keeps_110 : decode b_Md_keeps 110 = .ok (.goto (-87), 3) := by decide +kernel
theorem d_Md_keeps_113 : decode b_Md_keeps 113 = .ok (.iload_n 3, 1) := by decide +kernel
theorem d_Md_keeps_114 : decode b_Md_keeps 114 = .ok (.aload_n 0, 1) := by decide +kernel
theorem d_Md_keeps_115 : decode b_Md_keeps 115 = .ok (.getfield 93, 3) := by decide +kernel
theorem d_Md_keeps_118 : decode b_Md_keeps 118 = .ok (.iload_n 2, 1) := by decide +kernel
theorem d_Md_keeps_119 : decode b_Md_keeps 119 = .ok (.iaload, 1) := by decide +kernel
theorem d_Md_keeps_120 : decode b_Md_keeps 120 = .ok (.if_icmp .gt 19, 3) := by decide +kernel
theorem d_Md_keeps_123 : decode b_Md_keeps 123 = .ok (.iload_n 3, 1) := by decide +kernel
theorem d_Md_keeps_124 : decode b_Md_keeps 124 = .ok (.ifCond .le 17, 3) := by decide +kernel
theorem d_Md_keeps_127 : decode b_Md_keeps 127 = .ok (.lload 4, 2) := by decide +kernel
theorem d_Md_keeps_129 : decode b_Md_keeps 129 = .ok (.aload_n 0, 1) := by decide +kernel
theorem d_Md_keeps_130 : decode b_Md_keeps 130 = .ok (.getfield 90, 3) := by decide +kernel
theorem d_Md_keeps_133 : decode b_Md_keeps 133 = .ok (.iload_n 2, 1) := by decide +kernel
theorem d_Md_keeps_134 : decode b_Md_keeps 134 = .ok (.laload, 1) := by decide +kernel
theorem d_Md_keeps_135 : decode b_Md_keeps 135 = .ok (.lcmp, 1) := by decide +kernel
theorem d_Md_keeps_136 : decode b_Md_keeps 136 = .ok (.ifCond .le 5, 3) := by decide +kernel
theorem d_Md_keeps_139 : decode b_Md_keeps 139 = .ok (.iconst 0, 1) := by decide +kernel
theorem d_Md_keeps_140 : decode b_Md_keeps 140 = .ok (.ireturn, 1) := by decide +kernel
theorem d_Md_keeps_141 : decode b_Md_keeps 141 = .ok (.iinc 2 1, 3) := by decide +kernel
theorem d_Md_keeps_144 : decode b_Md_keeps 144 = .ok (.goto (-142), 3) := by decide +kernel
theorem d_Md_keeps_147 : decode b_Md_keeps 147 = .ok (.iconst 1, 1) := by decide +kernel
theorem d_Md_keeps_148 : decode b_Md_keeps 148 = .ok (.ireturn, 1) := by decide +kernel
theorem d_Md_used_0 : decode b_Md_used 0 = .ok (.iconst 0, 1) := by decide +kernel
theorem d_Md_used_1 : decode b_Md_used 1 = .ok (.istore_n 2, 1) := by decide +kernel
theorem d_Md_used_2 : decode b_Md_used 2 = .ok (.iconst 0, 1) := by decide +kernel
theorem d_Md_used_3 : decode b_Md_used 3 = .ok (.istore_n 3, 1) := by decide +kernel
theorem d_Md_used_4 : decode b_Md_used 4 = .ok (.iconst 0, 1) := by decide +kernel
theorem d_Md_used_5 : decode b_Md_used 5 = .ok (.istore 4, 2) := by decide +kernel
theorem d_Md_used_7 : decode b_Md_used 7 = .ok (.iload 4, 2) := by decide +kernel
theorem d_Md_used_9 : decode b_Md_used 9 = .ok (.aload_n 0, 1) := by decide +kernel
theorem d_Md_used_10 : decode b_Md_used 10 = .ok (.getfield 117, 3) := by decide +kernel
theorem d_Md_used_13 : decode b_Md_used 13 = .ok (.if_icmp .ge 39, 3) := by decide +kernel
theorem d_Md_used_16 : decode b_Md_used 16 = .ok (.aload_n 1, 1) := by decide +kernel
theorem d_Md_used_17 : decode b_Md_used 17 = .ok (.iload 4, 2) := by decide +kernel
theorem d_Md_used_19 : decode b_Md_used 19 = .ok (.iaload, 1) := by decide +kernel
theorem d_Md_used_20 : decode b_Md_used 20 = .ok (.ifCond .lt 26, 3) := by decide +kernel
theorem d_Md_used_23 : decode b_Md_used 23 = .ok (.iload_n 2, 1) := by decide +kernel
theorem d_Md_used_24 : decode b_Md_used 24 = .ok (.aload_n 1, 1) := by decide +kernel
theorem d_Md_used_25 : decode b_Md_used 25 = .ok (.iload 4, 2) := by decide +kernel
theorem d_Md_used_27 : decode b_Md_used 27 = .ok (.iaload, 1) := by decide +kernel
theorem d_Md_used_28 : decode b_Md_used 28 = .ok (.ishr, 1) := by decide +kernel
theorem d_Md_used_29 : decode b_Md_used 29 = .ok (.iconst 1, 1) := by decide +kernel
theorem d_Md_used_30 : decode b_Md_used 30 = .ok (.iand, 1) := by decide +kernel
theorem d_Md_used_31 : decode b_Md_used 31 = .ok (.ifCond .ne 15, 3) := by decide +kernel
theorem d_Md_used_34 : decode b_Md_used 34 = .ok (.iload_n 2, 1) := by decide +kernel
theorem d_Md_used_35 : decode b_Md_used 35 = .ok (.iconst 1, 1) := by decide +kernel
theorem d_Md_used_36 : decode b_Md_used 36 = .ok (.aload_n 1, 1) := by decide +kernel
theorem d_Md_used_37 : decode b_Md_used 37 = .ok (.iload 4, 2) := by decide +kernel
theorem d_Md_used_39 : decode b_Md_used 39 = .ok (.iaload, 1) := by decide +kernel
theorem d_Md_used_40 : decode b_Md_used 40 = .ok (.ishl, 1) := by decide +kernel
theorem d_Md_used_41 : decode b_Md_used 41 = .ok (.ior, 1) := by decide +kernel
theorem d_Md_used_42 : decode b_Md_used 42 = .ok (.istore_n 2, 1) := by decide +kernel
theorem d_Md_used_43 : decode b_Md_used 43 = .ok (.iinc 3 1, 3) := by decide +kernel
theorem d_Md_used_46 : decode b_Md_used 46 = .ok (.iinc 4 1, 3) := by decide +kernel
theorem d_Md_used_49 : decode b_Md_used 49 = .ok (.goto (-42), 3) := by decide +kernel
theorem d_Md_used_52 : decode b_Md_used 52 = .ok (.iload_n 3, 1) := by decide +kernel
theorem d_Md_used_53 : decode b_Md_used 53 = .ok (.ireturn, 1) := by decide +kernel
theorem fl_Md_102 : Cond.fieldLink R_Md 102 R_Md "way" "[I" ∈ lw_gd := (gd _ (tb2 _ (List.mem_of_getElem? (i := 182) rfl)) rfl)
theorem fl_Md_105 : Cond.fieldLink R_Md 105 R_Md "list" "[I" ∈ lw_gd := (gd _ (tb2 _ (List.mem_of_getElem? (i := 183) rfl)) rfl)
theorem d_Md_turn_0 : decode b_Md_turn 0 = .ok (.iload_n 1, 1) := by decide +kernel
theorem d_Md_turn_1 : decode b_Md_turn 1 = .ok (.iconst 1, 1) := by decide +kernel
theorem d_Md_turn_2 : decode b_Md_turn 2 = .ok (.isub, 1) := by decide +kernel
theorem d_Md_turn_3 : decode b_Md_turn 3 = .ok (.istore_n 2, 1) := by decide +kernel
theorem d_Md_turn_4 : decode b_Md_turn 4 = .ok (.iload_n 2, 1) := by decide +kernel
theorem d_Md_turn_5 : decode b_Md_turn 5 = .ok (.ifCond .lt 41, 3) := by decide +kernel
theorem d_Md_turn_8 : decode b_Md_turn 8 = .ok (.aload_n 0, 1) := by decide +kernel
theorem d_Md_turn_9 : decode b_Md_turn 9 = .ok (.getfield 102, 3) := by decide +kernel
theorem d_Md_turn_12 : decode b_Md_turn 12 = .ok (.aload_n 0, 1) := by decide +kernel
theorem d_Md_turn_13 : decode b_Md_turn 13 = .ok (.getfield 105, 3) := by decide +kernel
theorem d_Md_turn_16 : decode b_Md_turn 16 = .ok (.iload_n 2, 1) := by decide +kernel
theorem d_Md_turn_17 : decode b_Md_turn 17 = .ok (.iaload, 1) := by decide +kernel
theorem d_Md_turn_18 : decode b_Md_turn 18 = .ok (.iaload, 1) := by decide +kernel
theorem d_Md_turn_19 : decode b_Md_turn 19 = .ok (.aload_n 0, 1) := by decide +kernel
theorem d_Md_turn_20 : decode b_Md_turn 20 = .ok (.getfield 213, 3) := by decide +kernel
theorem d_Md_turn_23 : decode b_Md_turn 23 = .ok (.iconst 1, 1) := by decide +kernel
theorem d_Md_turn_24 : decode b_Md_turn 24 = .ok (.isub, 1) := by decide +kernel
theorem d_Md_turn_25 : decode b_Md_turn 25 = .ok (.if_icmp .ne 21, 3) := by decide +kernel
theorem d_Md_turn_28 : decode b_Md_turn 28 = .ok (.aload_n 0, 1) := by decide +kernel
theorem d_Md_turn_29 : decode b_Md_turn 29 = .ok (.getfield 102, 3) := by decide +kernel
theorem d_Md_turn_32 : decode b_Md_turn 32 = .ok (.aload_n 0, 1) := by decide +kernel
theorem d_Md_turn_33 : decode b_Md_turn 33 = .ok (.getfield 105, 3) := by decide +kernel
theorem d_Md_turn_36 : decode b_Md_turn 36 = .ok (.iload_n 2, 1) := by decide +kernel
theorem d_Md_turn_37 : decode b_Md_turn 37 = .ok (.iaload, 1) := by decide +kernel
theorem d_Md_turn_38 : decode b_Md_turn 38 = .ok (.iconst 0, 1) := by decide +kernel
theorem d_Md_turn_39 : decode b_Md_turn 39 = .ok (.iastore, 1) := by decide +kernel
theorem d_Md_turn_40 : decode b_Md_turn 40 = .ok (.iinc 2 (-1), 3) := by decide +kernel
theorem d_Md_turn_43 : decode b_Md_turn 43 = .ok (.goto (-39), 3) := by decide +kernel
theorem d_Md_turn_46 : decode b_Md_turn 46 = .ok (.iload_n 2, 1) := by decide +kernel
theorem d_Md_turn_47 : decode b_Md_turn 47 = .ok (.ifCond .lt 18, 3) := by decide +kernel
theorem d_Md_turn_50 : decode b_Md_turn 50 = .ok (.aload_n 0, 1) := by decide +kernel
theorem d_Md_turn_51 : decode b_Md_turn 51 = .ok (.getfield 102, 3) := by decide +kernel
theorem d_Md_turn_54 : decode b_Md_turn 54 = .ok (.aload_n 0, 1) := by decide +kernel
theorem d_Md_turn_55 : decode b_Md_turn 55 = .ok (.getfield 105, 3) := by decide +kernel
theorem d_Md_turn_58 : decode b_Md_turn 58 = .ok (.iload_n 2, 1) := by decide +kernel
theorem d_Md_turn_59 : decode b_Md_turn 59 = .ok (.iaload, 1) := by decide +kernel
theorem d_Md_turn_60 : decode b_Md_turn 60 = .ok (.dup2, 1) := by decide +kernel
theorem d_Md_turn_61 : decode b_Md_turn 61 = .ok (.iaload, 1) := by decide +kernel
theorem d_Md_turn_62 : decode b_Md_turn 62 = .ok (.iconst 1, 1) := by decide +kernel
theorem d_Md_turn_63 : decode b_Md_turn 63 = .ok (.iadd, 1) := by decide +kernel
theorem d_Md_turn_64 : decode b_Md_turn 64 = .ok (.iastore, 1) := by decide +kernel
theorem d_Md_turn_65 : decode b_Md_turn 65 = .ok (.iload_n 2, 1) := by decide +kernel
theorem d_Md_turn_66 : decode b_Md_turn 66 = .ok (.ifCond .lt 7, 3) := by decide +kernel
theorem d_Md_turn_69 : decode b_Md_turn 69 = .ok (.iconst 1, 1) := by decide +kernel
theorem d_Md_turn_70 : decode b_Md_turn 70 = .ok (.goto 4, 3) := by decide +kernel
theorem d_Md_turn_73 : decode b_Md_turn 73 = .ok (.iconst 0, 1) := by decide +kernel
theorem d_Md_turn_74 : decode b_Md_turn 74 = .ok (.ireturn, 1) := by decide +kernel
theorem mv_Md_228 : wk_V R_Md 228 R_Md y_Md_isToBePacked b_Md_isToBePacked 2 (some .boolean) 1 := ⟨(gd _ (tb3 _ (List.mem_of_getElem? (i := 148) rfl)) rfl), (gd _ (tb0 _ (List.mem_of_getElem? (i := 8) rfl)) rfl), (gd _ (tb3 _ (List.mem_of_getElem? (i := 145) rfl)) rfl), (by decide +kernel), (gd _ (tb3 _ (List.mem_of_getElem? (i := 147) rfl)) rfl), (gd _ (List.mem_append_left _ (by decide +kernel)) rfl)⟩
theorem mv_Md_235 : wk_V R_Md 235 R_Md y_Md_keeps b_Md_keeps 8 (some .boolean) 1 := ⟨(gd _ (tb3 _ (List.mem_of_getElem? (i := 156) rfl)) rfl), (gd _ (tb0 _ (List.mem_of_getElem? (i := 8) rfl)) rfl), (gd _ (tb3 _ (List.mem_of_getElem? (i := 153) rfl)) rfl), (by decide +kernel), (gd _ (tb3 _ (List.mem_of_getElem? (i := 155) rfl)) rfl), (gd _ (List.mem_append_left _ (by decide +kernel)) rfl)⟩
theorem d_Md_kept_0 : decode b_Md_kept 0 = .ok (.aload_n 0, 1) := by decide +kernel
theorem d_Md_kept_1 : decode b_Md_kept 1 = .ok (.getfield 239, 3) := by decide +kernel
theorem d_Md_kept_4 : decode b_Md_kept 4 = .ok (.istore_n 1, 1) := by decide +kernel
theorem d_Md_kept_5 : decode b_Md_kept 5 = .ok (.iconst 0, 1) := by decide +kernel
theorem d_Md_kept_6 : decode b_Md_kept 6 = .ok (.istore_n 2, 1) := by decide +kernel
theorem d_Md_kept_7 : decode b_Md_kept 7 = .ok (.iload_n 2, 1) := by decide +kernel
theorem d_Md_kept_8 : decode b_Md_kept 8 = .ok (.aload_n 0, 1) := by decide +kernel
theorem d_Md_kept_9 : decode b_Md_kept 9 = .ok (.getfield 117, 3) := by decide +kernel
theorem d_Md_kept_12 : decode b_Md_kept 12 = .ok (.if_icmp .ge 41, 3) := by decide +kernel
theorem d_Md_kept_15 : decode b_Md_kept 15 = .ok (.iload_n 1, 1) := by decide +kernel
theorem d_Md_kept_16 : decode b_Md_kept 16 = .ok (.ifCond .eq 29, 3) := by decide +kernel
theorem d_Md_kept_19 : decode b_Md_kept 19 = .ok (.aload_n 0, 1) := by decide +kernel
theorem d_Md_kept_20 : decode b_Md_kept 20 = .ok (.iload_n 2, 1) := by decide +kernel
theorem d_Md_kept_21 : decode b_Md_kept 21 = .ok (.invokevirtual 228, 3) := by decide +kernel
theorem d_Md_kept_24 : decode b_Md_kept 24 = .ok (.aload_n 0, 1) := by decide +kernel
theorem d_Md_kept_25 : decode b_Md_kept 25 = .ok (.getfield 99, 3) := by decide +kernel
theorem d_Md_kept_28 : decode b_Md_kept 28 = .ok (.iload_n 2, 1) := by decide +kernel
theorem d_Md_kept_29 : decode b_Md_kept 29 = .ok (.iaload, 1) := by decide +kernel
theorem d_Md_kept_30 : decode b_Md_kept 30 = .ok (.ifCond .lt 7, 3) := by decide +kernel
theorem d_Md_kept_33 : decode b_Md_kept 33 = .ok (.iconst 1, 1) := by decide +kernel
theorem d_Md_kept_34 : decode b_Md_kept 34 = .ok (.goto 4, 3) := by decide +kernel
theorem d_Md_kept_37 : decode b_Md_kept 37 = .ok (.iconst 0, 1) := by decide +kernel
theorem d_Md_kept_38 : decode b_Md_kept 38 = .ok (.if_icmp .ne 7, 3) := by decide +kernel
theorem d_Md_kept_41 : decode b_Md_kept 41 = .ok (.iconst 1, 1) := by decide +kernel
theorem d_Md_kept_42 : decode b_Md_kept 42 = .ok (.goto 4, 3) := by decide +kernel
theorem d_Md_kept_45 : decode b_Md_kept 45 = .ok (.iconst 0, 1) := by decide +kernel
theorem d_Md_kept_46 : decode b_Md_kept 46 = .ok (.istore_n 1, 1) := by decide +kernel
theorem d_Md_kept_47 : decode b_Md_kept 47 = .ok (.iinc 2 1, 3) := by decide +kernel
theorem d_Md_kept_50 : decode b_Md_kept 50 = .ok (.goto (-43), 3) := by decide +kernel
theorem d_Md_kept_53 : decode b_Md_kept 53 = .ok (.iload_n 1, 1) := by decide +kernel
theorem d_Md_kept_54 : decode b_Md_kept 54 = .ok (.ifCond .eq 18, 3) := by decide +kernel
theorem d_Md_kept_57 : decode b_Md_kept 57 = .ok (.aload_n 0, 1) := by decide +kernel
theorem d_Md_kept_58 : decode b_Md_kept 58 = .ok (.aload_n 0, 1) := by decide +kernel
theorem d_Md_kept_59 : decode b_Md_kept 59 = .ok (.getfield 99, 3) := by decide +kernel
theorem d_Md_kept_62 : decode b_Md_kept 62 = .ok (.invokevirtual 235, 3) := by decide +kernel
theorem d_Md_kept_65 : decode b_Md_kept 65 = .ok (.ifCond .eq 7, 3) := by decide +kernel
theorem d_Md_kept_68 : decode b_Md_kept 68 = .ok (.iconst 1, 1) := by decide +kernel
theorem d_Md_kept_69 : decode b_Md_kept 69 = .ok (.goto 4, 3) := by decide +kernel
theorem d_Md_kept_72 : decode b_Md_kept 72 = .ok (.iconst 0, 1) := by decide +kernel
theorem d_Md_kept_73 : decode b_Md_kept 73 = .ok (.ireturn, 1) := by decide +kernel
set_option maxHeartbeats 4000000 in
set_option maxRecDepth 100000 in
theorem c_Md_keeps_bx (l : Launch) (D : va_G) (cI : CiT) (z : GzT) (m : Nat → Nat) (tx : (Nat → Nat)) (sz : Nat) (ap : (Nat → Bool)) (pt : (Nat → Nat)) (rk : (Nat → Nat)) (cd : (Nat → Nat)) (fr : Nat) (mc : (Nat → Nat)) (mg : (Nat → Nat)) (mz : (Nat → Nat)) (nc : (Nat → Nat)) (nt : (Nat → Nat)) (ld : (Nat → Nat)) (qap : (Nat → Bool)) (qpt : (Nat → Nat)) (qrk : (Nat → Nat)) (qcd : (Nat → Nat)) (qfr : Nat) (qmc : (Nat → Nat)) (qmg : (Nat → Nat)) (qmz : (Nat → Nat)) (qnc : (Nat → Nat)) (qnt : (Nat → Nat)) (qld : (Nat → Nat)) (nb : Nat) (cl : (Nat → Nat)) (gr : (Nat → Nat)) (sp : (Nat → Nat)) (ot : (Nat → Bool)) (na : Nat) (aw : (Nat → Nat)) (nx : Nat) (bg : (Nat → Nat)) (bb : (Nat → Nat)) (ab : (Nat → Nat)) (fd : Bool) (pv : Bool) (bx : (Nat → Nat)) (wy : (Nat → Nat)) (li : (Nat → Nat)) (fm : Nat) (en : Nat) (nu : Nat) (td : (Nat → Nat)) (lf : Int32) (lk : Int32) (hnb : nb ≤ 8) (hnx : nx ≤ 5) (hgr : ∀ b, gr b ≤ 100000) (hcl : ∀ b, cl b ≤ 9) (hgv : ∀ b, bx b ≤ 5) (hcv : ∀ b, b < nb → bx b ≠ 0 → cl b ≠ 0) (hbg : ∀ x, bg x ≤ 1000000) (hbb : ∀ x, bb x ≤ 8) (hab : ∀ x, ab x ≤ 1000000) : wk_C l D (tyK cI) (gX z) y_Md_keeps b_Md_keeps 8 (some .boolean) 0 0 0 0 [.ref (m 0), .ref (m 30)] (wMd m cI tx sz ap pt rk cd fr mc mg mz nc nt ld qap qpt qrk qcd qfr qmc qmg qmz qnc qnt qld nb cl gr sp ot na aw nx bg bb ab fd pv bx wy li fm en nu td lf lk) wk_i (fun (r : Int32) (_ : Unit) => r = (bI (kpB ap cl gr bx bg bb ab nb nx))) (fun _ => (wMd m cI tx sz ap pt rk cd fr mc mg mz nc nt ld qap qpt qrk qcd qfr qmc qmg qmz qnc qnt qld nb cl gr sp ot na aw nx bg bb ab fd pv bx wy li fm en nu td lf lk)) := by
  refine wk_methZ (own := R_Md) [(0, .ref (m 0)), (1, .ref (m 30))] (by decide) rfl (Nat.le_of_ble_eq_true rfl) rfl (gX_ok z) (fun p_ e_ R_ s_ m_ ar_ be_ me_ co_ Q_ A_ hR_ S_ hnm_ hQ_ => ?_)
  refine wk_iconst (pc := 0) (v := (nI (0))) S_ d_Md_keeps_0 (by decide) ?_
  refine wk_istore_n (pc := 1) (lv' := [(2, .int (nI (0))), (0, .ref (m 0)), (1, .ref (m 30))]) S_ d_Md_keeps_1 rfl (by decide) rfl ?_
  have hL2 : ∀ (fuel2 : Nat), ∀ (x : Nat), nx - x < fuel2 → (x ≤ nx) → (∀ y, y < x → bxP ap cl gr bx bg bb ab nb y) → wk_G p_ l e_ R_ s_ m_ ar_ be_ me_ co_ Q_ D A_ 8 0 0 (wMd m cI tx sz ap pt rk cd fr mc mg mz nc nt ld qap qpt qrk qcd qfr qmc qmg qmz qnc qnt qld nb cl gr sp ot na aw nx bg bb ab fd pv bx wy li fm en nu td lf lk) 2 [(0, .ref (m 0)), (1, .ref (m 30)), (2, .int (nI (x)))] [] := by
    intro fuel2
    induction fuel2 with
    | zero => intro x hm; exact absurd hm (Nat.not_lt_zero _)
    | succ fuel2 ih2 =>
      intro x hm hx hX
      refine wk_iload_n (pc := 2) S_ 2 d_Md_keeps_2 rfl rfl ?_
      refine wk_aload_n (pc := 3) S_ 0 d_Md_keeps_3 rfl rfl ?_
      refine wk_get (pc := 4) (v := .int (nI (nx))) S_ 6 31 0 in_Md rfl (by decide) rfl fl_Md_213 d_Md_keeps_4 rfl rfl ?_
      refine wk_icmp_geN (pc := 7) (tgt := 147) S_ d_Md_keeps_7 (by decide) (by omega) (by omega) (fun h7 => ?_) (fun h7 => ?_)
      · -- taken
        refine wk_iconst (pc := 147) (v := (nI (1))) S_ d_Md_keeps_147 (by decide) ?_
        exact hQ_ (nI (1)) () d_Md_keeps_148 rfl rfl (bI_t (kpB_t (fun y hy => hX y (by omega))))
      · -- on
        have ha1 := hab x
        refine wk_iconst (pc := 10) (v := (nI (0))) S_ d_Md_keeps_10 (by decide) ?_
        refine wk_istore_n (pc := 11) (lv' := [(3, .int (nI (0))), (0, .ref (m 0)), (1, .ref (m 30)), (2, .int (nI (x)))]) S_ d_Md_keeps_11 rfl (by decide) rfl ?_
        refine wk_aload_n (pc := 12) S_ 1 d_Md_keeps_12 rfl rfl ?_
        refine wk_get (pc := 13) (v := .ref (m 29)) S_ 6 34 0 in_Md rfl (by decide) rfl fl_Md_96 d_Md_keeps_13 rfl rfl ?_
        refine wk_iload_n (pc := 16) S_ 3 d_Md_keeps_16 rfl rfl ?_
        refine wk_lald (pc := 17) (g := ab) S_ 29 2 d_Md_keeps_17 rfl rfl (by omega) (by decide) ?_
        refine wk_lstore (pc := 18) (lv' := [(4, .long (lN ((ab) (x)))), (3, .int (nI (0))), (0, .ref (m 0)), (1, .ref (m 30)), (2, .int (nI (x)))]) S_ d_Md_keeps_18 (by decide) rfl ?_
        refine wk_iconst (pc := 20) (v := (nI (0))) S_ d_Md_keeps_20 (by decide) ?_
        refine wk_istore (pc := 21) (lv' := [(6, .int (nI (0))), (4, .long (lN ((ab) (x)))), (3, .int (nI (0))), (0, .ref (m 0)), (1, .ref (m 30)), (2, .int (nI (x)))]) S_ d_Md_keeps_21 (by decide) rfl ?_
        have hL23 : ∀ (fuel23 : Nat), ∀ (b : Nat), nb - b < fuel23 → (b ≤ nb) → (∀ b2, b2 < b → bx b2 = x + 1 → ∀ d, d < b2 → bx d = x + 1 → ap (9 * (cl b2 - 1) + (cl d - 1)) = false) → wk_G p_ l e_ R_ s_ m_ ar_ be_ me_ co_ Q_ D A_ 8 0 0 (wMd m cI tx sz ap pt rk cd fr mc mg mz nc nt ld qap qpt qrk qcd qfr qmc qmg qmz qnc qnt qld nb cl gr sp ot na aw nx bg bb ab fd pv bx wy li fm en nu td lf lk) 23 [(0, .ref (m 0)), (1, .ref (m 30)), (2, .int (nI (x))), (3, .int (nI (cnN bx (x + 1) b))), (4, .long (lN (ab x + smN gr bx (x + 1) b))), (6, .int (nI (b)))] [] := by
          intro fuel23
          induction fuel23 with
          | zero => intro b hm; exact absurd hm (Nat.not_lt_zero _)
          | succ fuel23 ih23 =>
            intro b hm hb hB
            refine wk_iload (pc := 23) S_ 5 d_Md_keeps_23 rfl ?_
            refine wk_aload_n (pc := 25) S_ 0 d_Md_keeps_25 rfl rfl ?_
            refine wk_get (pc := 26) (v := .int (nI (nb))) S_ 6 24 0 in_Md rfl (by decide) rfl fl_Md_117 d_Md_keeps_26 rfl rfl ?_
            refine wk_icmp_geN (pc := 29) (tgt := 113) S_ d_Md_keeps_29 (by decide) (by omega) (by omega) (fun h29 => ?_) (fun h29 => ?_)
            · -- taken
              have hbn : b = nb := by omega
              subst hbn
              have hc5 := cnN_le (gv := bx) (x := x + 1) b
              have hs5 := smN_le (gr := gr) (gv := bx) (x := x + 1) hgr b
              have hb5 := hbb x
              have hb6 := hbg x
              refine wk_iload_n (pc := 113) S_ 3 d_Md_keeps_113 rfl rfl ?_
              refine wk_aload_n (pc := 114) S_ 0 d_Md_keeps_114 rfl rfl ?_
              refine wk_get (pc := 115) (v := .ref (m 28)) S_ 6 33 0 in_Md rfl (by decide) rfl fl_Md_93 d_Md_keeps_115 rfl rfl ?_
              refine wk_iload_n (pc := 118) S_ 2 d_Md_keeps_118 rfl rfl ?_
              refine wk_ialdN (pc := 119) (g := bb) S_ 28 0 d_Md_keeps_119 rfl rfl (by omega) (by decide) ?_
              refine wk_icmp_gtN (pc := 120) (tgt := 139) S_ d_Md_keeps_120 (by decide) (by omega) (by omega) (fun h120 => ?_) (fun h120 => ?_)
              · -- taken
                refine wk_iconst (pc := 139) (v := (nI (0))) S_ d_Md_keeps_139 (by decide) ?_
                exact hQ_ (nI (0)) () d_Md_keeps_140 rfl rfl (bI_f (kpB_f (fun h => absurd (h x (by omega)).2 (by omega))))
              · -- on
                refine wk_iload_n (pc := 123) S_ 3 d_Md_keeps_123 rfl rfl ?_
                refine wk_if_leN (pc := 124) (tgt := 141) S_ d_Md_keeps_124 (by decide) (by omega) (fun h124 => ?_) (fun h124 => ?_)
                · -- taken
                  have hcn : cnN bx (x + 1) b ≤ bb x := by omega
                  have hsm : cnN bx (x + 1) b = 0 ∨ ab x + smN gr bx (x + 1) b ≤ bg x := by omega
                  refine wk_iincN (pc := 141) (d := 1) (lv' := [(2, .int (nI (x + 1))), (0, .ref (m 0)), (1, .ref (m 30)), (3, .int (nI (cnN bx (x + 1) b))), (4, .long (lN (ab x + smN gr bx (x + 1) b))), (6, .int (nI (b)))]) S_ 2 d_Md_keeps_141 (by decide) rfl (by decide) rfl ?_
                  refine wk_goto (pc := 144) (tgt := 2) S_ d_Md_keeps_144 (by decide) ?_
                  refine wk_lv [1, 2, 0] ?_ (ih2 (x + 1) (by omega) (by omega) (fun y hy => by by_cases e : y = x; subst e; exact ⟨fun b2 hb2 => hB b2 (by omega), hcn, hsm⟩; exact hX y (by omega)))
                  rfl
                · -- on
                  refine wk_lload (pc := 127) S_ 4 d_Md_keeps_127 rfl ?_
                  refine wk_aload_n (pc := 129) S_ 0 d_Md_keeps_129 rfl rfl ?_
                  refine wk_get (pc := 130) (v := .ref (m 27)) S_ 6 32 0 in_Md rfl (by decide) rfl fl_Md_90 d_Md_keeps_130 rfl rfl ?_
                  refine wk_iload_n (pc := 133) S_ 2 d_Md_keeps_133 rfl rfl ?_
                  refine wk_lald (pc := 134) (g := bg) S_ 27 2 d_Md_keeps_134 rfl rfl (by omega) (by decide) ?_
                  refine wk_lcmp (pc := 135) S_ d_Md_keeps_135 ?_
                  refine wk_cmp_leN (pc := 136) (tgt := 141) S_ d_Md_keeps_136 (by decide) (by omega) (by omega) (fun h136 => ?_) (fun h136 => ?_)
                  · -- taken
                    have hcn : cnN bx (x + 1) b ≤ bb x := by omega
                    have hsm : cnN bx (x + 1) b = 0 ∨ ab x + smN gr bx (x + 1) b ≤ bg x := by omega
                    refine wk_iincN (pc := 141) (d := 1) (lv' := [(2, .int (nI (x + 1))), (0, .ref (m 0)), (1, .ref (m 30)), (3, .int (nI (cnN bx (x + 1) b))), (4, .long (lN (ab x + smN gr bx (x + 1) b))), (6, .int (nI (b)))]) S_ 2 d_Md_keeps_141 (by decide) rfl (by decide) rfl ?_
                    refine wk_goto (pc := 144) (tgt := 2) S_ d_Md_keeps_144 (by decide) ?_
                    refine wk_lv [1, 2, 0] ?_ (ih2 (x + 1) (by omega) (by omega) (fun y hy => by by_cases e : y = x; subst e; exact ⟨fun b2 hb2 => hB b2 (by omega), hcn, hsm⟩; exact hX y (by omega)))
                    rfl
                  · -- on
                    refine wk_iconst (pc := 139) (v := (nI (0))) S_ d_Md_keeps_139 (by decide) ?_
                    exact hQ_ (nI (0)) () d_Md_keeps_140 rfl rfl (bI_f (kpB_f (fun h => absurd (h x (by omega)).2 (by omega))))
            · -- on
              refine wk_aload_n (pc := 32) S_ 1 d_Md_keeps_32 rfl rfl ?_
              refine wk_iload (pc := 33) S_ 5 d_Md_keeps_33 rfl ?_
              refine wk_ialdY (pc := 35) (g := bx) S_ 30 0 d_Md_keeps_35 rfl rfl (by omega) (by decide) ?_
              refine wk_iload_n (pc := 36) S_ 2 d_Md_keeps_36 rfl rfl ?_
              have hg1 := hgv b
              refine wk_icmp_neYN (pc := 37) (tgt := 107) S_ d_Md_keeps_37 (by decide) (by omega) (by omega) (fun h37 => ?_) (fun h37 => ?_)
              · -- taken
                refine wk_lveq (lv' := [(0, .ref (m 0)), (1, .ref (m 30)), (2, .int (nI (x))), (3, .int (nI (cnN bx (x + 1) (b + 1)))), (4, .long (lN (ab x + smN gr bx (x + 1) b))), (6, .int (nI (b)))]) (by simp only [cnN, smN, if_neg h37, Nat.add_zero]) ?_
                refine wk_lveq (lv' := [(0, .ref (m 0)), (1, .ref (m 30)), (2, .int (nI (x))), (3, .int (nI (cnN bx (x + 1) (b + 1)))), (4, .long (lN (ab x + smN gr bx (x + 1) (b + 1)))), (6, .int (nI (b)))]) (by simp only [cnN, smN, if_neg h37, Nat.add_zero]) ?_
                refine wk_iincN (pc := 107) (d := 1) (lv' := [(6, .int (nI (b + 1))), (0, .ref (m 0)), (1, .ref (m 30)), (2, .int (nI (x))), (3, .int (nI (cnN bx (x + 1) (b + 1)))), (4, .long (lN (ab x + smN gr bx (x + 1) (b + 1))))]) S_ 5 d_Md_keeps_107 (by decide) rfl (by decide) rfl ?_
                refine wk_goto (pc := 110) (tgt := 23) S_ d_Md_keeps_110 (by decide) ?_
                refine wk_lv [1, 2, 3, 4, 5, 0] ?_ (ih23 (b + 1) (by omega) (by omega) (fun b2 hb2 e2 d2 hd2 => by by_cases e : b2 = b; subst e; exact absurd e2 h37; exact hB b2 (by omega) e2 d2 hd2))
                rfl
              · -- on
                have hc1 := hcl b
                have hc2 := hcv b (by omega) (by omega)
                refine wk_iincN (pc := 40) (d := 1) (lv' := [(3, .int (nI (cnN bx (x + 1) b + 1))), (0, .ref (m 0)), (1, .ref (m 30)), (2, .int (nI (x))), (4, .long (lN (ab x + smN gr bx (x + 1) b))), (6, .int (nI (b)))]) S_ 3 d_Md_keeps_40 (by decide) rfl (by decide) rfl ?_
                refine wk_lload (pc := 43) S_ 4 d_Md_keeps_43 rfl ?_
                refine wk_aload_n (pc := 45) S_ 1 d_Md_keeps_45 rfl rfl ?_
                refine wk_get (pc := 46) (v := .ref (m 23)) S_ 6 26 0 in_Md rfl (by decide) rfl fl_Md_77 d_Md_keeps_46 rfl rfl ?_
                refine wk_iload (pc := 49) S_ 5 d_Md_keeps_49 rfl ?_
                refine wk_lald (pc := 51) (g := gr) S_ 23 2 d_Md_keeps_51 rfl rfl (by omega) (by decide) ?_
                refine wk_laddN (pc := 52) S_ d_Md_keeps_52 ?_
                refine wk_topl (y := (lN (ab x + smN gr bx (x + 1) (b + 1)))) (congrArg lN (by rw [smN, if_pos h37]; omega)) ?_
                refine wk_lstore (pc := 53) (lv' := [(4, .long (lN (ab x + smN gr bx (x + 1) (b + 1)))), (3, .int (nI (cnN bx (x + 1) b + 1))), (0, .ref (m 0)), (1, .ref (m 30)), (2, .int (nI (x))), (6, .int (nI (b)))]) S_ d_Md_keeps_53 (by decide) rfl ?_
                refine wk_lveq (lv' := [(4, .long (lN (ab x + smN gr bx (x + 1) (b + 1)))), (3, .int (nI (cnN bx (x + 1) (b + 1)))), (0, .ref (m 0)), (1, .ref (m 30)), (2, .int (nI (x))), (6, .int (nI (b)))]) (by rw [cnN, if_pos h37]) ?_
                refine wk_iconst (pc := 55) (v := (nI (0))) S_ d_Md_keeps_55 (by decide) ?_
                refine wk_istore (pc := 56) (lv' := [(7, .int (nI (0))), (4, .long (lN (ab x + smN gr bx (x + 1) (b + 1)))), (3, .int (nI (cnN bx (x + 1) (b + 1)))), (0, .ref (m 0)), (1, .ref (m 30)), (2, .int (nI (x))), (6, .int (nI (b)))]) S_ d_Md_keeps_56 (by decide) rfl ?_
                have hL58 : ∀ (fuel58 : Nat), ∀ (d : Nat), b - d < fuel58 → (d ≤ b) → (∀ d2, d2 < d → bx d2 = x + 1 → ap (9 * (cl b - 1) + (cl d2 - 1)) = false) → wk_G p_ l e_ R_ s_ m_ ar_ be_ me_ co_ Q_ D A_ 8 0 0 (wMd m cI tx sz ap pt rk cd fr mc mg mz nc nt ld qap qpt qrk qcd qfr qmc qmg qmz qnc qnt qld nb cl gr sp ot na aw nx bg bb ab fd pv bx wy li fm en nu td lf lk) 58 [(0, .ref (m 0)), (1, .ref (m 30)), (2, .int (nI (x))), (3, .int (nI (cnN bx (x + 1) (b + 1)))), (4, .long (lN (ab x + smN gr bx (x + 1) (b + 1)))), (6, .int (nI (b))), (7, .int (nI (d)))] [] := by
                  intro fuel58
                  induction fuel58 with
                  | zero => intro d hm; exact absurd hm (Nat.not_lt_zero _)
                  | succ fuel58 ih58 =>
                    intro d hm hd hDD
                    refine wk_iload (pc := 58) S_ 6 d_Md_keeps_58 rfl ?_
                    refine wk_iload (pc := 60) S_ 5 d_Md_keeps_60 rfl ?_
                    refine wk_icmp_geN (pc := 62) (tgt := 107) S_ d_Md_keeps_62 (by decide) (by omega) (by omega) (fun h62 => ?_) (fun h62 => ?_)
                    · -- taken
                      refine wk_iincN (pc := 107) (d := 1) (lv' := [(6, .int (nI (b + 1))), (0, .ref (m 0)), (1, .ref (m 30)), (2, .int (nI (x))), (3, .int (nI (cnN bx (x + 1) (b + 1)))), (4, .long (lN (ab x + smN gr bx (x + 1) (b + 1)))), (7, .int (nI (d)))]) S_ 5 d_Md_keeps_107 (by decide) rfl (by decide) rfl ?_
                      refine wk_goto (pc := 110) (tgt := 23) S_ d_Md_keeps_110 (by decide) ?_
                      refine wk_lv [1, 2, 3, 4, 5, 0] ?_ (ih23 (b + 1) (by omega) (by omega) (fun b2 hb2 e2 d2 hd2 => by by_cases e : b2 = b; subst e; exact hDD d2 (by omega); exact hB b2 (by omega) e2 d2 hd2))
                      rfl
                    · -- on
                      refine wk_aload_n (pc := 65) S_ 1 d_Md_keeps_65 rfl rfl ?_
                      refine wk_iload (pc := 66) S_ 6 d_Md_keeps_66 rfl ?_
                      refine wk_ialdY (pc := 68) (g := bx) S_ 30 0 d_Md_keeps_68 rfl rfl (by omega) (by decide) ?_
                      refine wk_iload_n (pc := 69) S_ 2 d_Md_keeps_69 rfl rfl ?_
                      have hg2 := hgv d
                      refine wk_icmp_neYN (pc := 70) (tgt := 101) S_ d_Md_keeps_70 (by decide) (by omega) (by omega) (fun h70 => ?_) (fun h70 => ?_)
                      · -- taken
                        refine wk_iincN (pc := 101) (d := 1) (lv' := [(7, .int (nI (d + 1))), (0, .ref (m 0)), (1, .ref (m 30)), (2, .int (nI (x))), (3, .int (nI (cnN bx (x + 1) (b + 1)))), (4, .long (lN (ab x + smN gr bx (x + 1) (b + 1)))), (6, .int (nI (b)))]) S_ 6 d_Md_keeps_101 (by decide) rfl (by decide) rfl ?_
                        refine wk_goto (pc := 104) (tgt := 58) S_ d_Md_keeps_104 (by decide) ?_
                        refine wk_lv [1, 2, 3, 4, 5, 6, 0] ?_ (ih58 (d + 1) (by omega) (by omega) (fun d2 hd2 e2 => by by_cases e : d2 = d; subst e; exact absurd e2 h70; exact hDD d2 (by omega) e2))
                        rfl
                      · -- on
                        have hc3 := hcl d
                        have hc4 := hcv d (by omega) (by omega)
                        refine wk_aload_n (pc := 73) S_ 0 d_Md_keeps_73 rfl rfl ?_
                        refine wk_get (pc := 74) (v := .ref (m 2)) S_ 6 2 0 in_Md rfl (by decide) rfl fl_Md_13 d_Md_keeps_74 rfl rfl ?_
                        refine wk_bipush (pc := 77) (v := (nI (9))) S_ d_Md_keeps_77 (by decide) ?_
                        refine wk_aload_n (pc := 79) S_ 0 d_Md_keeps_79 rfl rfl ?_
                        refine wk_get (pc := 80) (v := .ref (m 22)) S_ 6 25 0 in_Md rfl (by decide) rfl fl_Md_74 d_Md_keeps_80 rfl rfl ?_
                        refine wk_iload (pc := 83) S_ 5 d_Md_keeps_83 rfl ?_
                        refine wk_ialdY (pc := 85) (g := cl) S_ 22 0 d_Md_keeps_85 rfl rfl (by omega) (by decide) ?_
                        refine wk_top (y := (nI (cl b - 1))) (zI_p hc2) ?_
                        refine wk_imulN (pc := 86) S_ d_Md_keeps_86 ?_
                        refine wk_aload_n (pc := 87) S_ 0 d_Md_keeps_87 rfl rfl ?_
                        refine wk_get (pc := 88) (v := .ref (m 22)) S_ 6 25 0 in_Md rfl (by decide) rfl fl_Md_74 d_Md_keeps_88 rfl rfl ?_
                        refine wk_iload (pc := 91) S_ 6 d_Md_keeps_91 rfl ?_
                        refine wk_ialdY (pc := 93) (g := cl) S_ 22 0 d_Md_keeps_93 rfl rfl (by omega) (by decide) ?_
                        refine wk_top (y := (nI (cl d - 1))) (zI_p hc4) ?_
                        refine wk_iaddN (pc := 94) S_ d_Md_keeps_94 ?_
                        refine wk_zald (pc := 95) (g := ap) S_ 2 1 d_Md_keeps_95 rfl rfl (by omega) (by decide) ?_
                        refine wk_if_eqB (pc := 96) (tgt := 101) S_ d_Md_keeps_96 (by decide) (fun h96 => ?_) (fun h96 => ?_)
                        · -- taken
                          refine wk_iincN (pc := 101) (d := 1) (lv' := [(7, .int (nI (d + 1))), (0, .ref (m 0)), (1, .ref (m 30)), (2, .int (nI (x))), (3, .int (nI (cnN bx (x + 1) (b + 1)))), (4, .long (lN (ab x + smN gr bx (x + 1) (b + 1)))), (6, .int (nI (b)))]) S_ 6 d_Md_keeps_101 (by decide) rfl (by decide) rfl ?_
                          refine wk_goto (pc := 104) (tgt := 58) S_ d_Md_keeps_104 (by decide) ?_
                          refine wk_lv [1, 2, 3, 4, 5, 6, 0] ?_ (ih58 (d + 1) (by omega) (by omega) (fun d2 hd2 e2 => by by_cases e : d2 = d; subst e; exact h96; exact hDD d2 (by omega) e2))
                          rfl
                        · -- on
                          refine wk_iconst (pc := 99) (v := (nI (0))) S_ d_Md_keeps_99 (by decide) ?_
                          exact hQ_ (nI (0)) () d_Md_keeps_100 rfl rfl (bI_f (kpB_f (fun h => absurd ((h x (by omega)).1 b (by omega) h37 d (by omega) h70) (by rw [h96]; decide))))
                refine wk_lv [3, 4, 5, 2, 1, 6, 0] ?_ (hL58 _ (0) (Nat.lt_succ_self _) (by omega) (fun y h => absurd h (Nat.not_lt_zero _)))
                rfl
        refine wk_lv [3, 4, 5, 2, 1, 0] ?_ (hL23 _ (0) (Nat.lt_succ_self _) (by omega) (fun y h => absurd h (Nat.not_lt_zero _)))
        rfl
  refine wk_lv [1, 2, 0] ?_ (hL2 _ (0) (Nat.lt_succ_self _) (by omega) (fun y h => absurd h (Nat.not_lt_zero _)))
  rfl
set_option maxHeartbeats 4000000 in
set_option maxRecDepth 100000 in
theorem c_Md_used_bx (l : Launch) (D : va_G) (cI : CiT) (z : GzT) (m : Nat → Nat) (tx : (Nat → Nat)) (sz : Nat) (ap : (Nat → Bool)) (pt : (Nat → Nat)) (rk : (Nat → Nat)) (cd : (Nat → Nat)) (fr : Nat) (mc : (Nat → Nat)) (mg : (Nat → Nat)) (mz : (Nat → Nat)) (nc : (Nat → Nat)) (nt : (Nat → Nat)) (ld : (Nat → Nat)) (qap : (Nat → Bool)) (qpt : (Nat → Nat)) (qrk : (Nat → Nat)) (qcd : (Nat → Nat)) (qfr : Nat) (qmc : (Nat → Nat)) (qmg : (Nat → Nat)) (qmz : (Nat → Nat)) (qnc : (Nat → Nat)) (qnt : (Nat → Nat)) (qld : (Nat → Nat)) (nb : Nat) (cl : (Nat → Nat)) (gr : (Nat → Nat)) (sp : (Nat → Nat)) (ot : (Nat → Bool)) (na : Nat) (aw : (Nat → Nat)) (nx : Nat) (bg : (Nat → Nat)) (bb : (Nat → Nat)) (ab : (Nat → Nat)) (fd : Bool) (pv : Bool) (bx : (Nat → Nat)) (wy : (Nat → Nat)) (li : (Nat → Nat)) (fm : Nat) (en : Nat) (nu : Nat) (td : (Nat → Nat)) (lf : Int32) (lk : Int32) (hnb : nb ≤ 8) (hgv : ∀ b, bx b ≤ 5) : wk_C l D (tyK cI) (gX z) y_Md_used b_Md_used 5 (some .int) 0 0 0 0 [.ref (m 0), .ref (m 30)] (wMd m cI tx sz ap pt rk cd fr mc mg mz nc nt ld qap qpt qrk qcd qfr qmc qmg qmz qnc qnt qld nb cl gr sp ot na aw nx bg bb ab fd pv bx wy li fm en nu td lf lk) wk_i (fun (r : Int32) (_ : Unit) => r = (nI ((usS bx nb).2))) (fun _ => (wMd m cI tx sz ap pt rk cd fr mc mg mz nc nt ld qap qpt qrk qcd qfr qmc qmg qmz qnc qnt qld nb cl gr sp ot na aw nx bg bb ab fd pv bx wy li fm en nu td lf lk)) := by
  refine wk_methI (own := R_Md) [(0, .ref (m 0)), (1, .ref (m 30))] (by decide) rfl (Nat.le_of_ble_eq_true rfl) rfl (gX_ok z) (fun p_ e_ R_ s_ m_ ar_ be_ me_ co_ Q_ A_ hR_ S_ hnm_ hQ_ => ?_)
  refine wk_iconst (pc := 0) (v := (nI (0))) S_ d_Md_used_0 (by decide) ?_
  refine wk_istore_n (pc := 1) (lv' := [(2, .int (nI (0))), (0, .ref (m 0)), (1, .ref (m 30))]) S_ d_Md_used_1 rfl (by decide) rfl ?_
  refine wk_iconst (pc := 2) (v := (nI (0))) S_ d_Md_used_2 (by decide) ?_
  refine wk_istore_n (pc := 3) (lv' := [(3, .int (nI (0))), (2, .int (nI (0))), (0, .ref (m 0)), (1, .ref (m 30))]) S_ d_Md_used_3 rfl (by decide) rfl ?_
  refine wk_iconst (pc := 4) (v := (nI (0))) S_ d_Md_used_4 (by decide) ?_
  refine wk_istore (pc := 5) (lv' := [(4, .int (nI (0))), (3, .int (nI (0))), (2, .int (nI (0))), (0, .ref (m 0)), (1, .ref (m 30))]) S_ d_Md_used_5 (by decide) rfl ?_
  have hL7 : ∀ (fuel7 : Nat), ∀ (b : Nat), nb - b < fuel7 → (b ≤ nb) → wk_G p_ l e_ R_ s_ m_ ar_ be_ me_ co_ Q_ D A_ 5 0 0 (wMd m cI tx sz ap pt rk cd fr mc mg mz nc nt ld qap qpt qrk qcd qfr qmc qmg qmz qnc qnt qld nb cl gr sp ot na aw nx bg bb ab fd pv bx wy li fm en nu td lf lk) 7 [(0, .ref (m 0)), (1, .ref (m 30)), (2, .int (nI ((usS bx b).1))), (3, .int (nI ((usS bx b).2))), (4, .int (nI (b)))] [] := by
    intro fuel7
    induction fuel7 with
    | zero => intro b hm; exact absurd hm (Nat.not_lt_zero _)
    | succ fuel7 ih7 =>
      intro b hm hb
      refine wk_iload (pc := 7) S_ 4 d_Md_used_7 rfl ?_
      refine wk_aload_n (pc := 9) S_ 0 d_Md_used_9 rfl rfl ?_
      refine wk_get (pc := 10) (v := .int (nI (nb))) S_ 6 24 0 in_Md rfl (by decide) rfl fl_Md_117 d_Md_used_10 rfl rfl ?_
      refine wk_icmp_geN (pc := 13) (tgt := 52) S_ d_Md_used_13 (by decide) (by omega) (by omega) (fun h13 => ?_) (fun h13 => ?_)
      · -- taken
        refine wk_iload_n (pc := 52) S_ 3 d_Md_used_52 rfl rfl ?_
        exact hQ_ (nI ((usS bx b).2)) () d_Md_used_53 rfl (congrArg nI (by rw [show b = nb by omega]))
      · -- on
        refine wk_aload_n (pc := 16) S_ 1 d_Md_used_16 rfl rfl ?_
        refine wk_iload (pc := 17) S_ 4 d_Md_used_17 rfl ?_
        refine wk_ialdY (pc := 19) (g := bx) S_ 30 0 d_Md_used_19 rfl rfl (by omega) (by decide) ?_
        have hg1 := hgv b
        have hu1 := usS_le hgv b
        refine wk_if_ltY (pc := 20) (tgt := 46) S_ d_Md_used_20 (by decide) (by omega) (fun h20 => ?_) (fun h20 => ?_)
        · -- taken
          refine wk_iincN (pc := 46) (d := 1) (lv' := [(4, .int (nI (b + 1))), (0, .ref (m 0)), (1, .ref (m 30)), (2, .int (nI ((usS bx b).1))), (3, .int (nI ((usS bx b).2)))]) S_ 4 d_Md_used_46 (by decide) rfl (by decide) rfl ?_
          refine wk_goto (pc := 49) (tgt := 7) S_ d_Md_used_49 (by decide) ?_
          refine wk_lveq (lv' := [(4, .int (nI (b + 1))), (0, .ref (m 0)), (1, .ref (m 30)), (2, .int (nI ((usS bx (b + 1)).1))), (3, .int (nI ((usS bx b).2)))]) (by rw [usS, if_neg (by omega)]) ?_
          refine wk_lveq (lv' := [(4, .int (nI (b + 1))), (0, .ref (m 0)), (1, .ref (m 30)), (2, .int (nI ((usS bx (b + 1)).1))), (3, .int (nI ((usS bx (b + 1)).2)))]) (by rw [usS, if_neg (by omega)]) ?_
          refine wk_lv [1, 2, 3, 4, 0] ?_ (ih7 (b + 1) (by omega) (by omega))
          rfl
        · -- on
          refine wk_iload_n (pc := 23) S_ 2 d_Md_used_23 rfl rfl ?_
          refine wk_aload_n (pc := 24) S_ 1 d_Md_used_24 rfl rfl ?_
          refine wk_iload (pc := 25) S_ 4 d_Md_used_25 rfl ?_
          refine wk_ialdY (pc := 27) (g := bx) S_ 30 0 d_Md_used_27 rfl rfl (by omega) (by decide) ?_
          refine wk_top (y := (nI (bx b - 1))) (zI_p h20) ?_
          refine wk_ishrN (pc := 28) S_ d_Md_used_28 (by omega) (by omega) ?_
          refine wk_iconst (pc := 29) (v := (nI (1))) S_ d_Md_used_29 (by decide) ?_
          refine wk_iandN (pc := 30) S_ d_Md_used_30 ?_
          refine wk_if_neN (pc := 31) (tgt := 46) S_ d_Md_used_31 (by decide) (Nat.lt_of_le_of_lt Nat.and_le_right (by decide)) (fun h31 => ?_) (fun h31 => ?_)
          · -- taken
            refine wk_iincN (pc := 46) (d := 1) (lv' := [(4, .int (nI (b + 1))), (0, .ref (m 0)), (1, .ref (m 30)), (2, .int (nI ((usS bx b).1))), (3, .int (nI ((usS bx b).2)))]) S_ 4 d_Md_used_46 (by decide) rfl (by decide) rfl ?_
            refine wk_goto (pc := 49) (tgt := 7) S_ d_Md_used_49 (by decide) ?_
            refine wk_lveq (lv' := [(4, .int (nI (b + 1))), (0, .ref (m 0)), (1, .ref (m 30)), (2, .int (nI ((usS bx (b + 1)).1))), (3, .int (nI ((usS bx b).2)))]) (by rw [usS, if_neg (by omega)]) ?_
            refine wk_lveq (lv' := [(4, .int (nI (b + 1))), (0, .ref (m 0)), (1, .ref (m 30)), (2, .int (nI ((usS bx (b + 1)).1))), (3, .int (nI ((usS bx (b + 1)).2)))]) (by rw [usS, if_neg (by omega)]) ?_
            refine wk_lv [1, 2, 3, 4, 0] ?_ (ih7 (b + 1) (by omega) (by omega))
            rfl
          · -- on
            refine wk_iload_n (pc := 34) S_ 2 d_Md_used_34 rfl rfl ?_
            refine wk_iconst (pc := 35) (v := (nI (1))) S_ d_Md_used_35 (by decide) ?_
            refine wk_aload_n (pc := 36) S_ 1 d_Md_used_36 rfl rfl ?_
            refine wk_iload (pc := 37) S_ 4 d_Md_used_37 rfl ?_
            refine wk_ialdY (pc := 39) (g := bx) S_ 30 0 d_Md_used_39 rfl rfl (by omega) (by decide) ?_
            refine wk_top (y := (nI (bx b - 1))) (zI_p h20) ?_
            refine wk_ishlN (pc := 40) S_ d_Md_used_40 (by omega) ?_
            refine wk_iorN (pc := 41) S_ d_Md_used_41 ?_
            refine wk_istore_n (pc := 42) (lv' := [(2, .int (nI (((usS bx b).1) ||| (2 ^ (bx b - 1))))), (0, .ref (m 0)), (1, .ref (m 30)), (3, .int (nI ((usS bx b).2))), (4, .int (nI (b)))]) S_ d_Md_used_42 rfl (by decide) rfl ?_
            refine wk_iincN (pc := 43) (d := 1) (lv' := [(3, .int (nI ((usS bx b).2 + 1))), (2, .int (nI (((usS bx b).1) ||| (2 ^ (bx b - 1))))), (0, .ref (m 0)), (1, .ref (m 30)), (4, .int (nI (b)))]) S_ 3 d_Md_used_43 (by decide) rfl (by decide) rfl ?_
            refine wk_iincN (pc := 46) (d := 1) (lv' := [(4, .int (nI (b + 1))), (3, .int (nI ((usS bx b).2 + 1))), (2, .int (nI (((usS bx b).1) ||| (2 ^ (bx b - 1))))), (0, .ref (m 0)), (1, .ref (m 30))]) S_ 4 d_Md_used_46 (by decide) rfl (by decide) rfl ?_
            refine wk_goto (pc := 49) (tgt := 7) S_ d_Md_used_49 (by decide) ?_
            refine wk_lveq (lv' := [(4, .int (nI (b + 1))), (3, .int (nI ((usS bx b).2 + 1))), (2, .int (nI ((usS bx (b + 1)).1))), (0, .ref (m 0)), (1, .ref (m 30))]) (by rw [usS, if_pos ⟨h20, h31⟩]) ?_
            refine wk_lveq (lv' := [(4, .int (nI (b + 1))), (3, .int (nI ((usS bx (b + 1)).2))), (2, .int (nI ((usS bx (b + 1)).1))), (0, .ref (m 0)), (1, .ref (m 30))]) (by rw [usS, if_pos ⟨h20, h31⟩]) ?_
            refine wk_lv [3, 4, 2, 1, 0] ?_ (ih7 (b + 1) (by omega) (by omega))
            rfl
  refine wk_lv [3, 4, 2, 1, 0] ?_ (hL7 _ (0) (Nat.lt_succ_self _) (by omega))
  rfl
set_option maxHeartbeats 4000000 in
set_option maxRecDepth 100000 in
theorem c_Md_keeps_wy (l : Launch) (D : va_G) (cI : CiT) (z : GzT) (m : Nat → Nat) (tx : (Nat → Nat)) (sz : Nat) (ap : (Nat → Bool)) (pt : (Nat → Nat)) (rk : (Nat → Nat)) (cd : (Nat → Nat)) (fr : Nat) (mc : (Nat → Nat)) (mg : (Nat → Nat)) (mz : (Nat → Nat)) (nc : (Nat → Nat)) (nt : (Nat → Nat)) (ld : (Nat → Nat)) (qap : (Nat → Bool)) (qpt : (Nat → Nat)) (qrk : (Nat → Nat)) (qcd : (Nat → Nat)) (qfr : Nat) (qmc : (Nat → Nat)) (qmg : (Nat → Nat)) (qmz : (Nat → Nat)) (qnc : (Nat → Nat)) (qnt : (Nat → Nat)) (qld : (Nat → Nat)) (nb : Nat) (cl : (Nat → Nat)) (gr : (Nat → Nat)) (sp : (Nat → Nat)) (ot : (Nat → Bool)) (na : Nat) (aw : (Nat → Nat)) (nx : Nat) (bg : (Nat → Nat)) (bb : (Nat → Nat)) (ab : (Nat → Nat)) (fd : Bool) (pv : Bool) (bx : (Nat → Nat)) (wy : (Nat → Nat)) (li : (Nat → Nat)) (fm : Nat) (en : Nat) (nu : Nat) (td : (Nat → Nat)) (lf : Int32) (lk : Int32) (hnb : nb ≤ 8) (hnx : nx ≤ 5) (hgr : ∀ b, gr b ≤ 100000) (hcl : ∀ b, cl b ≤ 9) (hgv : ∀ b, wy b ≤ 5) (hcv : ∀ b, b < nb → wy b ≠ 0 → cl b ≠ 0) (hbg : ∀ x, bg x ≤ 1000000) (hbb : ∀ x, bb x ≤ 8) (hab : ∀ x, ab x ≤ 1000000) : wk_C l D (tyK cI) (gX z) y_Md_keeps b_Md_keeps 8 (some .boolean) 0 0 0 0 [.ref (m 0), .ref (m 31)] (wMd m cI tx sz ap pt rk cd fr mc mg mz nc nt ld qap qpt qrk qcd qfr qmc qmg qmz qnc qnt qld nb cl gr sp ot na aw nx bg bb ab fd pv bx wy li fm en nu td lf lk) wk_i (fun (r : Int32) (_ : Unit) => r = (bI (kpB ap cl gr wy bg bb ab nb nx))) (fun _ => (wMd m cI tx sz ap pt rk cd fr mc mg mz nc nt ld qap qpt qrk qcd qfr qmc qmg qmz qnc qnt qld nb cl gr sp ot na aw nx bg bb ab fd pv bx wy li fm en nu td lf lk)) := by
  refine wk_methZ (own := R_Md) [(0, .ref (m 0)), (1, .ref (m 31))] (by decide) rfl (Nat.le_of_ble_eq_true rfl) rfl (gX_ok z) (fun p_ e_ R_ s_ m_ ar_ be_ me_ co_ Q_ A_ hR_ S_ hnm_ hQ_ => ?_)
  refine wk_iconst (pc := 0) (v := (nI (0))) S_ d_Md_keeps_0 (by decide) ?_
  refine wk_istore_n (pc := 1) (lv' := [(2, .int (nI (0))), (0, .ref (m 0)), (1, .ref (m 31))]) S_ d_Md_keeps_1 rfl (by decide) rfl ?_
  have hL2 : ∀ (fuel2 : Nat), ∀ (x : Nat), nx - x < fuel2 → (x ≤ nx) → (∀ y, y < x → bxP ap cl gr wy bg bb ab nb y) → wk_G p_ l e_ R_ s_ m_ ar_ be_ me_ co_ Q_ D A_ 8 0 0 (wMd m cI tx sz ap pt rk cd fr mc mg mz nc nt ld qap qpt qrk qcd qfr qmc qmg qmz qnc qnt qld nb cl gr sp ot na aw nx bg bb ab fd pv bx wy li fm en nu td lf lk) 2 [(0, .ref (m 0)), (1, .ref (m 31)), (2, .int (nI (x)))] [] := by
    intro fuel2
    induction fuel2 with
    | zero => intro x hm; exact absurd hm (Nat.not_lt_zero _)
    | succ fuel2 ih2 =>
      intro x hm hx hX
      refine wk_iload_n (pc := 2) S_ 2 d_Md_keeps_2 rfl rfl ?_
      refine wk_aload_n (pc := 3) S_ 0 d_Md_keeps_3 rfl rfl ?_
      refine wk_get (pc := 4) (v := .int (nI (nx))) S_ 6 31 0 in_Md rfl (by decide) rfl fl_Md_213 d_Md_keeps_4 rfl rfl ?_
      refine wk_icmp_geN (pc := 7) (tgt := 147) S_ d_Md_keeps_7 (by decide) (by omega) (by omega) (fun h7 => ?_) (fun h7 => ?_)
      · -- taken
        refine wk_iconst (pc := 147) (v := (nI (1))) S_ d_Md_keeps_147 (by decide) ?_
        exact hQ_ (nI (1)) () d_Md_keeps_148 rfl rfl (bI_t (kpB_t (fun y hy => hX y (by omega))))
      · -- on
        have ha1 := hab x
        refine wk_iconst (pc := 10) (v := (nI (0))) S_ d_Md_keeps_10 (by decide) ?_
        refine wk_istore_n (pc := 11) (lv' := [(3, .int (nI (0))), (0, .ref (m 0)), (1, .ref (m 31)), (2, .int (nI (x)))]) S_ d_Md_keeps_11 rfl (by decide) rfl ?_
        refine wk_aload_n (pc := 12) S_ 1 d_Md_keeps_12 rfl rfl ?_
        refine wk_get (pc := 13) (v := .ref (m 29)) S_ 6 34 0 in_Md rfl (by decide) rfl fl_Md_96 d_Md_keeps_13 rfl rfl ?_
        refine wk_iload_n (pc := 16) S_ 3 d_Md_keeps_16 rfl rfl ?_
        refine wk_lald (pc := 17) (g := ab) S_ 29 2 d_Md_keeps_17 rfl rfl (by omega) (by decide) ?_
        refine wk_lstore (pc := 18) (lv' := [(4, .long (lN ((ab) (x)))), (3, .int (nI (0))), (0, .ref (m 0)), (1, .ref (m 31)), (2, .int (nI (x)))]) S_ d_Md_keeps_18 (by decide) rfl ?_
        refine wk_iconst (pc := 20) (v := (nI (0))) S_ d_Md_keeps_20 (by decide) ?_
        refine wk_istore (pc := 21) (lv' := [(6, .int (nI (0))), (4, .long (lN ((ab) (x)))), (3, .int (nI (0))), (0, .ref (m 0)), (1, .ref (m 31)), (2, .int (nI (x)))]) S_ d_Md_keeps_21 (by decide) rfl ?_
        have hL23 : ∀ (fuel23 : Nat), ∀ (b : Nat), nb - b < fuel23 → (b ≤ nb) → (∀ b2, b2 < b → wy b2 = x + 1 → ∀ d, d < b2 → wy d = x + 1 → ap (9 * (cl b2 - 1) + (cl d - 1)) = false) → wk_G p_ l e_ R_ s_ m_ ar_ be_ me_ co_ Q_ D A_ 8 0 0 (wMd m cI tx sz ap pt rk cd fr mc mg mz nc nt ld qap qpt qrk qcd qfr qmc qmg qmz qnc qnt qld nb cl gr sp ot na aw nx bg bb ab fd pv bx wy li fm en nu td lf lk) 23 [(0, .ref (m 0)), (1, .ref (m 31)), (2, .int (nI (x))), (3, .int (nI (cnN wy (x + 1) b))), (4, .long (lN (ab x + smN gr wy (x + 1) b))), (6, .int (nI (b)))] [] := by
          intro fuel23
          induction fuel23 with
          | zero => intro b hm; exact absurd hm (Nat.not_lt_zero _)
          | succ fuel23 ih23 =>
            intro b hm hb hB
            refine wk_iload (pc := 23) S_ 5 d_Md_keeps_23 rfl ?_
            refine wk_aload_n (pc := 25) S_ 0 d_Md_keeps_25 rfl rfl ?_
            refine wk_get (pc := 26) (v := .int (nI (nb))) S_ 6 24 0 in_Md rfl (by decide) rfl fl_Md_117 d_Md_keeps_26 rfl rfl ?_
            refine wk_icmp_geN (pc := 29) (tgt := 113) S_ d_Md_keeps_29 (by decide) (by omega) (by omega) (fun h29 => ?_) (fun h29 => ?_)
            · -- taken
              have hbn : b = nb := by omega
              subst hbn
              have hc5 := cnN_le (gv := wy) (x := x + 1) b
              have hs5 := smN_le (gr := gr) (gv := wy) (x := x + 1) hgr b
              have hb5 := hbb x
              have hb6 := hbg x
              refine wk_iload_n (pc := 113) S_ 3 d_Md_keeps_113 rfl rfl ?_
              refine wk_aload_n (pc := 114) S_ 0 d_Md_keeps_114 rfl rfl ?_
              refine wk_get (pc := 115) (v := .ref (m 28)) S_ 6 33 0 in_Md rfl (by decide) rfl fl_Md_93 d_Md_keeps_115 rfl rfl ?_
              refine wk_iload_n (pc := 118) S_ 2 d_Md_keeps_118 rfl rfl ?_
              refine wk_ialdN (pc := 119) (g := bb) S_ 28 0 d_Md_keeps_119 rfl rfl (by omega) (by decide) ?_
              refine wk_icmp_gtN (pc := 120) (tgt := 139) S_ d_Md_keeps_120 (by decide) (by omega) (by omega) (fun h120 => ?_) (fun h120 => ?_)
              · -- taken
                refine wk_iconst (pc := 139) (v := (nI (0))) S_ d_Md_keeps_139 (by decide) ?_
                exact hQ_ (nI (0)) () d_Md_keeps_140 rfl rfl (bI_f (kpB_f (fun h => absurd (h x (by omega)).2 (by omega))))
              · -- on
                refine wk_iload_n (pc := 123) S_ 3 d_Md_keeps_123 rfl rfl ?_
                refine wk_if_leN (pc := 124) (tgt := 141) S_ d_Md_keeps_124 (by decide) (by omega) (fun h124 => ?_) (fun h124 => ?_)
                · -- taken
                  have hcn : cnN wy (x + 1) b ≤ bb x := by omega
                  have hsm : cnN wy (x + 1) b = 0 ∨ ab x + smN gr wy (x + 1) b ≤ bg x := by omega
                  refine wk_iincN (pc := 141) (d := 1) (lv' := [(2, .int (nI (x + 1))), (0, .ref (m 0)), (1, .ref (m 31)), (3, .int (nI (cnN wy (x + 1) b))), (4, .long (lN (ab x + smN gr wy (x + 1) b))), (6, .int (nI (b)))]) S_ 2 d_Md_keeps_141 (by decide) rfl (by decide) rfl ?_
                  refine wk_goto (pc := 144) (tgt := 2) S_ d_Md_keeps_144 (by decide) ?_
                  refine wk_lv [1, 2, 0] ?_ (ih2 (x + 1) (by omega) (by omega) (fun y hy => by by_cases e : y = x; subst e; exact ⟨fun b2 hb2 => hB b2 (by omega), hcn, hsm⟩; exact hX y (by omega)))
                  rfl
                · -- on
                  refine wk_lload (pc := 127) S_ 4 d_Md_keeps_127 rfl ?_
                  refine wk_aload_n (pc := 129) S_ 0 d_Md_keeps_129 rfl rfl ?_
                  refine wk_get (pc := 130) (v := .ref (m 27)) S_ 6 32 0 in_Md rfl (by decide) rfl fl_Md_90 d_Md_keeps_130 rfl rfl ?_
                  refine wk_iload_n (pc := 133) S_ 2 d_Md_keeps_133 rfl rfl ?_
                  refine wk_lald (pc := 134) (g := bg) S_ 27 2 d_Md_keeps_134 rfl rfl (by omega) (by decide) ?_
                  refine wk_lcmp (pc := 135) S_ d_Md_keeps_135 ?_
                  refine wk_cmp_leN (pc := 136) (tgt := 141) S_ d_Md_keeps_136 (by decide) (by omega) (by omega) (fun h136 => ?_) (fun h136 => ?_)
                  · -- taken
                    have hcn : cnN wy (x + 1) b ≤ bb x := by omega
                    have hsm : cnN wy (x + 1) b = 0 ∨ ab x + smN gr wy (x + 1) b ≤ bg x := by omega
                    refine wk_iincN (pc := 141) (d := 1) (lv' := [(2, .int (nI (x + 1))), (0, .ref (m 0)), (1, .ref (m 31)), (3, .int (nI (cnN wy (x + 1) b))), (4, .long (lN (ab x + smN gr wy (x + 1) b))), (6, .int (nI (b)))]) S_ 2 d_Md_keeps_141 (by decide) rfl (by decide) rfl ?_
                    refine wk_goto (pc := 144) (tgt := 2) S_ d_Md_keeps_144 (by decide) ?_
                    refine wk_lv [1, 2, 0] ?_ (ih2 (x + 1) (by omega) (by omega) (fun y hy => by by_cases e : y = x; subst e; exact ⟨fun b2 hb2 => hB b2 (by omega), hcn, hsm⟩; exact hX y (by omega)))
                    rfl
                  · -- on
                    refine wk_iconst (pc := 139) (v := (nI (0))) S_ d_Md_keeps_139 (by decide) ?_
                    exact hQ_ (nI (0)) () d_Md_keeps_140 rfl rfl (bI_f (kpB_f (fun h => absurd (h x (by omega)).2 (by omega))))
            · -- on
              refine wk_aload_n (pc := 32) S_ 1 d_Md_keeps_32 rfl rfl ?_
              refine wk_iload (pc := 33) S_ 5 d_Md_keeps_33 rfl ?_
              refine wk_ialdY (pc := 35) (g := wy) S_ 31 0 d_Md_keeps_35 rfl rfl (by omega) (by decide) ?_
              refine wk_iload_n (pc := 36) S_ 2 d_Md_keeps_36 rfl rfl ?_
              have hg1 := hgv b
              refine wk_icmp_neYN (pc := 37) (tgt := 107) S_ d_Md_keeps_37 (by decide) (by omega) (by omega) (fun h37 => ?_) (fun h37 => ?_)
              · -- taken
                refine wk_lveq (lv' := [(0, .ref (m 0)), (1, .ref (m 31)), (2, .int (nI (x))), (3, .int (nI (cnN wy (x + 1) (b + 1)))), (4, .long (lN (ab x + smN gr wy (x + 1) b))), (6, .int (nI (b)))]) (by simp only [cnN, smN, if_neg h37, Nat.add_zero]) ?_
                refine wk_lveq (lv' := [(0, .ref (m 0)), (1, .ref (m 31)), (2, .int (nI (x))), (3, .int (nI (cnN wy (x + 1) (b + 1)))), (4, .long (lN (ab x + smN gr wy (x + 1) (b + 1)))), (6, .int (nI (b)))]) (by simp only [cnN, smN, if_neg h37, Nat.add_zero]) ?_
                refine wk_iincN (pc := 107) (d := 1) (lv' := [(6, .int (nI (b + 1))), (0, .ref (m 0)), (1, .ref (m 31)), (2, .int (nI (x))), (3, .int (nI (cnN wy (x + 1) (b + 1)))), (4, .long (lN (ab x + smN gr wy (x + 1) (b + 1))))]) S_ 5 d_Md_keeps_107 (by decide) rfl (by decide) rfl ?_
                refine wk_goto (pc := 110) (tgt := 23) S_ d_Md_keeps_110 (by decide) ?_
                refine wk_lv [1, 2, 3, 4, 5, 0] ?_ (ih23 (b + 1) (by omega) (by omega) (fun b2 hb2 e2 d2 hd2 => by by_cases e : b2 = b; subst e; exact absurd e2 h37; exact hB b2 (by omega) e2 d2 hd2))
                rfl
              · -- on
                have hc1 := hcl b
                have hc2 := hcv b (by omega) (by omega)
                refine wk_iincN (pc := 40) (d := 1) (lv' := [(3, .int (nI (cnN wy (x + 1) b + 1))), (0, .ref (m 0)), (1, .ref (m 31)), (2, .int (nI (x))), (4, .long (lN (ab x + smN gr wy (x + 1) b))), (6, .int (nI (b)))]) S_ 3 d_Md_keeps_40 (by decide) rfl (by decide) rfl ?_
                refine wk_lload (pc := 43) S_ 4 d_Md_keeps_43 rfl ?_
                refine wk_aload_n (pc := 45) S_ 1 d_Md_keeps_45 rfl rfl ?_
                refine wk_get (pc := 46) (v := .ref (m 23)) S_ 6 26 0 in_Md rfl (by decide) rfl fl_Md_77 d_Md_keeps_46 rfl rfl ?_
                refine wk_iload (pc := 49) S_ 5 d_Md_keeps_49 rfl ?_
                refine wk_lald (pc := 51) (g := gr) S_ 23 2 d_Md_keeps_51 rfl rfl (by omega) (by decide) ?_
                refine wk_laddN (pc := 52) S_ d_Md_keeps_52 ?_
                refine wk_topl (y := (lN (ab x + smN gr wy (x + 1) (b + 1)))) (congrArg lN (by rw [smN, if_pos h37]; omega)) ?_
                refine wk_lstore (pc := 53) (lv' := [(4, .long (lN (ab x + smN gr wy (x + 1) (b + 1)))), (3, .int (nI (cnN wy (x + 1) b + 1))), (0, .ref (m 0)), (1, .ref (m 31)), (2, .int (nI (x))), (6, .int (nI (b)))]) S_ d_Md_keeps_53 (by decide) rfl ?_
                refine wk_lveq (lv' := [(4, .long (lN (ab x + smN gr wy (x + 1) (b + 1)))), (3, .int (nI (cnN wy (x + 1) (b + 1)))), (0, .ref (m 0)), (1, .ref (m 31)), (2, .int (nI (x))), (6, .int (nI (b)))]) (by rw [cnN, if_pos h37]) ?_
                refine wk_iconst (pc := 55) (v := (nI (0))) S_ d_Md_keeps_55 (by decide) ?_
                refine wk_istore (pc := 56) (lv' := [(7, .int (nI (0))), (4, .long (lN (ab x + smN gr wy (x + 1) (b + 1)))), (3, .int (nI (cnN wy (x + 1) (b + 1)))), (0, .ref (m 0)), (1, .ref (m 31)), (2, .int (nI (x))), (6, .int (nI (b)))]) S_ d_Md_keeps_56 (by decide) rfl ?_
                have hL58 : ∀ (fuel58 : Nat), ∀ (d : Nat), b - d < fuel58 → (d ≤ b) → (∀ d2, d2 < d → wy d2 = x + 1 → ap (9 * (cl b - 1) + (cl d2 - 1)) = false) → wk_G p_ l e_ R_ s_ m_ ar_ be_ me_ co_ Q_ D A_ 8 0 0 (wMd m cI tx sz ap pt rk cd fr mc mg mz nc nt ld qap qpt qrk qcd qfr qmc qmg qmz qnc qnt qld nb cl gr sp ot na aw nx bg bb ab fd pv bx wy li fm en nu td lf lk) 58 [(0, .ref (m 0)), (1, .ref (m 31)), (2, .int (nI (x))), (3, .int (nI (cnN wy (x + 1) (b + 1)))), (4, .long (lN (ab x + smN gr wy (x + 1) (b + 1)))), (6, .int (nI (b))), (7, .int (nI (d)))] [] := by
                  intro fuel58
                  induction fuel58 with
                  | zero => intro d hm; exact absurd hm (Nat.not_lt_zero _)
                  | succ fuel58 ih58 =>
                    intro d hm hd hDD
                    refine wk_iload (pc := 58) S_ 6 d_Md_keeps_58 rfl ?_
                    refine wk_iload (pc := 60) S_ 5 d_Md_keeps_60 rfl ?_
                    refine wk_icmp_geN (pc := 62) (tgt := 107) S_ d_Md_keeps_62 (by decide) (by omega) (by omega) (fun h62 => ?_) (fun h62 => ?_)
                    · -- taken
                      refine wk_iincN (pc := 107) (d := 1) (lv' := [(6, .int (nI (b + 1))), (0, .ref (m 0)), (1, .ref (m 31)), (2, .int (nI (x))), (3, .int (nI (cnN wy (x + 1) (b + 1)))), (4, .long (lN (ab x + smN gr wy (x + 1) (b + 1)))), (7, .int (nI (d)))]) S_ 5 d_Md_keeps_107 (by decide) rfl (by decide) rfl ?_
                      refine wk_goto (pc := 110) (tgt := 23) S_ d_Md_keeps_110 (by decide) ?_
                      refine wk_lv [1, 2, 3, 4, 5, 0] ?_ (ih23 (b + 1) (by omega) (by omega) (fun b2 hb2 e2 d2 hd2 => by by_cases e : b2 = b; subst e; exact hDD d2 (by omega); exact hB b2 (by omega) e2 d2 hd2))
                      rfl
                    · -- on
                      refine wk_aload_n (pc := 65) S_ 1 d_Md_keeps_65 rfl rfl ?_
                      refine wk_iload (pc := 66) S_ 6 d_Md_keeps_66 rfl ?_
                      refine wk_ialdY (pc := 68) (g := wy) S_ 31 0 d_Md_keeps_68 rfl rfl (by omega) (by decide) ?_
                      refine wk_iload_n (pc := 69) S_ 2 d_Md_keeps_69 rfl rfl ?_
                      have hg2 := hgv d
                      refine wk_icmp_neYN (pc := 70) (tgt := 101) S_ d_Md_keeps_70 (by decide) (by omega) (by omega) (fun h70 => ?_) (fun h70 => ?_)
                      · -- taken
                        refine wk_iincN (pc := 101) (d := 1) (lv' := [(7, .int (nI (d + 1))), (0, .ref (m 0)), (1, .ref (m 31)), (2, .int (nI (x))), (3, .int (nI (cnN wy (x + 1) (b + 1)))), (4, .long (lN (ab x + smN gr wy (x + 1) (b + 1)))), (6, .int (nI (b)))]) S_ 6 d_Md_keeps_101 (by decide) rfl (by decide) rfl ?_
                        refine wk_goto (pc := 104) (tgt := 58) S_ d_Md_keeps_104 (by decide) ?_
                        refine wk_lv [1, 2, 3, 4, 5, 6, 0] ?_ (ih58 (d + 1) (by omega) (by omega) (fun d2 hd2 e2 => by by_cases e : d2 = d; subst e; exact absurd e2 h70; exact hDD d2 (by omega) e2))
                        rfl
                      · -- on
                        have hc3 := hcl d
                        have hc4 := hcv d (by omega) (by omega)
                        refine wk_aload_n (pc := 73) S_ 0 d_Md_keeps_73 rfl rfl ?_
                        refine wk_get (pc := 74) (v := .ref (m 2)) S_ 6 2 0 in_Md rfl (by decide) rfl fl_Md_13 d_Md_keeps_74 rfl rfl ?_
                        refine wk_bipush (pc := 77) (v := (nI (9))) S_ d_Md_keeps_77 (by decide) ?_
                        refine wk_aload_n (pc := 79) S_ 0 d_Md_keeps_79 rfl rfl ?_
                        refine wk_get (pc := 80) (v := .ref (m 22)) S_ 6 25 0 in_Md rfl (by decide) rfl fl_Md_74 d_Md_keeps_80 rfl rfl ?_
                        refine wk_iload (pc := 83) S_ 5 d_Md_keeps_83 rfl ?_
                        refine wk_ialdY (pc := 85) (g := cl) S_ 22 0 d_Md_keeps_85 rfl rfl (by omega) (by decide) ?_
                        refine wk_top (y := (nI (cl b - 1))) (zI_p hc2) ?_
                        refine wk_imulN (pc := 86) S_ d_Md_keeps_86 ?_
                        refine wk_aload_n (pc := 87) S_ 0 d_Md_keeps_87 rfl rfl ?_
                        refine wk_get (pc := 88) (v := .ref (m 22)) S_ 6 25 0 in_Md rfl (by decide) rfl fl_Md_74 d_Md_keeps_88 rfl rfl ?_
                        refine wk_iload (pc := 91) S_ 6 d_Md_keeps_91 rfl ?_
                        refine wk_ialdY (pc := 93) (g := cl) S_ 22 0 d_Md_keeps_93 rfl rfl (by omega) (by decide) ?_
                        refine wk_top (y := (nI (cl d - 1))) (zI_p hc4) ?_
                        refine wk_iaddN (pc := 94) S_ d_Md_keeps_94 ?_
                        refine wk_zald (pc := 95) (g := ap) S_ 2 1 d_Md_keeps_95 rfl rfl (by omega) (by decide) ?_
                        refine wk_if_eqB (pc := 96) (tgt := 101) S_ d_Md_keeps_96 (by decide) (fun h96 => ?_) (fun h96 => ?_)
                        · -- taken
                          refine wk_iincN (pc := 101) (d := 1) (lv' := [(7, .int (nI (d + 1))), (0, .ref (m 0)), (1, .ref (m 31)), (2, .int (nI (x))), (3, .int (nI (cnN wy (x + 1) (b + 1)))), (4, .long (lN (ab x + smN gr wy (x + 1) (b + 1)))), (6, .int (nI (b)))]) S_ 6 d_Md_keeps_101 (by decide) rfl (by decide) rfl ?_
                          refine wk_goto (pc := 104) (tgt := 58) S_ d_Md_keeps_104 (by decide) ?_
                          refine wk_lv [1, 2, 3, 4, 5, 6, 0] ?_ (ih58 (d + 1) (by omega) (by omega) (fun d2 hd2 e2 => by by_cases e : d2 = d; subst e; exact h96; exact hDD d2 (by omega) e2))
                          rfl
                        · -- on
                          refine wk_iconst (pc := 99) (v := (nI (0))) S_ d_Md_keeps_99 (by decide) ?_
                          exact hQ_ (nI (0)) () d_Md_keeps_100 rfl rfl (bI_f (kpB_f (fun h => absurd ((h x (by omega)).1 b (by omega) h37 d (by omega) h70) (by rw [h96]; decide))))
                refine wk_lv [3, 4, 5, 2, 1, 6, 0] ?_ (hL58 _ (0) (Nat.lt_succ_self _) (by omega) (fun y h => absurd h (Nat.not_lt_zero _)))
                rfl
        refine wk_lv [3, 4, 5, 2, 1, 0] ?_ (hL23 _ (0) (Nat.lt_succ_self _) (by omega) (fun y h => absurd h (Nat.not_lt_zero _)))
        rfl
  refine wk_lv [1, 2, 0] ?_ (hL2 _ (0) (Nat.lt_succ_self _) (by omega) (fun y h => absurd h (Nat.not_lt_zero _)))
  rfl
set_option maxHeartbeats 4000000 in
set_option maxRecDepth 100000 in
theorem c_Md_used_wy (l : Launch) (D : va_G) (cI : CiT) (z : GzT) (m : Nat → Nat) (tx : (Nat → Nat)) (sz : Nat) (ap : (Nat → Bool)) (pt : (Nat → Nat)) (rk : (Nat → Nat)) (cd : (Nat → Nat)) (fr : Nat) (mc : (Nat → Nat)) (mg : (Nat → Nat)) (mz : (Nat → Nat)) (nc : (Nat → Nat)) (nt : (Nat → Nat)) (ld : (Nat → Nat)) (qap : (Nat → Bool)) (qpt : (Nat → Nat)) (qrk : (Nat → Nat)) (qcd : (Nat → Nat)) (qfr : Nat) (qmc : (Nat → Nat)) (qmg : (Nat → Nat)) (qmz : (Nat → Nat)) (qnc : (Nat → Nat)) (qnt : (Nat → Nat)) (qld : (Nat → Nat)) (nb : Nat) (cl : (Nat → Nat)) (gr : (Nat → Nat)) (sp : (Nat → Nat)) (ot : (Nat → Bool)) (na : Nat) (aw : (Nat → Nat)) (nx : Nat) (bg : (Nat → Nat)) (bb : (Nat → Nat)) (ab : (Nat → Nat)) (fd : Bool) (pv : Bool) (bx : (Nat → Nat)) (wy : (Nat → Nat)) (li : (Nat → Nat)) (fm : Nat) (en : Nat) (nu : Nat) (td : (Nat → Nat)) (lf : Int32) (lk : Int32) (hnb : nb ≤ 8) (hgv : ∀ b, wy b ≤ 5) : wk_C l D (tyK cI) (gX z) y_Md_used b_Md_used 5 (some .int) 0 0 0 0 [.ref (m 0), .ref (m 31)] (wMd m cI tx sz ap pt rk cd fr mc mg mz nc nt ld qap qpt qrk qcd qfr qmc qmg qmz qnc qnt qld nb cl gr sp ot na aw nx bg bb ab fd pv bx wy li fm en nu td lf lk) wk_i (fun (r : Int32) (_ : Unit) => r = (nI ((usS wy nb).2))) (fun _ => (wMd m cI tx sz ap pt rk cd fr mc mg mz nc nt ld qap qpt qrk qcd qfr qmc qmg qmz qnc qnt qld nb cl gr sp ot na aw nx bg bb ab fd pv bx wy li fm en nu td lf lk)) := by
  refine wk_methI (own := R_Md) [(0, .ref (m 0)), (1, .ref (m 31))] (by decide) rfl (Nat.le_of_ble_eq_true rfl) rfl (gX_ok z) (fun p_ e_ R_ s_ m_ ar_ be_ me_ co_ Q_ A_ hR_ S_ hnm_ hQ_ => ?_)
  refine wk_iconst (pc := 0) (v := (nI (0))) S_ d_Md_used_0 (by decide) ?_
  refine wk_istore_n (pc := 1) (lv' := [(2, .int (nI (0))), (0, .ref (m 0)), (1, .ref (m 31))]) S_ d_Md_used_1 rfl (by decide) rfl ?_
  refine wk_iconst (pc := 2) (v := (nI (0))) S_ d_Md_used_2 (by decide) ?_
  refine wk_istore_n (pc := 3) (lv' := [(3, .int (nI (0))), (2, .int (nI (0))), (0, .ref (m 0)), (1, .ref (m 31))]) S_ d_Md_used_3 rfl (by decide) rfl ?_
  refine wk_iconst (pc := 4) (v := (nI (0))) S_ d_Md_used_4 (by decide) ?_
  refine wk_istore (pc := 5) (lv' := [(4, .int (nI (0))), (3, .int (nI (0))), (2, .int (nI (0))), (0, .ref (m 0)), (1, .ref (m 31))]) S_ d_Md_used_5 (by decide) rfl ?_
  have hL7 : ∀ (fuel7 : Nat), ∀ (b : Nat), nb - b < fuel7 → (b ≤ nb) → wk_G p_ l e_ R_ s_ m_ ar_ be_ me_ co_ Q_ D A_ 5 0 0 (wMd m cI tx sz ap pt rk cd fr mc mg mz nc nt ld qap qpt qrk qcd qfr qmc qmg qmz qnc qnt qld nb cl gr sp ot na aw nx bg bb ab fd pv bx wy li fm en nu td lf lk) 7 [(0, .ref (m 0)), (1, .ref (m 31)), (2, .int (nI ((usS wy b).1))), (3, .int (nI ((usS wy b).2))), (4, .int (nI (b)))] [] := by
    intro fuel7
    induction fuel7 with
    | zero => intro b hm; exact absurd hm (Nat.not_lt_zero _)
    | succ fuel7 ih7 =>
      intro b hm hb
      refine wk_iload (pc := 7) S_ 4 d_Md_used_7 rfl ?_
      refine wk_aload_n (pc := 9) S_ 0 d_Md_used_9 rfl rfl ?_
      refine wk_get (pc := 10) (v := .int (nI (nb))) S_ 6 24 0 in_Md rfl (by decide) rfl fl_Md_117 d_Md_used_10 rfl rfl ?_
      refine wk_icmp_geN (pc := 13) (tgt := 52) S_ d_Md_used_13 (by decide) (by omega) (by omega) (fun h13 => ?_) (fun h13 => ?_)
      · -- taken
        refine wk_iload_n (pc := 52) S_ 3 d_Md_used_52 rfl rfl ?_
        exact hQ_ (nI ((usS wy b).2)) () d_Md_used_53 rfl (congrArg nI (by rw [show b = nb by omega]))
      · -- on
        refine wk_aload_n (pc := 16) S_ 1 d_Md_used_16 rfl rfl ?_
        refine wk_iload (pc := 17) S_ 4 d_Md_used_17 rfl ?_
        refine wk_ialdY (pc := 19) (g := wy) S_ 31 0 d_Md_used_19 rfl rfl (by omega) (by decide) ?_
        have hg1 := hgv b
        have hu1 := usS_le hgv b
        refine wk_if_ltY (pc := 20) (tgt := 46) S_ d_Md_used_20 (by decide) (by omega) (fun h20 => ?_) (fun h20 => ?_)
        · -- taken
          refine wk_iincN (pc := 46) (d := 1) (lv' := [(4, .int (nI (b + 1))), (0, .ref (m 0)), (1, .ref (m 31)), (2, .int (nI ((usS wy b).1))), (3, .int (nI ((usS wy b).2)))]) S_ 4 d_Md_used_46 (by decide) rfl (by decide) rfl ?_
          refine wk_goto (pc := 49) (tgt := 7) S_ d_Md_used_49 (by decide) ?_
          refine wk_lveq (lv' := [(4, .int (nI (b + 1))), (0, .ref (m 0)), (1, .ref (m 31)), (2, .int (nI ((usS wy (b + 1)).1))), (3, .int (nI ((usS wy b).2)))]) (by rw [usS, if_neg (by omega)]) ?_
          refine wk_lveq (lv' := [(4, .int (nI (b + 1))), (0, .ref (m 0)), (1, .ref (m 31)), (2, .int (nI ((usS wy (b + 1)).1))), (3, .int (nI ((usS wy (b + 1)).2)))]) (by rw [usS, if_neg (by omega)]) ?_
          refine wk_lv [1, 2, 3, 4, 0] ?_ (ih7 (b + 1) (by omega) (by omega))
          rfl
        · -- on
          refine wk_iload_n (pc := 23) S_ 2 d_Md_used_23 rfl rfl ?_
          refine wk_aload_n (pc := 24) S_ 1 d_Md_used_24 rfl rfl ?_
          refine wk_iload (pc := 25) S_ 4 d_Md_used_25 rfl ?_
          refine wk_ialdY (pc := 27) (g := wy) S_ 31 0 d_Md_used_27 rfl rfl (by omega) (by decide) ?_
          refine wk_top (y := (nI (wy b - 1))) (zI_p h20) ?_
          refine wk_ishrN (pc := 28) S_ d_Md_used_28 (by omega) (by omega) ?_
          refine wk_iconst (pc := 29) (v := (nI (1))) S_ d_Md_used_29 (by decide) ?_
          refine wk_iandN (pc := 30) S_ d_Md_used_30 ?_
          refine wk_if_neN (pc := 31) (tgt := 46) S_ d_Md_used_31 (by decide) (Nat.lt_of_le_of_lt Nat.and_le_right (by decide)) (fun h31 => ?_) (fun h31 => ?_)
          · -- taken
            refine wk_iincN (pc := 46) (d := 1) (lv' := [(4, .int (nI (b + 1))), (0, .ref (m 0)), (1, .ref (m 31)), (2, .int (nI ((usS wy b).1))), (3, .int (nI ((usS wy b).2)))]) S_ 4 d_Md_used_46 (by decide) rfl (by decide) rfl ?_
            refine wk_goto (pc := 49) (tgt := 7) S_ d_Md_used_49 (by decide) ?_
            refine wk_lveq (lv' := [(4, .int (nI (b + 1))), (0, .ref (m 0)), (1, .ref (m 31)), (2, .int (nI ((usS wy (b + 1)).1))), (3, .int (nI ((usS wy b).2)))]) (by rw [usS, if_neg (by omega)]) ?_
            refine wk_lveq (lv' := [(4, .int (nI (b + 1))), (0, .ref (m 0)), (1, .ref (m 31)), (2, .int (nI ((usS wy (b + 1)).1))), (3, .int (nI ((usS wy (b + 1)).2)))]) (by rw [usS, if_neg (by omega)]) ?_
            refine wk_lv [1, 2, 3, 4, 0] ?_ (ih7 (b + 1) (by omega) (by omega))
            rfl
          · -- on
            refine wk_iload_n (pc := 34) S_ 2 d_Md_used_34 rfl rfl ?_
            refine wk_iconst (pc := 35) (v := (nI (1))) S_ d_Md_used_35 (by decide) ?_
            refine wk_aload_n (pc := 36) S_ 1 d_Md_used_36 rfl rfl ?_
            refine wk_iload (pc := 37) S_ 4 d_Md_used_37 rfl ?_
            refine wk_ialdY (pc := 39) (g := wy) S_ 31 0 d_Md_used_39 rfl rfl (by omega) (by decide) ?_
            refine wk_top (y := (nI (wy b - 1))) (zI_p h20) ?_
            refine wk_ishlN (pc := 40) S_ d_Md_used_40 (by omega) ?_
            refine wk_iorN (pc := 41) S_ d_Md_used_41 ?_
            refine wk_istore_n (pc := 42) (lv' := [(2, .int (nI (((usS wy b).1) ||| (2 ^ (wy b - 1))))), (0, .ref (m 0)), (1, .ref (m 31)), (3, .int (nI ((usS wy b).2))), (4, .int (nI (b)))]) S_ d_Md_used_42 rfl (by decide) rfl ?_
            refine wk_iincN (pc := 43) (d := 1) (lv' := [(3, .int (nI ((usS wy b).2 + 1))), (2, .int (nI (((usS wy b).1) ||| (2 ^ (wy b - 1))))), (0, .ref (m 0)), (1, .ref (m 31)), (4, .int (nI (b)))]) S_ 3 d_Md_used_43 (by decide) rfl (by decide) rfl ?_
            refine wk_iincN (pc := 46) (d := 1) (lv' := [(4, .int (nI (b + 1))), (3, .int (nI ((usS wy b).2 + 1))), (2, .int (nI (((usS wy b).1) ||| (2 ^ (wy b - 1))))), (0, .ref (m 0)), (1, .ref (m 31))]) S_ 4 d_Md_used_46 (by decide) rfl (by decide) rfl ?_
            refine wk_goto (pc := 49) (tgt := 7) S_ d_Md_used_49 (by decide) ?_
            refine wk_lveq (lv' := [(4, .int (nI (b + 1))), (3, .int (nI ((usS wy b).2 + 1))), (2, .int (nI ((usS wy (b + 1)).1))), (0, .ref (m 0)), (1, .ref (m 31))]) (by rw [usS, if_pos ⟨h20, h31⟩]) ?_
            refine wk_lveq (lv' := [(4, .int (nI (b + 1))), (3, .int (nI ((usS wy (b + 1)).2))), (2, .int (nI ((usS wy (b + 1)).1))), (0, .ref (m 0)), (1, .ref (m 31))]) (by rw [usS, if_pos ⟨h20, h31⟩]) ?_
            refine wk_lv [3, 4, 2, 1, 0] ?_ (ih7 (b + 1) (by omega) (by omega))
            rfl
  refine wk_lv [3, 4, 2, 1, 0] ?_ (hL7 _ (0) (Nat.lt_succ_self _) (by omega))
  rfl
set_option maxHeartbeats 4000000 in
set_option maxRecDepth 100000 in
theorem c_Md_turn (l : Launch) (D : va_G) (cI : CiT) (z : GzT) (m : Nat → Nat) (tx : (Nat → Nat)) (sz : Nat) (ap : (Nat → Bool)) (pt : (Nat → Nat)) (rk : (Nat → Nat)) (cd : (Nat → Nat)) (fr : Nat) (mc : (Nat → Nat)) (mg : (Nat → Nat)) (mz : (Nat → Nat)) (nc : (Nat → Nat)) (nt : (Nat → Nat)) (ld : (Nat → Nat)) (qap : (Nat → Bool)) (qpt : (Nat → Nat)) (qrk : (Nat → Nat)) (qcd : (Nat → Nat)) (qfr : Nat) (qmc : (Nat → Nat)) (qmg : (Nat → Nat)) (qmz : (Nat → Nat)) (qnc : (Nat → Nat)) (qnt : (Nat → Nat)) (qld : (Nat → Nat)) (nb : Nat) (cl : (Nat → Nat)) (gr : (Nat → Nat)) (sp : (Nat → Nat)) (ot : (Nat → Bool)) (na : Nat) (aw : (Nat → Nat)) (nx : Nat) (bg : (Nat → Nat)) (bb : (Nat → Nat)) (ab : (Nat → Nat)) (fd : Bool) (pv : Bool) (bx : (Nat → Nat)) (wy : (Nat → Nat)) (li : (Nat → Nat)) (fm : Nat) (en : Nat) (nu : Nat) (td : (Nat → Nat)) (lf : Int32) (lk : Int32) (n : Nat) (hn : n ≤ 8) (hnx : (n = 0 ∨ 0 < nx) ∧ nx ≤ 5) (hli : ∀ k, li k < 8) (hwy : ∀ b, wy b ≤ 5) (hw0 : ∀ k, k < n → wy (li k) ≠ 0) : wk_C l D (tyK cI) (gX z) y_Md_turn b_Md_turn 3 (some .boolean) 0 0 0 0 [.ref (m 0), .int (nI (n))] (wMd m cI tx sz ap pt rk cd fr mc mg mz nc nt ld qap qpt qrk qcd qfr qmc qmg qmz qnc qnt qld nb cl gr sp ot na aw nx bg bb ab fd pv bx wy li fm en nu td lf lk) wk_i (fun (r : Int32) (_ : Unit) => r = (bI ((trS li nx n wy).2))) (fun _ => (wMd m cI tx sz ap pt rk cd fr mc mg mz nc nt ld qap qpt qrk qcd qfr qmc qmg qmz qnc qnt qld nb cl gr sp ot na aw nx bg bb ab fd pv bx ((trS li nx n wy).1) li fm en nu td lf lk)) := by
  refine wk_methZ (own := R_Md) [(0, .ref (m 0)), (1, .int (nI (n)))] (by decide) rfl (Nat.le_of_ble_eq_true rfl) rfl (gX_ok z) (fun p_ e_ R_ s_ m_ ar_ be_ me_ co_ Q_ A_ hR_ S_ hnm_ hQ_ => ?_)
  refine wk_iload_n (pc := 0) S_ 1 d_Md_turn_0 rfl rfl ?_
  refine wk_iconst (pc := 1) (v := (nI (1))) S_ d_Md_turn_1 (by decide) ?_
  refine wk_isub (pc := 2) S_ d_Md_turn_2 ?_
  refine wk_top (y := (zI (n))) rfl ?_
  refine wk_istore_n (pc := 3) (lv' := [(2, .int (zI (n))), (0, .ref (m 0)), (1, .int (nI (n)))]) S_ d_Md_turn_3 rfl (by decide) rfl ?_
  have hL4 : ∀ (fuel4 : Nat), ∀ (k : Nat) (w : Nat → Nat), k < fuel4 → (k ≤ n) → (∀ b, w b ≤ 5) → (∀ j, j < n → w (li j) ≠ 0) → (trS li nx k w = trS li nx n wy) → wk_G p_ l e_ R_ s_ m_ ar_ be_ me_ co_ Q_ D A_ 3 0 0 (wMd m cI tx sz ap pt rk cd fr mc mg mz nc nt ld qap qpt qrk qcd qfr qmc qmg qmz qnc qnt qld nb cl gr sp ot na aw nx bg bb ab fd pv bx w li fm en nu td lf lk) 4 [(0, .ref (m 0)), (1, .int (nI (n))), (2, .int (zI (k)))] [] := by
    intro fuel4
    induction fuel4 with
    | zero => intro k w hm; exact absurd hm (Nat.not_lt_zero _)
    | succ fuel4 ih4 =>
      intro k w hm hk hw hw1 hE
      refine wk_iload_n (pc := 4) S_ 2 d_Md_turn_4 rfl rfl ?_
      refine wk_if_ltY (pc := 5) (tgt := 46) S_ d_Md_turn_5 (by decide) (by omega) (fun h5 => ?_) (fun h5 => ?_)
      · -- taken
        refine wk_iload_n (pc := 46) S_ 2 d_Md_turn_46 rfl rfl ?_
        refine wk_if_ltY (pc := 47) (tgt := 65) S_ d_Md_turn_47 (by decide) (by omega) (fun h47 => ?_) (fun h47 => absurd h5 h47)
        refine wk_iload_n (pc := 65) S_ 2 d_Md_turn_65 rfl rfl ?_
        refine wk_if_ltY (pc := 66) (tgt := 73) S_ d_Md_turn_66 (by decide) (by omega) (fun h66 => ?_) (fun h66 => absurd h5 h66)
        refine wk_iconst (pc := 73) (v := (nI (0))) S_ d_Md_turn_73 (by decide) ?_
        exact hQ_ (nI (0)) () d_Md_turn_74 rfl (by rw [← hE, h5]; rfl) (bI_f (by rw [← hE, h5]; rfl))
      · -- on
        obtain ⟨r, rfl⟩ : ∃ r, k = r + 1 := ⟨k - 1, by omega⟩
        have hl1 := hli r
        have hw2 := hw (li r)
        have hw3 := hw1 r (by omega)
        refine wk_aload_n (pc := 8) S_ 0 d_Md_turn_8 rfl rfl ?_
        refine wk_get (pc := 9) (v := .ref (m 31)) S_ 6 38 0 in_Md rfl (by decide) rfl fl_Md_102 d_Md_turn_9 rfl rfl ?_
        refine wk_aload_n (pc := 12) S_ 0 d_Md_turn_12 rfl rfl ?_
        refine wk_get (pc := 13) (v := .ref (m 32)) S_ 6 39 0 in_Md rfl (by decide) rfl fl_Md_105 d_Md_turn_13 rfl rfl ?_
        refine wk_iload_n (pc := 16) S_ 2 d_Md_turn_16 rfl rfl ?_
        refine wk_top (y := (nI (r))) (zI_s r) ?_
        refine wk_ialdN (pc := 17) (g := li) S_ 32 0 d_Md_turn_17 rfl rfl (by omega) (by decide) ?_
        refine wk_ialdY (pc := 18) (g := w) S_ 31 0 d_Md_turn_18 rfl rfl (by omega) (by decide) ?_
        refine wk_aload_n (pc := 19) S_ 0 d_Md_turn_19 rfl rfl ?_
        refine wk_get (pc := 20) (v := .int (nI (nx))) S_ 6 31 0 in_Md rfl (by decide) rfl fl_Md_213 d_Md_turn_20 rfl rfl ?_
        refine wk_iconst (pc := 23) (v := (nI (1))) S_ d_Md_turn_23 (by decide) ?_
        refine wk_isubN (pc := 24) S_ d_Md_turn_24 (by omega) ?_
        refine wk_icmp_neYN (pc := 25) (tgt := 46) S_ d_Md_turn_25 (by decide) (by omega) (by omega) (fun h25 => ?_) (fun h25 => ?_)
        · -- taken
          refine wk_iload_n (pc := 46) S_ 2 d_Md_turn_46 rfl rfl ?_
          refine wk_if_ltY (pc := 47) (tgt := 65) S_ d_Md_turn_47 (by decide) (by omega) (fun h47 => absurd h47 (by omega)) (fun h47 => ?_)
          refine wk_aload_n (pc := 50) S_ 0 d_Md_turn_50 rfl rfl ?_
          refine wk_get (pc := 51) (v := .ref (m 31)) S_ 6 38 0 in_Md rfl (by decide) rfl fl_Md_102 d_Md_turn_51 rfl rfl ?_
          refine wk_aload_n (pc := 54) S_ 0 d_Md_turn_54 rfl rfl ?_
          refine wk_get (pc := 55) (v := .ref (m 32)) S_ 6 39 0 in_Md rfl (by decide) rfl fl_Md_105 d_Md_turn_55 rfl rfl ?_
          refine wk_iload_n (pc := 58) S_ 2 d_Md_turn_58 rfl rfl ?_
          refine wk_top (y := (nI (r))) (zI_s r) ?_
          refine wk_ialdN (pc := 59) (g := li) S_ 32 0 d_Md_turn_59 rfl rfl (by omega) (by decide) ?_
          refine wk_dup2 (pc := 60) S_ d_Md_turn_60 rfl rfl ?_
          refine wk_ialdY (pc := 61) (g := w) S_ 31 0 d_Md_turn_61 rfl rfl (by omega) (by decide) ?_
          refine wk_top (y := (nI (w (li r) - 1))) (zI_p hw3) ?_
          refine wk_iconst (pc := 62) (v := (nI (1))) S_ d_Md_turn_62 (by decide) ?_
          refine wk_iaddN (pc := 63) S_ d_Md_turn_63 ?_
          refine wk_iastYN (pc := 64) (g := w) (ws' := (wMd m cI tx sz ap pt rk cd fr mc mg mz nc nt ld qap qpt qrk qcd qfr qmc qmg qmz qnc qnt qld nb cl gr sp ot na aw nx bg bb ab fd pv bx (va_up (w) ((li) (r)) (((w (li r) - 1) + (1)) + 1)) li fm en nu td lf lk)) S_ 31 0 d_Md_turn_64 rfl rfl (by omega) (by decide) rfl ?_
          refine wk_weq (ws' := (wMd m cI tx sz ap pt rk cd fr mc mg mz nc nt ld qap qpt qrk qcd qfr qmc qmg qmz qnc qnt qld nb cl gr sp ot na aw nx bg bb ab fd pv bx (va_up w (li r) (w (li r) + 1)) li fm en nu td lf lk)) (by rw [show w (li r) - 1 + 1 + 1 = w (li r) + 1 by omega]) ?_
          refine wk_iload_n (pc := 65) S_ 2 d_Md_turn_65 rfl rfl ?_
          refine wk_if_ltY (pc := 66) (tgt := 73) S_ d_Md_turn_66 (by decide) (by omega) (fun h66 => absurd h66 (by omega)) (fun h66 => ?_)
          refine wk_iconst (pc := 69) (v := (nI (1))) S_ d_Md_turn_69 (by decide) ?_
          refine wk_goto (pc := 70) (tgt := 74) S_ d_Md_turn_70 (by decide) ?_
          exact hQ_ (nI (1)) () d_Md_turn_74 rfl (by rw [← hE, trS, if_neg (by omega)]) (bI_t (by rw [← hE, trS, if_neg (by omega)]))
        · -- on
          refine wk_aload_n (pc := 28) S_ 0 d_Md_turn_28 rfl rfl ?_
          refine wk_get (pc := 29) (v := .ref (m 31)) S_ 6 38 0 in_Md rfl (by decide) rfl fl_Md_102 d_Md_turn_29 rfl rfl ?_
          refine wk_aload_n (pc := 32) S_ 0 d_Md_turn_32 rfl rfl ?_
          refine wk_get (pc := 33) (v := .ref (m 32)) S_ 6 39 0 in_Md rfl (by decide) rfl fl_Md_105 d_Md_turn_33 rfl rfl ?_
          refine wk_iload_n (pc := 36) S_ 2 d_Md_turn_36 rfl rfl ?_
          refine wk_top (y := (nI (r))) (zI_s r) ?_
          refine wk_ialdN (pc := 37) (g := li) S_ 32 0 d_Md_turn_37 rfl rfl (by omega) (by decide) ?_
          refine wk_iconst (pc := 38) (v := (nI (0))) S_ d_Md_turn_38 (by decide) ?_
          refine wk_iastYN (pc := 39) (g := w) (ws' := (wMd m cI tx sz ap pt rk cd fr mc mg mz nc nt ld qap qpt qrk qcd qfr qmc qmg qmz qnc qnt qld nb cl gr sp ot na aw nx bg bb ab fd pv bx (va_up (w) ((li) (r)) ((0) + 1)) li fm en nu td lf lk)) S_ 31 0 d_Md_turn_39 rfl rfl (by omega) (by decide) rfl ?_
          refine wk_iincZ (pc := 40) (lv' := [(2, .int (zI (r + 1 - 1))), (0, .ref (m 0)), (1, .int (nI (n)))]) S_ 2 d_Md_turn_40 (by decide) (by omega) rfl (by decide) rfl ?_
          refine wk_goto (pc := 43) (tgt := 4) S_ d_Md_turn_43 (by decide) ?_
          refine wk_lv [1, 2, 0] ?_ (ih4 (r + 1 - 1) (va_up (w) ((li) (r)) ((0) + 1)) (by omega) (by omega) (fun b => by unfold va_up; split; omega; exact hw b) (fun j hj => by unfold va_up; split; omega; exact hw1 j hj) (by rw [← hE, trS, if_pos (by omega)]; rfl))
          rfl
  refine wk_lv [1, 2, 0] ?_ (hL4 _ (n) (wy) (Nat.lt_succ_self _) (by omega) hwy hw0 rfl)
  rfl
set_option maxHeartbeats 4000000 in
set_option maxRecDepth 100000 in
theorem c_Md_kept (l : Launch) (D : va_G) (cI : CiT) (z : GzT) (m : Nat → Nat) (tx : (Nat → Nat)) (sz : Nat) (ap : (Nat → Bool)) (pt : (Nat → Nat)) (rk : (Nat → Nat)) (cd : (Nat → Nat)) (fr : Nat) (mc : (Nat → Nat)) (mg : (Nat → Nat)) (mz : (Nat → Nat)) (nc : (Nat → Nat)) (nt : (Nat → Nat)) (ld : (Nat → Nat)) (qap : (Nat → Bool)) (qpt : (Nat → Nat)) (qrk : (Nat → Nat)) (qcd : (Nat → Nat)) (qfr : Nat) (qmc : (Nat → Nat)) (qmg : (Nat → Nat)) (qmz : (Nat → Nat)) (qnc : (Nat → Nat)) (qnt : (Nat → Nat)) (qld : (Nat → Nat)) (nb : Nat) (cl : (Nat → Nat)) (gr : (Nat → Nat)) (sp : (Nat → Nat)) (ot : (Nat → Bool)) (na : Nat) (aw : (Nat → Nat)) (nx : Nat) (bg : (Nat → Nat)) (bb : (Nat → Nat)) (ab : (Nat → Nat)) (fd : Bool) (pv : Bool) (bx : (Nat → Nat)) (wy : (Nat → Nat)) (li : (Nat → Nat)) (fm : Nat) (en : Nat) (nu : Nat) (td : (Nat → Nat)) (lf : Int32) (lk : Int32) (hnb : nb ≤ 8) (hnx : nx ≤ 5) (hgr : ∀ b, gr b ≤ 100000) (hcl : ∀ b, cl b ≤ 9) (hgv : ∀ b, bx b ≤ 5) (hcv : ∀ b, b < nb → bx b ≠ 0 → cl b ≠ 0) (hbg : ∀ x, bg x ≤ 1000000) (hbb : ∀ x, bb x ≤ 8) (hab : ∀ x, ab x ≤ 1000000) : wk_C l D (tyK cI) (gX z) y_Md_kept b_Md_kept 3 (some .boolean) 1 27 0 0 [.ref (m 0)] (wMd m cI tx sz ap pt rk cd fr mc mg mz nc nt ld qap qpt qrk qcd qfr qmc qmg qmz qnc qnt qld nb cl gr sp ot na aw nx bg bb ab fd pv bx wy li fm en nu td lf lk) wk_i (fun (r : Int32) (_ : Unit) => r = (bI (smB ot cl bx fd nb && kpB ap cl gr bx bg bb ab nb nx))) (fun _ => (wMd m cI tx sz ap pt rk cd fr mc mg mz nc nt ld qap qpt qrk qcd qfr qmc qmg qmz qnc qnt qld nb cl gr sp ot na aw nx bg bb ab fd pv bx wy li fm en nu td lf lk)) := by
  refine wk_methZ (own := R_Md) [(0, .ref (m 0))] (by decide) rfl (Nat.le_of_ble_eq_true rfl) rfl (gX_ok z) (fun p_ e_ R_ s_ m_ ar_ be_ me_ co_ Q_ A_ hR_ S_ hnm_ hQ_ => ?_)
  refine wk_aload_n (pc := 0) S_ 0 d_Md_kept_0 rfl rfl ?_
  refine wk_get (pc := 1) (v := .int (bI (fd))) S_ 6 35 0 in_Md rfl (by decide) rfl fl_Md_239 d_Md_kept_1 rfl rfl ?_
  refine wk_istore_n (pc := 4) (lv' := [(1, .int (bI (fd))), (0, .ref (m 0))]) S_ d_Md_kept_4 rfl (by decide) rfl ?_
  refine wk_iconst (pc := 5) (v := (nI (0))) S_ d_Md_kept_5 (by decide) ?_
  refine wk_istore_n (pc := 6) (lv' := [(2, .int (nI (0))), (1, .int (bI (fd))), (0, .ref (m 0))]) S_ d_Md_kept_6 rfl (by decide) rfl ?_
  have hL7 : ∀ (fuel7 : Nat), ∀ (b : Nat), nb - b < fuel7 → (b ≤ nb) → wk_G p_ l e_ R_ s_ m_ ar_ be_ me_ co_ Q_ D A_ 3 0 0 (wMd m cI tx sz ap pt rk cd fr mc mg mz nc nt ld qap qpt qrk qcd qfr qmc qmg qmz qnc qnt qld nb cl gr sp ot na aw nx bg bb ab fd pv bx wy li fm en nu td lf lk) 7 [(0, .ref (m 0)), (1, .int (bI (smB ot cl bx fd b))), (2, .int (nI (b)))] [] := by
    intro fuel7
    induction fuel7 with
    | zero => intro b hm; exact absurd hm (Nat.not_lt_zero _)
    | succ fuel7 ih7 =>
      intro b hm hb
      refine wk_iload_n (pc := 7) S_ 2 d_Md_kept_7 rfl rfl ?_
      refine wk_aload_n (pc := 8) S_ 0 d_Md_kept_8 rfl rfl ?_
      refine wk_get (pc := 9) (v := .int (nI (nb))) S_ 6 24 0 in_Md rfl (by decide) rfl fl_Md_117 d_Md_kept_9 rfl rfl ?_
      refine wk_icmp_geN (pc := 12) (tgt := 53) S_ d_Md_kept_12 (by decide) (by omega) (by omega) (fun h12 => ?_) (fun h12 => ?_)
      · -- taken
        refine wk_iload_n (pc := 53) S_ 1 d_Md_kept_53 rfl rfl ?_
        refine wk_if_eqB (pc := 54) (tgt := 72) S_ d_Md_kept_54 (by decide) (fun h54 => ?_) (fun h54 => ?_)
        · -- taken
          refine wk_iconst (pc := 72) (v := (nI (0))) S_ d_Md_kept_72 (by decide) ?_
          exact hQ_ (nI (0)) () d_Md_kept_73 rfl rfl (bI_f (by rw [show nb = b by omega, h54]; rfl))
        · -- on
          refine wk_aload_n (pc := 57) S_ 0 d_Md_kept_57 rfl rfl ?_
          refine wk_aload_n (pc := 58) S_ 0 d_Md_kept_58 rfl rfl ?_
          refine wk_get (pc := 59) (v := .ref (m 30)) S_ 6 37 0 in_Md rfl (by decide) rfl fl_Md_99 d_Md_kept_59 rfl rfl ?_
          refine wk_run (pc := 62) (rest := []) (wr := []) (wN := fun _ => (wMd m cI tx sz ap pt rk cd fr mc mg mz nc nt ld qap qpt qrk qcd qfr qmc qmg qmz qnc qnt qld nb cl gr sp ot na aw nx bg bb ab fd pv bx wy li fm en nu td lf lk)) S_ (wk_rV S_ (c_Md_keeps_bx l D cI z (m) (tx) (sz) (ap) (pt) (rk) (cd) (fr) (mc) (mg) (mz) (nc) (nt) (ld) (qap) (qpt) (qrk) (qcd) (qfr) (qmc) (qmg) (qmz) (qnc) (qnt) (qld) (nb) (cl) (gr) (sp) (ot) (na) (aw) (nx) (bg) (bb) (ab) (fd) (pv) (bx) (wy) (li) (fm) (en) (nu) (td) (lf) (lk) (by omega) (by omega) hgr hcl hgv hcv hbg hbb hab) mv_Md_235 (wk_rcv S_ 0 6 rfl rfl rfl) rfl rfl (Nat.le_of_ble_eq_true rfl) (by rw [hR_]; decide) (by rw [hR_]; decide) d_Md_kept_62) [0, 1, 2, 3, 4, 5, 6, 7, 8, 9, 10, 11, 12, 13, 14, 15, 16, 17, 18, 19, 20, 21, 22, 23, 24, 25, 26, 27, 28, 29, 30, 31, 32, 33] [] [0, 1, 2, 3, 4, 5, 6, 7, 8, 9, 10, 11, 12, 13, 14, 15, 16, 17, 18, 19, 20, 21, 22, 23, 24, 25, 26, 27, 28, 29, 30, 31, 32, 33] rfl rfl rfl (by decide) (by decide) (by decide) (by decide) (fun _ => rfl) (fun _ => rfl) (fun r62 _ hw62 => ?_)
          refine wk_st (st' := [.int (r62)]) rfl ?_
          refine wk_top (y := (bI (kpB (ap) (cl) (gr) (bx) (bg) (bb) (ab) (nb) (nx)))) hw62 ?_
          refine wk_if_eqB (pc := 65) (tgt := 72) S_ d_Md_kept_65 (by decide) (fun h65 => ?_) (fun h65 => ?_)
          · -- taken
            refine wk_iconst (pc := 72) (v := (nI (0))) S_ d_Md_kept_72 (by decide) ?_
            exact hQ_ (nI (0)) () d_Md_kept_73 rfl rfl (bI_f (by rw [h65, Bool.and_false]))
          · -- on
            refine wk_iconst (pc := 68) (v := (nI (1))) S_ d_Md_kept_68 (by decide) ?_
            refine wk_goto (pc := 69) (tgt := 73) S_ d_Md_kept_69 (by decide) ?_
            exact hQ_ (nI (1)) () d_Md_kept_73 rfl rfl (bI_t (by rw [h65, show smB ot cl bx fd nb = true by rw [show nb = b by omega]; exact h54]; rfl))
      · -- on
        refine wk_iload_n (pc := 15) S_ 1 d_Md_kept_15 rfl rfl ?_
        refine wk_if_eqB (pc := 16) (tgt := 45) S_ d_Md_kept_16 (by decide) (fun h16 => ?_) (fun h16 => ?_)
        · -- taken
          refine wk_iconst (pc := 45) (v := (nI (0))) S_ d_Md_kept_45 (by decide) ?_
          refine wk_top (y := (bI (smB ot cl bx fd (b + 1)))) (bI_f (by simp [smB, h16])) ?_
          refine wk_istore_n (pc := 46) (lv' := [(1, .int (bI (smB ot cl bx fd (b + 1)))), (0, .ref (m 0)), (2, .int (nI (b)))]) S_ d_Md_kept_46 rfl (by decide) rfl ?_
          refine wk_iincN (pc := 47) (d := 1) (lv' := [(2, .int (nI (b + 1))), (1, .int (bI (smB ot cl bx fd (b + 1)))), (0, .ref (m 0))]) S_ 2 d_Md_kept_47 (by decide) rfl (by decide) rfl ?_
          refine wk_goto (pc := 50) (tgt := 7) S_ d_Md_kept_50 (by decide) ?_
          refine wk_lv [2, 1, 0] ?_ (ih7 (b + 1) (by omega) (by omega))
          rfl
        · -- on
          refine wk_aload_n (pc := 19) S_ 0 d_Md_kept_19 rfl rfl ?_
          refine wk_iload_n (pc := 20) S_ 2 d_Md_kept_20 rfl rfl ?_
          refine wk_run (pc := 21) (rest := []) (wr := []) (wN := fun _ => (wMd m cI tx sz ap pt rk cd fr mc mg mz nc nt ld qap qpt qrk qcd qfr qmc qmg qmz qnc qnt qld nb cl gr sp ot na aw nx bg bb ab fd pv bx wy li fm en nu td lf lk)) S_ (wk_rV S_ (c_Md_isToBePacked l D cI z (m) (tx) (sz) (ap) (pt) (rk) (cd) (fr) (mc) (mg) (mz) (nc) (nt) (ld) (qap) (qpt) (qrk) (qcd) (qfr) (qmc) (qmg) (qmz) (qnc) (qnt) (qld) (nb) (cl) (gr) (sp) (ot) (na) (aw) (nx) (bg) (bb) (ab) (fd) (pv) (bx) (wy) (li) (fm) (en) (nu) (td) (lf) (lk) (b) (by omega) (by have := hcl b; omega)) mv_Md_228 (wk_rcv S_ 0 6 rfl rfl rfl) rfl rfl (Nat.le_of_ble_eq_true rfl) (by rw [hR_]; decide) (by rw [hR_]; decide) d_Md_kept_21) [0, 1, 2, 3, 4, 5, 6, 7, 8, 9, 10, 11, 12, 13, 14, 15, 16, 17, 18, 19, 20, 21, 22, 23, 24, 25, 26, 27, 28, 29, 30, 31, 32, 33] [] [0, 1, 2, 3, 4, 5, 6, 7, 8, 9, 10, 11, 12, 13, 14, 15, 16, 17, 18, 19, 20, 21, 22, 23, 24, 25, 26, 27, 28, 29, 30, 31, 32, 33] rfl rfl rfl (by decide) (by decide) (by decide) (by decide) (fun _ => rfl) (fun _ => rfl) (fun r21 _ hw21 => ?_)
          refine wk_st (st' := [.int (r21)]) rfl ?_
          refine wk_top (y := (bI (decide ((ot) (b) = false ∧ (cl) (b) ≠ 0)))) hw21 ?_
          refine wk_aload_n (pc := 24) S_ 0 d_Md_kept_24 rfl rfl ?_
          refine wk_get (pc := 25) (v := .ref (m 30)) S_ 6 37 0 in_Md rfl (by decide) rfl fl_Md_99 d_Md_kept_25 rfl rfl ?_
          refine wk_iload_n (pc := 28) S_ 2 d_Md_kept_28 rfl rfl ?_
          refine wk_ialdY (pc := 29) (g := bx) S_ 30 0 d_Md_kept_29 rfl rfl (by omega) (by decide) ?_
          have hg1 := hgv b
          refine wk_if_ltY (pc := 30) (tgt := 37) S_ d_Md_kept_30 (by decide) (by omega) (fun h30 => ?_) (fun h30 => ?_)
          · -- taken
            refine wk_iconst (pc := 37) (v := (nI (0))) S_ d_Md_kept_37 (by decide) ?_
            refine wk_top (y := (bI (decide (bx b ≠ 0)))) (bI_f (by simp; omega)) ?_
            refine wk_icmp_ne (pc := 38) (tgt := 45) S_ d_Md_kept_38 (by decide) (fun h38 => ?_) (fun h38 => ?_)
            · -- taken
              refine wk_iconst (pc := 45) (v := (nI (0))) S_ d_Md_kept_45 (by decide) ?_
              refine wk_top (y := (bI (smB ot cl bx fd (b + 1)))) (bI_f (by rw [smB, Bool.and_eq_false_iff]; right; simp only [decide_eq_false_iff_not]; intro z; exact h38 (congrArg bI (by simp only [decide_eq_decide]; exact z)))) ?_
              refine wk_istore_n (pc := 46) (lv' := [(1, .int (bI (smB ot cl bx fd (b + 1)))), (0, .ref (m 0)), (2, .int (nI (b)))]) S_ d_Md_kept_46 rfl (by decide) rfl ?_
              refine wk_iincN (pc := 47) (d := 1) (lv' := [(2, .int (nI (b + 1))), (1, .int (bI (smB ot cl bx fd (b + 1)))), (0, .ref (m 0))]) S_ 2 d_Md_kept_47 (by decide) rfl (by decide) rfl ?_
              refine wk_goto (pc := 50) (tgt := 7) S_ d_Md_kept_50 (by decide) ?_
              refine wk_lv [2, 1, 0] ?_ (ih7 (b + 1) (by omega) (by omega))
              rfl
            · -- on
              refine wk_iconst (pc := 41) (v := (nI (1))) S_ d_Md_kept_41 (by decide) ?_
              refine wk_goto (pc := 42) (tgt := 46) S_ d_Md_kept_42 (by decide) ?_
              refine wk_top (y := (bI (smB ot cl bx fd (b + 1)))) (bI_t (by rw [smB, Bool.and_eq_true]; refine ⟨h16, ?_⟩; simp only [decide_eq_true_eq]; exact decide_eq_decide.mp (bI_inj h38))) ?_
              refine wk_istore_n (pc := 46) (lv' := [(1, .int (bI (smB ot cl bx fd (b + 1)))), (0, .ref (m 0)), (2, .int (nI (b)))]) S_ d_Md_kept_46 rfl (by decide) rfl ?_
              refine wk_iincN (pc := 47) (d := 1) (lv' := [(2, .int (nI (b + 1))), (1, .int (bI (smB ot cl bx fd (b + 1)))), (0, .ref (m 0))]) S_ 2 d_Md_kept_47 (by decide) rfl (by decide) rfl ?_
              refine wk_goto (pc := 50) (tgt := 7) S_ d_Md_kept_50 (by decide) ?_
              refine wk_lv [2, 1, 0] ?_ (ih7 (b + 1) (by omega) (by omega))
              rfl
          · -- on
            refine wk_iconst (pc := 33) (v := (nI (1))) S_ d_Md_kept_33 (by decide) ?_
            refine wk_goto (pc := 34) (tgt := 38) S_ d_Md_kept_34 (by decide) ?_
            refine wk_top (y := (bI (decide (bx b ≠ 0)))) (bI_t (by simp; omega)) ?_
            refine wk_icmp_ne (pc := 38) (tgt := 45) S_ d_Md_kept_38 (by decide) (fun h38 => ?_) (fun h38 => ?_)
            · -- taken
              refine wk_iconst (pc := 45) (v := (nI (0))) S_ d_Md_kept_45 (by decide) ?_
              refine wk_top (y := (bI (smB ot cl bx fd (b + 1)))) (bI_f (by rw [smB, Bool.and_eq_false_iff]; right; simp only [decide_eq_false_iff_not]; intro z; exact h38 (congrArg bI (by simp only [decide_eq_decide]; exact z)))) ?_
              refine wk_istore_n (pc := 46) (lv' := [(1, .int (bI (smB ot cl bx fd (b + 1)))), (0, .ref (m 0)), (2, .int (nI (b)))]) S_ d_Md_kept_46 rfl (by decide) rfl ?_
              refine wk_iincN (pc := 47) (d := 1) (lv' := [(2, .int (nI (b + 1))), (1, .int (bI (smB ot cl bx fd (b + 1)))), (0, .ref (m 0))]) S_ 2 d_Md_kept_47 (by decide) rfl (by decide) rfl ?_
              refine wk_goto (pc := 50) (tgt := 7) S_ d_Md_kept_50 (by decide) ?_
              refine wk_lv [2, 1, 0] ?_ (ih7 (b + 1) (by omega) (by omega))
              rfl
            · -- on
              refine wk_iconst (pc := 41) (v := (nI (1))) S_ d_Md_kept_41 (by decide) ?_
              refine wk_goto (pc := 42) (tgt := 46) S_ d_Md_kept_42 (by decide) ?_
              refine wk_top (y := (bI (smB ot cl bx fd (b + 1)))) (bI_t (by rw [smB, Bool.and_eq_true]; refine ⟨h16, ?_⟩; simp only [decide_eq_true_eq]; exact decide_eq_decide.mp (bI_inj h38))) ?_
              refine wk_istore_n (pc := 46) (lv' := [(1, .int (bI (smB ot cl bx fd (b + 1)))), (0, .ref (m 0)), (2, .int (nI (b)))]) S_ d_Md_kept_46 rfl (by decide) rfl ?_
              refine wk_iincN (pc := 47) (d := 1) (lv' := [(2, .int (nI (b + 1))), (1, .int (bI (smB ot cl bx fd (b + 1)))), (0, .ref (m 0))]) S_ 2 d_Md_kept_47 (by decide) rfl (by decide) rfl ?_
              refine wk_goto (pc := 50) (tgt := 7) S_ d_Md_kept_50 (by decide) ?_
              refine wk_lv [2, 1, 0] ?_ (ih7 (b + 1) (by omega) (by omega))
              rfl
  refine wk_lv [2, 1, 0] ?_ (hL7 _ (0) (Nat.lt_succ_self _) (by omega))
  rfl
end
section
def ppN (nm go pt : Nat → Nat) (x : Int32) : Int32 := if x < 0 then -1 else (putL (x, -1) (papL nm go pt 9 0)).2
theorem papL_0 {nm go pt : Nat → Nat} {k : Nat} (h : nm k = 0) (q : Nat) : papL nm go pt q k = [] := by
  cases q with
  | zero => rfl
  | succ q => rw [papL, if_pos h]
/-- bottles that are to be packed, in their order; the first way -/
def pkL (ot : Nat → Bool) (cl : Nat → Nat) (nb : Nat) (li : Nat → Nat) : Nat → (Nat → Nat) × Nat
  | 0 => (li, 0)
  | b + 1 => if b < nb ∧ ot b = false ∧ cl b ≠ 0 then (va_up (pkL ot cl nb li b).1 (pkL ot cl nb li b).2 b, (pkL ot cl nb li b).2 + 1) else pkL ot cl nb li b
def wyI (ot : Nat → Bool) (cl : Nat → Nat) (nb b : Nat) : Nat := if b < nb ∧ ot b = false ∧ cl b ≠ 0 then 1 else 0
theorem pkL_ok {ot : Nat → Bool} {cl : Nat → Nat} {nb : Nat} {li : Nat → Nat} (hli : ∀ k, li k < 8) : ∀ b, b ≤ 8 → (pkL ot cl nb li b).2 ≤ b ∧ (∀ k, (pkL ot cl nb li b).1 k < 8) ∧ (∀ k, k < (pkL ot cl nb li b).2 → (pkL ot cl nb li b).1 k < b ∧ wyI ot cl nb ((pkL ot cl nb li b).1 k) = 1) ∧ (∀ j k, j < k → k < (pkL ot cl nb li b).2 → (pkL ot cl nb li b).1 j < (pkL ot cl nb li b).1 k)
  | 0, _ => ⟨Nat.le_refl _, hli, fun k h => absurd h (Nat.not_lt_zero _), fun j k _ h => absurd h (Nat.not_lt_zero _)⟩
  | b + 1, hb => by
    obtain ⟨h1, h2, h3, h4⟩ := pkL_ok (ot := ot) (cl := cl) (nb := nb) hli b (by omega)
    rw [pkL]
    by_cases c : b < nb ∧ ot b = false ∧ cl b ≠ 0
    · rw [if_pos c]
      refine ⟨by show _ + 1 ≤ _; omega, fun k => ?_, fun k hk => ?_, fun j k hj hk => ?_⟩
      · show va_up _ _ b k < 8
        unfold va_up
        split
        · omega
        · exact h2 k
      · show va_up _ _ b k < b + 1 ∧ wyI ot cl nb (va_up _ _ b k) = 1
        unfold va_up
        split
        · exact ⟨by omega, by rw [wyI, if_pos c]⟩
        · rename_i e
          have hk' : k < (pkL ot cl nb li b).2 + 1 := hk
          have := h3 k (by omega)
          exact ⟨by omega, this.2⟩
      · show va_up _ _ b j < va_up _ _ b k
        have hk' : k < (pkL ot cl nb li b).2 + 1 := hk
        rw [va_up_ne _ _ (show j ≠ (pkL ot cl nb li b).2 by omega)]
        by_cases e : k = (pkL ot cl nb li b).2
        · rw [e, va_up_self]
          exact (h3 j (by omega)).1
        · rw [va_up_ne _ _ e]
          exact h4 j k hj (by omega)
    · rw [if_neg c]
      exact ⟨by omega, h2, fun k hk => ⟨by have := (h3 k hk).1; omega, (h3 k hk).2⟩, h4⟩
/-- how many ways are left -/
def muS (li : Nat → Nat) (nx : Nat) : Nat → (Nat → Nat) → Nat
  | 0, _ => 0
  | k + 1, w => muS li nx k w * nx + (nx - w (li k))
theorem muS_up {li : Nat → Nat} {nx : Nat} {a v : Nat} : ∀ k w, (∀ j, j < k → li j ≠ a) → muS li nx k (va_up w a v) = muS li nx k w
  | 0, _, _ => rfl
  | k + 1, w, h => by
    rw [muS, muS, muS_up k w (fun j hj => h j (by omega)), va_up_ne _ _ (h k (by omega))]
theorem trS_off {li : Nat → Nat} {nx : Nat} {a : Nat} : ∀ k w, (∀ j, j < k → li j ≠ a) → (trS li nx k w).1 a = w a
  | 0, _, _ => rfl
  | k + 1, w, h => by
    rw [trS]
    split
    · rw [trS_off k _ (fun j hj => h j (by omega)), va_up_ne _ _ (fun e => h k (by omega) e.symm)]
    · exact va_up_ne _ _ (fun e => h k (by omega) e.symm)
theorem trS_mu {li : Nat → Nat} {nx : Nat} : ∀ k w, (∀ j i, j < i → i < k → li j ≠ li i) → (∀ j, j < k → 0 < w (li j) ∧ w (li j) ≤ nx) → (trS li nx k w).2 = true → muS li nx k (trS li nx k w).1 + 1 = muS li nx k w
  | 0, _, _, _, h => by cases h
  | k + 1, w, hi, hw, h => by
    have hk := hw k (by omega)
    rw [trS] at h ⊢
    by_cases c : w (li k) = nx
    · rw [if_pos c] at h ⊢
      have hn : ∀ j, j < k → li j ≠ li k := fun j hj => hi j k hj (by omega)
      have ih := trS_mu k (va_up w (li k) 1) (fun j i h1 h2 => hi j i h1 (by omega)) (fun j hj => by rw [va_up_ne _ _ (hn j hj)]; exact hw j (by omega)) h
      have e1 := trS_off (nx := nx) k (va_up w (li k) 1) hn
      rw [va_up_self] at e1
      rw [muS_up k w hn] at ih
      rw [muS, muS, e1, c, ← ih, Nat.add_mul]
      omega
    · rw [if_neg c]
      show muS li nx (k + 1) (va_up w (li k) (w (li k) + 1)) + 1 = _
      rw [muS, muS, muS_up k w (fun j hj => hi j k hj (by omega)), va_up_self]
      omega
theorem trS_ok {li : Nat → Nat} {nx : Nat} {w0 : Nat → Nat} (h0 : 0 < nx) : ∀ k w, (∀ b, w b ≤ nx) → (∀ b, w b = 0 ↔ w0 b = 0) → (∀ j, j < k → w (li j) ≠ 0) → (∀ b, (trS li nx k w).1 b ≤ nx) ∧ (∀ b, (trS li nx k w).1 b = 0 ↔ w0 b = 0)
  | 0, _, h1, h2, _ => ⟨h1, h2⟩
  | k + 1, w, h1, h2, h3 => by
    have h4 := h3 k (by omega)
    rw [trS]
    split
    · refine trS_ok h0 k _ (fun b => ?_) (fun b => ?_) (fun j hj => ?_)
      · unfold va_up; split; omega; exact h1 b
      · unfold va_up
        split
        · rename_i e
          rw [← h2 b, e]
          exact ⟨fun z => by omega, fun z => absurd z h4⟩
        · exact h2 b
      · unfold va_up; split; omega; exact h3 j (by omega)
    · have h5 := h1 (li k)
      refine ⟨fun b => ?_, fun b => ?_⟩
      · show va_up w (li k) (w (li k) + 1) b ≤ nx
        unfold va_up; split; omega; exact h1 b
      · show va_up w (li k) (w (li k) + 1) b = 0 ↔ w0 b = 0
        unfold va_up
        split
        · rename_i e
          rw [← h2 b, e]
          exact ⟨fun z => by omega, fun z => absurd z h4⟩
        · exact h2 b
theorem mv_Md_282 : wk_V R_Md 282 R_Md y_Md_putNumber b_Md_putNumber 5 none 1 := ⟨(gd _ (tb3 _ (List.mem_of_getElem? (i := 216) rfl)) rfl), (gd _ (tb0 _ (List.mem_of_getElem? (i := 8) rfl)) rfl), (gd _ (tb3 _ (List.mem_of_getElem? (i := 213) rfl)) rfl), (by decide +kernel), (gd _ (tb3 _ (List.mem_of_getElem? (i := 215) rfl)) rfl), (gd _ (List.mem_append_left _ (by decide +kernel)) rfl)⟩
theorem d_Md_paper_0 : decode b_Md_paper 0 = .ok (.iload_n 1, 1) := by decide +kernel
theorem d_Md_paper_1 : decode b_Md_paper 1 = .ok (.ifCond .ge 5, 3) := by decide +kernel
theorem d_Md_paper_4 : decode b_Md_paper 4 = .ok (.iconst (-1), 1) := by decide +kernel
theorem d_Md_paper_5 : decode b_Md_paper 5 = .ok (.ireturn, 1) := by decide +kernel
theorem d_Md_paper_6 : decode b_Md_paper 6 = .ok (.aload_n 0, 1) := by decide +kernel
theorem d_Md_paper_7 : decode b_Md_paper 7 = .ok (.iload_n 1, 1) := by decide +kernel
theorem d_Md_paper_8 : decode b_Md_paper 8 = .ok (.putfield 268, 3) := by decide +kernel
theorem d_Md_paper_11 : decode b_Md_paper 11 = .ok (.aload_n 0, 1) := by decide +kernel
theorem d_Md_paper_12 : decode b_Md_paper 12 = .ok (.iconst (-1), 1) := by decide +kernel
theorem d_Md_paper_13 : decode b_Md_paper 13 = .ok (.putfield 271, 3) := by decide +kernel
theorem d_Md_paper_16 : decode b_Md_paper 16 = .ok (.iconst 0, 1) := by decide +kernel
theorem d_Md_paper_17 : decode b_Md_paper 17 = .ok (.istore_n 2, 1) := by decide +kernel
theorem d_Md_paper_18 : decode b_Md_paper 18 = .ok (.aload_n 0, 1) := by decide +kernel
theorem d_Md_paper_19 : decode b_Md_paper 19 = .ok (.iload_n 2, 1) := by decide +kernel
theorem d_Md_paper_20 : decode b_Md_paper 20 = .ok (.invokevirtual 265, 3) := by decide +kernel
theorem d_Md_paper_23 : decode b_Md_paper 23 = .ok (.ifCond .lt 57, 3) := by decide +kernel
theorem d_Md_paper_26 : decode b_Md_paper 26 = .ok (.aload_n 0, 1) := by decide +kernel
theorem d_Md_paper_27 : decode b_Md_paper 27 = .ok (.iload_n 2, 1) := by decide +kernel
theorem d_Md_paper_28 : decode b_Md_paper 28 = .ok (.invokevirtual 265, 3) := by decide +kernel
theorem d_Md_paper_31 : decode b_Md_paper 31 = .ok (.istore_n 3, 1) := by decide +kernel
theorem d_Md_paper_32 : decode b_Md_paper 32 = .ok (.aload_n 0, 1) := by decide +kernel
theorem d_Md_paper_33 : decode b_Md_paper 33 = .ok (.iload_n 3, 1) := by decide +kernel
theorem d_Md_paper_34 : decode b_Md_paper 34 = .ok (.i2l, 1) := by decide +kernel
theorem d_Md_paper_35 : decode b_Md_paper 35 = .ok (.invokevirtual 282, 3) := by decide +kernel
theorem d_Md_paper_38 : decode b_Md_paper 38 = .ok (.aload_n 0, 1) := by decide +kernel
theorem d_Md_paper_39 : decode b_Md_paper 39 = .ok (.bipush 32, 2) := by decide +kernel
theorem d_Md_paper_41 : decode b_Md_paper 41 = .ok (.invokevirtual 278, 3) := by decide +kernel
theorem d_Md_paper_44 : decode b_Md_paper 44 = .ok (.aload_n 0, 1) := by decide +kernel
theorem d_Md_paper_45 : decode b_Md_paper 45 = .ok (.aload_n 0, 1) := by decide +kernel
theorem d_Md_paper_46 : decode b_Md_paper 46 = .ok (.iload_n 3, 1) := by decide +kernel
theorem d_Md_paper_47 : decode b_Md_paper 47 = .ok (.invokevirtual 248, 3) := by decide +kernel
theorem d_Md_paper_50 : decode b_Md_paper 50 = .ok (.invokevirtual 282, 3) := by decide +kernel
theorem d_Md_paper_53 : decode b_Md_paper 53 = .ok (.aload_n 0, 1) := by decide +kernel
theorem d_Md_paper_54 : decode b_Md_paper 54 = .ok (.bipush 32, 2) := by decide +kernel
theorem d_Md_paper_56 : decode b_Md_paper 56 = .ok (.invokevirtual 278, 3) := by decide +kernel
theorem d_Md_paper_59 : decode b_Md_paper 59 = .ok (.aload_n 0, 1) := by decide +kernel
theorem d_Md_paper_60 : decode b_Md_paper 60 = .ok (.aload_n 0, 1) := by decide +kernel
theorem d_Md_paper_61 : decode b_Md_paper 61 = .ok (.iload_n 3, 1) := by decide +kernel
theorem d_Md_paper_62 : decode b_Md_paper 62 = .ok (.invokevirtual 256, 3) := by decide +kernel
theorem d_Md_paper_65 : decode b_Md_paper 65 = .ok (.invokevirtual 282, 3) := by decide +kernel
theorem d_Md_paper_68 : decode b_Md_paper 68 = .ok (.aload_n 0, 1) := by decide +kernel
theorem d_Md_paper_69 : decode b_Md_paper 69 = .ok (.bipush 10, 2) := by decide +kernel
theorem d_Md_paper_71 : decode b_Md_paper 71 = .ok (.invokevirtual 278, 3) := by decide +kernel
theorem d_Md_paper_74 : decode b_Md_paper 74 = .ok (.iinc 2 1, 3) := by decide +kernel
theorem d_Md_paper_77 : decode b_Md_paper 77 = .ok (.goto (-59), 3) := by decide +kernel
theorem d_Md_paper_80 : decode b_Md_paper 80 = .ok (.aload_n 0, 1) := by decide +kernel
theorem d_Md_paper_81 : decode b_Md_paper 81 = .ok (.getfield 271, 3) := by decide +kernel
theorem d_Md_paper_84 : decode b_Md_paper 84 = .ok (.ireturn, 1) := by decide +kernel
set_option maxHeartbeats 4000000 in
set_option maxRecDepth 100000 in
theorem c_Md_paper (l : Launch) (D : va_G) (cI : CiT) (z : GzT) (m : Nat → Nat) (tx : (Nat → Nat)) (sz : Nat) (ap : (Nat → Bool)) (pt : (Nat → Nat)) (rk : (Nat → Nat)) (cd : (Nat → Nat)) (fr : Nat) (mc : (Nat → Nat)) (mg : (Nat → Nat)) (mz : (Nat → Nat)) (nc : (Nat → Nat)) (nt : (Nat → Nat)) (ld : (Nat → Nat)) (qap : (Nat → Bool)) (qpt : (Nat → Nat)) (qrk : (Nat → Nat)) (qcd : (Nat → Nat)) (qfr : Nat) (qmc : (Nat → Nat)) (qmg : (Nat → Nat)) (qmz : (Nat → Nat)) (qnc : (Nat → Nat)) (qnt : (Nat → Nat)) (qld : (Nat → Nat)) (nb : Nat) (cl : (Nat → Nat)) (gr : (Nat → Nat)) (sp : (Nat → Nat)) (ot : (Nat → Bool)) (na : Nat) (aw : (Nat → Nat)) (nx : Nat) (bg : (Nat → Nat)) (bb : (Nat → Nat)) (ab : (Nat → Nat)) (fd : Bool) (pv : Bool) (bx : (Nat → Nat)) (wy : (Nat → Nat)) (li : (Nat → Nat)) (fm : Nat) (en : Nat) (nu : Nat) (td : (Nat → Nat)) (lf : Int32) (lk : Int32) (x : Int32) (hnb : nb ≤ 8) (hgr : ∀ b, gr b ≤ 100000) (hcl : ∀ b, cl b ≤ 9) (hF : fd = false → ∀ b, bx b = 0) (hb : ∀ b, bx b ≤ 5) (hrk : ∀ c, rk c ≤ 99) (hpt : ∀ c, pt c ≤ 1000) : wk_C l D (tyK cI) (gX z) y_Md_paper b_Md_paper 4 (some .int) 4 91 0 0 [.ref (m 0), .int (x)] (wMd m cI tx sz ap pt rk cd fr mc mg mz nc nt ld qap qpt qrk qcd qfr qmc qmg qmz qnc qnt qld nb cl gr sp ot na aw nx bg bb ab fd pv bx wy li fm en nu td lf lk) wk_i (fun (r : Int32) (u : Int32 × Int32) => r = ppN (nmF rk (fun c => goN cl gr bx c nb)) (fun c => goN cl gr bx c nb) pt x) (fun u => (wMd m cI tx sz ap pt rk cd fr mc mg mz nc nt ld qap qpt qrk qcd qfr qmc qmg qmz qnc qnt qld nb cl gr sp ot na aw nx bg bb ab fd pv bx wy li fm en nu td u.1 u.2)) := by
  refine wk_methI (own := R_Md) [(0, .ref (m 0)), (1, .int (x))] (by decide) rfl (Nat.le_of_ble_eq_true rfl) rfl (gX_ok z) (fun p_ e_ R_ s_ m_ ar_ be_ me_ co_ Q_ A_ hR_ S_ hnm_ hQ_ => ?_)
  refine wk_iload_n (pc := 0) S_ 1 d_Md_paper_0 rfl rfl ?_
  refine wk_if_ge (pc := 1) (tgt := 6) S_ d_Md_paper_1 (by decide) (fun h1 => ?_) (fun h1 => ?_)
  · -- taken
    refine wk_aload_n (pc := 6) S_ 0 d_Md_paper_6 rfl rfl ?_
    refine wk_iload_n (pc := 7) S_ 1 d_Md_paper_7 rfl rfl ?_
    refine wk_put (pc := 8) (ty := .int) (ws' := (wMd m cI tx sz ap pt rk cd fr mc mg mz nc nt ld qap qpt qrk qcd qfr qmc qmg qmz qnc qnt qld nb cl gr sp ot na aw nx bg bb ab fd pv bx wy li fm en nu td ((x)) lk)) S_ 6 44 0 in_Md t_Md t_Md_ok n_Md rfl (by decide) rfl fl_Md_268 (by decide +kernel) d_Md_paper_8 rfl rfl rfl (Nat.le_of_ble_eq_true rfl) rfl ?_
    refine wk_aload_n (pc := 11) S_ 0 d_Md_paper_11 rfl rfl ?_
    refine wk_iconst (pc := 12) (v := (-1)) S_ d_Md_paper_12 (by decide) ?_
    refine wk_put (pc := 13) (ty := .int) (ws' := (wMd m cI tx sz ap pt rk cd fr mc mg mz nc nt ld qap qpt qrk qcd qfr qmc qmg qmz qnc qnt qld nb cl gr sp ot na aw nx bg bb ab fd pv bx wy li fm en nu td ((x)) ((-1)))) S_ 6 45 0 in_Md t_Md t_Md_ok n_Md rfl (by decide) rfl fl_Md_271 (by decide +kernel) d_Md_paper_13 rfl rfl rfl (Nat.le_of_ble_eq_true rfl) rfl ?_
    refine wk_iconst (pc := 16) (v := (nI (0))) S_ d_Md_paper_16 (by decide) ?_
    refine wk_istore_n (pc := 17) (lv' := [(2, .int (nI (0))), (0, .ref (m 0)), (1, .int (x))]) S_ d_Md_paper_17 rfl (by decide) rfl ?_
    have hL18 : ∀ (fuel18 : Nat), ∀ (q : Nat) (k : Nat) (lf1 : Int32) (lk1 : Int32), q < fuel18 → (k + q = 9) → (putL (lf1, lk1) (papL (nmF rk (fun c => goN cl gr bx c nb)) (fun c => goN cl gr bx c nb) pt q k) = putL (x, -1) (papL (nmF rk (fun c => goN cl gr bx c nb)) (fun c => goN cl gr bx c nb) pt 9 0)) → wk_G p_ l e_ R_ s_ m_ ar_ be_ me_ co_ Q_ D A_ 4 0 0 (wMd m cI tx sz ap pt rk cd fr mc mg mz nc nt ld qap qpt qrk qcd qfr qmc qmg qmz qnc qnt qld nb cl gr sp ot na aw nx bg bb ab fd pv bx wy li fm en nu td lf1 lk1) 18 [(0, .ref (m 0)), (1, .int (x)), (2, .int (nI (k)))] [] := by
      intro fuel18
      induction fuel18 with
      | zero => intro q k lf1 lk1 hm; exact absurd hm (Nat.not_lt_zero _)
      | succ fuel18 ih18 =>
        intro q k lf1 lk1 hm hk hE
        refine wk_aload_n (pc := 18) S_ 0 d_Md_paper_18 rfl rfl ?_
        refine wk_iload_n (pc := 19) S_ 2 d_Md_paper_19 rfl rfl ?_
        refine wk_run (pc := 20) (rest := []) (wr := []) (wN := fun _ => (wMd m cI tx sz ap pt rk cd fr mc mg mz nc nt ld qap qpt qrk qcd qfr qmc qmg qmz qnc qnt qld nb cl gr sp ot na aw nx bg bb ab fd pv bx wy li fm en nu td lf1 lk1)) S_ (wk_rV S_ (c_Md_name l D cI z (m) (tx) (sz) (ap) (pt) (rk) (cd) (fr) (mc) (mg) (mz) (nc) (nt) (ld) (qap) (qpt) (qrk) (qcd) (qfr) (qmc) (qmg) (qmz) (qnc) (qnt) (qld) (nb) (cl) (gr) (sp) (ot) (na) (aw) (nx) (bg) (bb) (ab) (fd) (pv) (bx) (wy) (li) (fm) (en) (nu) (td) (lf1) (lk1) ((nI (k))) (by omega) hgr hcl hF hb hrk) mv_Md_265 (wk_rcv S_ 0 6 rfl rfl rfl) rfl rfl (Nat.le_of_ble_eq_true rfl) (by rw [hR_]; decide) (by rw [hR_]; decide) d_Md_paper_20) [0, 1, 2, 3, 4, 5, 6, 7, 8, 9, 10, 11, 12, 13, 14, 15, 16, 17, 18, 19, 20, 21, 22, 23, 24, 25, 26, 27, 28, 29, 30, 31, 32, 33] [] [0, 1, 2, 3, 4, 5, 6, 7, 8, 9, 10, 11, 12, 13, 14, 15, 16, 17, 18, 19, 20, 21, 22, 23, 24, 25, 26, 27, 28, 29, 30, 31, 32, 33] rfl rfl rfl (by decide) (by decide) (by decide) (by decide) (fun _ => rfl) (fun _ => rfl) (fun r20 _ hw20 => ?_)
        refine wk_st (st' := [.int (r20)]) rfl ?_
        refine wk_top (y := (zI (nmS (rk) (fun c => goN (cl) (gr) (bx) c (nb)) ((nI (k))) 9 0))) hw20 ?_
        have hn1 := nmF_le (rk := rk) (go := (fun c => goN cl gr bx c nb)) (i := k)
        unfold nmF at hn1
        refine wk_if_ltY (pc := 23) (tgt := 80) S_ d_Md_paper_23 (by decide) (by omega) (fun h23 => ?_) (fun h23 => ?_)
        · -- taken
          refine wk_aload_n (pc := 80) S_ 0 d_Md_paper_80 rfl rfl ?_
          refine wk_get (pc := 81) (v := .int (lk1)) S_ 6 45 0 in_Md rfl (by decide) rfl fl_Md_271 d_Md_paper_81 rfl rfl ?_
          exact hQ_ (lk1) (lf1, lk1) d_Md_paper_84 rfl (by rw [ppN, if_neg (by rw [Int32.not_lt]; exact h1), ← hE, papL_0 (nm := (nmF rk (fun c => goN cl gr bx c nb))) h23]; rfl)
        · -- on
          have hk9 : k < 9 := nmF_lt (rk := rk) (go := (fun c => goN cl gr bx c nb)) (by omega) h23
          have hn2 := nmF_le (rk := rk) (go := (fun c => goN cl gr bx c nb)) (i := k)
          have hn3 : nmF rk (fun c => goN cl gr bx c nb) k ≠ 0 := h23
          have hg1 := goN_le (cl := cl) (bx := bx) (c := nmF rk (fun c => goN cl gr bx c nb) k - 1) hgr nb
          have hp1 := hpt (nmF rk (fun c => goN cl gr bx c nb) k - 1)
          have hp2 : (goN cl gr bx (nmF rk (fun c => goN cl gr bx c nb) k - 1) nb + 999) / 1000 * pt (nmF rk (fun c => goN cl gr bx c nb) k - 1) ≤ 801 * 1000 := Nat.mul_le_mul (by omega) hp1
          refine wk_aload_n (pc := 26) S_ 0 d_Md_paper_26 rfl rfl ?_
          refine wk_iload_n (pc := 27) S_ 2 d_Md_paper_27 rfl rfl ?_
          refine wk_run (pc := 28) (rest := []) (wr := []) (wN := fun _ => (wMd m cI tx sz ap pt rk cd fr mc mg mz nc nt ld qap qpt qrk qcd qfr qmc qmg qmz qnc qnt qld nb cl gr sp ot na aw nx bg bb ab fd pv bx wy li fm en nu td lf1 lk1)) S_ (wk_rV S_ (c_Md_name l D cI z (m) (tx) (sz) (ap) (pt) (rk) (cd) (fr) (mc) (mg) (mz) (nc) (nt) (ld) (qap) (qpt) (qrk) (qcd) (qfr) (qmc) (qmg) (qmz) (qnc) (qnt) (qld) (nb) (cl) (gr) (sp) (ot) (na) (aw) (nx) (bg) (bb) (ab) (fd) (pv) (bx) (wy) (li) (fm) (en) (nu) (td) (lf1) (lk1) ((nI (k))) (by omega) hgr hcl hF hb hrk) mv_Md_265 (wk_rcv S_ 0 6 rfl rfl rfl) rfl rfl (Nat.le_of_ble_eq_true rfl) (by rw [hR_]; decide) (by rw [hR_]; decide) d_Md_paper_28) [0, 1, 2, 3, 4, 5, 6, 7, 8, 9, 10, 11, 12, 13, 14, 15, 16, 17, 18, 19, 20, 21, 22, 23, 24, 25, 26, 27, 28, 29, 30, 31, 32, 33] [] [0, 1, 2, 3, 4, 5, 6, 7, 8, 9, 10, 11, 12, 13, 14, 15, 16, 17, 18, 19, 20, 21, 22, 23, 24, 25, 26, 27, 28, 29, 30, 31, 32, 33] rfl rfl rfl (by decide) (by decide) (by decide) (by decide) (fun _ => rfl) (fun _ => rfl) (fun r28 _ hw28 => ?_)
          refine wk_st (st' := [.int (r28)]) rfl ?_
          refine wk_top (y := (zI (nmS (rk) (fun c => goN (cl) (gr) (bx) c (nb)) ((nI (k))) 9 0))) hw28 ?_
          refine wk_top (y := (nI (nmF rk (fun c => goN cl gr bx c nb) k - 1))) (zI_p h23) ?_
          refine wk_istore_n (pc := 31) (lv' := [(3, .int (nI (nmF rk (fun c => goN cl gr bx c nb) k - 1))), (0, .ref (m 0)), (1, .int (x)), (2, .int (nI (k)))]) S_ d_Md_paper_31 rfl (by decide) rfl ?_
          refine wk_aload_n (pc := 32) S_ 1 d_Md_paper_32 rfl rfl ?_
          refine wk_iload_n (pc := 33) S_ 0 d_Md_paper_33 rfl rfl ?_
          refine wk_i2lN (pc := 34) S_ d_Md_paper_34 (by omega) ?_
          refine wk_run (pc := 35) (rest := []) (wr := []) (wN := fun _ => (wMd m cI tx sz ap pt rk cd fr mc mg mz nc nt ld qap qpt qrk qcd qfr qmc qmg qmz qnc qnt qld nb cl gr sp ot na aw nx bg bb ab fd pv bx wy li fm en nu td ((putL ((lf1), (lk1)) (decs (nmF rk (fun c => goN cl gr bx c nb) k - 1))).1) ((putL ((lf1), (lk1)) (decs (nmF rk (fun c => goN cl gr bx c nb) k - 1))).2))) S_ (wk_rV S_ (c_Md_putNumber l D cI z (m) (tx) (sz) (ap) (pt) (rk) (cd) (fr) (mc) (mg) (mz) (nc) (nt) (ld) (qap) (qpt) (qrk) (qcd) (qfr) (qmc) (qmg) (qmz) (qnc) (qnt) (qld) (nb) (cl) (gr) (sp) (ot) (na) (aw) (nx) (bg) (bb) (ab) (fd) (pv) (bx) (wy) (li) (fm) (en) (nu) (td) (lf1) (lk1) (nmF rk (fun c => goN cl gr bx c nb) k - 1) (by omega)) mv_Md_282 (wk_rcv S_ 0 6 rfl rfl rfl) rfl rfl (Nat.le_of_ble_eq_true rfl) (by rw [hR_]; decide) (by rw [hR_]; decide) d_Md_paper_35) [0, 1, 2, 3, 4, 5, 6, 7, 8, 9, 10, 11, 12, 13, 14, 15, 16, 17, 18, 19, 20, 21, 22, 23, 24, 25, 26, 27, 28, 29, 30, 31, 32, 33] [] [0, 1, 2, 3, 4, 5, 6, 7, 8, 9, 10, 11, 12, 13, 14, 15, 16, 17, 18, 19, 20, 21, 22, 23, 24, 25, 26, 27, 28, 29, 30, 31, 32, 33] rfl rfl rfl (by decide) (by decide) (by decide) (by decide) (fun _ => rfl) (fun _ => rfl) (fun r35 _ hw35 => ?_)
          refine wk_st (st' := []) rfl ?_
          refine wk_aload_n (pc := 38) S_ 1 d_Md_paper_38 rfl rfl ?_
          refine wk_bipush (pc := 39) (v := (nI (32))) S_ d_Md_paper_39 (by decide) ?_
          refine wk_run (pc := 41) (rest := []) (wr := []) (wN := fun _ => (wMd m cI tx sz ap pt rk cd fr mc mg mz nc nt ld qap qpt qrk qcd qfr qmc qmg qmz qnc qnt qld nb cl gr sp ot na aw nx bg bb ab fd pv bx wy li fm en nu td (((putL ((lf1), (lk1)) (decs (nmF rk (fun c => goN cl gr bx c nb) k - 1))).1) - 1) (if ((putL ((lf1), (lk1)) (decs (nmF rk (fun c => goN cl gr bx c nb) k - 1))).1) = 0 then ((nI (32))) else ((putL ((lf1), (lk1)) (decs (nmF rk (fun c => goN cl gr bx c nb) k - 1))).2)))) S_ (wk_rV S_ (c_Md_put l D cI z (m) (tx) (sz) (ap) (pt) (rk) (cd) (fr) (mc) (mg) (mz) (nc) (nt) (ld) (qap) (qpt) (qrk) (qcd) (qfr) (qmc) (qmg) (qmz) (qnc) (qnt) (qld) (nb) (cl) (gr) (sp) (ot) (na) (aw) (nx) (bg) (bb) (ab) (fd) (pv) (bx) (wy) (li) (fm) (en) (nu) (td) ((putL ((lf1), (lk1)) (decs (nmF rk (fun c => goN cl gr bx c nb) k - 1))).1) ((putL ((lf1), (lk1)) (decs (nmF rk (fun c => goN cl gr bx c nb) k - 1))).2) ((nI (32)))) mv_Md_278 (wk_rcv S_ 0 6 rfl rfl rfl) rfl rfl (Nat.le_of_ble_eq_true rfl) (by rw [hR_]; decide) (by rw [hR_]; decide) d_Md_paper_41) [0, 1, 2, 3, 4, 5, 6, 7, 8, 9, 10, 11, 12, 13, 14, 15, 16, 17, 18, 19, 20, 21, 22, 23, 24, 25, 26, 27, 28, 29, 30, 31, 32, 33] [] [0, 1, 2, 3, 4, 5, 6, 7, 8, 9, 10, 11, 12, 13, 14, 15, 16, 17, 18, 19, 20, 21, 22, 23, 24, 25, 26, 27, 28, 29, 30, 31, 32, 33] rfl rfl rfl (by decide) (by decide) (by decide) (by decide) (fun _ => rfl) (fun _ => rfl) (fun r41 _ hw41 => ?_)
          refine wk_st (st' := []) rfl ?_
          refine wk_aload_n (pc := 44) S_ 1 d_Md_paper_44 rfl rfl ?_
          refine wk_aload_n (pc := 45) S_ 1 d_Md_paper_45 rfl rfl ?_
          refine wk_iload_n (pc := 46) S_ 0 d_Md_paper_46 rfl rfl ?_
          refine wk_run (pc := 47) (rest := [.ref (m 0)]) (wr := []) (wN := fun _ => (wMd m cI tx sz ap pt rk cd fr mc mg mz nc nt ld qap qpt qrk qcd qfr qmc qmg qmz qnc qnt qld nb cl gr sp ot na aw nx bg bb ab fd pv bx wy li fm en nu td (((putL ((lf1), (lk1)) (decs (nmF rk (fun c => goN cl gr bx c nb) k - 1))).1) - 1) (if ((putL ((lf1), (lk1)) (decs (nmF rk (fun c => goN cl gr bx c nb) k - 1))).1) = 0 then ((nI (32))) else ((putL ((lf1), (lk1)) (decs (nmF rk (fun c => goN cl gr bx c nb) k - 1))).2)))) S_ (wk_rV S_ (c_Md_gramsOf l D cI z (m) (tx) (sz) (ap) (pt) (rk) (cd) (fr) (mc) (mg) (mz) (nc) (nt) (ld) (qap) (qpt) (qrk) (qcd) (qfr) (qmc) (qmg) (qmz) (qnc) (qnt) (qld) (nb) (cl) (gr) (sp) (ot) (na) (aw) (nx) (bg) (bb) (ab) (fd) (pv) (bx) (wy) (li) (fm) (en) (nu) (td) (((putL ((lf1), (lk1)) (decs (nmF rk (fun c => goN cl gr bx c nb) k - 1))).1) - 1) (if ((putL ((lf1), (lk1)) (decs (nmF rk (fun c => goN cl gr bx c nb) k - 1))).1) = 0 then ((nI (32))) else ((putL ((lf1), (lk1)) (decs (nmF rk (fun c => goN cl gr bx c nb) k - 1))).2)) (nmF rk (fun c => goN cl gr bx c nb) k - 1) (by omega) (by omega) hgr hcl hF hb) mv_Md_248 (wk_rcv S_ 0 6 rfl rfl rfl) rfl rfl (Nat.le_of_ble_eq_true rfl) (by rw [hR_]; decide) (by rw [hR_]; decide) d_Md_paper_47) [0, 1, 2, 3, 4, 5, 6, 7, 8, 9, 10, 11, 12, 13, 14, 15, 16, 17, 18, 19, 20, 21, 22, 23, 24, 25, 26, 27, 28, 29, 30, 31, 32, 33] [] [0, 1, 2, 3, 4, 5, 6, 7, 8, 9, 10, 11, 12, 13, 14, 15, 16, 17, 18, 19, 20, 21, 22, 23, 24, 25, 26, 27, 28, 29, 30, 31, 32, 33] rfl rfl rfl (by decide) (by decide) (by decide) (by decide) (fun _ => rfl) (fun _ => rfl) (fun r47 _ hw47 => ?_)
          refine wk_st (st' := [.long (r47), .ref (m 0)]) rfl ?_
          refine wk_topl (y := (lN (goN (cl) (gr) (bx) (nmF rk (fun c => goN cl gr bx c nb) k - 1) (nb)))) hw47 ?_
          refine wk_run (pc := 50) (rest := []) (wr := []) (wN := fun _ => (wMd m cI tx sz ap pt rk cd fr mc mg mz nc nt ld qap qpt qrk qcd qfr qmc qmg qmz qnc qnt qld nb cl gr sp ot na aw nx bg bb ab fd pv bx wy li fm en nu td ((putL ((((putL ((lf1), (lk1)) (decs (nmF rk (fun c => goN cl gr bx c nb) k - 1))).1) - 1), (if ((putL ((lf1), (lk1)) (decs (nmF rk (fun c => goN cl gr bx c nb) k - 1))).1) = 0 then ((nI (32))) else ((putL ((lf1), (lk1)) (decs (nmF rk (fun c => goN cl gr bx c nb) k - 1))).2))) (decs (goN (cl) (gr) (bx) (nmF rk (fun c => goN cl gr bx c nb) k - 1) (nb)))).1) ((putL ((((putL ((lf1), (lk1)) (decs (nmF rk (fun c => goN cl gr bx c nb) k - 1))).1) - 1), (if ((putL ((lf1), (lk1)) (decs (nmF rk (fun c => goN cl gr bx c nb) k - 1))).1) = 0 then ((nI (32))) else ((putL ((lf1), (lk1)) (decs (nmF rk (fun c => goN cl gr bx c nb) k - 1))).2))) (decs (goN (cl) (gr) (bx) (nmF rk (fun c => goN cl gr bx c nb) k - 1) (nb)))).2))) S_ (wk_rV S_ (c_Md_putNumber l D cI z (m) (tx) (sz) (ap) (pt) (rk) (cd) (fr) (mc) (mg) (mz) (nc) (nt) (ld) (qap) (qpt) (qrk) (qcd) (qfr) (qmc) (qmg) (qmz) (qnc) (qnt) (qld) (nb) (cl) (gr) (sp) (ot) (na) (aw) (nx) (bg) (bb) (ab) (fd) (pv) (bx) (wy) (li) (fm) (en) (nu) (td) (((putL ((lf1), (lk1)) (decs (nmF rk (fun c => goN cl gr bx c nb) k - 1))).1) - 1) (if ((putL ((lf1), (lk1)) (decs (nmF rk (fun c => goN cl gr bx c nb) k - 1))).1) = 0 then ((nI (32))) else ((putL ((lf1), (lk1)) (decs (nmF rk (fun c => goN cl gr bx c nb) k - 1))).2)) (goN (cl) (gr) (bx) (nmF rk (fun c => goN cl gr bx c nb) k - 1) (nb)) (by omega)) mv_Md_282 (wk_rcv S_ 0 6 rfl rfl rfl) rfl rfl (Nat.le_of_ble_eq_true rfl) (by rw [hR_]; decide) (by rw [hR_]; decide) d_Md_paper_50) [0, 1, 2, 3, 4, 5, 6, 7, 8, 9, 10, 11, 12, 13, 14, 15, 16, 17, 18, 19, 20, 21, 22, 23, 24, 25, 26, 27, 28, 29, 30, 31, 32, 33] [] [0, 1, 2, 3, 4, 5, 6, 7, 8, 9, 10, 11, 12, 13, 14, 15, 16, 17, 18, 19, 20, 21, 22, 23, 24, 25, 26, 27, 28, 29, 30, 31, 32, 33] rfl rfl rfl (by decide) (by decide) (by decide) (by decide) (fun _ => rfl) (fun _ => rfl) (fun r50 _ hw50 => ?_)
          refine wk_st (st' := []) rfl ?_
          refine wk_aload_n (pc := 53) S_ 1 d_Md_paper_53 rfl rfl ?_
          refine wk_bipush (pc := 54) (v := (nI (32))) S_ d_Md_paper_54 (by decide) ?_
          refine wk_run (pc := 56) (rest := []) (wr := []) (wN := fun _ => (wMd m cI tx sz ap pt rk cd fr mc mg mz nc nt ld qap qpt qrk qcd qfr qmc qmg qmz qnc qnt qld nb cl gr sp ot na aw nx bg bb ab fd pv bx wy li fm en nu td (((putL ((((putL ((lf1), (lk1)) (decs (nmF rk (fun c => goN cl gr bx c nb) k - 1))).1) - 1), (if ((putL ((lf1), (lk1)) (decs (nmF rk (fun c => goN cl gr bx c nb) k - 1))).1) = 0 then ((nI (32))) else ((putL ((lf1), (lk1)) (decs (nmF rk (fun c => goN cl gr bx c nb) k - 1))).2))) (decs (goN (cl) (gr) (bx) (nmF rk (fun c => goN cl gr bx c nb) k - 1) (nb)))).1) - 1) (if ((putL ((((putL ((lf1), (lk1)) (decs (nmF rk (fun c => goN cl gr bx c nb) k - 1))).1) - 1), (if ((putL ((lf1), (lk1)) (decs (nmF rk (fun c => goN cl gr bx c nb) k - 1))).1) = 0 then ((nI (32))) else ((putL ((lf1), (lk1)) (decs (nmF rk (fun c => goN cl gr bx c nb) k - 1))).2))) (decs (goN (cl) (gr) (bx) (nmF rk (fun c => goN cl gr bx c nb) k - 1) (nb)))).1) = 0 then ((nI (32))) else ((putL ((((putL ((lf1), (lk1)) (decs (nmF rk (fun c => goN cl gr bx c nb) k - 1))).1) - 1), (if ((putL ((lf1), (lk1)) (decs (nmF rk (fun c => goN cl gr bx c nb) k - 1))).1) = 0 then ((nI (32))) else ((putL ((lf1), (lk1)) (decs (nmF rk (fun c => goN cl gr bx c nb) k - 1))).2))) (decs (goN (cl) (gr) (bx) (nmF rk (fun c => goN cl gr bx c nb) k - 1) (nb)))).2)))) S_ (wk_rV S_ (c_Md_put l D cI z (m) (tx) (sz) (ap) (pt) (rk) (cd) (fr) (mc) (mg) (mz) (nc) (nt) (ld) (qap) (qpt) (qrk) (qcd) (qfr) (qmc) (qmg) (qmz) (qnc) (qnt) (qld) (nb) (cl) (gr) (sp) (ot) (na) (aw) (nx) (bg) (bb) (ab) (fd) (pv) (bx) (wy) (li) (fm) (en) (nu) (td) ((putL ((((putL ((lf1), (lk1)) (decs (nmF rk (fun c => goN cl gr bx c nb) k - 1))).1) - 1), (if ((putL ((lf1), (lk1)) (decs (nmF rk (fun c => goN cl gr bx c nb) k - 1))).1) = 0 then ((nI (32))) else ((putL ((lf1), (lk1)) (decs (nmF rk (fun c => goN cl gr bx c nb) k - 1))).2))) (decs (goN (cl) (gr) (bx) (nmF rk (fun c => goN cl gr bx c nb) k - 1) (nb)))).1) ((putL ((((putL ((lf1), (lk1)) (decs (nmF rk (fun c => goN cl gr bx c nb) k - 1))).1) - 1), (if ((putL ((lf1), (lk1)) (decs (nmF rk (fun c => goN cl gr bx c nb) k - 1))).1) = 0 then ((nI (32))) else ((putL ((lf1), (lk1)) (decs (nmF rk (fun c => goN cl gr bx c nb) k - 1))).2))) (decs (goN (cl) (gr) (bx) (nmF rk (fun c => goN cl gr bx c nb) k - 1) (nb)))).2) ((nI (32)))) mv_Md_278 (wk_rcv S_ 0 6 rfl rfl rfl) rfl rfl (Nat.le_of_ble_eq_true rfl) (by rw [hR_]; decide) (by rw [hR_]; decide) d_Md_paper_56) [0, 1, 2, 3, 4, 5, 6, 7, 8, 9, 10, 11, 12, 13, 14, 15, 16, 17, 18, 19, 20, 21, 22, 23, 24, 25, 26, 27, 28, 29, 30, 31, 32, 33] [] [0, 1, 2, 3, 4, 5, 6, 7, 8, 9, 10, 11, 12, 13, 14, 15, 16, 17, 18, 19, 20, 21, 22, 23, 24, 25, 26, 27, 28, 29, 30, 31, 32, 33] rfl rfl rfl (by decide) (by decide) (by decide) (by decide) (fun _ => rfl) (fun _ => rfl) (fun r56 _ hw56 => ?_)
          refine wk_st (st' := []) rfl ?_
          refine wk_aload_n (pc := 59) S_ 1 d_Md_paper_59 rfl rfl ?_
          refine wk_aload_n (pc := 60) S_ 1 d_Md_paper_60 rfl rfl ?_
          refine wk_iload_n (pc := 61) S_ 0 d_Md_paper_61 rfl rfl ?_
          refine wk_run (pc := 62) (rest := [.ref (m 0)]) (wr := []) (wN := fun _ => (wMd m cI tx sz ap pt rk cd fr mc mg mz nc nt ld qap qpt qrk qcd qfr qmc qmg qmz qnc qnt qld nb cl gr sp ot na aw nx bg bb ab fd pv bx wy li fm en nu td (((putL ((((putL ((lf1), (lk1)) (decs (nmF rk (fun c => goN cl gr bx c nb) k - 1))).1) - 1), (if ((putL ((lf1), (lk1)) (decs (nmF rk (fun c => goN cl gr bx c nb) k - 1))).1) = 0 then ((nI (32))) else ((putL ((lf1), (lk1)) (decs (nmF rk (fun c => goN cl gr bx c nb) k - 1))).2))) (decs (goN (cl) (gr) (bx) (nmF rk (fun c => goN cl gr bx c nb) k - 1) (nb)))).1) - 1) (if ((putL ((((putL ((lf1), (lk1)) (decs (nmF rk (fun c => goN cl gr bx c nb) k - 1))).1) - 1), (if ((putL ((lf1), (lk1)) (decs (nmF rk (fun c => goN cl gr bx c nb) k - 1))).1) = 0 then ((nI (32))) else ((putL ((lf1), (lk1)) (decs (nmF rk (fun c => goN cl gr bx c nb) k - 1))).2))) (decs (goN (cl) (gr) (bx) (nmF rk (fun c => goN cl gr bx c nb) k - 1) (nb)))).1) = 0 then ((nI (32))) else ((putL ((((putL ((lf1), (lk1)) (decs (nmF rk (fun c => goN cl gr bx c nb) k - 1))).1) - 1), (if ((putL ((lf1), (lk1)) (decs (nmF rk (fun c => goN cl gr bx c nb) k - 1))).1) = 0 then ((nI (32))) else ((putL ((lf1), (lk1)) (decs (nmF rk (fun c => goN cl gr bx c nb) k - 1))).2))) (decs (goN (cl) (gr) (bx) (nmF rk (fun c => goN cl gr bx c nb) k - 1) (nb)))).2)))) S_ (wk_rV S_ (c_Md_pointsOf l D cI z (m) (tx) (sz) (ap) (pt) (rk) (cd) (fr) (mc) (mg) (mz) (nc) (nt) (ld) (qap) (qpt) (qrk) (qcd) (qfr) (qmc) (qmg) (qmz) (qnc) (qnt) (qld) (nb) (cl) (gr) (sp) (ot) (na) (aw) (nx) (bg) (bb) (ab) (fd) (pv) (bx) (wy) (li) (fm) (en) (nu) (td) (((putL ((((putL ((lf1), (lk1)) (decs (nmF rk (fun c => goN cl gr bx c nb) k - 1))).1) - 1), (if ((putL ((lf1), (lk1)) (decs (nmF rk (fun c => goN cl gr bx c nb) k - 1))).1) = 0 then ((nI (32))) else ((putL ((lf1), (lk1)) (decs (nmF rk (fun c => goN cl gr bx c nb) k - 1))).2))) (decs (goN (cl) (gr) (bx) (nmF rk (fun c => goN cl gr bx c nb) k - 1) (nb)))).1) - 1) (if ((putL ((((putL ((lf1), (lk1)) (decs (nmF rk (fun c => goN cl gr bx c nb) k - 1))).1) - 1), (if ((putL ((lf1), (lk1)) (decs (nmF rk (fun c => goN cl gr bx c nb) k - 1))).1) = 0 then ((nI (32))) else ((putL ((lf1), (lk1)) (decs (nmF rk (fun c => goN cl gr bx c nb) k - 1))).2))) (decs (goN (cl) (gr) (bx) (nmF rk (fun c => goN cl gr bx c nb) k - 1) (nb)))).1) = 0 then ((nI (32))) else ((putL ((((putL ((lf1), (lk1)) (decs (nmF rk (fun c => goN cl gr bx c nb) k - 1))).1) - 1), (if ((putL ((lf1), (lk1)) (decs (nmF rk (fun c => goN cl gr bx c nb) k - 1))).1) = 0 then ((nI (32))) else ((putL ((lf1), (lk1)) (decs (nmF rk (fun c => goN cl gr bx c nb) k - 1))).2))) (decs (goN (cl) (gr) (bx) (nmF rk (fun c => goN cl gr bx c nb) k - 1) (nb)))).2)) (nmF rk (fun c => goN cl gr bx c nb) k - 1) (by omega) (by omega) hgr hcl hF hb hpt) mv_Md_256 (wk_rcv S_ 0 6 rfl rfl rfl) rfl rfl (Nat.le_of_ble_eq_true rfl) (by rw [hR_]; decide) (by rw [hR_]; decide) d_Md_paper_62) [0, 1, 2, 3, 4, 5, 6, 7, 8, 9, 10, 11, 12, 13, 14, 15, 16, 17, 18, 19, 20, 21, 22, 23, 24, 25, 26, 27, 28, 29, 30, 31, 32, 33] [] [0, 1, 2, 3, 4, 5, 6, 7, 8, 9, 10, 11, 12, 13, 14, 15, 16, 17, 18, 19, 20, 21, 22, 23, 24, 25, 26, 27, 28, 29, 30, 31, 32, 33] rfl rfl rfl (by decide) (by decide) (by decide) (by decide) (fun _ => rfl) (fun _ => rfl) (fun r62 _ hw62 => ?_)
          refine wk_st (st' := [.long (r62), .ref (m 0)]) rfl ?_
          refine wk_topl (y := (lN (((goN (cl) (gr) (bx) (nmF rk (fun c => goN cl gr bx c nb) k - 1) (nb)) + (999)) / (1000) * ((pt) ((nmF rk (fun c => goN cl gr bx c nb) k - 1)))))) hw62 ?_
          refine wk_run (pc := 65) (rest := []) (wr := []) (wN := fun _ => (wMd m cI tx sz ap pt rk cd fr mc mg mz nc nt ld qap qpt qrk qcd qfr qmc qmg qmz qnc qnt qld nb cl gr sp ot na aw nx bg bb ab fd pv bx wy li fm en nu td ((putL ((((putL ((((putL ((lf1), (lk1)) (decs (nmF rk (fun c => goN cl gr bx c nb) k - 1))).1) - 1), (if ((putL ((lf1), (lk1)) (decs (nmF rk (fun c => goN cl gr bx c nb) k - 1))).1) = 0 then ((nI (32))) else ((putL ((lf1), (lk1)) (decs (nmF rk (fun c => goN cl gr bx c nb) k - 1))).2))) (decs (goN (cl) (gr) (bx) (nmF rk (fun c => goN cl gr bx c nb) k - 1) (nb)))).1) - 1), (if ((putL ((((putL ((lf1), (lk1)) (decs (nmF rk (fun c => goN cl gr bx c nb) k - 1))).1) - 1), (if ((putL ((lf1), (lk1)) (decs (nmF rk (fun c => goN cl gr bx c nb) k - 1))).1) = 0 then ((nI (32))) else ((putL ((lf1), (lk1)) (decs (nmF rk (fun c => goN cl gr bx c nb) k - 1))).2))) (decs (goN (cl) (gr) (bx) (nmF rk (fun c => goN cl gr bx c nb) k - 1) (nb)))).1) = 0 then ((nI (32))) else ((putL ((((putL ((lf1), (lk1)) (decs (nmF rk (fun c => goN cl gr bx c nb) k - 1))).1) - 1), (if ((putL ((lf1), (lk1)) (decs (nmF rk (fun c => goN cl gr bx c nb) k - 1))).1) = 0 then ((nI (32))) else ((putL ((lf1), (lk1)) (decs (nmF rk (fun c => goN cl gr bx c nb) k - 1))).2))) (decs (goN (cl) (gr) (bx) (nmF rk (fun c => goN cl gr bx c nb) k - 1) (nb)))).2))) (decs (((goN (cl) (gr) (bx) (nmF rk (fun c => goN cl gr bx c nb) k - 1) (nb)) + (999)) / (1000) * ((pt) ((nmF rk (fun c => goN cl gr bx c nb) k - 1)))))).1) ((putL ((((putL ((((putL ((lf1), (lk1)) (decs (nmF rk (fun c => goN cl gr bx c nb) k - 1))).1) - 1), (if ((putL ((lf1), (lk1)) (decs (nmF rk (fun c => goN cl gr bx c nb) k - 1))).1) = 0 then ((nI (32))) else ((putL ((lf1), (lk1)) (decs (nmF rk (fun c => goN cl gr bx c nb) k - 1))).2))) (decs (goN (cl) (gr) (bx) (nmF rk (fun c => goN cl gr bx c nb) k - 1) (nb)))).1) - 1), (if ((putL ((((putL ((lf1), (lk1)) (decs (nmF rk (fun c => goN cl gr bx c nb) k - 1))).1) - 1), (if ((putL ((lf1), (lk1)) (decs (nmF rk (fun c => goN cl gr bx c nb) k - 1))).1) = 0 then ((nI (32))) else ((putL ((lf1), (lk1)) (decs (nmF rk (fun c => goN cl gr bx c nb) k - 1))).2))) (decs (goN (cl) (gr) (bx) (nmF rk (fun c => goN cl gr bx c nb) k - 1) (nb)))).1) = 0 then ((nI (32))) else ((putL ((((putL ((lf1), (lk1)) (decs (nmF rk (fun c => goN cl gr bx c nb) k - 1))).1) - 1), (if ((putL ((lf1), (lk1)) (decs (nmF rk (fun c => goN cl gr bx c nb) k - 1))).1) = 0 then ((nI (32))) else ((putL ((lf1), (lk1)) (decs (nmF rk (fun c => goN cl gr bx c nb) k - 1))).2))) (decs (goN (cl) (gr) (bx) (nmF rk (fun c => goN cl gr bx c nb) k - 1) (nb)))).2))) (decs (((goN (cl) (gr) (bx) (nmF rk (fun c => goN cl gr bx c nb) k - 1) (nb)) + (999)) / (1000) * ((pt) ((nmF rk (fun c => goN cl gr bx c nb) k - 1)))))).2))) S_ (wk_rV S_ (c_Md_putNumber l D cI z (m) (tx) (sz) (ap) (pt) (rk) (cd) (fr) (mc) (mg) (mz) (nc) (nt) (ld) (qap) (qpt) (qrk) (qcd) (qfr) (qmc) (qmg) (qmz) (qnc) (qnt) (qld) (nb) (cl) (gr) (sp) (ot) (na) (aw) (nx) (bg) (bb) (ab) (fd) (pv) (bx) (wy) (li) (fm) (en) (nu) (td) (((putL ((((putL ((lf1), (lk1)) (decs (nmF rk (fun c => goN cl gr bx c nb) k - 1))).1) - 1), (if ((putL ((lf1), (lk1)) (decs (nmF rk (fun c => goN cl gr bx c nb) k - 1))).1) = 0 then ((nI (32))) else ((putL ((lf1), (lk1)) (decs (nmF rk (fun c => goN cl gr bx c nb) k - 1))).2))) (decs (goN (cl) (gr) (bx) (nmF rk (fun c => goN cl gr bx c nb) k - 1) (nb)))).1) - 1) (if ((putL ((((putL ((lf1), (lk1)) (decs (nmF rk (fun c => goN cl gr bx c nb) k - 1))).1) - 1), (if ((putL ((lf1), (lk1)) (decs (nmF rk (fun c => goN cl gr bx c nb) k - 1))).1) = 0 then ((nI (32))) else ((putL ((lf1), (lk1)) (decs (nmF rk (fun c => goN cl gr bx c nb) k - 1))).2))) (decs (goN (cl) (gr) (bx) (nmF rk (fun c => goN cl gr bx c nb) k - 1) (nb)))).1) = 0 then ((nI (32))) else ((putL ((((putL ((lf1), (lk1)) (decs (nmF rk (fun c => goN cl gr bx c nb) k - 1))).1) - 1), (if ((putL ((lf1), (lk1)) (decs (nmF rk (fun c => goN cl gr bx c nb) k - 1))).1) = 0 then ((nI (32))) else ((putL ((lf1), (lk1)) (decs (nmF rk (fun c => goN cl gr bx c nb) k - 1))).2))) (decs (goN (cl) (gr) (bx) (nmF rk (fun c => goN cl gr bx c nb) k - 1) (nb)))).2)) (((goN (cl) (gr) (bx) (nmF rk (fun c => goN cl gr bx c nb) k - 1) (nb)) + (999)) / (1000) * ((pt) ((nmF rk (fun c => goN cl gr bx c nb) k - 1)))) (by omega)) mv_Md_282 (wk_rcv S_ 0 6 rfl rfl rfl) rfl rfl (Nat.le_of_ble_eq_true rfl) (by rw [hR_]; decide) (by rw [hR_]; decide) d_Md_paper_65) [0, 1, 2, 3, 4, 5, 6, 7, 8, 9, 10, 11, 12, 13, 14, 15, 16, 17, 18, 19, 20, 21, 22, 23, 24, 25, 26, 27, 28, 29, 30, 31, 32, 33] [] [0, 1, 2, 3, 4, 5, 6, 7, 8, 9, 10, 11, 12, 13, 14, 15, 16, 17, 18, 19, 20, 21, 22, 23, 24, 25, 26, 27, 28, 29, 30, 31, 32, 33] rfl rfl rfl (by decide) (by decide) (by decide) (by decide) (fun _ => rfl) (fun _ => rfl) (fun r65 _ hw65 => ?_)
          refine wk_st (st' := []) rfl ?_
          refine wk_aload_n (pc := 68) S_ 1 d_Md_paper_68 rfl rfl ?_
          refine wk_bipush (pc := 69) (v := (nI (10))) S_ d_Md_paper_69 (by decide) ?_
          refine wk_run (pc := 71) (rest := []) (wr := []) (wN := fun _ => (wMd m cI tx sz ap pt rk cd fr mc mg mz nc nt ld qap qpt qrk qcd qfr qmc qmg qmz qnc qnt qld nb cl gr sp ot na aw nx bg bb ab fd pv bx wy li fm en nu td (((putL ((((putL ((((putL ((lf1), (lk1)) (decs (nmF rk (fun c => goN cl gr bx c nb) k - 1))).1) - 1), (if ((putL ((lf1), (lk1)) (decs (nmF rk (fun c => goN cl gr bx c nb) k - 1))).1) = 0 then ((nI (32))) else ((putL ((lf1), (lk1)) (decs (nmF rk (fun c => goN cl gr bx c nb) k - 1))).2))) (decs (goN (cl) (gr) (bx) (nmF rk (fun c => goN cl gr bx c nb) k - 1) (nb)))).1) - 1), (if ((putL ((((putL ((lf1), (lk1)) (decs (nmF rk (fun c => goN cl gr bx c nb) k - 1))).1) - 1), (if ((putL ((lf1), (lk1)) (decs (nmF rk (fun c => goN cl gr bx c nb) k - 1))).1) = 0 then ((nI (32))) else ((putL ((lf1), (lk1)) (decs (nmF rk (fun c => goN cl gr bx c nb) k - 1))).2))) (decs (goN (cl) (gr) (bx) (nmF rk (fun c => goN cl gr bx c nb) k - 1) (nb)))).1) = 0 then ((nI (32))) else ((putL ((((putL ((lf1), (lk1)) (decs (nmF rk (fun c => goN cl gr bx c nb) k - 1))).1) - 1), (if ((putL ((lf1), (lk1)) (decs (nmF rk (fun c => goN cl gr bx c nb) k - 1))).1) = 0 then ((nI (32))) else ((putL ((lf1), (lk1)) (decs (nmF rk (fun c => goN cl gr bx c nb) k - 1))).2))) (decs (goN (cl) (gr) (bx) (nmF rk (fun c => goN cl gr bx c nb) k - 1) (nb)))).2))) (decs (((goN (cl) (gr) (bx) (nmF rk (fun c => goN cl gr bx c nb) k - 1) (nb)) + (999)) / (1000) * ((pt) ((nmF rk (fun c => goN cl gr bx c nb) k - 1)))))).1) - 1) (if ((putL ((((putL ((((putL ((lf1), (lk1)) (decs (nmF rk (fun c => goN cl gr bx c nb) k - 1))).1) - 1), (if ((putL ((lf1), (lk1)) (decs (nmF rk (fun c => goN cl gr bx c nb) k - 1))).1) = 0 then ((nI (32))) else ((putL ((lf1), (lk1)) (decs (nmF rk (fun c => goN cl gr bx c nb) k - 1))).2))) (decs (goN (cl) (gr) (bx) (nmF rk (fun c => goN cl gr bx c nb) k - 1) (nb)))).1) - 1), (if ((putL ((((putL ((lf1), (lk1)) (decs (nmF rk (fun c => goN cl gr bx c nb) k - 1))).1) - 1), (if ((putL ((lf1), (lk1)) (decs (nmF rk (fun c => goN cl gr bx c nb) k - 1))).1) = 0 then ((nI (32))) else ((putL ((lf1), (lk1)) (decs (nmF rk (fun c => goN cl gr bx c nb) k - 1))).2))) (decs (goN (cl) (gr) (bx) (nmF rk (fun c => goN cl gr bx c nb) k - 1) (nb)))).1) = 0 then ((nI (32))) else ((putL ((((putL ((lf1), (lk1)) (decs (nmF rk (fun c => goN cl gr bx c nb) k - 1))).1) - 1), (if ((putL ((lf1), (lk1)) (decs (nmF rk (fun c => goN cl gr bx c nb) k - 1))).1) = 0 then ((nI (32))) else ((putL ((lf1), (lk1)) (decs (nmF rk (fun c => goN cl gr bx c nb) k - 1))).2))) (decs (goN (cl) (gr) (bx) (nmF rk (fun c => goN cl gr bx c nb) k - 1) (nb)))).2))) (decs (((goN (cl) (gr) (bx) (nmF rk (fun c => goN cl gr bx c nb) k - 1) (nb)) + (999)) / (1000) * ((pt) ((nmF rk (fun c => goN cl gr bx c nb) k - 1)))))).1) = 0 then ((nI (10))) else ((putL ((((putL ((((putL ((lf1), (lk1)) (decs (nmF rk (fun c => goN cl gr bx c nb) k - 1))).1) - 1), (if ((putL ((lf1), (lk1)) (decs (nmF rk (fun c => goN cl gr bx c nb) k - 1))).1) = 0 then ((nI (32))) else ((putL ((lf1), (lk1)) (decs (nmF rk (fun c => goN cl gr bx c nb) k - 1))).2))) (decs (goN (cl) (gr) (bx) (nmF rk (fun c => goN cl gr bx c nb) k - 1) (nb)))).1) - 1), (if ((putL ((((putL ((lf1), (lk1)) (decs (nmF rk (fun c => goN cl gr bx c nb) k - 1))).1) - 1), (if ((putL ((lf1), (lk1)) (decs (nmF rk (fun c => goN cl gr bx c nb) k - 1))).1) = 0 then ((nI (32))) else ((putL ((lf1), (lk1)) (decs (nmF rk (fun c => goN cl gr bx c nb) k - 1))).2))) (decs (goN (cl) (gr) (bx) (nmF rk (fun c => goN cl gr bx c nb) k - 1) (nb)))).1) = 0 then ((nI (32))) else ((putL ((((putL ((lf1), (lk1)) (decs (nmF rk (fun c => goN cl gr bx c nb) k - 1))).1) - 1), (if ((putL ((lf1), (lk1)) (decs (nmF rk (fun c => goN cl gr bx c nb) k - 1))).1) = 0 then ((nI (32))) else ((putL ((lf1), (lk1)) (decs (nmF rk (fun c => goN cl gr bx c nb) k - 1))).2))) (decs (goN (cl) (gr) (bx) (nmF rk (fun c => goN cl gr bx c nb) k - 1) (nb)))).2))) (decs (((goN (cl) (gr) (bx) (nmF rk (fun c => goN cl gr bx c nb) k - 1) (nb)) + (999)) / (1000) * ((pt) ((nmF rk (fun c => goN cl gr bx c nb) k - 1)))))).2)))) S_ (wk_rV S_ (c_Md_put l D cI z (m) (tx) (sz) (ap) (pt) (rk) (cd) (fr) (mc) (mg) (mz) (nc) (nt) (ld) (qap) (qpt) (qrk) (qcd) (qfr) (qmc) (qmg) (qmz) (qnc) (qnt) (qld) (nb) (cl) (gr) (sp) (ot) (na) (aw) (nx) (bg) (bb) (ab) (fd) (pv) (bx) (wy) (li) (fm) (en) (nu) (td) ((putL ((((putL ((((putL ((lf1), (lk1)) (decs (nmF rk (fun c => goN cl gr bx c nb) k - 1))).1) - 1), (if ((putL ((lf1), (lk1)) (decs (nmF rk (fun c => goN cl gr bx c nb) k - 1))).1) = 0 then ((nI (32))) else ((putL ((lf1), (lk1)) (decs (nmF rk (fun c => goN cl gr bx c nb) k - 1))).2))) (decs (goN (cl) (gr) (bx) (nmF rk (fun c => goN cl gr bx c nb) k - 1) (nb)))).1) - 1), (if ((putL ((((putL ((lf1), (lk1)) (decs (nmF rk (fun c => goN cl gr bx c nb) k - 1))).1) - 1), (if ((putL ((lf1), (lk1)) (decs (nmF rk (fun c => goN cl gr bx c nb) k - 1))).1) = 0 then ((nI (32))) else ((putL ((lf1), (lk1)) (decs (nmF rk (fun c => goN cl gr bx c nb) k - 1))).2))) (decs (goN (cl) (gr) (bx) (nmF rk (fun c => goN cl gr bx c nb) k - 1) (nb)))).1) = 0 then ((nI (32))) else ((putL ((((putL ((lf1), (lk1)) (decs (nmF rk (fun c => goN cl gr bx c nb) k - 1))).1) - 1), (if ((putL ((lf1), (lk1)) (decs (nmF rk (fun c => goN cl gr bx c nb) k - 1))).1) = 0 then ((nI (32))) else ((putL ((lf1), (lk1)) (decs (nmF rk (fun c => goN cl gr bx c nb) k - 1))).2))) (decs (goN (cl) (gr) (bx) (nmF rk (fun c => goN cl gr bx c nb) k - 1) (nb)))).2))) (decs (((goN (cl) (gr) (bx) (nmF rk (fun c => goN cl gr bx c nb) k - 1) (nb)) + (999)) / (1000) * ((pt) ((nmF rk (fun c => goN cl gr bx c nb) k - 1)))))).1) ((putL ((((putL ((((putL ((lf1), (lk1)) (decs (nmF rk (fun c => goN cl gr bx c nb) k - 1))).1) - 1), (if ((putL ((lf1), (lk1)) (decs (nmF rk (fun c => goN cl gr bx c nb) k - 1))).1) = 0 then ((nI (32))) else ((putL ((lf1), (lk1)) (decs (nmF rk (fun c => goN cl gr bx c nb) k - 1))).2))) (decs (goN (cl) (gr) (bx) (nmF rk (fun c => goN cl gr bx c nb) k - 1) (nb)))).1) - 1), (if ((putL ((((putL ((lf1), (lk1)) (decs (nmF rk (fun c => goN cl gr bx c nb) k - 1))).1) - 1), (if ((putL ((lf1), (lk1)) (decs (nmF rk (fun c => goN cl gr bx c nb) k - 1))).1) = 0 then ((nI (32))) else ((putL ((lf1), (lk1)) (decs (nmF rk (fun c => goN cl gr bx c nb) k - 1))).2))) (decs (goN (cl) (gr) (bx) (nmF rk (fun c => goN cl gr bx c nb) k - 1) (nb)))).1) = 0 then ((nI (32))) else ((putL ((((putL ((lf1), (lk1)) (decs (nmF rk (fun c => goN cl gr bx c nb) k - 1))).1) - 1), (if ((putL ((lf1), (lk1)) (decs (nmF rk (fun c => goN cl gr bx c nb) k - 1))).1) = 0 then ((nI (32))) else ((putL ((lf1), (lk1)) (decs (nmF rk (fun c => goN cl gr bx c nb) k - 1))).2))) (decs (goN (cl) (gr) (bx) (nmF rk (fun c => goN cl gr bx c nb) k - 1) (nb)))).2))) (decs (((goN (cl) (gr) (bx) (nmF rk (fun c => goN cl gr bx c nb) k - 1) (nb)) + (999)) / (1000) * ((pt) ((nmF rk (fun c => goN cl gr bx c nb) k - 1)))))).2) ((nI (10)))) mv_Md_278 (wk_rcv S_ 0 6 rfl rfl rfl) rfl rfl (Nat.le_of_ble_eq_true rfl) (by rw [hR_]; decide) (by rw [hR_]; decide) d_Md_paper_71) [0, 1, 2, 3, 4, 5, 6, 7, 8, 9, 10, 11, 12, 13, 14, 15, 16, 17, 18, 19, 20, 21, 22, 23, 24, 25, 26, 27, 28, 29, 30, 31, 32, 33] [] [0, 1, 2, 3, 4, 5, 6, 7, 8, 9, 10, 11, 12, 13, 14, 15, 16, 17, 18, 19, 20, 21, 22, 23, 24, 25, 26, 27, 28, 29, 30, 31, 32, 33] rfl rfl rfl (by decide) (by decide) (by decide) (by decide) (fun _ => rfl) (fun _ => rfl) (fun r71 _ hw71 => ?_)
          refine wk_st (st' := []) rfl ?_
          refine wk_iincN (pc := 74) (d := 1) (lv' := [(2, .int (nI (k + 1))), (3, .int (nI (nmF rk (fun c => goN cl gr bx c nb) k - 1))), (0, .ref (m 0)), (1, .int (x))]) S_ 3 d_Md_paper_74 (by decide) rfl (by decide) rfl ?_
          refine wk_goto (pc := 77) (tgt := 18) S_ d_Md_paper_77 (by decide) ?_
          obtain ⟨r, rfl⟩ : ∃ r, q = r + 1 := ⟨q - 1, by omega⟩
          have hline : (((putL ((((putL ((((putL ((lf1), (lk1)) (decs (nmF rk (fun c => goN cl gr bx c nb) k - 1))).1) - 1), (if ((putL ((lf1), (lk1)) (decs (nmF rk (fun c => goN cl gr bx c nb) k - 1))).1) = 0 then ((nI (32))) else ((putL ((lf1), (lk1)) (decs (nmF rk (fun c => goN cl gr bx c nb) k - 1))).2))) (decs (goN (cl) (gr) (bx) (nmF rk (fun c => goN cl gr bx c nb) k - 1) (nb)))).1) - 1), (if ((putL ((((putL ((lf1), (lk1)) (decs (nmF rk (fun c => goN cl gr bx c nb) k - 1))).1) - 1), (if ((putL ((lf1), (lk1)) (decs (nmF rk (fun c => goN cl gr bx c nb) k - 1))).1) = 0 then ((nI (32))) else ((putL ((lf1), (lk1)) (decs (nmF rk (fun c => goN cl gr bx c nb) k - 1))).2))) (decs (goN (cl) (gr) (bx) (nmF rk (fun c => goN cl gr bx c nb) k - 1) (nb)))).1) = 0 then ((nI (32))) else ((putL ((((putL ((lf1), (lk1)) (decs (nmF rk (fun c => goN cl gr bx c nb) k - 1))).1) - 1), (if ((putL ((lf1), (lk1)) (decs (nmF rk (fun c => goN cl gr bx c nb) k - 1))).1) = 0 then ((nI (32))) else ((putL ((lf1), (lk1)) (decs (nmF rk (fun c => goN cl gr bx c nb) k - 1))).2))) (decs (goN (cl) (gr) (bx) (nmF rk (fun c => goN cl gr bx c nb) k - 1) (nb)))).2))) (decs (((goN (cl) (gr) (bx) (nmF rk (fun c => goN cl gr bx c nb) k - 1) (nb)) + (999)) / (1000) * ((pt) ((nmF rk (fun c => goN cl gr bx c nb) k - 1)))))).1) - 1, if ((putL ((((putL ((((putL ((lf1), (lk1)) (decs (nmF rk (fun c => goN cl gr bx c nb) k - 1))).1) - 1), (if ((putL ((lf1), (lk1)) (decs (nmF rk (fun c => goN cl gr bx c nb) k - 1))).1) = 0 then ((nI (32))) else ((putL ((lf1), (lk1)) (decs (nmF rk (fun c => goN cl gr bx c nb) k - 1))).2))) (decs (goN (cl) (gr) (bx) (nmF rk (fun c => goN cl gr bx c nb) k - 1) (nb)))).1) - 1), (if ((putL ((((putL ((lf1), (lk1)) (decs (nmF rk (fun c => goN cl gr bx c nb) k - 1))).1) - 1), (if ((putL ((lf1), (lk1)) (decs (nmF rk (fun c => goN cl gr bx c nb) k - 1))).1) = 0 then ((nI (32))) else ((putL ((lf1), (lk1)) (decs (nmF rk (fun c => goN cl gr bx c nb) k - 1))).2))) (decs (goN (cl) (gr) (bx) (nmF rk (fun c => goN cl gr bx c nb) k - 1) (nb)))).1) = 0 then ((nI (32))) else ((putL ((((putL ((lf1), (lk1)) (decs (nmF rk (fun c => goN cl gr bx c nb) k - 1))).1) - 1), (if ((putL ((lf1), (lk1)) (decs (nmF rk (fun c => goN cl gr bx c nb) k - 1))).1) = 0 then ((nI (32))) else ((putL ((lf1), (lk1)) (decs (nmF rk (fun c => goN cl gr bx c nb) k - 1))).2))) (decs (goN (cl) (gr) (bx) (nmF rk (fun c => goN cl gr bx c nb) k - 1) (nb)))).2))) (decs (((goN (cl) (gr) (bx) (nmF rk (fun c => goN cl gr bx c nb) k - 1) (nb)) + (999)) / (1000) * ((pt) ((nmF rk (fun c => goN cl gr bx c nb) k - 1)))))).1) = 0 then ((nI (10))) else ((putL ((((putL ((((putL ((lf1), (lk1)) (decs (nmF rk (fun c => goN cl gr bx c nb) k - 1))).1) - 1), (if ((putL ((lf1), (lk1)) (decs (nmF rk (fun c => goN cl gr bx c nb) k - 1))).1) = 0 then ((nI (32))) else ((putL ((lf1), (lk1)) (decs (nmF rk (fun c => goN cl gr bx c nb) k - 1))).2))) (decs (goN (cl) (gr) (bx) (nmF rk (fun c => goN cl gr bx c nb) k - 1) (nb)))).1) - 1), (if ((putL ((((putL ((lf1), (lk1)) (decs (nmF rk (fun c => goN cl gr bx c nb) k - 1))).1) - 1), (if ((putL ((lf1), (lk1)) (decs (nmF rk (fun c => goN cl gr bx c nb) k - 1))).1) = 0 then ((nI (32))) else ((putL ((lf1), (lk1)) (decs (nmF rk (fun c => goN cl gr bx c nb) k - 1))).2))) (decs (goN (cl) (gr) (bx) (nmF rk (fun c => goN cl gr bx c nb) k - 1) (nb)))).1) = 0 then ((nI (32))) else ((putL ((((putL ((lf1), (lk1)) (decs (nmF rk (fun c => goN cl gr bx c nb) k - 1))).1) - 1), (if ((putL ((lf1), (lk1)) (decs (nmF rk (fun c => goN cl gr bx c nb) k - 1))).1) = 0 then ((nI (32))) else ((putL ((lf1), (lk1)) (decs (nmF rk (fun c => goN cl gr bx c nb) k - 1))).2))) (decs (goN (cl) (gr) (bx) (nmF rk (fun c => goN cl gr bx c nb) k - 1) (nb)))).2))) (decs (((goN (cl) (gr) (bx) (nmF rk (fun c => goN cl gr bx c nb) k - 1) (nb)) + (999)) / (1000) * ((pt) ((nmF rk (fun c => goN cl gr bx c nb) k - 1)))))).2)) = putL (lf1, lk1) (lineB (nmF rk (fun c => goN cl gr bx c nb) k - 1) (goN cl gr bx (nmF rk (fun c => goN cl gr bx c nb) k - 1) nb) ((goN cl gr bx (nmF rk (fun c => goN cl gr bx c nb) k - 1) nb + 999) / 1000 * pt (nmF rk (fun c => goN cl gr bx c nb) k - 1))) := by unfold lineB; rw [putL_app]; simp only [putL]; rw [putL_app]; simp only [putL]; rw [putL_app]; rfl
          refine wk_lv [2, 3, 0] ?_ (ih18 (r) (k + 1) (((putL ((((putL ((((putL ((lf1), (lk1)) (decs (nmF rk (fun c => goN cl gr bx c nb) k - 1))).1) - 1), (if ((putL ((lf1), (lk1)) (decs (nmF rk (fun c => goN cl gr bx c nb) k - 1))).1) = 0 then ((nI (32))) else ((putL ((lf1), (lk1)) (decs (nmF rk (fun c => goN cl gr bx c nb) k - 1))).2))) (decs (goN (cl) (gr) (bx) (nmF rk (fun c => goN cl gr bx c nb) k - 1) (nb)))).1) - 1), (if ((putL ((((putL ((lf1), (lk1)) (decs (nmF rk (fun c => goN cl gr bx c nb) k - 1))).1) - 1), (if ((putL ((lf1), (lk1)) (decs (nmF rk (fun c => goN cl gr bx c nb) k - 1))).1) = 0 then ((nI (32))) else ((putL ((lf1), (lk1)) (decs (nmF rk (fun c => goN cl gr bx c nb) k - 1))).2))) (decs (goN (cl) (gr) (bx) (nmF rk (fun c => goN cl gr bx c nb) k - 1) (nb)))).1) = 0 then ((nI (32))) else ((putL ((((putL ((lf1), (lk1)) (decs (nmF rk (fun c => goN cl gr bx c nb) k - 1))).1) - 1), (if ((putL ((lf1), (lk1)) (decs (nmF rk (fun c => goN cl gr bx c nb) k - 1))).1) = 0 then ((nI (32))) else ((putL ((lf1), (lk1)) (decs (nmF rk (fun c => goN cl gr bx c nb) k - 1))).2))) (decs (goN (cl) (gr) (bx) (nmF rk (fun c => goN cl gr bx c nb) k - 1) (nb)))).2))) (decs (((goN (cl) (gr) (bx) (nmF rk (fun c => goN cl gr bx c nb) k - 1) (nb)) + (999)) / (1000) * ((pt) ((nmF rk (fun c => goN cl gr bx c nb) k - 1)))))).1) - 1) (if ((putL ((((putL ((((putL ((lf1), (lk1)) (decs (nmF rk (fun c => goN cl gr bx c nb) k - 1))).1) - 1), (if ((putL ((lf1), (lk1)) (decs (nmF rk (fun c => goN cl gr bx c nb) k - 1))).1) = 0 then ((nI (32))) else ((putL ((lf1), (lk1)) (decs (nmF rk (fun c => goN cl gr bx c nb) k - 1))).2))) (decs (goN (cl) (gr) (bx) (nmF rk (fun c => goN cl gr bx c nb) k - 1) (nb)))).1) - 1), (if ((putL ((((putL ((lf1), (lk1)) (decs (nmF rk (fun c => goN cl gr bx c nb) k - 1))).1) - 1), (if ((putL ((lf1), (lk1)) (decs (nmF rk (fun c => goN cl gr bx c nb) k - 1))).1) = 0 then ((nI (32))) else ((putL ((lf1), (lk1)) (decs (nmF rk (fun c => goN cl gr bx c nb) k - 1))).2))) (decs (goN (cl) (gr) (bx) (nmF rk (fun c => goN cl gr bx c nb) k - 1) (nb)))).1) = 0 then ((nI (32))) else ((putL ((((putL ((lf1), (lk1)) (decs (nmF rk (fun c => goN cl gr bx c nb) k - 1))).1) - 1), (if ((putL ((lf1), (lk1)) (decs (nmF rk (fun c => goN cl gr bx c nb) k - 1))).1) = 0 then ((nI (32))) else ((putL ((lf1), (lk1)) (decs (nmF rk (fun c => goN cl gr bx c nb) k - 1))).2))) (decs (goN (cl) (gr) (bx) (nmF rk (fun c => goN cl gr bx c nb) k - 1) (nb)))).2))) (decs (((goN (cl) (gr) (bx) (nmF rk (fun c => goN cl gr bx c nb) k - 1) (nb)) + (999)) / (1000) * ((pt) ((nmF rk (fun c => goN cl gr bx c nb) k - 1)))))).1) = 0 then ((nI (10))) else ((putL ((((putL ((((putL ((lf1), (lk1)) (decs (nmF rk (fun c => goN cl gr bx c nb) k - 1))).1) - 1), (if ((putL ((lf1), (lk1)) (decs (nmF rk (fun c => goN cl gr bx c nb) k - 1))).1) = 0 then ((nI (32))) else ((putL ((lf1), (lk1)) (decs (nmF rk (fun c => goN cl gr bx c nb) k - 1))).2))) (decs (goN (cl) (gr) (bx) (nmF rk (fun c => goN cl gr bx c nb) k - 1) (nb)))).1) - 1), (if ((putL ((((putL ((lf1), (lk1)) (decs (nmF rk (fun c => goN cl gr bx c nb) k - 1))).1) - 1), (if ((putL ((lf1), (lk1)) (decs (nmF rk (fun c => goN cl gr bx c nb) k - 1))).1) = 0 then ((nI (32))) else ((putL ((lf1), (lk1)) (decs (nmF rk (fun c => goN cl gr bx c nb) k - 1))).2))) (decs (goN (cl) (gr) (bx) (nmF rk (fun c => goN cl gr bx c nb) k - 1) (nb)))).1) = 0 then ((nI (32))) else ((putL ((((putL ((lf1), (lk1)) (decs (nmF rk (fun c => goN cl gr bx c nb) k - 1))).1) - 1), (if ((putL ((lf1), (lk1)) (decs (nmF rk (fun c => goN cl gr bx c nb) k - 1))).1) = 0 then ((nI (32))) else ((putL ((lf1), (lk1)) (decs (nmF rk (fun c => goN cl gr bx c nb) k - 1))).2))) (decs (goN (cl) (gr) (bx) (nmF rk (fun c => goN cl gr bx c nb) k - 1) (nb)))).2))) (decs (((goN (cl) (gr) (bx) (nmF rk (fun c => goN cl gr bx c nb) k - 1) (nb)) + (999)) / (1000) * ((pt) ((nmF rk (fun c => goN cl gr bx c nb) k - 1)))))).2)) (by omega) (by omega) (by rw [← hE, papL, if_neg hn3, putL_app, hline]))
          rfl
    refine wk_lv [1, 2, 0] ?_ (hL18 _ (9) (0) ((x)) ((-1)) (Nat.lt_succ_self _) (by omega) rfl)
    rfl
  · -- on
    refine wk_iconst (pc := 4) (v := (-1)) S_ d_Md_paper_4 (by decide) ?_
    exact hQ_ (-1) (lf, lk) d_Md_paper_5 rfl (by rw [ppN, if_pos (by rw [← Int32.not_le]; exact h1)])
end
section
theorem trS_ok2 {li : Nat → Nat} {nx : Nat} {w0 : Nat → Nat} (k : Nat) (w : Nat → Nat) (h0 : k = 0 ∨ 0 < nx) (h1 : ∀ b, w b ≤ nx ∨ k = 0) (h2 : ∀ b, w b = 0 ↔ w0 b = 0) (h3 : ∀ j, j < k → w (li j) ≠ 0) : (∀ b, (trS li nx k w).1 b ≤ nx ∨ k = 0) ∧ (∀ b, (trS li nx k w).1 b = 0 ↔ w0 b = 0) := by
  by_cases e : k = 0
  · subst e; exact ⟨fun _ => Or.inr rfl, h2⟩
  · have h4 := trS_ok (w0 := w0) (show 0 < nx by omega) k w (fun b => by rcases h1 b with z | z; exact z; exact absurd z e) h2 h3
    exact ⟨fun b => Or.inl (h4.1 b), h4.2⟩
theorem muS_lt {li : Nat → Nat} {nx : Nat} {w : Nat → Nat} : ∀ k, (∀ j, j < k → w (li j) ≠ 0 ∧ 0 < nx) → muS li nx k w < nx ^ k
  | 0, _ => Nat.zero_lt_one
  | k + 1, h => by
    have ih := muS_lt (w := w) k (fun j hj => h j (by omega))
    have h1 := h k (by omega)
    rw [muS, Nat.pow_succ]
    have h2 : (muS li nx k w + 1) * nx ≤ nx ^ k * nx := Nat.mul_le_mul_right nx ih
    rw [Nat.add_mul] at h2
    omega
noncomputable def kpF (ap : Nat → Bool) (cl gr bg bb ab : Nat → Nat) (nb nx : Nat) : (Nat → Nat) → Bool := fun w => kpB ap cl gr w bg bb ab nb nx
/-- one way is looked at -/
def stB (K : (Nat → Nat) → Bool) (nb : Nat) (w : Nat → Nat) (q : Nat) (b : Nat → Nat) : Nat × (Nat → Nat) := if (q = 0 ∨ (usS w nb).2 + 1 < q) ∧ K w = true then ((usS w nb).2 + 1, w) else (q, b)
/-- all ways from w on: the best (0: none, else one more), and who stands where -/
def pkR (K : (Nat → Nat) → Bool) (nb : Nat) (li : Nat → Nat) (nx n : Nat) : Nat → (Nat → Nat) → Nat × (Nat → Nat) → Nat × (Nat → Nat)
  | 0, _, q => q
  | f + 1, w, q => if (trS li nx n w).2 = true then pkR K nb li nx n f (trS li nx n w).1 (stB K nb w q.1 q.2) else stB K nb w q.1 q.2
theorem pkR_s (K : (Nat → Nat) → Bool) (nb : Nat) (li : Nat → Nat) (nx n f : Nat) (w : Nat → Nat) (q : Nat) (b : Nat → Nat) : pkR K nb li nx n (f + 1) w (q, b) = if (trS li nx n w).2 = true then pkR K nb li nx n f (trS li nx n w).1 (stB K nb w q b) else stB K nb w q b := rfl
noncomputable def pkA (ap : Nat → Bool) (cl gr bg bb ab : Nat → Nat) (ot : Nat → Bool) (nb nx : Nat) (li bx : Nat → Nat) : Nat × (Nat → Nat) := pkR (kpF ap cl gr bg bb ab nb nx) nb (pkL ot cl nb li 8).1 nx (pkL ot cl nb li 8).2 (nx ^ (pkL ot cl nb li 8).2) (wyI ot cl nb) (0, bx)
noncomputable def pkS (ap : Nat → Bool) (cl gr bg bb ab : Nat → Nat) (ot : Nat → Bool) (nb nx : Nat) (li : Nat → Nat) (x : Int64) (bx : Nat → Nat) (fd pv : Bool) : Int32 × (Nat → Nat) × Bool × Bool :=
  if x < lN (nx ^ (pkL ot cl nb li 8).2) ∨ nx ^ (pkL ot cl nb li 8).2 = 0 then (-1, bx, fd, pv)
  else if (pkA ap cl gr bg bb ab ot nb nx li bx).1 = 0 then (-1, bx, fd, pv)
  else (zI (pkA ap cl gr bg bb ab ot nb nx li bx).1, (pkA ap cl gr bg bb ab ot nb nx li bx).2, true, true)
theorem p58 {nx n : Nat} (h1 : nx ≤ 5) (h2 : n ≤ 8) : nx ^ n ≤ 390625 := Nat.le_trans (Nat.pow_le_pow_left h1 n) (Nat.pow_le_pow_right (by decide) h2)
theorem mv_Md_231 : wk_V R_Md 231 R_Md y_Md_used b_Md_used 5 (some .int) 1 := ⟨(gd _ (tb3 _ (List.mem_of_getElem? (i := 152) rfl)) rfl), (gd _ (tb0 _ (List.mem_of_getElem? (i := 8) rfl)) rfl), (gd _ (tb3 _ (List.mem_of_getElem? (i := 149) rfl)) rfl), (by decide +kernel), (gd _ (tb3 _ (List.mem_of_getElem? (i := 151) rfl)) rfl), (gd _ (List.mem_append_left _ (by decide +kernel)) rfl)⟩
theorem mv_Md_242 : wk_V R_Md 242 R_Md y_Md_turn b_Md_turn 3 (some .boolean) 1 := ⟨(gd _ (tb3 _ (List.mem_of_getElem? (i := 160) rfl)) rfl), (gd _ (tb0 _ (List.mem_of_getElem? (i := 8) rfl)) rfl), (gd _ (tb3 _ (List.mem_of_getElem? (i := 157) rfl)) rfl), (by decide +kernel), (gd _ (tb3 _ (List.mem_of_getElem? (i := 159) rfl)) rfl), (gd _ (List.mem_append_left _ (by decide +kernel)) rfl)⟩
theorem d_Md_pack_0 : decode b_Md_pack 0 = .ok (.iconst 0, 1) := by decide +kernel
theorem d_Md_pack_1 : decode b_Md_pack 1 = .ok (.istore_n 3, 1) := by decide +kernel
theorem d_Md_pack_2 : decode b_Md_pack 2 = .ok (.lconst 1, 1) := by decide +kernel
theorem d_Md_pack_3 : decode b_Md_pack 3 = .ok (.lstore 4, 2) := by decide +kernel
theorem d_Md_pack_5 : decode b_Md_pack 5 = .ok (.iconst 0, 1) := by decide +kernel
theorem d_Md_pack_6 : decode b_Md_pack 6 = .ok (.istore 6, 2) := by decide +kernel
theorem d_Md_pack_8 : decode b_Md_pack 8 = .ok (.iload 6, 2) := by decide +kernel
theorem d_Md_pack_10 : decode b_Md_pack 10 = .ok (.bipush 8, 2) := by decide +kernel
theorem d_Md_pack_12 : decode b_Md_pack 12 = .ok (.if_icmp .ge 64, 3) := by decide +kernel
theorem d_Md_pack_15 : decode b_Md_pack 15 = .ok (.aload_n 0, 1) := by decide +kernel
theorem d_Md_pack_16 : decode b_Md_pack 16 = .ok (.getfield 102, 3) := by decide +kernel
theorem d_Md_pack_19 : decode b_Md_pack 19 = .ok (.iload 6, 2) := by decide +kernel
theorem d_Md_pack_21 : decode b_Md_pack 21 = .ok (.iconst (-1), 1) := by decide +kernel
theorem d_Md_pack_22 : decode b_Md_pack 22 = .ok (.iastore, 1) := by decide +kernel
theorem d_Md_pack_23 : decode b_Md_pack 23 = .ok (.iload 6, 2) := by decide +kernel
theorem d_Md_pack_25 : decode b_Md_pack 25 = .ok (.aload_n 0, 1) := by decide +kernel
theorem d_Md_pack_26 : decode b_Md_pack 26 = .ok (.getfield 117, 3) := by decide +kernel
theorem d_Md_pack_29 : decode b_Md_pack 29 = .ok (.if_icmp .ge 41, 3) := by decide +kernel
theorem d_Md_pack_32 : decode b_Md_pack 32 = .ok (.aload_n 0, 1) := by decide +kernel
theorem d_Md_pack_33 : decode b_Md_pack 33 = .ok (.iload 6, 2) := by decide +kernel
theorem d_Md_pack_35 : decode b_Md_pack 35 = .ok (.invokevirtual 228, 3) := by decide +kernel
theorem d_Md_pack_38 : decode b_Md_pack 38 = .ok (.ifCond .eq 32, 3) := by decide +kernel
theorem d_Md_pack_41 : decode b_Md_pack 41 = .ok (.aload_n 0, 1) := by decide +kernel
theorem d_Md_pack_42 : decode b_Md_pack 42 = .ok (.getfield 102, 3) := by decide +kernel
theorem d_Md_pack_45 : decode b_Md_pack 45 = .ok (.iload 6, 2) := by decide +kernel
theorem d_Md_pack_47 : decode b_Md_pack 47 = .ok (.iconst 0, 1) := by decide +kernel
theorem d_Md_pack_48 : decode b_Md_pack 48 = .ok (.iastore, 1) := by decide +kernel
theorem d_Md_pack_49 : decode b_Md_pack 49 = .ok (.aload_n 0, 1) := by decide +kernel
theorem d_Md_pack_50 : decode b_Md_pack 50 = .ok (.getfield 105, 3) := by decide +kernel
theorem d_Md_pack_53 : decode b_Md_pack 53 = .ok (.iload_n 3, 1) := by decide +kernel
theorem d_Md_pack_54 : decode b_Md_pack 54 = .ok (.iload 6, 2) := by decide +kernel
theorem d_Md_pack_56 : decode b_Md_pack 56 = .ok (.iastore, 1) := by decide +kernel
theorem d_Md_pack_57 : decode b_Md_pack 57 = .ok (.iinc 3 1, 3) := by decide +kernel
theorem d_Md_pack_60 : decode b_Md_pack 60 = .ok (.lload 4, 2) := by decide +kernel
theorem d_Md_pack_62 : decode b_Md_pack 62 = .ok (.aload_n 0, 1) := by decide +kernel
theorem d_Md_pack_63 : decode b_Md_pack 63 = .ok (.getfield 213, 3) := by decide +kernel
theorem d_Md_pack_66 : decode b_Md_pack 66 = .ok (.i2l, 1) := by decide +kernel
theorem d_Md_pack_67 : decode b_Md_pack 67 = .ok (.lmul, 1) := by decide +kernel
theorem d_Md_pack_68 : decode b_Md_pack 68 = .ok (.lstore 4, 2) := by decide +kernel
theorem d_Md_pack_70 : decode b_Md_pack 70 = .ok (.iinc 6 1, 3) := by decide +kernel
theorem d_Md_pack_73 : decode b_Md_pack 73 = .ok (.goto (-65), 3) := by decide +kernel
theorem d_Md_pack_76 : decode b_Md_pack 76 = .ok (.lload 4, 2) := by decide +kernel
theorem d_Md_pack_78 : decode b_Md_pack 78 = .ok (.lload_n 1, 1) := by decide +kernel
theorem d_Md_pack_79 : decode b_Md_pack 79 = .ok (.lcmp, 1) := by decide +kernel
theorem d_Md_pack_80 : decode b_Md_pack 80 = .ok (.ifCond .gt 10, 3) := by decide +kernel
theorem d_Md_pack_83 : decode b_Md_pack 83 = .ok (.lload 4, 2) := by decide +kernel
theorem d_Md_pack_85 : decode b_Md_pack 85 = .ok (.lconst 0, 1) := by decide +kernel
theorem d_Md_pack_86 : decode b_Md_pack 86 = .ok (.lcmp, 1) := by decide +kernel
theorem d_Md_pack_87 : decode b_Md_pack 87 = .ok (.ifCond .ne 5, 3) := by decide +kernel
theorem d_Md_pack_90 : decode b_Md_pack 90 = .ok (.iconst (-1), 1) := by decide +kernel
theorem d_Md_pack_91 : decode b_Md_pack 91 = .ok (.ireturn, 1) := by decide +kernel
theorem d_Md_pack_92 : decode b_Md_pack 92 = .ok (.iconst (-1), 1) := by decide +kernel
theorem d_Md_pack_93 : decode b_Md_pack 93 = .ok (.istore 6, 2) := by decide +kernel
theorem d_Md_pack_95 : decode b_Md_pack 95 = .ok (.iconst 1, 1) := by decide +kernel
theorem d_Md_pack_96 : decode b_Md_pack 96 = .ok (.istore 7, 2) := by decide +kernel
theorem d_Md_pack_98 : decode b_Md_pack 98 = .ok (.iload 7, 2) := by decide +kernel
theorem d_Md_pack_100 : decode b_Md_pack 100 = .ok (.ifCond .eq 92, 3) := by decide +kernel
theorem d_Md_pack_103 : decode b_Md_pack 103 = .ok (.iload 6, 2) := by decide +kernel
theorem d_Md_pack_105 : decode b_Md_pack 105 = .ok (.ifCond .lt 16, 3) := by decide +kernel
theorem d_Md_pack_108 : decode b_Md_pack 108 = .ok (.aload_n 0, 1) := by decide +kernel
theorem d_Md_pack_109 : decode b_Md_pack 109 = .ok (.aload_n 0, 1) := by decide +kernel
theorem d_Md_pack_110 : decode b_Md_pack 110 = .ok (.getfield 102, 3) := by decide +kernel
theorem d_Md_pack_113 : decode b_Md_pack 113 = .ok (.invokevirtual 231, 3) := by decide +kernel
theorem d_Md_pack_116 : decode b_Md_pack 116 = .ok (.iload 6, 2) := by decide +kernel
theorem d_Md_pack_118 : decode b_Md_pack 118 = .ok (.if_icmp .ge 64, 3) := by decide +kernel
theorem d_Md_pack_121 : decode b_Md_pack 121 = .ok (.aload_n 0, 1) := by decide +kernel
theorem d_Md_pack_122 : decode b_Md_pack 122 = .ok (.aload_n 0, 1) := by decide +kernel
theorem d_Md_pack_123 : decode b_Md_pack 123 = .ok (.getfield 102, 3) := by decide +kernel
theorem d_Md_pack_126 : decode b_Md_pack 126 = .ok (.invokevirtual 235, 3) := by decide +kernel
theorem d_Md_pack_129 : decode b_Md_pack 129 = .ok (.ifCond .eq 53, 3) := by decide +kernel
theorem d_Md_pack_132 : decode b_Md_pack 132 = .ok (.aload_n 0, 1) := by decide +kernel
theorem d_Md_pack_133 : decode b_Md_pack 133 = .ok (.aload_n 0, 1) := by decide +kernel
theorem d_Md_pack_134 : decode b_Md_pack 134 = .ok (.getfield 102, 3) := by decide +kernel
theorem d_Md_pack_137 : decode b_Md_pack 137 = .ok (.invokevirtual 231, 3) := by decide +kernel
theorem d_Md_pack_140 : decode b_Md_pack 140 = .ok (.istore 6, 2) := by decide +kernel
theorem d_Md_pack_142 : decode b_Md_pack 142 = .ok (.iconst 0, 1) := by decide +kernel
theorem d_Md_pack_143 : decode b_Md_pack 143 = .ok (.istore 8, 2) := by decide +kernel
theorem d_Md_pack_145 : decode b_Md_pack 145 = .ok (.iload 8, 2) := by decide +kernel
theorem d_Md_pack_147 : decode b_Md_pack 147 = .ok (.bipush 8, 2) := by decide +kernel
theorem d_Md_pack_149 : decode b_Md_pack 149 = .ok (.if_icmp .ge 23, 3) := by decide +kernel
theorem d_Md_pack_152 : decode b_Md_pack 152 = .ok (.aload_n 0, 1) := by decide +kernel
theorem d_Md_pack_153 : decode b_Md_pack 153 = .ok (.getfield 99, 3) := by decide +kernel
theorem d_Md_pack_156 : decode b_Md_pack 156 = .ok (.iload 8, 2) := by decide +kernel
theorem d_Md_pack_158 : decode b_Md_pack 158 = .ok (.aload_n 0, 1) := by decide +kernel
theorem d_Md_pack_159 : decode b_Md_pack 159 = .ok (.getfield 102, 3) := by decide +kernel
theorem d_Md_pack_162 : decode b_Md_pack 162 = .ok (.iload 8, 2) := by decide +kernel
theorem d_Md_pack_164 : decode b_Md_pack 164 = .ok (.iaload, 1) := by decide +kernel
theorem d_Md_pack_165 : decode b_Md_pack 165 = .ok (.iastore, 1) := by decide +kernel
theorem d_Md_pack_166 : decode b_Md_pack 166 = .ok (.iinc 8 1, 3) := by decide +kernel
theorem d_Md_pack_169 : decode b_Md_pack 169 = .ok (.goto (-24), 3) := by decide +kernel
theorem d_Md_pack_172 : decode b_Md_pack 172 = .ok (.aload_n 0, 1) := by decide +kernel
theorem d_Md_pack_173 : decode b_Md_pack 173 = .ok (.iconst 1, 1) := by decide +kernel
theorem d_Md_pack_174 : decode b_Md_pack 174 = .ok (.putfield 239, 3) := by decide +kernel
theorem d_Md_pack_177 : decode b_Md_pack 177 = .ok (.aload_n 0, 1) := by decide +kernel
theorem d_Md_pack_178 : decode b_Md_pack 178 = .ok (.iconst 1, 1) := by decide +kernel
theorem d_Md_pack_179 : decode b_Md_pack 179 = .ok (.putfield 130, 3) := by decide +kernel
theorem d_Md_pack_182 : decode b_Md_pack 182 = .ok (.aload_n 0, 1) := by decide +kernel
theorem d_Md_pack_183 : decode b_Md_pack 183 = .ok (.iload_n 3, 1) := by decide +kernel
theorem d_Md_pack_184 : decode b_Md_pack 184 = .ok (.invokevirtual 242, 3) := by decide +kernel
theorem d_Md_pack_187 : decode b_Md_pack 187 = .ok (.istore 7, 2) := by decide +kernel
theorem d_Md_pack_189 : decode b_Md_pack 189 = .ok (.goto (-91), 3) := by decide +kernel
theorem d_Md_pack_192 : decode b_Md_pack 192 = .ok (.iload 6, 2) := by decide +kernel
theorem d_Md_pack_194 : decode b_Md_pack 194 = .ok (.ireturn, 1) := by decide +kernel
set_option maxHeartbeats 4000000 in
set_option maxRecDepth 100000 in
theorem c_Md_pack (l : Launch) (D : va_G) (cI : CiT) (z : GzT) (m : Nat → Nat) (tx : (Nat → Nat)) (sz : Nat) (ap : (Nat → Bool)) (pt : (Nat → Nat)) (rk : (Nat → Nat)) (cd : (Nat → Nat)) (fr : Nat) (mc : (Nat → Nat)) (mg : (Nat → Nat)) (mz : (Nat → Nat)) (nc : (Nat → Nat)) (nt : (Nat → Nat)) (ld : (Nat → Nat)) (qap : (Nat → Bool)) (qpt : (Nat → Nat)) (qrk : (Nat → Nat)) (qcd : (Nat → Nat)) (qfr : Nat) (qmc : (Nat → Nat)) (qmg : (Nat → Nat)) (qmz : (Nat → Nat)) (qnc : (Nat → Nat)) (qnt : (Nat → Nat)) (qld : (Nat → Nat)) (nb : Nat) (cl : (Nat → Nat)) (gr : (Nat → Nat)) (sp : (Nat → Nat)) (ot : (Nat → Bool)) (na : Nat) (aw : (Nat → Nat)) (nx : Nat) (bg : (Nat → Nat)) (bb : (Nat → Nat)) (ab : (Nat → Nat)) (fd : Bool) (pv : Bool) (bx : (Nat → Nat)) (wy : (Nat → Nat)) (li : (Nat → Nat)) (fm : Nat) (en : Nat) (nu : Nat) (td : (Nat → Nat)) (lf : Int32) (lk : Int32) (x : Int64) (hnb : nb ≤ 8) (hnx : nx ≤ 5) (hgr : ∀ b, gr b ≤ 100000) (hcl : ∀ b, cl b ≤ 9) (hbg : ∀ x, bg x ≤ 1000000) (hbb : ∀ x, bb x ≤ 8) (hab : ∀ x, ab x ≤ 1000000) (hli : ∀ k, li k < 8) : wk_C l D (tyK cI) (gX z) y_Md_pack b_Md_pack 9 (some .int) 1 27 0 0 [.ref (m 0), .long (x)] (wMd m cI tx sz ap pt rk cd fr mc mg mz nc nt ld qap qpt qrk qcd qfr qmc qmg qmz qnc qnt qld nb cl gr sp ot na aw nx bg bb ab fd pv bx wy li fm en nu td lf lk) wk_i (fun (r : Int32) (u : (Nat → Nat) × (Nat → Nat) × (Nat → Nat) × Bool × Bool) => u.2.1 = (pkL ot cl nb li 8).1 ∧ (r, u.2.2) = pkS ap cl gr bg bb ab ot nb nx li x bx fd pv) (fun u => (wMd m cI tx sz ap pt rk cd fr mc mg mz nc nt ld qap qpt qrk qcd qfr qmc qmg qmz qnc qnt qld nb cl gr sp ot na aw nx bg bb ab u.2.2.2.1 u.2.2.2.2 u.2.2.1 u.1 u.2.1 fm en nu td lf lk)) := by
  refine wk_methI (own := R_Md) [(0, .ref (m 0)), (1, .long (x))] (by decide) rfl (Nat.le_of_ble_eq_true rfl) rfl (gX_ok z) (fun p_ e_ R_ s_ m_ ar_ be_ me_ co_ Q_ A_ hR_ S_ hnm_ hQ_ => ?_)
  refine wk_iconst (pc := 0) (v := (nI (0))) S_ d_Md_pack_0 (by decide) ?_
  refine wk_istore_n (pc := 1) (lv' := [(3, .int (nI (0))), (0, .ref (m 0)), (1, .long (x))]) S_ d_Md_pack_1 rfl (by decide) rfl ?_
  refine wk_lconst (pc := 2) (v := (lN (1))) S_ d_Md_pack_2 (by decide) ?_
  refine wk_lstore (pc := 3) (lv' := [(4, .long (lN (1))), (3, .int (nI (0))), (0, .ref (m 0)), (1, .long (x))]) S_ d_Md_pack_3 (by decide) rfl ?_
  refine wk_iconst (pc := 5) (v := (nI (0))) S_ d_Md_pack_5 (by decide) ?_
  refine wk_istore (pc := 6) (lv' := [(6, .int (nI (0))), (4, .long (lN (1))), (3, .int (nI (0))), (0, .ref (m 0)), (1, .long (x))]) S_ d_Md_pack_6 (by decide) rfl ?_
  have hL8 : ∀ (fuel8 : Nat), ∀ (k : Nat), 8 - k < fuel8 → (k ≤ 8) → wk_G p_ l e_ R_ s_ m_ ar_ be_ me_ co_ Q_ D A_ 9 0 0 (wMd m cI tx sz ap pt rk cd fr mc mg mz nc nt ld qap qpt qrk qcd qfr qmc qmg qmz qnc qnt qld nb cl gr sp ot na aw nx bg bb ab fd pv bx (cpN k (wyI ot cl nb) wy) ((pkL ot cl nb li k).1) fm en nu td lf lk) 8 [(0, .ref (m 0)), (1, .long (x)), (3, .int (nI ((pkL ot cl nb li k).2))), (4, .long (lN (nx ^ (pkL ot cl nb li k).2))), (6, .int (nI (k)))] [] := by
    intro fuel8
    induction fuel8 with
    | zero => intro k hm; exact absurd hm (Nat.not_lt_zero _)
    | succ fuel8 ih8 =>
      intro k hm hk
      refine wk_iload (pc := 8) S_ 4 d_Md_pack_8 rfl ?_
      refine wk_bipush (pc := 10) (v := (nI (8))) S_ d_Md_pack_10 (by decide) ?_
      refine wk_icmp_geN (pc := 12) (tgt := 76) S_ d_Md_pack_12 (by decide) (by omega) (by omega) (fun h12 => ?_) (fun h12 => ?_)
      · -- taken
        have hk8 : k = 8 := by omega
        subst hk8
        have hP8 := pkL_ok (ot := ot) (cl := cl) (nb := nb) hli 8 (by omega)
        have hpw := p58 (nx := nx) (n := (pkL ot cl nb li 8).2) hnx hP8.1
        refine wk_ext (f := zF (cpN 8 (wyI ot cl nb) wy)) (g := zF (wyI ot cl nb)) (ws' := (wMd m cI tx sz ap pt rk cd fr mc mg mz nc nt ld qap qpt qrk qcd qfr qmc qmg qmz qnc qnt qld nb cl gr sp ot na aw nx bg bb ab fd pv bx (wyI ot cl nb) ((pkL ot cl nb li 8).1) fm en nu td lf lk)) 31 rfl (fun j hj => by unfold zF; rw [cp_in (by omega)]) rfl ?_
        refine wk_lload (pc := 76) S_ 3 d_Md_pack_76 rfl ?_
        refine wk_lload_n (pc := 78) S_ 1 d_Md_pack_78 rfl rfl ?_
        refine wk_lcmp (pc := 79) S_ d_Md_pack_79 ?_
        refine wk_cmp_gt (pc := 80) (tgt := 90) S_ d_Md_pack_80 (by decide) (fun h80 => ?_) (fun h80 => ?_)
        · -- taken
          refine wk_iconst (pc := 90) (v := (-1)) S_ d_Md_pack_90 (by decide) ?_
          exact hQ_ (-1) (wyI ot cl nb, (pkL ot cl nb li 8).1, bx, fd, pv) d_Md_pack_91 rfl ⟨rfl, by rw [pkS, if_pos (Or.inl h80)]⟩
        · -- on
          refine wk_lload (pc := 83) S_ 3 d_Md_pack_83 rfl ?_
          refine wk_lconst (pc := 85) (v := (lN (0))) S_ d_Md_pack_85 (by decide) ?_
          refine wk_lcmp (pc := 86) S_ d_Md_pack_86 ?_
          refine wk_cmp_neN (pc := 87) (tgt := 92) S_ d_Md_pack_87 (by decide) (by omega) (by omega) (fun h87 => ?_) (fun h87 => ?_)
          · -- taken
            have hnz : (pkL ot cl nb li 8).2 = 0 ∨ 0 < nx := by by_cases z : (pkL ot cl nb li 8).2 = 0; exact Or.inl z; right; rcases Nat.eq_zero_or_pos nx with y | y; rw [y, Nat.zero_pow (by omega)] at h87; exact absurd rfl h87; exact y
            refine wk_iconst (pc := 92) (v := (-1)) S_ d_Md_pack_92 (by decide) ?_
            refine wk_top (y := (zI (0))) zI_0.symm ?_
            refine wk_istore (pc := 93) (lv' := [(6, .int (zI (0))), (0, .ref (m 0)), (1, .long (x)), (3, .int (nI ((pkL ot cl nb li 8).2))), (4, .long (lN (nx ^ (pkL ot cl nb li 8).2)))]) S_ d_Md_pack_93 (by decide) rfl ?_
            refine wk_iconst (pc := 95) (v := (nI (1))) S_ d_Md_pack_95 (by decide) ?_
            refine wk_top (y := (bI (true))) rfl ?_
            refine wk_istore (pc := 96) (lv' := [(7, .int (bI (true))), (6, .int (zI (0))), (0, .ref (m 0)), (1, .long (x)), (3, .int (nI ((pkL ot cl nb li 8).2))), (4, .long (lN (nx ^ (pkL ot cl nb li 8).2)))]) S_ d_Md_pack_96 (by decide) rfl ?_
            have hL98 : ∀ (fuel98 : Nat), ∀ (f : Nat) (w : Nat → Nat) (best : Nat) (b1 : Nat → Nat) (fd1 : Bool) (pv1 : Bool) (mo : Bool), (if mo = true then muS (pkL ot cl nb li 8).1 nx (pkL ot cl nb li 8).2 w + 1 else 0) < fuel98 → ((if mo = true then pkR (kpF ap cl gr bg bb ab nb nx) nb (pkL ot cl nb li 8).1 nx (pkL ot cl nb li 8).2 f w (best, b1) else (best, b1)) = pkA ap cl gr bg bb ab ot nb nx li bx) → (mo = true → muS (pkL ot cl nb li 8).1 nx (pkL ot cl nb li 8).2 w < f) → (∀ b, w b ≤ nx ∨ (pkL ot cl nb li 8).2 = 0) → (∀ b, w b ≤ 5) → (∀ b, w b = 0 ↔ wyI ot cl nb b = 0) → (best ≤ 9) → ((best = 0 ∧ fd1 = fd ∧ pv1 = pv ∧ b1 = bx) ∨ (best ≠ 0 ∧ fd1 = true ∧ pv1 = true)) → wk_G p_ l e_ R_ s_ m_ ar_ be_ me_ co_ Q_ D A_ 9 0 0 (wMd m cI tx sz ap pt rk cd fr mc mg mz nc nt ld qap qpt qrk qcd qfr qmc qmg qmz qnc qnt qld nb cl gr sp ot na aw nx bg bb ab fd1 pv1 b1 w ((pkL ot cl nb li 8).1) fm en nu td lf lk) 98 [(0, .ref (m 0)), (3, .int (nI ((pkL ot cl nb li 8).2))), (6, .int (zI (best))), (7, .int (bI (mo)))] [] := by
              intro fuel98
              induction fuel98 with
              | zero => intro f w best b1 fd1 pv1 mo hm98; exact absurd hm98 (Nat.not_lt_zero _)
              | succ fuel98 ih98 =>
                intro f w best b1 fd1 pv1 mo hm98 hE hf hw5 hw6 hw0 hbest hfd
                refine wk_iload (pc := 98) S_ 3 d_Md_pack_98 rfl ?_
                refine wk_if_eqB (pc := 100) (tgt := 192) S_ d_Md_pack_100 (by decide) (fun h100 => ?_) (fun h100 => ?_)
                · -- taken
                  refine wk_iload (pc := 192) S_ 2 d_Md_pack_192 rfl ?_
                  exact hQ_ (zI (best)) (w, (pkL ot cl nb li 8).1, b1, fd1, pv1) d_Md_pack_194 rfl (by subst h100; rw [if_neg (by decide)] at hE; refine ⟨rfl, ?_⟩; rw [pkS, if_neg (fun z => by rcases z with z | z; exact h80 z; exact h87 z), ← hE]; rcases hfd with ⟨z, z1, z2, z3⟩ | ⟨z, z1, z2⟩; rw [if_pos z, z, z1, z2, z3, zI_0]; rw [if_neg z, z1, z2])
                · -- on
                  subst h100
                  have hwl : ∀ j, j < (pkL ot cl nb li 8).2 → w ((pkL ot cl nb li 8).1 j) ≠ 0 := fun j hj z => by have h1 := (hw0 _).mp z; rw [(hP8.2.2.1 j hj).2] at h1; cases h1
                  have hwc : ∀ b, b < nb → w b ≠ 0 → cl b ≠ 0 := fun b _ hb0 => by have h7 := (not_congr (hw0 b)).mp hb0; by_cases z : b < nb ∧ ot b = false ∧ cl b ≠ 0; exact z.2.2; exact absurd (if_neg z) h7
                  refine wk_iload (pc := 103) S_ 2 d_Md_pack_103 rfl ?_
                  refine wk_if_ltY (pc := 105) (tgt := 121) S_ d_Md_pack_105 (by decide) (by omega) (fun h105 => ?_) (fun h105 => ?_)
                  · -- taken
                    refine wk_aload_n (pc := 121) S_ 0 d_Md_pack_121 rfl rfl ?_
                    refine wk_aload_n (pc := 122) S_ 0 d_Md_pack_122 rfl rfl ?_
                    refine wk_get (pc := 123) (v := .ref (m 31)) S_ 6 38 0 in_Md rfl (by decide) rfl fl_Md_102 d_Md_pack_123 rfl rfl ?_
                    refine wk_run (pc := 126) (rest := []) (wr := []) (wN := fun _ => (wMd m cI tx sz ap pt rk cd fr mc mg mz nc nt ld qap qpt qrk qcd qfr qmc qmg qmz qnc qnt qld nb cl gr sp ot na aw nx bg bb ab fd1 pv1 b1 w ((pkL ot cl nb li 8).1) fm en nu td lf lk)) S_ (wk_rV S_ (c_Md_keeps_wy l D cI z (m) (tx) (sz) (ap) (pt) (rk) (cd) (fr) (mc) (mg) (mz) (nc) (nt) (ld) (qap) (qpt) (qrk) (qcd) (qfr) (qmc) (qmg) (qmz) (qnc) (qnt) (qld) (nb) (cl) (gr) (sp) (ot) (na) (aw) (nx) (bg) (bb) (ab) (fd1) (pv1) (b1) (w) ((pkL ot cl nb li 8).1) (fm) (en) (nu) (td) (lf) (lk) (by omega) (by omega) hgr hcl hw6 hwc hbg hbb hab) mv_Md_235 (wk_rcv S_ 0 6 rfl rfl rfl) rfl rfl (Nat.le_of_ble_eq_true rfl) (by rw [hR_]; decide) (by rw [hR_]; decide) d_Md_pack_126) [0, 1, 2, 3, 4, 5, 6, 7, 8, 9, 10, 11, 12, 13, 14, 15, 16, 17, 18, 19, 20, 21, 22, 23, 24, 25, 26, 27, 28, 29, 30, 31, 32, 33] [] [0, 1, 2, 3, 4, 5, 6, 7, 8, 9, 10, 11, 12, 13, 14, 15, 16, 17, 18, 19, 20, 21, 22, 23, 24, 25, 26, 27, 28, 29, 30, 31, 32, 33] rfl rfl rfl (by decide) (by decide) (by decide) (by decide) (fun _ => rfl) (fun _ => rfl) (fun r126 _ hw126 => ?_)
                    refine wk_st (st' := [.int (r126)]) rfl ?_
                    refine wk_top (y := (bI (kpB (ap) (cl) (gr) (w) (bg) (bb) (ab) (nb) (nx)))) hw126 ?_
                    refine wk_if_eqB (pc := 129) (tgt := 182) S_ d_Md_pack_129 (by decide) (fun h129 => ?_) (fun h129 => ?_)
                    · -- taken
                      refine wk_aload_n (pc := 182) S_ 0 d_Md_pack_182 rfl rfl ?_
                      refine wk_iload_n (pc := 183) S_ 1 d_Md_pack_183 rfl rfl ?_
                      refine wk_run (pc := 184) (rest := []) (wr := []) (wN := fun _ => (wMd m cI tx sz ap pt rk cd fr mc mg mz nc nt ld qap qpt qrk qcd qfr qmc qmg qmz qnc qnt qld nb cl gr sp ot na aw nx bg bb ab fd1 pv1 b1 ((trS ((pkL ot cl nb li 8).1) (nx) ((pkL ot cl nb li 8).2) (w)).1) ((pkL ot cl nb li 8).1) fm en nu td lf lk)) S_ (wk_rV S_ (c_Md_turn l D cI z (m) (tx) (sz) (ap) (pt) (rk) (cd) (fr) (mc) (mg) (mz) (nc) (nt) (ld) (qap) (qpt) (qrk) (qcd) (qfr) (qmc) (qmg) (qmz) (qnc) (qnt) (qld) (nb) (cl) (gr) (sp) (ot) (na) (aw) (nx) (bg) (bb) (ab) (fd1) (pv1) (b1) (w) ((pkL ot cl nb li 8).1) (fm) (en) (nu) (td) (lf) (lk) ((pkL ot cl nb li 8).2) hP8.1 ⟨hnz, hnx⟩ hP8.2.1 hw6 hwl) mv_Md_242 (wk_rcv S_ 0 6 rfl rfl rfl) rfl rfl (Nat.le_of_ble_eq_true rfl) (by rw [hR_]; decide) (by rw [hR_]; decide) d_Md_pack_184) [0, 1, 2, 3, 4, 5, 6, 7, 8, 9, 10, 11, 12, 13, 14, 15, 16, 17, 18, 19, 20, 21, 22, 23, 24, 25, 26, 27, 28, 29, 30, 31, 32, 33] [] [0, 1, 2, 3, 4, 5, 6, 7, 8, 9, 10, 11, 12, 13, 14, 15, 16, 17, 18, 19, 20, 21, 22, 23, 24, 25, 26, 27, 28, 29, 30, 31, 32, 33] rfl rfl rfl (by decide) (by decide) (by decide) (by decide) (fun _ => rfl) (fun _ => rfl) (fun r184 _ hw184 => ?_)
                      refine wk_st (st' := [.int (r184)]) rfl ?_
                      refine wk_top (y := (bI ((trS ((pkL ot cl nb li 8).1) (nx) ((pkL ot cl nb li 8).2) (w)).2))) hw184 ?_
                      refine wk_istore (pc := 187) (lv' := [(7, .int (bI ((trS ((pkL ot cl nb li 8).1) (nx) ((pkL ot cl nb li 8).2) (w)).2))), (0, .ref (m 0)), (3, .int (nI ((pkL ot cl nb li 8).2))), (6, .int (zI (best)))]) S_ d_Md_pack_187 (by decide) rfl ?_
                      refine wk_goto (pc := 189) (tgt := 98) S_ d_Md_pack_189 (by decide) ?_
                      obtain ⟨r, rfl⟩ : ∃ r, f = r + 1 := ⟨f - 1, by have := hf rfl; omega⟩
                      have hst : stB (kpF ap cl gr bg bb ab nb nx) nb w best b1 = (best, b1) := if_neg (fun z => absurd (show kpB ap cl gr w bg bb ab nb nx = true from z.2) (by rw [h129]; decide))
                      have hmu : (trS (pkL ot cl nb li 8).1 nx (pkL ot cl nb li 8).2 w).2 = true → muS (pkL ot cl nb li 8).1 nx (pkL ot cl nb li 8).2 (trS (pkL ot cl nb li 8).1 nx (pkL ot cl nb li 8).2 w).1 + 1 = muS (pkL ot cl nb li 8).1 nx (pkL ot cl nb li 8).2 w := trS_mu (pkL ot cl nb li 8).2 w (fun j i h1 h2 => Nat.ne_of_lt (hP8.2.2.2 j i h1 h2)) (fun j hj => ⟨Nat.pos_of_ne_zero (hwl j hj), by rcases hw5 ((pkL ot cl nb li 8).1 j) with z | z; exact z; omega⟩)
                      have htr := trS_ok2 (li := (pkL ot cl nb li 8).1) (pkL ot cl nb li 8).2 w hnz hw5 hw0 hwl
                      refine wk_lv [1, 2, 3, 0] ?_ (ih98 (r) ((trS ((pkL ot cl nb li 8).1) (nx) ((pkL ot cl nb li 8).2) (w)).1) (best) (b1) (fd1) (pv1) ((trS ((pkL ot cl nb li 8).1) (nx) ((pkL ot cl nb li 8).2) (w)).2) (by rw [if_pos rfl] at hm98; split; rename_i z; have h1 := hmu z; omega; omega) (by rw [← hE, if_pos rfl, pkR_s, hst]) (fun z => by have h1 := hmu z; have h2 := hf rfl; omega) htr.1 (fun b => by rcases htr.1 b with z | z; omega; rw [z]; exact hw6 b) htr.2 (by have := (usS_le hw6 nb).2; omega) hfd)
                      rfl
                    · -- on
                      refine wk_aload_n (pc := 132) S_ 0 d_Md_pack_132 rfl rfl ?_
                      refine wk_aload_n (pc := 133) S_ 0 d_Md_pack_133 rfl rfl ?_
                      refine wk_get (pc := 134) (v := .ref (m 31)) S_ 6 38 0 in_Md rfl (by decide) rfl fl_Md_102 d_Md_pack_134 rfl rfl ?_
                      refine wk_run (pc := 137) (rest := []) (wr := []) (wN := fun _ => (wMd m cI tx sz ap pt rk cd fr mc mg mz nc nt ld qap qpt qrk qcd qfr qmc qmg qmz qnc qnt qld nb cl gr sp ot na aw nx bg bb ab fd1 pv1 b1 w ((pkL ot cl nb li 8).1) fm en nu td lf lk)) S_ (wk_rV S_ (c_Md_used_wy l D cI z (m) (tx) (sz) (ap) (pt) (rk) (cd) (fr) (mc) (mg) (mz) (nc) (nt) (ld) (qap) (qpt) (qrk) (qcd) (qfr) (qmc) (qmg) (qmz) (qnc) (qnt) (qld) (nb) (cl) (gr) (sp) (ot) (na) (aw) (nx) (bg) (bb) (ab) (fd1) (pv1) (b1) (w) ((pkL ot cl nb li 8).1) (fm) (en) (nu) (td) (lf) (lk) (by omega) hw6) mv_Md_231 (wk_rcv S_ 0 6 rfl rfl rfl) rfl rfl (Nat.le_of_ble_eq_true rfl) (by rw [hR_]; decide) (by rw [hR_]; decide) d_Md_pack_137) [0, 1, 2, 3, 4, 5, 6, 7, 8, 9, 10, 11, 12, 13, 14, 15, 16, 17, 18, 19, 20, 21, 22, 23, 24, 25, 26, 27, 28, 29, 30, 31, 32, 33] [] [0, 1, 2, 3, 4, 5, 6, 7, 8, 9, 10, 11, 12, 13, 14, 15, 16, 17, 18, 19, 20, 21, 22, 23, 24, 25, 26, 27, 28, 29, 30, 31, 32, 33] rfl rfl rfl (by decide) (by decide) (by decide) (by decide) (fun _ => rfl) (fun _ => rfl) (fun r137 _ hw137 => ?_)
                      refine wk_st (st' := [.int (r137)]) rfl ?_
                      refine wk_top (y := (nI ((usS (w) (nb)).2))) hw137 ?_
                      refine wk_top (y := (zI ((usS w nb).2 + 1))) (zI_s _).symm ?_
                      refine wk_istore (pc := 140) (lv' := [(6, .int (zI ((usS w nb).2 + 1))), (0, .ref (m 0)), (3, .int (nI ((pkL ot cl nb li 8).2))), (7, .int (bI (true)))]) S_ d_Md_pack_140 (by decide) rfl ?_
                      refine wk_iconst (pc := 142) (v := (nI (0))) S_ d_Md_pack_142 (by decide) ?_
                      refine wk_istore (pc := 143) (lv' := [(8, .int (nI (0))), (6, .int (zI ((usS w nb).2 + 1))), (0, .ref (m 0)), (3, .int (nI ((pkL ot cl nb li 8).2))), (7, .int (bI (true)))]) S_ d_Md_pack_143 (by decide) rfl ?_
                      have hL145 : ∀ (fuel145 : Nat), ∀ (j : Nat), 8 - j < fuel145 → (j ≤ 8) → wk_G p_ l e_ R_ s_ m_ ar_ be_ me_ co_ Q_ D A_ 9 0 0 (wMd m cI tx sz ap pt rk cd fr mc mg mz nc nt ld qap qpt qrk qcd qfr qmc qmg qmz qnc qnt qld nb cl gr sp ot na aw nx bg bb ab fd1 pv1 (cpN j w b1) w ((pkL ot cl nb li 8).1) fm en nu td lf lk) 145 [(0, .ref (m 0)), (3, .int (nI ((pkL ot cl nb li 8).2))), (6, .int (zI ((usS w nb).2 + 1))), (7, .int (bI (true))), (8, .int (nI (j)))] [] := by
                        intro fuel145
                        induction fuel145 with
                        | zero => intro j hm; exact absurd hm (Nat.not_lt_zero _)
                        | succ fuel145 ih145 =>
                          intro j hm hj
                          refine wk_iload (pc := 145) S_ 4 d_Md_pack_145 rfl ?_
                          refine wk_bipush (pc := 147) (v := (nI (8))) S_ d_Md_pack_147 (by decide) ?_
                          refine wk_icmp_geN (pc := 149) (tgt := 172) S_ d_Md_pack_149 (by decide) (by omega) (by omega) (fun h149 => ?_) (fun h149 => ?_)
                          · -- taken
                            refine wk_ext (f := zF (cpN j w b1)) (g := zF (w)) (ws' := (wMd m cI tx sz ap pt rk cd fr mc mg mz nc nt ld qap qpt qrk qcd qfr qmc qmg qmz qnc qnt qld nb cl gr sp ot na aw nx bg bb ab fd1 pv1 w w ((pkL ot cl nb li 8).1) fm en nu td lf lk)) 30 rfl (fun j2 hj2 => by unfold zF; rw [cp_in (by omega)]) rfl ?_
                            refine wk_aload_n (pc := 172) S_ 0 d_Md_pack_172 rfl rfl ?_
                            refine wk_iconst (pc := 173) (v := (nI (1))) S_ d_Md_pack_173 (by decide) ?_
                            refine wk_put (pc := 174) (ty := .boolean) (ws' := (wMd m cI tx sz ap pt rk cd fr mc mg mz nc nt ld qap qpt qrk qcd qfr qmc qmg qmz qnc qnt qld nb cl gr sp ot na aw nx bg bb ab true pv1 w w ((pkL ot cl nb li 8).1) fm en nu td lf lk)) S_ 6 35 0 in_Md t_Md t_Md_ok n_Md rfl (by decide) rfl fl_Md_239 (by decide +kernel) d_Md_pack_174 rfl rfl rfl (Nat.le_of_ble_eq_true rfl) rfl ?_
                            refine wk_aload_n (pc := 177) S_ 0 d_Md_pack_177 rfl rfl ?_
                            refine wk_iconst (pc := 178) (v := (nI (1))) S_ d_Md_pack_178 (by decide) ?_
                            refine wk_put (pc := 179) (ty := .boolean) (ws' := (wMd m cI tx sz ap pt rk cd fr mc mg mz nc nt ld qap qpt qrk qcd qfr qmc qmg qmz qnc qnt qld nb cl gr sp ot na aw nx bg bb ab true true w w ((pkL ot cl nb li 8).1) fm en nu td lf lk)) S_ 6 36 0 in_Md t_Md t_Md_ok n_Md rfl (by decide) rfl fl_Md_130 (by decide +kernel) d_Md_pack_179 rfl rfl rfl (Nat.le_of_ble_eq_true rfl) rfl ?_
                            refine wk_aload_n (pc := 182) S_ 0 d_Md_pack_182 rfl rfl ?_
                            refine wk_iload_n (pc := 183) S_ 1 d_Md_pack_183 rfl rfl ?_
                            refine wk_run (pc := 184) (rest := []) (wr := []) (wN := fun _ => (wMd m cI tx sz ap pt rk cd fr mc mg mz nc nt ld qap qpt qrk qcd qfr qmc qmg qmz qnc qnt qld nb cl gr sp ot na aw nx bg bb ab true true w ((trS ((pkL ot cl nb li 8).1) (nx) ((pkL ot cl nb li 8).2) (w)).1) ((pkL ot cl nb li 8).1) fm en nu td lf lk)) S_ (wk_rV S_ (c_Md_turn l D cI z (m) (tx) (sz) (ap) (pt) (rk) (cd) (fr) (mc) (mg) (mz) (nc) (nt) (ld) (qap) (qpt) (qrk) (qcd) (qfr) (qmc) (qmg) (qmz) (qnc) (qnt) (qld) (nb) (cl) (gr) (sp) (ot) (na) (aw) (nx) (bg) (bb) (ab) (true) (true) (w) (w) ((pkL ot cl nb li 8).1) (fm) (en) (nu) (td) (lf) (lk) ((pkL ot cl nb li 8).2) hP8.1 ⟨hnz, hnx⟩ hP8.2.1 hw6 hwl) mv_Md_242 (wk_rcv S_ 0 6 rfl rfl rfl) rfl rfl (Nat.le_of_ble_eq_true rfl) (by rw [hR_]; decide) (by rw [hR_]; decide) d_Md_pack_184) [0, 1, 2, 3, 4, 5, 6, 7, 8, 9, 10, 11, 12, 13, 14, 15, 16, 17, 18, 19, 20, 21, 22, 23, 24, 25, 26, 27, 28, 29, 30, 31, 32, 33] [] [0, 1, 2, 3, 4, 5, 6, 7, 8, 9, 10, 11, 12, 13, 14, 15, 16, 17, 18, 19, 20, 21, 22, 23, 24, 25, 26, 27, 28, 29, 30, 31, 32, 33] rfl rfl rfl (by decide) (by decide) (by decide) (by decide) (fun _ => rfl) (fun _ => rfl) (fun r184 _ hw184 => ?_)
                            refine wk_st (st' := [.int (r184)]) rfl ?_
                            refine wk_top (y := (bI ((trS ((pkL ot cl nb li 8).1) (nx) ((pkL ot cl nb li 8).2) (w)).2))) hw184 ?_
                            refine wk_istore (pc := 187) (lv' := [(7, .int (bI ((trS ((pkL ot cl nb li 8).1) (nx) ((pkL ot cl nb li 8).2) (w)).2))), (0, .ref (m 0)), (3, .int (nI ((pkL ot cl nb li 8).2))), (6, .int (zI ((usS w nb).2 + 1))), (8, .int (nI (j)))]) S_ d_Md_pack_187 (by decide) rfl ?_
                            refine wk_goto (pc := 189) (tgt := 98) S_ d_Md_pack_189 (by decide) ?_
                            obtain ⟨r, rfl⟩ : ∃ r, f = r + 1 := ⟨f - 1, by have := hf rfl; omega⟩
                            have hst : stB (kpF ap cl gr bg bb ab nb nx) nb w best b1 = ((usS w nb).2 + 1, w) := if_pos ⟨Or.inl h105, h129⟩
                            have hmu : (trS (pkL ot cl nb li 8).1 nx (pkL ot cl nb li 8).2 w).2 = true → muS (pkL ot cl nb li 8).1 nx (pkL ot cl nb li 8).2 (trS (pkL ot cl nb li 8).1 nx (pkL ot cl nb li 8).2 w).1 + 1 = muS (pkL ot cl nb li 8).1 nx (pkL ot cl nb li 8).2 w := trS_mu (pkL ot cl nb li 8).2 w (fun j i h1 h2 => Nat.ne_of_lt (hP8.2.2.2 j i h1 h2)) (fun j hj => ⟨Nat.pos_of_ne_zero (hwl j hj), by rcases hw5 ((pkL ot cl nb li 8).1 j) with z | z; exact z; omega⟩)
                            have htr := trS_ok2 (li := (pkL ot cl nb li 8).1) (pkL ot cl nb li 8).2 w hnz hw5 hw0 hwl
                            refine wk_lv [1, 2, 3, 0] ?_ (ih98 (r) ((trS ((pkL ot cl nb li 8).1) (nx) ((pkL ot cl nb li 8).2) (w)).1) ((usS w nb).2 + 1) (w) (true) (true) ((trS ((pkL ot cl nb li 8).1) (nx) ((pkL ot cl nb li 8).2) (w)).2) (by rw [if_pos rfl] at hm98; split; rename_i z; have h1 := hmu z; omega; omega) (by rw [← hE, if_pos rfl, pkR_s, hst]) (fun z => by have h1 := hmu z; have h2 := hf rfl; omega) htr.1 (fun b => by rcases htr.1 b with z | z; omega; rw [z]; exact hw6 b) htr.2 (by have := (usS_le hw6 nb).2; omega) (Or.inr ⟨by omega, rfl, rfl⟩))
                            rfl
                          · -- on
                            refine wk_aload_n (pc := 152) S_ 0 d_Md_pack_152 rfl rfl ?_
                            refine wk_get (pc := 153) (v := .ref (m 30)) S_ 6 37 0 in_Md rfl (by decide) rfl fl_Md_99 d_Md_pack_153 rfl rfl ?_
                            refine wk_iload (pc := 156) S_ 4 d_Md_pack_156 rfl ?_
                            refine wk_aload_n (pc := 158) S_ 0 d_Md_pack_158 rfl rfl ?_
                            refine wk_get (pc := 159) (v := .ref (m 31)) S_ 6 38 0 in_Md rfl (by decide) rfl fl_Md_102 d_Md_pack_159 rfl rfl ?_
                            refine wk_iload (pc := 162) S_ 4 d_Md_pack_162 rfl ?_
                            refine wk_ialdY (pc := 164) (g := w) S_ 31 0 d_Md_pack_164 rfl rfl (by omega) (by decide) ?_
                            refine wk_iastY (pc := 165) (g := cpN j w b1) (ws' := (wMd m cI tx sz ap pt rk cd fr mc mg mz nc nt ld qap qpt qrk qcd qfr qmc qmg qmz qnc qnt qld nb cl gr sp ot na aw nx bg bb ab fd1 pv1 (va_up (cpN j w b1) (j) ((w) (j))) w ((pkL ot cl nb li 8).1) fm en nu td lf lk)) S_ 30 0 d_Md_pack_165 rfl rfl (by omega) (by decide) rfl ?_
                            refine wk_iincN (pc := 166) (d := 1) (lv' := [(8, .int (nI (j + 1))), (0, .ref (m 0)), (3, .int (nI ((pkL ot cl nb li 8).2))), (6, .int (zI ((usS w nb).2 + 1))), (7, .int (bI (true)))]) S_ 4 d_Md_pack_166 (by decide) rfl (by decide) rfl ?_
                            refine wk_goto (pc := 169) (tgt := 145) S_ d_Md_pack_169 (by decide) ?_
                            refine wk_weq (ws' := (wMd m cI tx sz ap pt rk cd fr mc mg mz nc nt ld qap qpt qrk qcd qfr qmc qmg qmz qnc qnt qld nb cl gr sp ot na aw nx bg bb ab fd1 pv1 (cpN (j + 1) w b1) w ((pkL ot cl nb li 8).1) fm en nu td lf lk)) (by rw [cp_up]) ?_
                            refine wk_lv [1, 2, 3, 4, 0] ?_ (ih145 (j + 1) (by omega) (by omega))
                            rfl
                      refine wk_weq (ws' := (wMd m cI tx sz ap pt rk cd fr mc mg mz nc nt ld qap qpt qrk qcd qfr qmc qmg qmz qnc qnt qld nb cl gr sp ot na aw nx bg bb ab fd1 pv1 (cpN 0 w b1) w ((pkL ot cl nb li 8).1) fm en nu td lf lk)) (by rw [← cp_0]) ?_
                      refine wk_lv [2, 3, 1, 4, 0] ?_ (hL145 _ (0) (Nat.lt_succ_self _) (by omega))
                      rfl
                  · -- on
                    refine wk_aload_n (pc := 108) S_ 0 d_Md_pack_108 rfl rfl ?_
                    refine wk_aload_n (pc := 109) S_ 0 d_Md_pack_109 rfl rfl ?_
                    refine wk_get (pc := 110) (v := .ref (m 31)) S_ 6 38 0 in_Md rfl (by decide) rfl fl_Md_102 d_Md_pack_110 rfl rfl ?_
                    refine wk_run (pc := 113) (rest := []) (wr := []) (wN := fun _ => (wMd m cI tx sz ap pt rk cd fr mc mg mz nc nt ld qap qpt qrk qcd qfr qmc qmg qmz qnc qnt qld nb cl gr sp ot na aw nx bg bb ab fd1 pv1 b1 w ((pkL ot cl nb li 8).1) fm en nu td lf lk)) S_ (wk_rV S_ (c_Md_used_wy l D cI z (m) (tx) (sz) (ap) (pt) (rk) (cd) (fr) (mc) (mg) (mz) (nc) (nt) (ld) (qap) (qpt) (qrk) (qcd) (qfr) (qmc) (qmg) (qmz) (qnc) (qnt) (qld) (nb) (cl) (gr) (sp) (ot) (na) (aw) (nx) (bg) (bb) (ab) (fd1) (pv1) (b1) (w) ((pkL ot cl nb li 8).1) (fm) (en) (nu) (td) (lf) (lk) (by omega) hw6) mv_Md_231 (wk_rcv S_ 0 6 rfl rfl rfl) rfl rfl (Nat.le_of_ble_eq_true rfl) (by rw [hR_]; decide) (by rw [hR_]; decide) d_Md_pack_113) [0, 1, 2, 3, 4, 5, 6, 7, 8, 9, 10, 11, 12, 13, 14, 15, 16, 17, 18, 19, 20, 21, 22, 23, 24, 25, 26, 27, 28, 29, 30, 31, 32, 33] [] [0, 1, 2, 3, 4, 5, 6, 7, 8, 9, 10, 11, 12, 13, 14, 15, 16, 17, 18, 19, 20, 21, 22, 23, 24, 25, 26, 27, 28, 29, 30, 31, 32, 33] rfl rfl rfl (by decide) (by decide) (by decide) (by decide) (fun _ => rfl) (fun _ => rfl) (fun r113 _ hw113 => ?_)
                    refine wk_st (st' := [.int (r113)]) rfl ?_
                    refine wk_top (y := (nI ((usS (w) (nb)).2))) hw113 ?_
                    have hu1 := (usS_le hw6 nb).2
                    refine wk_iload (pc := 116) S_ 2 d_Md_pack_116 rfl ?_
                    refine wk_top (y := (nI (best - 1))) (zI_p h105) ?_
                    refine wk_icmp_geN (pc := 118) (tgt := 182) S_ d_Md_pack_118 (by decide) (by omega) (by omega) (fun h118 => ?_) (fun h118 => ?_)
                    · -- taken
                      refine wk_aload_n (pc := 182) S_ 0 d_Md_pack_182 rfl rfl ?_
                      refine wk_iload_n (pc := 183) S_ 1 d_Md_pack_183 rfl rfl ?_
                      refine wk_run (pc := 184) (rest := []) (wr := []) (wN := fun _ => (wMd m cI tx sz ap pt rk cd fr mc mg mz nc nt ld qap qpt qrk qcd qfr qmc qmg qmz qnc qnt qld nb cl gr sp ot na aw nx bg bb ab fd1 pv1 b1 ((trS ((pkL ot cl nb li 8).1) (nx) ((pkL ot cl nb li 8).2) (w)).1) ((pkL ot cl nb li 8).1) fm en nu td lf lk)) S_ (wk_rV S_ (c_Md_turn l D cI z (m) (tx) (sz) (ap) (pt) (rk) (cd) (fr) (mc) (mg) (mz) (nc) (nt) (ld) (qap) (qpt) (qrk) (qcd) (qfr) (qmc) (qmg) (qmz) (qnc) (qnt) (qld) (nb) (cl) (gr) (sp) (ot) (na) (aw) (nx) (bg) (bb) (ab) (fd1) (pv1) (b1) (w) ((pkL ot cl nb li 8).1) (fm) (en) (nu) (td) (lf) (lk) ((pkL ot cl nb li 8).2) hP8.1 ⟨hnz, hnx⟩ hP8.2.1 hw6 hwl) mv_Md_242 (wk_rcv S_ 0 6 rfl rfl rfl) rfl rfl (Nat.le_of_ble_eq_true rfl) (by rw [hR_]; decide) (by rw [hR_]; decide) d_Md_pack_184) [0, 1, 2, 3, 4, 5, 6, 7, 8, 9, 10, 11, 12, 13, 14, 15, 16, 17, 18, 19, 20, 21, 22, 23, 24, 25, 26, 27, 28, 29, 30, 31, 32, 33] [] [0, 1, 2, 3, 4, 5, 6, 7, 8, 9, 10, 11, 12, 13, 14, 15, 16, 17, 18, 19, 20, 21, 22, 23, 24, 25, 26, 27, 28, 29, 30, 31, 32, 33] rfl rfl rfl (by decide) (by decide) (by decide) (by decide) (fun _ => rfl) (fun _ => rfl) (fun r184 _ hw184 => ?_)
                      refine wk_st (st' := [.int (r184)]) rfl ?_
                      refine wk_top (y := (bI ((trS ((pkL ot cl nb li 8).1) (nx) ((pkL ot cl nb li 8).2) (w)).2))) hw184 ?_
                      refine wk_istore (pc := 187) (lv' := [(7, .int (bI ((trS ((pkL ot cl nb li 8).1) (nx) ((pkL ot cl nb li 8).2) (w)).2))), (0, .ref (m 0)), (3, .int (nI ((pkL ot cl nb li 8).2))), (6, .int (zI (best)))]) S_ d_Md_pack_187 (by decide) rfl ?_
                      refine wk_goto (pc := 189) (tgt := 98) S_ d_Md_pack_189 (by decide) ?_
                      obtain ⟨r, rfl⟩ : ∃ r, f = r + 1 := ⟨f - 1, by have := hf rfl; omega⟩
                      have hst : stB (kpF ap cl gr bg bb ab nb nx) nb w best b1 = (best, b1) := if_neg (fun z => by rcases z.1 with z | z; exact h105 z; omega)
                      have hmu : (trS (pkL ot cl nb li 8).1 nx (pkL ot cl nb li 8).2 w).2 = true → muS (pkL ot cl nb li 8).1 nx (pkL ot cl nb li 8).2 (trS (pkL ot cl nb li 8).1 nx (pkL ot cl nb li 8).2 w).1 + 1 = muS (pkL ot cl nb li 8).1 nx (pkL ot cl nb li 8).2 w := trS_mu (pkL ot cl nb li 8).2 w (fun j i h1 h2 => Nat.ne_of_lt (hP8.2.2.2 j i h1 h2)) (fun j hj => ⟨Nat.pos_of_ne_zero (hwl j hj), by rcases hw5 ((pkL ot cl nb li 8).1 j) with z | z; exact z; omega⟩)
                      have htr := trS_ok2 (li := (pkL ot cl nb li 8).1) (pkL ot cl nb li 8).2 w hnz hw5 hw0 hwl
                      refine wk_lv [1, 2, 3, 0] ?_ (ih98 (r) ((trS ((pkL ot cl nb li 8).1) (nx) ((pkL ot cl nb li 8).2) (w)).1) (best) (b1) (fd1) (pv1) ((trS ((pkL ot cl nb li 8).1) (nx) ((pkL ot cl nb li 8).2) (w)).2) (by rw [if_pos rfl] at hm98; split; rename_i z; have h1 := hmu z; omega; omega) (by rw [← hE, if_pos rfl, pkR_s, hst]) (fun z => by have h1 := hmu z; have h2 := hf rfl; omega) htr.1 (fun b => by rcases htr.1 b with z | z; omega; rw [z]; exact hw6 b) htr.2 (by have := (usS_le hw6 nb).2; omega) hfd)
                      rfl
                    · -- on
                      refine wk_aload_n (pc := 121) S_ 0 d_Md_pack_121 rfl rfl ?_
                      refine wk_aload_n (pc := 122) S_ 0 d_Md_pack_122 rfl rfl ?_
                      refine wk_get (pc := 123) (v := .ref (m 31)) S_ 6 38 0 in_Md rfl (by decide) rfl fl_Md_102 d_Md_pack_123 rfl rfl ?_
                      refine wk_run (pc := 126) (rest := []) (wr := []) (wN := fun _ => (wMd m cI tx sz ap pt rk cd fr mc mg mz nc nt ld qap qpt qrk qcd qfr qmc qmg qmz qnc qnt qld nb cl gr sp ot na aw nx bg bb ab fd1 pv1 b1 w ((pkL ot cl nb li 8).1) fm en nu td lf lk)) S_ (wk_rV S_ (c_Md_keeps_wy l D cI z (m) (tx) (sz) (ap) (pt) (rk) (cd) (fr) (mc) (mg) (mz) (nc) (nt) (ld) (qap) (qpt) (qrk) (qcd) (qfr) (qmc) (qmg) (qmz) (qnc) (qnt) (qld) (nb) (cl) (gr) (sp) (ot) (na) (aw) (nx) (bg) (bb) (ab) (fd1) (pv1) (b1) (w) ((pkL ot cl nb li 8).1) (fm) (en) (nu) (td) (lf) (lk) (by omega) (by omega) hgr hcl hw6 hwc hbg hbb hab) mv_Md_235 (wk_rcv S_ 0 6 rfl rfl rfl) rfl rfl (Nat.le_of_ble_eq_true rfl) (by rw [hR_]; decide) (by rw [hR_]; decide) d_Md_pack_126) [0, 1, 2, 3, 4, 5, 6, 7, 8, 9, 10, 11, 12, 13, 14, 15, 16, 17, 18, 19, 20, 21, 22, 23, 24, 25, 26, 27, 28, 29, 30, 31, 32, 33] [] [0, 1, 2, 3, 4, 5, 6, 7, 8, 9, 10, 11, 12, 13, 14, 15, 16, 17, 18, 19, 20, 21, 22, 23, 24, 25, 26, 27, 28, 29, 30, 31, 32, 33] rfl rfl rfl (by decide) (by decide) (by decide) (by decide) (fun _ => rfl) (fun _ => rfl) (fun r126 _ hw126 => ?_)
                      refine wk_st (st' := [.int (r126)]) rfl ?_
                      refine wk_top (y := (bI (kpB (ap) (cl) (gr) (w) (bg) (bb) (ab) (nb) (nx)))) hw126 ?_
                      refine wk_if_eqB (pc := 129) (tgt := 182) S_ d_Md_pack_129 (by decide) (fun h129 => ?_) (fun h129 => ?_)
                      · -- taken
                        refine wk_aload_n (pc := 182) S_ 0 d_Md_pack_182 rfl rfl ?_
                        refine wk_iload_n (pc := 183) S_ 1 d_Md_pack_183 rfl rfl ?_
                        refine wk_run (pc := 184) (rest := []) (wr := []) (wN := fun _ => (wMd m cI tx sz ap pt rk cd fr mc mg mz nc nt ld qap qpt qrk qcd qfr qmc qmg qmz qnc qnt qld nb cl gr sp ot na aw nx bg bb ab fd1 pv1 b1 ((trS ((pkL ot cl nb li 8).1) (nx) ((pkL ot cl nb li 8).2) (w)).1) ((pkL ot cl nb li 8).1) fm en nu td lf lk)) S_ (wk_rV S_ (c_Md_turn l D cI z (m) (tx) (sz) (ap) (pt) (rk) (cd) (fr) (mc) (mg) (mz) (nc) (nt) (ld) (qap) (qpt) (qrk) (qcd) (qfr) (qmc) (qmg) (qmz) (qnc) (qnt) (qld) (nb) (cl) (gr) (sp) (ot) (na) (aw) (nx) (bg) (bb) (ab) (fd1) (pv1) (b1) (w) ((pkL ot cl nb li 8).1) (fm) (en) (nu) (td) (lf) (lk) ((pkL ot cl nb li 8).2) hP8.1 ⟨hnz, hnx⟩ hP8.2.1 hw6 hwl) mv_Md_242 (wk_rcv S_ 0 6 rfl rfl rfl) rfl rfl (Nat.le_of_ble_eq_true rfl) (by rw [hR_]; decide) (by rw [hR_]; decide) d_Md_pack_184) [0, 1, 2, 3, 4, 5, 6, 7, 8, 9, 10, 11, 12, 13, 14, 15, 16, 17, 18, 19, 20, 21, 22, 23, 24, 25, 26, 27, 28, 29, 30, 31, 32, 33] [] [0, 1, 2, 3, 4, 5, 6, 7, 8, 9, 10, 11, 12, 13, 14, 15, 16, 17, 18, 19, 20, 21, 22, 23, 24, 25, 26, 27, 28, 29, 30, 31, 32, 33] rfl rfl rfl (by decide) (by decide) (by decide) (by decide) (fun _ => rfl) (fun _ => rfl) (fun r184 _ hw184 => ?_)
                        refine wk_st (st' := [.int (r184)]) rfl ?_
                        refine wk_top (y := (bI ((trS ((pkL ot cl nb li 8).1) (nx) ((pkL ot cl nb li 8).2) (w)).2))) hw184 ?_
                        refine wk_istore (pc := 187) (lv' := [(7, .int (bI ((trS ((pkL ot cl nb li 8).1) (nx) ((pkL ot cl nb li 8).2) (w)).2))), (0, .ref (m 0)), (3, .int (nI ((pkL ot cl nb li 8).2))), (6, .int (zI (best)))]) S_ d_Md_pack_187 (by decide) rfl ?_
                        refine wk_goto (pc := 189) (tgt := 98) S_ d_Md_pack_189 (by decide) ?_
                        obtain ⟨r, rfl⟩ : ∃ r, f = r + 1 := ⟨f - 1, by have := hf rfl; omega⟩
                        have hst : stB (kpF ap cl gr bg bb ab nb nx) nb w best b1 = (best, b1) := if_neg (fun z => absurd (show kpB ap cl gr w bg bb ab nb nx = true from z.2) (by rw [h129]; decide))
                        have hmu : (trS (pkL ot cl nb li 8).1 nx (pkL ot cl nb li 8).2 w).2 = true → muS (pkL ot cl nb li 8).1 nx (pkL ot cl nb li 8).2 (trS (pkL ot cl nb li 8).1 nx (pkL ot cl nb li 8).2 w).1 + 1 = muS (pkL ot cl nb li 8).1 nx (pkL ot cl nb li 8).2 w := trS_mu (pkL ot cl nb li 8).2 w (fun j i h1 h2 => Nat.ne_of_lt (hP8.2.2.2 j i h1 h2)) (fun j hj => ⟨Nat.pos_of_ne_zero (hwl j hj), by rcases hw5 ((pkL ot cl nb li 8).1 j) with z | z; exact z; omega⟩)
                        have htr := trS_ok2 (li := (pkL ot cl nb li 8).1) (pkL ot cl nb li 8).2 w hnz hw5 hw0 hwl
                        refine wk_lv [1, 2, 3, 0] ?_ (ih98 (r) ((trS ((pkL ot cl nb li 8).1) (nx) ((pkL ot cl nb li 8).2) (w)).1) (best) (b1) (fd1) (pv1) ((trS ((pkL ot cl nb li 8).1) (nx) ((pkL ot cl nb li 8).2) (w)).2) (by rw [if_pos rfl] at hm98; split; rename_i z; have h1 := hmu z; omega; omega) (by rw [← hE, if_pos rfl, pkR_s, hst]) (fun z => by have h1 := hmu z; have h2 := hf rfl; omega) htr.1 (fun b => by rcases htr.1 b with z | z; omega; rw [z]; exact hw6 b) htr.2 (by have := (usS_le hw6 nb).2; omega) hfd)
                        rfl
                      · -- on
                        refine wk_aload_n (pc := 132) S_ 0 d_Md_pack_132 rfl rfl ?_
                        refine wk_aload_n (pc := 133) S_ 0 d_Md_pack_133 rfl rfl ?_
                        refine wk_get (pc := 134) (v := .ref (m 31)) S_ 6 38 0 in_Md rfl (by decide) rfl fl_Md_102 d_Md_pack_134 rfl rfl ?_
                        refine wk_run (pc := 137) (rest := []) (wr := []) (wN := fun _ => (wMd m cI tx sz ap pt rk cd fr mc mg mz nc nt ld qap qpt qrk qcd qfr qmc qmg qmz qnc qnt qld nb cl gr sp ot na aw nx bg bb ab fd1 pv1 b1 w ((pkL ot cl nb li 8).1) fm en nu td lf lk)) S_ (wk_rV S_ (c_Md_used_wy l D cI z (m) (tx) (sz) (ap) (pt) (rk) (cd) (fr) (mc) (mg) (mz) (nc) (nt) (ld) (qap) (qpt) (qrk) (qcd) (qfr) (qmc) (qmg) (qmz) (qnc) (qnt) (qld) (nb) (cl) (gr) (sp) (ot) (na) (aw) (nx) (bg) (bb) (ab) (fd1) (pv1) (b1) (w) ((pkL ot cl nb li 8).1) (fm) (en) (nu) (td) (lf) (lk) (by omega) hw6) mv_Md_231 (wk_rcv S_ 0 6 rfl rfl rfl) rfl rfl (Nat.le_of_ble_eq_true rfl) (by rw [hR_]; decide) (by rw [hR_]; decide) d_Md_pack_137) [0, 1, 2, 3, 4, 5, 6, 7, 8, 9, 10, 11, 12, 13, 14, 15, 16, 17, 18, 19, 20, 21, 22, 23, 24, 25, 26, 27, 28, 29, 30, 31, 32, 33] [] [0, 1, 2, 3, 4, 5, 6, 7, 8, 9, 10, 11, 12, 13, 14, 15, 16, 17, 18, 19, 20, 21, 22, 23, 24, 25, 26, 27, 28, 29, 30, 31, 32, 33] rfl rfl rfl (by decide) (by decide) (by decide) (by decide) (fun _ => rfl) (fun _ => rfl) (fun r137 _ hw137 => ?_)
                        refine wk_st (st' := [.int (r137)]) rfl ?_
                        refine wk_top (y := (nI ((usS (w) (nb)).2))) hw137 ?_
                        refine wk_top (y := (zI ((usS w nb).2 + 1))) (zI_s _).symm ?_
                        refine wk_istore (pc := 140) (lv' := [(6, .int (zI ((usS w nb).2 + 1))), (0, .ref (m 0)), (3, .int (nI ((pkL ot cl nb li 8).2))), (7, .int (bI (true)))]) S_ d_Md_pack_140 (by decide) rfl ?_
                        refine wk_iconst (pc := 142) (v := (nI (0))) S_ d_Md_pack_142 (by decide) ?_
                        refine wk_istore (pc := 143) (lv' := [(8, .int (nI (0))), (6, .int (zI ((usS w nb).2 + 1))), (0, .ref (m 0)), (3, .int (nI ((pkL ot cl nb li 8).2))), (7, .int (bI (true)))]) S_ d_Md_pack_143 (by decide) rfl ?_
                        have hL145 : ∀ (fuel145 : Nat), ∀ (j : Nat), 8 - j < fuel145 → (j ≤ 8) → wk_G p_ l e_ R_ s_ m_ ar_ be_ me_ co_ Q_ D A_ 9 0 0 (wMd m cI tx sz ap pt rk cd fr mc mg mz nc nt ld qap qpt qrk qcd qfr qmc qmg qmz qnc qnt qld nb cl gr sp ot na aw nx bg bb ab fd1 pv1 (cpN j w b1) w ((pkL ot cl nb li 8).1) fm en nu td lf lk) 145 [(0, .ref (m 0)), (3, .int (nI ((pkL ot cl nb li 8).2))), (6, .int (zI ((usS w nb).2 + 1))), (7, .int (bI (true))), (8, .int (nI (j)))] [] := by
                          intro fuel145
                          induction fuel145 with
                          | zero => intro j hm; exact absurd hm (Nat.not_lt_zero _)
                          | succ fuel145 ih145 =>
                            intro j hm hj
                            refine wk_iload (pc := 145) S_ 4 d_Md_pack_145 rfl ?_
                            refine wk_bipush (pc := 147) (v := (nI (8))) S_ d_Md_pack_147 (by decide) ?_
                            refine wk_icmp_geN (pc := 149) (tgt := 172) S_ d_Md_pack_149 (by decide) (by omega) (by omega) (fun h149 => ?_) (fun h149 => ?_)
                            · -- taken
                              refine wk_ext (f := zF (cpN j w b1)) (g := zF (w)) (ws' := (wMd m cI tx sz ap pt rk cd fr mc mg mz nc nt ld qap qpt qrk qcd qfr qmc qmg qmz qnc qnt qld nb cl gr sp ot na aw nx bg bb ab fd1 pv1 w w ((pkL ot cl nb li 8).1) fm en nu td lf lk)) 30 rfl (fun j2 hj2 => by unfold zF; rw [cp_in (by omega)]) rfl ?_
                              refine wk_aload_n (pc := 172) S_ 0 d_Md_pack_172 rfl rfl ?_
                              refine wk_iconst (pc := 173) (v := (nI (1))) S_ d_Md_pack_173 (by decide) ?_
                              refine wk_put (pc := 174) (ty := .boolean) (ws' := (wMd m cI tx sz ap pt rk cd fr mc mg mz nc nt ld qap qpt qrk qcd qfr qmc qmg qmz qnc qnt qld nb cl gr sp ot na aw nx bg bb ab true pv1 w w ((pkL ot cl nb li 8).1) fm en nu td lf lk)) S_ 6 35 0 in_Md t_Md t_Md_ok n_Md rfl (by decide) rfl fl_Md_239 (by decide +kernel) d_Md_pack_174 rfl rfl rfl (Nat.le_of_ble_eq_true rfl) rfl ?_
                              refine wk_aload_n (pc := 177) S_ 0 d_Md_pack_177 rfl rfl ?_
                              refine wk_iconst (pc := 178) (v := (nI (1))) S_ d_Md_pack_178 (by decide) ?_
                              refine wk_put (pc := 179) (ty := .boolean) (ws' := (wMd m cI tx sz ap pt rk cd fr mc mg mz nc nt ld qap qpt qrk qcd qfr qmc qmg qmz qnc qnt qld nb cl gr sp ot na aw nx bg bb ab true true w w ((pkL ot cl nb li 8).1) fm en nu td lf lk)) S_ 6 36 0 in_Md t_Md t_Md_ok n_Md rfl (by decide) rfl fl_Md_130 (by decide +kernel) d_Md_pack_179 rfl rfl rfl (Nat.le_of_ble_eq_true rfl) rfl ?_
                              refine wk_aload_n (pc := 182) S_ 0 d_Md_pack_182 rfl rfl ?_
                              refine wk_iload_n (pc := 183) S_ 1 d_Md_pack_183 rfl rfl ?_
                              refine wk_run (pc := 184) (rest := []) (wr := []) (wN := fun _ => (wMd m cI tx sz ap pt rk cd fr mc mg mz nc nt ld qap qpt qrk qcd qfr qmc qmg qmz qnc qnt qld nb cl gr sp ot na aw nx bg bb ab true true w ((trS ((pkL ot cl nb li 8).1) (nx) ((pkL ot cl nb li 8).2) (w)).1) ((pkL ot cl nb li 8).1) fm en nu td lf lk)) S_ (wk_rV S_ (c_Md_turn l D cI z (m) (tx) (sz) (ap) (pt) (rk) (cd) (fr) (mc) (mg) (mz) (nc) (nt) (ld) (qap) (qpt) (qrk) (qcd) (qfr) (qmc) (qmg) (qmz) (qnc) (qnt) (qld) (nb) (cl) (gr) (sp) (ot) (na) (aw) (nx) (bg) (bb) (ab) (true) (true) (w) (w) ((pkL ot cl nb li 8).1) (fm) (en) (nu) (td) (lf) (lk) ((pkL ot cl nb li 8).2) hP8.1 ⟨hnz, hnx⟩ hP8.2.1 hw6 hwl) mv_Md_242 (wk_rcv S_ 0 6 rfl rfl rfl) rfl rfl (Nat.le_of_ble_eq_true rfl) (by rw [hR_]; decide) (by rw [hR_]; decide) d_Md_pack_184) [0, 1, 2, 3, 4, 5, 6, 7, 8, 9, 10, 11, 12, 13, 14, 15, 16, 17, 18, 19, 20, 21, 22, 23, 24, 25, 26, 27, 28, 29, 30, 31, 32, 33] [] [0, 1, 2, 3, 4, 5, 6, 7, 8, 9, 10, 11, 12, 13, 14, 15, 16, 17, 18, 19, 20, 21, 22, 23, 24, 25, 26, 27, 28, 29, 30, 31, 32, 33] rfl rfl rfl (by decide) (by decide) (by decide) (by decide) (fun _ => rfl) (fun _ => rfl) (fun r184 _ hw184 => ?_)
                              refine wk_st (st' := [.int (r184)]) rfl ?_
                              refine wk_top (y := (bI ((trS ((pkL ot cl nb li 8).1) (nx) ((pkL ot cl nb li 8).2) (w)).2))) hw184 ?_
                              refine wk_istore (pc := 187) (lv' := [(7, .int (bI ((trS ((pkL ot cl nb li 8).1) (nx) ((pkL ot cl nb li 8).2) (w)).2))), (0, .ref (m 0)), (3, .int (nI ((pkL ot cl nb li 8).2))), (6, .int (zI ((usS w nb).2 + 1))), (8, .int (nI (j)))]) S_ d_Md_pack_187 (by decide) rfl ?_
                              refine wk_goto (pc := 189) (tgt := 98) S_ d_Md_pack_189 (by decide) ?_
                              obtain ⟨r, rfl⟩ : ∃ r, f = r + 1 := ⟨f - 1, by have := hf rfl; omega⟩
                              have hst : stB (kpF ap cl gr bg bb ab nb nx) nb w best b1 = ((usS w nb).2 + 1, w) := if_pos ⟨Or.inr (by omega), h129⟩
                              have hmu : (trS (pkL ot cl nb li 8).1 nx (pkL ot cl nb li 8).2 w).2 = true → muS (pkL ot cl nb li 8).1 nx (pkL ot cl nb li 8).2 (trS (pkL ot cl nb li 8).1 nx (pkL ot cl nb li 8).2 w).1 + 1 = muS (pkL ot cl nb li 8).1 nx (pkL ot cl nb li 8).2 w := trS_mu (pkL ot cl nb li 8).2 w (fun j i h1 h2 => Nat.ne_of_lt (hP8.2.2.2 j i h1 h2)) (fun j hj => ⟨Nat.pos_of_ne_zero (hwl j hj), by rcases hw5 ((pkL ot cl nb li 8).1 j) with z | z; exact z; omega⟩)
                              have htr := trS_ok2 (li := (pkL ot cl nb li 8).1) (pkL ot cl nb li 8).2 w hnz hw5 hw0 hwl
                              refine wk_lv [1, 2, 3, 0] ?_ (ih98 (r) ((trS ((pkL ot cl nb li 8).1) (nx) ((pkL ot cl nb li 8).2) (w)).1) ((usS w nb).2 + 1) (w) (true) (true) ((trS ((pkL ot cl nb li 8).1) (nx) ((pkL ot cl nb li 8).2) (w)).2) (by rw [if_pos rfl] at hm98; split; rename_i z; have h1 := hmu z; omega; omega) (by rw [← hE, if_pos rfl, pkR_s, hst]) (fun z => by have h1 := hmu z; have h2 := hf rfl; omega) htr.1 (fun b => by rcases htr.1 b with z | z; omega; rw [z]; exact hw6 b) htr.2 (by have := (usS_le hw6 nb).2; omega) (Or.inr ⟨by omega, rfl, rfl⟩))
                              rfl
                            · -- on
                              refine wk_aload_n (pc := 152) S_ 0 d_Md_pack_152 rfl rfl ?_
                              refine wk_get (pc := 153) (v := .ref (m 30)) S_ 6 37 0 in_Md rfl (by decide) rfl fl_Md_99 d_Md_pack_153 rfl rfl ?_
                              refine wk_iload (pc := 156) S_ 4 d_Md_pack_156 rfl ?_
                              refine wk_aload_n (pc := 158) S_ 0 d_Md_pack_158 rfl rfl ?_
                              refine wk_get (pc := 159) (v := .ref (m 31)) S_ 6 38 0 in_Md rfl (by decide) rfl fl_Md_102 d_Md_pack_159 rfl rfl ?_
                              refine wk_iload (pc := 162) S_ 4 d_Md_pack_162 rfl ?_
                              refine wk_ialdY (pc := 164) (g := w) S_ 31 0 d_Md_pack_164 rfl rfl (by omega) (by decide) ?_
                              refine wk_iastY (pc := 165) (g := cpN j w b1) (ws' := (wMd m cI tx sz ap pt rk cd fr mc mg mz nc nt ld qap qpt qrk qcd qfr qmc qmg qmz qnc qnt qld nb cl gr sp ot na aw nx bg bb ab fd1 pv1 (va_up (cpN j w b1) (j) ((w) (j))) w ((pkL ot cl nb li 8).1) fm en nu td lf lk)) S_ 30 0 d_Md_pack_165 rfl rfl (by omega) (by decide) rfl ?_
                              refine wk_iincN (pc := 166) (d := 1) (lv' := [(8, .int (nI (j + 1))), (0, .ref (m 0)), (3, .int (nI ((pkL ot cl nb li 8).2))), (6, .int (zI ((usS w nb).2 + 1))), (7, .int (bI (true)))]) S_ 4 d_Md_pack_166 (by decide) rfl (by decide) rfl ?_
                              refine wk_goto (pc := 169) (tgt := 145) S_ d_Md_pack_169 (by decide) ?_
                              refine wk_weq (ws' := (wMd m cI tx sz ap pt rk cd fr mc mg mz nc nt ld qap qpt qrk qcd qfr qmc qmg qmz qnc qnt qld nb cl gr sp ot na aw nx bg bb ab fd1 pv1 (cpN (j + 1) w b1) w ((pkL ot cl nb li 8).1) fm en nu td lf lk)) (by rw [cp_up]) ?_
                              refine wk_lv [1, 2, 3, 4, 0] ?_ (ih145 (j + 1) (by omega) (by omega))
                              rfl
                        refine wk_weq (ws' := (wMd m cI tx sz ap pt rk cd fr mc mg mz nc nt ld qap qpt qrk qcd qfr qmc qmg qmz qnc qnt qld nb cl gr sp ot na aw nx bg bb ab fd1 pv1 (cpN 0 w b1) w ((pkL ot cl nb li 8).1) fm en nu td lf lk)) (by rw [← cp_0]) ?_
                        refine wk_lv [2, 3, 1, 4, 0] ?_ (hL145 _ (0) (Nat.lt_succ_self _) (by omega))
                        rfl
            refine wk_lv [2, 4, 1, 0] ?_ (hL98 _ (nx ^ (pkL ot cl nb li 8).2) (wyI ot cl nb) (0) (bx) (fd) (pv) (true) (Nat.lt_succ_self _) rfl (fun _ => muS_lt (pkL ot cl nb li 8).2 (fun j hj => ⟨by rw [(hP8.2.2.1 j hj).2]; decide, by omega⟩)) (fun b => by by_cases z : (pkL ot cl nb li 8).2 = 0; exact Or.inr z; left; unfold wyI; split <;> omega) (fun b => by unfold wyI; split <;> omega) (fun _ => Iff.rfl) (by omega) (Or.inl ⟨rfl, rfl, rfl, rfl⟩))
            rfl
          · -- on
            refine wk_iconst (pc := 90) (v := (-1)) S_ d_Md_pack_90 (by decide) ?_
            exact hQ_ (-1) (wyI ot cl nb, (pkL ot cl nb li 8).1, bx, fd, pv) d_Md_pack_91 rfl ⟨rfl, by rw [pkS, if_pos (Or.inr h87)]⟩
      · -- on
        have hPk := pkL_ok (ot := ot) (cl := cl) (nb := nb) hli k (by omega)
        refine wk_aload_n (pc := 15) S_ 0 d_Md_pack_15 rfl rfl ?_
        refine wk_get (pc := 16) (v := .ref (m 31)) S_ 6 38 0 in_Md rfl (by decide) rfl fl_Md_102 d_Md_pack_16 rfl rfl ?_
        refine wk_iload (pc := 19) S_ 4 d_Md_pack_19 rfl ?_
        refine wk_iconst (pc := 21) (v := (-1)) S_ d_Md_pack_21 (by decide) ?_
        refine wk_iastY0 (pc := 22) (g := cpN k (wyI ot cl nb) wy) (ws' := (wMd m cI tx sz ap pt rk cd fr mc mg mz nc nt ld qap qpt qrk qcd qfr qmc qmg qmz qnc qnt qld nb cl gr sp ot na aw nx bg bb ab fd pv bx (va_up (cpN k (wyI ot cl nb) wy) (k) (0)) ((pkL ot cl nb li k).1) fm en nu td lf lk)) S_ 31 0 d_Md_pack_22 rfl rfl (by omega) (by decide) rfl ?_
        refine wk_iload (pc := 23) S_ 4 d_Md_pack_23 rfl ?_
        refine wk_aload_n (pc := 25) S_ 0 d_Md_pack_25 rfl rfl ?_
        refine wk_get (pc := 26) (v := .int (nI (nb))) S_ 6 24 0 in_Md rfl (by decide) rfl fl_Md_117 d_Md_pack_26 rfl rfl ?_
        refine wk_icmp_geN (pc := 29) (tgt := 70) S_ d_Md_pack_29 (by decide) (by omega) (by omega) (fun h29 => ?_) (fun h29 => ?_)
        · -- taken
          refine wk_iincN (pc := 70) (d := 1) (lv' := [(6, .int (nI (k + 1))), (0, .ref (m 0)), (1, .long (x)), (3, .int (nI ((pkL ot cl nb li k).2))), (4, .long (lN (nx ^ (pkL ot cl nb li k).2)))]) S_ 4 d_Md_pack_70 (by decide) rfl (by decide) rfl ?_
          refine wk_goto (pc := 73) (tgt := 8) S_ d_Md_pack_73 (by decide) ?_
          have hp : ¬ (k < nb ∧ ot k = false ∧ cl k ≠ 0) := fun z => by omega
          have hpk : pkL ot cl nb li (k + 1) = pkL ot cl nb li k := if_neg hp
          refine wk_weq (ws' := (wMd m cI tx sz ap pt rk cd fr mc mg mz nc nt ld qap qpt qrk qcd qfr qmc qmg qmz qnc qnt qld nb cl gr sp ot na aw nx bg bb ab fd pv bx (cpN (k + 1) (wyI ot cl nb) wy) ((pkL ot cl nb li k).1) fm en nu td lf lk)) (by rw [← cp_up k (wyI ot cl nb) wy, show wyI ot cl nb k = 0 from if_neg hp]) ?_
          refine wk_weq (ws' := (wMd m cI tx sz ap pt rk cd fr mc mg mz nc nt ld qap qpt qrk qcd qfr qmc qmg qmz qnc qnt qld nb cl gr sp ot na aw nx bg bb ab fd pv bx (cpN (k + 1) (wyI ot cl nb) wy) ((pkL ot cl nb li (k + 1)).1) fm en nu td lf lk)) (by rw [hpk]) ?_
          refine wk_lveq (lv' := [(6, .int (nI (k + 1))), (0, .ref (m 0)), (1, .long (x)), (3, .int (nI ((pkL ot cl nb li (k + 1)).2))), (4, .long (lN (nx ^ (pkL ot cl nb li k).2)))]) (by rw [hpk]) ?_
          refine wk_lveq (lv' := [(6, .int (nI (k + 1))), (0, .ref (m 0)), (1, .long (x)), (3, .int (nI ((pkL ot cl nb li (k + 1)).2))), (4, .long (lN (nx ^ (pkL ot cl nb li (k + 1)).2)))]) (by rw [hpk]) ?_
          refine wk_lv [1, 2, 3, 4, 0] ?_ (ih8 (k + 1) (by omega) (by omega))
          rfl
        · -- on
          refine wk_aload_n (pc := 32) S_ 0 d_Md_pack_32 rfl rfl ?_
          refine wk_iload (pc := 33) S_ 4 d_Md_pack_33 rfl ?_
          refine wk_run (pc := 35) (rest := []) (wr := []) (wN := fun _ => (wMd m cI tx sz ap pt rk cd fr mc mg mz nc nt ld qap qpt qrk qcd qfr qmc qmg qmz qnc qnt qld nb cl gr sp ot na aw nx bg bb ab fd pv bx (va_up (cpN k (wyI ot cl nb) wy) (k) (0)) ((pkL ot cl nb li k).1) fm en nu td lf lk)) S_ (wk_rV S_ (c_Md_isToBePacked l D cI z (m) (tx) (sz) (ap) (pt) (rk) (cd) (fr) (mc) (mg) (mz) (nc) (nt) (ld) (qap) (qpt) (qrk) (qcd) (qfr) (qmc) (qmg) (qmz) (qnc) (qnt) (qld) (nb) (cl) (gr) (sp) (ot) (na) (aw) (nx) (bg) (bb) (ab) (fd) (pv) (bx) (va_up (cpN k (wyI ot cl nb) wy) (k) (0)) ((pkL ot cl nb li k).1) (fm) (en) (nu) (td) (lf) (lk) (k) (by omega) (by have := hcl k; omega)) mv_Md_228 (wk_rcv S_ 0 6 rfl rfl rfl) rfl rfl (Nat.le_of_ble_eq_true rfl) (by rw [hR_]; decide) (by rw [hR_]; decide) d_Md_pack_35) [0, 1, 2, 3, 4, 5, 6, 7, 8, 9, 10, 11, 12, 13, 14, 15, 16, 17, 18, 19, 20, 21, 22, 23, 24, 25, 26, 27, 28, 29, 30, 31, 32, 33] [] [0, 1, 2, 3, 4, 5, 6, 7, 8, 9, 10, 11, 12, 13, 14, 15, 16, 17, 18, 19, 20, 21, 22, 23, 24, 25, 26, 27, 28, 29, 30, 31, 32, 33] rfl rfl rfl (by decide) (by decide) (by decide) (by decide) (fun _ => rfl) (fun _ => rfl) (fun r35 _ hw35 => ?_)
          refine wk_st (st' := [.int (r35)]) rfl ?_
          refine wk_top (y := (bI (decide ((ot) (k) = false ∧ (cl) (k) ≠ 0)))) hw35 ?_
          refine wk_if_eqB (pc := 38) (tgt := 70) S_ d_Md_pack_38 (by decide) (fun h38 => ?_) (fun h38 => ?_)
          · -- taken
            refine wk_iincN (pc := 70) (d := 1) (lv' := [(6, .int (nI (k + 1))), (0, .ref (m 0)), (1, .long (x)), (3, .int (nI ((pkL ot cl nb li k).2))), (4, .long (lN (nx ^ (pkL ot cl nb li k).2)))]) S_ 4 d_Md_pack_70 (by decide) rfl (by decide) rfl ?_
            refine wk_goto (pc := 73) (tgt := 8) S_ d_Md_pack_73 (by decide) ?_
            have hp : ¬ (k < nb ∧ ot k = false ∧ cl k ≠ 0) := fun z => of_decide_eq_false h38 z.2
            have hpk : pkL ot cl nb li (k + 1) = pkL ot cl nb li k := if_neg hp
            refine wk_weq (ws' := (wMd m cI tx sz ap pt rk cd fr mc mg mz nc nt ld qap qpt qrk qcd qfr qmc qmg qmz qnc qnt qld nb cl gr sp ot na aw nx bg bb ab fd pv bx (cpN (k + 1) (wyI ot cl nb) wy) ((pkL ot cl nb li k).1) fm en nu td lf lk)) (by rw [← cp_up k (wyI ot cl nb) wy, show wyI ot cl nb k = 0 from if_neg hp]) ?_
            refine wk_weq (ws' := (wMd m cI tx sz ap pt rk cd fr mc mg mz nc nt ld qap qpt qrk qcd qfr qmc qmg qmz qnc qnt qld nb cl gr sp ot na aw nx bg bb ab fd pv bx (cpN (k + 1) (wyI ot cl nb) wy) ((pkL ot cl nb li (k + 1)).1) fm en nu td lf lk)) (by rw [hpk]) ?_
            refine wk_lveq (lv' := [(6, .int (nI (k + 1))), (0, .ref (m 0)), (1, .long (x)), (3, .int (nI ((pkL ot cl nb li (k + 1)).2))), (4, .long (lN (nx ^ (pkL ot cl nb li k).2)))]) (by rw [hpk]) ?_
            refine wk_lveq (lv' := [(6, .int (nI (k + 1))), (0, .ref (m 0)), (1, .long (x)), (3, .int (nI ((pkL ot cl nb li (k + 1)).2))), (4, .long (lN (nx ^ (pkL ot cl nb li (k + 1)).2)))]) (by rw [hpk]) ?_
            refine wk_lv [1, 2, 3, 4, 0] ?_ (ih8 (k + 1) (by omega) (by omega))
            rfl
          · -- on
            refine wk_aload_n (pc := 41) S_ 0 d_Md_pack_41 rfl rfl ?_
            refine wk_get (pc := 42) (v := .ref (m 31)) S_ 6 38 0 in_Md rfl (by decide) rfl fl_Md_102 d_Md_pack_42 rfl rfl ?_
            refine wk_iload (pc := 45) S_ 4 d_Md_pack_45 rfl ?_
            refine wk_iconst (pc := 47) (v := (nI (0))) S_ d_Md_pack_47 (by decide) ?_
            refine wk_iastYN (pc := 48) (g := va_up (cpN k (wyI ot cl nb) wy) (k) (0)) (ws' := (wMd m cI tx sz ap pt rk cd fr mc mg mz nc nt ld qap qpt qrk qcd qfr qmc qmg qmz qnc qnt qld nb cl gr sp ot na aw nx bg bb ab fd pv bx (va_up (va_up (cpN k (wyI ot cl nb) wy) (k) (0)) (k) ((0) + 1)) ((pkL ot cl nb li k).1) fm en nu td lf lk)) S_ 31 0 d_Md_pack_48 rfl rfl (by omega) (by decide) rfl ?_
            refine wk_aload_n (pc := 49) S_ 0 d_Md_pack_49 rfl rfl ?_
            refine wk_get (pc := 50) (v := .ref (m 32)) S_ 6 39 0 in_Md rfl (by decide) rfl fl_Md_105 d_Md_pack_50 rfl rfl ?_
            refine wk_iload_n (pc := 53) S_ 2 d_Md_pack_53 rfl rfl ?_
            refine wk_iload (pc := 54) S_ 4 d_Md_pack_54 rfl ?_
            refine wk_iastN (pc := 56) (g := (pkL ot cl nb li k).1) (ws' := (wMd m cI tx sz ap pt rk cd fr mc mg mz nc nt ld qap qpt qrk qcd qfr qmc qmg qmz qnc qnt qld nb cl gr sp ot na aw nx bg bb ab fd pv bx (va_up (va_up (cpN k (wyI ot cl nb) wy) (k) (0)) (k) ((0) + 1)) (va_up ((pkL ot cl nb li k).1) ((pkL ot cl nb li k).2) (k)) fm en nu td lf lk)) S_ 32 0 d_Md_pack_56 rfl rfl (by omega) (by decide) rfl ?_
            refine wk_iincN (pc := 57) (d := 1) (lv' := [(3, .int (nI ((pkL ot cl nb li k).2 + 1))), (0, .ref (m 0)), (1, .long (x)), (4, .long (lN (nx ^ (pkL ot cl nb li k).2))), (6, .int (nI (k)))]) S_ 2 d_Md_pack_57 (by decide) rfl (by decide) rfl ?_
            refine wk_lload (pc := 60) S_ 3 d_Md_pack_60 rfl ?_
            refine wk_aload_n (pc := 62) S_ 1 d_Md_pack_62 rfl rfl ?_
            refine wk_get (pc := 63) (v := .int (nI (nx))) S_ 6 31 0 in_Md rfl (by decide) rfl fl_Md_213 d_Md_pack_63 rfl rfl ?_
            refine wk_i2lN (pc := 66) S_ d_Md_pack_66 (by omega) ?_
            refine wk_lmulN (pc := 67) S_ d_Md_pack_67 ?_
            refine wk_lstore (pc := 68) (lv' := [(4, .long (lN ((nx ^ (pkL ot cl nb li k).2) * (nx)))), (3, .int (nI ((pkL ot cl nb li k).2 + 1))), (0, .ref (m 0)), (1, .long (x)), (6, .int (nI (k)))]) S_ d_Md_pack_68 (by decide) rfl ?_
            refine wk_iincN (pc := 70) (d := 1) (lv' := [(6, .int (nI (k + 1))), (4, .long (lN ((nx ^ (pkL ot cl nb li k).2) * (nx)))), (3, .int (nI ((pkL ot cl nb li k).2 + 1))), (0, .ref (m 0)), (1, .long (x))]) S_ 4 d_Md_pack_70 (by decide) rfl (by decide) rfl ?_
            refine wk_goto (pc := 73) (tgt := 8) S_ d_Md_pack_73 (by decide) ?_
            have hp : k < nb ∧ ot k = false ∧ cl k ≠ 0 := ⟨by omega, of_decide_eq_true h38⟩
            have hpk : pkL ot cl nb li (k + 1) = (va_up (pkL ot cl nb li k).1 (pkL ot cl nb li k).2 k, (pkL ot cl nb li k).2 + 1) := if_pos hp
            refine wk_weq (ws' := (wMd m cI tx sz ap pt rk cd fr mc mg mz nc nt ld qap qpt qrk qcd qfr qmc qmg qmz qnc qnt qld nb cl gr sp ot na aw nx bg bb ab fd pv bx (cpN (k + 1) (wyI ot cl nb) wy) (va_up ((pkL ot cl nb li k).1) ((pkL ot cl nb li k).2) (k)) fm en nu td lf lk)) (by rw [bx_uu, Nat.zero_add, ← cp_up k (wyI ot cl nb) wy, show wyI ot cl nb k = 1 from if_pos hp]) ?_
            refine wk_weq (ws' := (wMd m cI tx sz ap pt rk cd fr mc mg mz nc nt ld qap qpt qrk qcd qfr qmc qmg qmz qnc qnt qld nb cl gr sp ot na aw nx bg bb ab fd pv bx (cpN (k + 1) (wyI ot cl nb) wy) ((pkL ot cl nb li (k + 1)).1) fm en nu td lf lk)) (by rw [hpk]) ?_
            refine wk_lveq (lv' := [(6, .int (nI (k + 1))), (4, .long (lN ((nx ^ (pkL ot cl nb li k).2) * (nx)))), (3, .int (nI ((pkL ot cl nb li (k + 1)).2))), (0, .ref (m 0)), (1, .long (x))]) (by rw [hpk]) ?_
            refine wk_lveq (lv' := [(6, .int (nI (k + 1))), (4, .long (lN (nx ^ (pkL ot cl nb li (k + 1)).2))), (3, .int (nI ((pkL ot cl nb li (k + 1)).2))), (0, .ref (m 0)), (1, .long (x))]) (by rw [hpk]; rw [Nat.pow_succ]) ?_
            refine wk_lv [3, 4, 2, 1, 0] ?_ (ih8 (k + 1) (by omega) (by omega))
            rfl
  refine wk_weq (ws' := (wMd m cI tx sz ap pt rk cd fr mc mg mz nc nt ld qap qpt qrk qcd qfr qmc qmg qmz qnc qnt qld nb cl gr sp ot na aw nx bg bb ab fd pv bx (cpN 0 (wyI ot cl nb) wy) li fm en nu td lf lk)) (by rw [← cp_0]) ?_
  refine wk_lv [3, 4, 2, 1, 0] ?_ (hL8 _ (0) (Nat.lt_succ_self _) (by omega))
  rfl
end
section
theorem d_Ar_fill_0 : decode b_Ar_fill 0 = .ok (.iconst 0, 1) := by decide +kernel
theorem d_Ar_fill_1 : decode b_Ar_fill 1 = .ok (.istore_n 2, 1) := by decide +kernel
theorem d_Ar_fill_2 : decode b_Ar_fill 2 = .ok (.aload_n 0, 1) := by decide +kernel
theorem d_Ar_fill_3 : decode b_Ar_fill 3 = .ok (.arraylength, 1) := by decide +kernel
theorem d_Ar_fill_4 : decode b_Ar_fill 4 = .ok (.istore_n 3, 1) := by decide +kernel
theorem d_Ar_fill_5 : decode b_Ar_fill 5 = .ok (.iload_n 2, 1) := by decide +kernel
theorem d_Ar_fill_6 : decode b_Ar_fill 6 = .ok (.iload_n 3, 1) := by decide +kernel
theorem d_Ar_fill_7 : decode b_Ar_fill 7 = .ok (.if_icmp .ge 13, 3) := by decide +kernel
theorem d_Ar_fill_10 : decode b_Ar_fill 10 = .ok (.aload_n 0, 1) := by decide +kernel
theorem d_Ar_fill_11 : decode b_Ar_fill 11 = .ok (.iload_n 2, 1) := by decide +kernel
theorem d_Ar_fill_12 : decode b_Ar_fill 12 = .ok (.iload_n 1, 1) := by decide +kernel
theorem d_Ar_fill_13 : decode b_Ar_fill 13 = .ok (.iastore, 1) := by decide +kernel
theorem d_Ar_fill_14 : decode b_Ar_fill 14 = .ok (.iinc 2 1, 3) := by decide +kernel
theorem d_Ar_fill_17 : decode b_Ar_fill 17 = .ok (.goto (-12), 3) := by decide +kernel
theorem d_Ar_fill_20 : decode b_Ar_fill 20 = .ok (.return_, 1) := by decide +kernel
set_option maxHeartbeats 4000000 in
set_option maxRecDepth 100000 in
theorem c_Ar_fill (l : Launch) (D : va_G) (cI : CiT) (z : GzT) (a : Nat → Nat) (n : Nat) (f : (Nat → Int32)) (v : Int32) (hn : n < 100000) : wk_C l D (tyK cI) (gX z) y_Ar_fill b_Ar_fill 4 none 0 0 0 0 [.ref (a 0), .int (v)] (wAi a cI n f) wk_v (fun (_ : Unit) (_ : Unit) => True) (fun _ => (wAi a cI n (fun _ => v))) := by
  refine wk_methV (own := R_Ar) [(0, .ref (a 0)), (1, .int (v))] (by decide) rfl (Nat.le_of_ble_eq_true rfl) rfl (gX_ok z) (fun p_ e_ R_ s_ m_ ar_ be_ me_ co_ Q_ A_ hR_ S_ hnm_ hQ_ => ?_)
  refine wk_iconst (pc := 0) (v := (nI (0))) S_ d_Ar_fill_0 (by decide) ?_
  refine wk_istore_n (pc := 1) (lv' := [(2, .int (nI (0))), (0, .ref (a 0)), (1, .int (v))]) S_ d_Ar_fill_1 rfl (by decide) rfl ?_
  refine wk_aload_n (pc := 2) S_ 1 d_Ar_fill_2 rfl rfl ?_
  refine wk_alen (pc := 3) S_ 0 0 d_Ar_fill_3 rfl rfl ?_
  refine wk_top (y := nI n) rfl ?_
  refine wk_istore_n (pc := 4) (lv' := [(3, .int (nI (n))), (2, .int (nI (0))), (0, .ref (a 0)), (1, .int (v))]) S_ d_Ar_fill_4 rfl (by decide) rfl ?_
  have hL5 : ∀ (fuel5 : Nat), ∀ (k : Nat), n - k < fuel5 → (k ≤ n) → wk_G p_ l e_ R_ s_ m_ ar_ be_ me_ co_ Q_ D A_ 4 0 0 (wAi a cI n (fillN k v f)) 5 [(0, .ref (a 0)), (1, .int (v)), (2, .int (nI (k))), (3, .int (nI (n)))] [] := by
    intro fuel5
    induction fuel5 with
    | zero => intro k hm; exact absurd hm (Nat.not_lt_zero _)
    | succ fuel5 ih5 =>
      intro k hm hk
      refine wk_iload_n (pc := 5) S_ 2 d_Ar_fill_5 rfl rfl ?_
      refine wk_iload_n (pc := 6) S_ 3 d_Ar_fill_6 rfl rfl ?_
      refine wk_icmp_geN (pc := 7) (tgt := 20) S_ d_Ar_fill_7 (by decide) (by omega) (by omega) (fun h7 => ?_) (fun h7 => ?_)
      · -- taken
        refine wk_ext (f := fillN k v f) (g := fun _ => v) (ws' := (wAi a cI n (fun _ => v))) 0 rfl (fun j hj => fill_in (by omega)) rfl ?_
        exact hQ_ () d_Ar_fill_20 rfl trivial
      · -- on
        refine wk_aload_n (pc := 10) S_ 0 d_Ar_fill_10 rfl rfl ?_
        refine wk_iload_n (pc := 11) S_ 2 d_Ar_fill_11 rfl rfl ?_
        refine wk_iload_n (pc := 12) S_ 1 d_Ar_fill_12 rfl rfl ?_
        refine wk_iast (pc := 13) (f := fillN k v f) (ws' := (wAi a cI n (upd (fillN k v f) (k) (v)))) S_ 0 0 d_Ar_fill_13 rfl rfl (by omega) (by omega) rfl ?_
        refine wk_iincN (pc := 14) (d := 1) (lv' := [(2, .int (nI (k + 1))), (0, .ref (a 0)), (1, .int (v)), (3, .int (nI (n)))]) S_ 2 d_Ar_fill_14 (by decide) rfl (by decide) rfl ?_
        refine wk_goto (pc := 17) (tgt := 5) S_ d_Ar_fill_17 (by decide) ?_
        refine wk_weq (ws' := (wAi a cI n (fillN (k + 1) v f))) (by rw [show upd (fillN k v f) k v = va_up (fillN k v f) k v from rfl, fill_up]) ?_
        refine wk_lv [1, 2, 0, 3] ?_ (ih5 (k + 1) (by omega) (by omega))
        rfl
  refine wk_weq (ws' := (wAi a cI n (fillN 0 v f))) (by rw [← fill_0]) ?_
  refine wk_lv [2, 3, 1, 0] ?_ (hL5 _ (0) (Nat.lt_succ_self _) (by omega))
  rfl
end
section
theorem go_up {cl gr bx : Nat → Nat} {k : Nat} (h : bx k ≠ 0) (hc : cl k ≠ 0) : va_up (fun c => goN cl gr bx c k) (cl k - 1) (goN cl gr bx (cl k - 1) k + gr k) = fun c => goN cl gr bx c (k + 1) := by
  funext c
  unfold va_up
  rw [goN]
  by_cases e : c = cl k - 1
  · rw [if_pos e, if_pos ⟨h, by omega⟩, e]
  · rw [if_neg e, if_neg (fun z => e (by omega)), Nat.add_zero]
theorem go_no {cl gr bx : Nat → Nat} {k : Nat} (h : bx k = 0) : (fun c => goN cl gr bx c k) = fun c => goN cl gr bx c (k + 1) := by
  funext c
  rw [goN, if_neg (fun z => z.1 h), Nat.add_zero]
theorem tn_max {cd go : Nat → Nat} {k : Nat} (h : 0 < go k) (h1 : tnS cd go k ≤ 5) (h2 : cd k ≤ 5) : (if nI (tnS cd go k) < nI (cd k) then nI (cd k) else nI (tnS cd go k)) = nI (tnS cd go (k + 1)) := by
  rw [tnS]
  by_cases e : tnS cd go k < cd k
  · rw [if_pos (nI_lt e (by omega)), if_pos ⟨h, e⟩]
  · rw [if_neg (nI_nlt (by omega) (by omega)), if_neg (fun z => e z.2)]
theorem fl_Ld_9 : Cond.fieldLink R_Ld 9 R_Ld "gramsOf" "[I" ∈ lw_gd := (gd _ (tb0 _ (List.mem_of_getElem? (i := 158) rfl)) rfl)
theorem mv_Ld_21 : wk_T R_Ld 21 y_Ar_fill b_Ar_fill 4 none 2 := ⟨(gd _ (tb0 _ (List.mem_of_getElem? (i := 118) rfl)) rfl), (gd _ (tb0 _ (List.mem_of_getElem? (i := 5) rfl)) rfl), (gd _ (tb2 _ (List.mem_of_getElem? (i := 26) rfl)) rfl), (by decide +kernel), (gd _ (tb0 _ (List.mem_of_getElem? (i := 117) rfl)) rfl)⟩
theorem fl_Ld_27 : Cond.fieldLink R_Ld 27 R_St "bottles" "I" ∈ lw_gd := (gd _ (tb0 _ (List.mem_of_getElem? (i := 72) rfl)) rfl)
theorem fl_Ld_33 : Cond.fieldLink R_Ld 33 R_St "classes" "[I" ∈ lw_gd := (gd _ (tb0 _ (List.mem_of_getElem? (i := 59) rfl)) rfl)
theorem fl_Ld_36 : Cond.fieldLink R_Ld 36 R_St "grams" "[I" ∈ lw_gd := (gd _ (tb0 _ (List.mem_of_getElem? (i := 63) rfl)) rfl)
theorem d_Ld_gather_0 : decode b_Ld_gather 0 = .ok (.aload_n 0, 1) := by decide +kernel
theorem d_Ld_gather_1 : decode b_Ld_gather 1 = .ok (.getfield 9, 3) := by decide +kernel
theorem d_Ld_gather_4 : decode b_Ld_gather 4 = .ok (.iconst 0, 1) := by decide +kernel
theorem d_Ld_gather_5 : decode b_Ld_gather 5 = .ok (.invokestatic 21, 3) := by decide +kernel
theorem d_Ld_gather_8 : decode b_Ld_gather 8 = .ok (.iconst 0, 1) := by decide +kernel
theorem d_Ld_gather_9 : decode b_Ld_gather 9 = .ok (.istore_n 3, 1) := by decide +kernel
theorem d_Ld_gather_10 : decode b_Ld_gather 10 = .ok (.iload_n 3, 1) := by decide +kernel
theorem d_Ld_gather_11 : decode b_Ld_gather 11 = .ok (.aload_n 1, 1) := by decide +kernel
theorem d_Ld_gather_12 : decode b_Ld_gather 12 = .ok (.getfield 27, 3) := by decide +kernel
theorem d_Ld_gather_15 : decode b_Ld_gather 15 = .ok (.if_icmp .ge 36, 3) := by decide +kernel
theorem d_Ld_gather_18 : decode b_Ld_gather 18 = .ok (.aload_n 2, 1) := by decide +kernel
theorem d_Ld_gather_19 : decode b_Ld_gather 19 = .ok (.iload_n 3, 1) := by decide +kernel
theorem d_Ld_gather_20 : decode b_Ld_gather 20 = .ok (.iaload, 1) := by decide +kernel
theorem d_Ld_gather_21 : decode b_Ld_gather 21 = .ok (.iconst (-1), 1) := by decide +kernel
theorem d_Ld_gather_22 : decode b_Ld_gather 22 = .ok (.if_icmp .eq 23, 3) := by decide +kernel
theorem d_Ld_gather_25 : decode b_Ld_gather 25 = .ok (.aload_n 0, 1) := by decide +kernel
theorem d_Ld_gather_26 : decode b_Ld_gather 26 = .ok (.getfield 9, 3) := by decide +kernel
theorem d_Ld_gather_29 : decode b_Ld_gather 29 = .ok (.aload_n 1, 1) := by decide +kernel
theorem d_Ld_gather_30 : decode b_Ld_gather 30 = .ok (.getfield 33, 3) := by decide +kernel
theorem d_Ld_gather_33 : decode b_Ld_gather 33 = .ok (.iload_n 3, 1) := by decide +kernel
theorem d_Ld_gather_34 : decode b_Ld_gather 34 = .ok (.iaload, 1) := by decide +kernel
theorem d_Ld_gather_35 : decode b_Ld_gather 35 = .ok (.dup2, 1) := by decide +kernel
theorem d_Ld_gather_36 : decode b_Ld_gather 36 = .ok (.iaload, 1) := by decide +kernel
theorem d_Ld_gather_37 : decode b_Ld_gather 37 = .ok (.aload_n 1, 1) := by decide +kernel
theorem d_Ld_gather_38 : decode b_Ld_gather 38 = .ok (.getfield 36, 3) := by decide +kernel
theorem d_Ld_gather_41 : decode b_Ld_gather 41 = .ok (.iload_n 3, 1) := by decide +kernel
theorem d_Ld_gather_42 : decode b_Ld_gather 42 = .ok (.iaload, 1) := by decide +kernel
theorem d_Ld_gather_43 : decode b_Ld_gather 43 = .ok (.iadd, 1) := by decide +kernel
theorem d_Ld_gather_44 : decode b_Ld_gather 44 = .ok (.iastore, 1) := by decide +kernel
theorem d_Ld_gather_45 : decode b_Ld_gather 45 = .ok (.iinc 3 1, 3) := by decide +kernel
theorem d_Ld_gather_48 : decode b_Ld_gather 48 = .ok (.goto (-38), 3) := by decide +kernel
theorem d_Ld_gather_51 : decode b_Ld_gather 51 = .ok (.return_, 1) := by decide +kernel
theorem fl_Ld_51 : Cond.fieldLink R_Ld 51 R_Rl "perThousand" "[I" ∈ lw_gd := (gd _ (tb0 _ (List.mem_of_getElem? (i := 189) rfl)) rfl)
theorem d_Ld_pointsOfClass_0 : decode b_Ld_pointsOfClass 0 = .ok (.aload_n 0, 1) := by decide +kernel
theorem d_Ld_pointsOfClass_1 : decode b_Ld_pointsOfClass 1 = .ok (.getfield 9, 3) := by decide +kernel
theorem d_Ld_pointsOfClass_4 : decode b_Ld_pointsOfClass 4 = .ok (.iload_n 2, 1) := by decide +kernel
theorem d_Ld_pointsOfClass_5 : decode b_Ld_pointsOfClass 5 = .ok (.iaload, 1) := by decide +kernel
theorem d_Ld_pointsOfClass_6 : decode b_Ld_pointsOfClass 6 = .ok (.sipush 999, 3) := by decide +kernel
theorem d_Ld_pointsOfClass_9 : decode b_Ld_pointsOfClass 9 = .ok (.iadd, 1) := by decide +kernel
theorem d_Ld_pointsOfClass_10 : decode b_Ld_pointsOfClass 10 = .ok (.sipush 1000, 3) := by decide +kernel
theorem d_Ld_pointsOfClass_13 : decode b_Ld_pointsOfClass 13 = .ok (.idiv, 1) := by decide +kernel
theorem d_Ld_pointsOfClass_14 : decode b_Ld_pointsOfClass 14 = .ok (.aload_n 1, 1) := by decide +kernel
theorem d_Ld_pointsOfClass_15 : decode b_Ld_pointsOfClass 15 = .ok (.getfield 51, 3) := by decide +kernel
theorem d_Ld_pointsOfClass_18 : decode b_Ld_pointsOfClass 18 = .ok (.iload_n 2, 1) := by decide +kernel
theorem d_Ld_pointsOfClass_19 : decode b_Ld_pointsOfClass 19 = .ok (.iaload, 1) := by decide +kernel
theorem d_Ld_pointsOfClass_20 : decode b_Ld_pointsOfClass 20 = .ok (.imul, 1) := by decide +kernel
theorem d_Ld_pointsOfClass_21 : decode b_Ld_pointsOfClass 21 = .ok (.ireturn, 1) := by decide +kernel
theorem mv_Ld_54 : wk_V R_Ld 54 R_Ld y_Ld_pointsOfClass b_Ld_pointsOfClass 3 (some .int) 2 := ⟨(gd _ (tb2 _ (List.mem_of_getElem? (i := 34) rfl)) rfl), (gd _ (tb0 _ (List.mem_of_getElem? (i := 6) rfl)) rfl), (gd _ (tb2 _ (List.mem_of_getElem? (i := 31) rfl)) rfl), (by decide +kernel), (gd _ (tb2 _ (List.mem_of_getElem? (i := 33) rfl)) rfl), (gd _ (List.mem_append_left _ (by decide +kernel)) rfl)⟩
theorem d_Ld_pointsOfAll_0 : decode b_Ld_pointsOfAll 0 = .ok (.lconst 0, 1) := by decide +kernel
theorem d_Ld_pointsOfAll_1 : decode b_Ld_pointsOfAll 1 = .ok (.lstore_n 2, 1) := by decide +kernel
theorem d_Ld_pointsOfAll_2 : decode b_Ld_pointsOfAll 2 = .ok (.iconst 0, 1) := by decide +kernel
theorem d_Ld_pointsOfAll_3 : decode b_Ld_pointsOfAll 3 = .ok (.istore 4, 2) := by decide +kernel
theorem d_Ld_pointsOfAll_5 : decode b_Ld_pointsOfAll 5 = .ok (.iload 4, 2) := by decide +kernel
theorem d_Ld_pointsOfAll_7 : decode b_Ld_pointsOfAll 7 = .ok (.bipush 9, 2) := by decide +kernel
theorem d_Ld_pointsOfAll_9 : decode b_Ld_pointsOfAll 9 = .ok (.if_icmp .ge 20, 3) := by decide +kernel
theorem d_Ld_pointsOfAll_12 : decode b_Ld_pointsOfAll 12 = .ok (.lload_n 2, 1) := by decide +kernel
theorem d_Ld_pointsOfAll_13 : decode b_Ld_pointsOfAll 13 = .ok (.aload_n 0, 1) := by decide +kernel
theorem d_Ld_pointsOfAll_14 : decode b_Ld_pointsOfAll 14 = .ok (.aload_n 1, 1) := by decide +kernel
theorem d_Ld_pointsOfAll_15 : decode b_Ld_pointsOfAll 15 = .ok (.iload 4, 2) := by decide +kernel
theorem d_Ld_pointsOfAll_17 : decode b_Ld_pointsOfAll 17 = .ok (.invokevirtual 54, 3) := by decide +kernel
theorem d_Ld_pointsOfAll_20 : decode b_Ld_pointsOfAll 20 = .ok (.i2l, 1) := by decide +kernel
theorem d_Ld_pointsOfAll_21 : decode b_Ld_pointsOfAll 21 = .ok (.ladd, 1) := by decide +kernel
theorem d_Ld_pointsOfAll_22 : decode b_Ld_pointsOfAll 22 = .ok (.lstore_n 2, 1) := by decide +kernel
theorem d_Ld_pointsOfAll_23 : decode b_Ld_pointsOfAll 23 = .ok (.iinc 4 1, 3) := by decide +kernel
theorem d_Ld_pointsOfAll_26 : decode b_Ld_pointsOfAll 26 = .ok (.goto (-21), 3) := by decide +kernel
theorem d_Ld_pointsOfAll_29 : decode b_Ld_pointsOfAll 29 = .ok (.lload_n 2, 1) := by decide +kernel
theorem d_Ld_pointsOfAll_30 : decode b_Ld_pointsOfAll 30 = .ok (.lreturn, 1) := by decide +kernel
theorem mv_Ld_58 : wk_V R_Ld 58 R_Ld y_Ld_pointsOfAll b_Ld_pointsOfAll 5 (some .long) 1 := ⟨(gd _ (tb2 _ (List.mem_of_getElem? (i := 30) rfl)) rfl), (gd _ (tb0 _ (List.mem_of_getElem? (i := 6) rfl)) rfl), (gd _ (tb2 _ (List.mem_of_getElem? (i := 43) rfl)) rfl), (by decide +kernel), (gd _ (tb2 _ (List.mem_of_getElem? (i := 28) rfl)) rfl), (gd _ (tb2 _ (List.mem_of_getElem? (i := 29) rfl)) rfl)⟩
theorem fl_Ld_62 : Cond.fieldLink R_Ld 62 R_Rl "free" "I" ∈ lw_gd := (gd _ (tb0 _ (List.mem_of_getElem? (i := 201) rfl)) rfl)
theorem d_Ld_isFree_0 : decode b_Ld_isFree 0 = .ok (.aload_n 0, 1) := by decide +kernel
theorem d_Ld_isFree_1 : decode b_Ld_isFree 1 = .ok (.aload_n 1, 1) := by decide +kernel
theorem d_Ld_isFree_2 : decode b_Ld_isFree 2 = .ok (.invokevirtual 58, 3) := by decide +kernel
theorem d_Ld_isFree_5 : decode b_Ld_isFree 5 = .ok (.aload_n 1, 1) := by decide +kernel
theorem d_Ld_isFree_6 : decode b_Ld_isFree 6 = .ok (.getfield 62, 3) := by decide +kernel
theorem d_Ld_isFree_9 : decode b_Ld_isFree 9 = .ok (.i2l, 1) := by decide +kernel
theorem d_Ld_isFree_10 : decode b_Ld_isFree 10 = .ok (.lcmp, 1) := by decide +kernel
theorem d_Ld_isFree_11 : decode b_Ld_isFree 11 = .ok (.ifCond .gt 7, 3) := by decide +kernel
theorem d_Ld_isFree_14 : decode b_Ld_isFree 14 = .ok (.iconst 1, 1) := by decide +kernel
theorem d_Ld_isFree_15 : decode b_Ld_isFree 15 = .ok (.goto 4, 3) := by decide +kernel
theorem d_Ld_isFree_18 : decode b_Ld_isFree 18 = .ok (.iconst 0, 1) := by decide +kernel
theorem d_Ld_isFree_19 : decode b_Ld_isFree 19 = .ok (.ireturn, 1) := by decide +kernel
theorem fl_Ld_65 : Cond.fieldLink R_Ld 65 R_Rl "codes" "[I" ∈ lw_gd := (gd _ (tb0 _ (List.mem_of_getElem? (i := 193) rfl)) rfl)
theorem ml_Ld_68 : Cond.methodLink R_Ld 68 Lib.Math.max.name ∈ lw_gd := (gd _ (tb2 _ (List.mem_of_getElem? (i := 96) rfl)) rfl)
theorem d_Ld_greatestCode_0 : decode b_Ld_greatestCode 0 = .ok (.iconst 0, 1) := by decide +kernel
theorem d_Ld_greatestCode_1 : decode b_Ld_greatestCode 1 = .ok (.istore_n 2, 1) := by decide +kernel
theorem d_Ld_greatestCode_2 : decode b_Ld_greatestCode 2 = .ok (.iconst 0, 1) := by decide +kernel
theorem d_Ld_greatestCode_3 : decode b_Ld_greatestCode 3 = .ok (.istore_n 3, 1) := by decide +kernel
theorem d_Ld_greatestCode_4 : decode b_Ld_greatestCode 4 = .ok (.iload_n 3, 1) := by decide +kernel
theorem d_Ld_greatestCode_5 : decode b_Ld_greatestCode 5 = .ok (.bipush 9, 2) := by decide +kernel
theorem d_Ld_greatestCode_7 : decode b_Ld_greatestCode 7 = .ok (.if_icmp .ge 29, 3) := by decide +kernel
theorem d_Ld_greatestCode_10 : decode b_Ld_greatestCode 10 = .ok (.aload_n 0, 1) := by decide +kernel
theorem d_Ld_greatestCode_11 : decode b_Ld_greatestCode 11 = .ok (.getfield 9, 3) := by decide +kernel
theorem d_Ld_greatestCode_14 : decode b_Ld_greatestCode 14 = .ok (.iload_n 3, 1) := by decide +kernel
theorem d_Ld_greatestCode_15 : decode b_Ld_greatestCode 15 = .ok (.iaload, 1) := by decide +kernel
theorem d_Ld_greatestCode_16 : decode b_Ld_greatestCode 16 = .ok (.ifCond .le 14, 3) := by decide +kernel
theorem d_Ld_greatestCode_19 : decode b_Ld_greatestCode 19 = .ok (.iload_n 2, 1) := by decide +kernel
theorem d_Ld_greatestCode_20 : decode b_Ld_greatestCode 20 = .ok (.aload_n 1, 1) := by decide +kernel
theorem d_Ld_greatestCode_21 : decode b_Ld_greatestCode 21 = .ok (.getfield 65, 3) := by decide +kernel
theorem d_Ld_greatestCode_24 : decode b_Ld_greatestCode 24 = .ok (.iload_n 3, 1) := by decide +kernel
theorem d_Ld_greatestCode_25 : decode b_Ld_greatestCode 25 = .ok (.iaload, 1) := by decide +kernel
theorem d_Ld_greatestCode_26 : decode b_Ld_greatestCode 26 = .ok (.invokestatic 68, 3) := by decide +kernel
theorem d_Ld_greatestCode_29 : decode b_Ld_greatestCode 29 = .ok (.istore_n 2, 1) := by decide +kernel
theorem d_Ld_greatestCode_30 : decode b_Ld_greatestCode 30 = .ok (.iinc 3 1, 3) := by decide +kernel
theorem d_Ld_greatestCode_33 : decode b_Ld_greatestCode 33 = .ok (.goto (-29), 3) := by decide +kernel
theorem d_Ld_greatestCode_36 : decode b_Ld_greatestCode 36 = .ok (.iload_n 2, 1) := by decide +kernel
theorem d_Ld_greatestCode_37 : decode b_Ld_greatestCode 37 = .ok (.ireturn, 1) := by decide +kernel
set_option maxHeartbeats 4000000 in
set_option maxRecDepth 100000 in
theorem c_Ld_gather (l : Launch) (D : va_G) (cI : CiT) (z : GzT) (a : Nat → Nat) (s : Nat → Nat) (b : Nat → Nat) (go : (Nat → Nat)) (io : (Nat → Nat)) (ct : Nat) (sh : (Nat → Nat)) (wr : Nat) (cl : (Nat → Nat)) (gr : (Nat → Nat)) (sp : (Nat → Nat)) (rs : (Nat → Nat)) (aw : (Nat → Nat)) (nb : Nat) (na : Nat) (bg : (Nat → Nat)) (bb : (Nat → Nat)) (ab : (Nat → Nat)) (nx : Nat) (bx : (Nat → Nat)) (hnb : nb ≤ 8) (hgr : ∀ b, gr b ≤ 100000) (hcl : ∀ b, cl b ≤ 9) (hb : ∀ b, bx b ≤ 5) (hcv : ∀ b, b < nb → bx b ≠ 0 → cl b ≠ 0) : wk_C l D (tyK cI) (gX z) y_Ld_gather b_Ld_gather 4 none 1 23 0 0 [.ref (a 0), .ref (s 0), .ref (b 0)] (wLd a cI go io ct sh wr ++ wSt s cI cl gr sp rs aw nb na bg bb ab nx ++ wBx b cI bx) wk_v (fun (_ : Unit) (_ : Unit) => True) (fun _ => (wLd a cI (fun c => goN cl gr bx c nb) io ct sh wr ++ wSt s cI cl gr sp rs aw nb na bg bb ab nx ++ wBx b cI bx)) := by
  refine wk_methV (own := R_Ld) [(0, .ref (a 0)), (1, .ref (s 0)), (2, .ref (b 0))] (by decide) rfl (Nat.le_of_ble_eq_true rfl) rfl (gX_ok z) (fun p_ e_ R_ s_ m_ ar_ be_ me_ co_ Q_ A_ hR_ S_ hnm_ hQ_ => ?_)
  refine wk_aload_n (pc := 0) S_ 0 d_Ld_gather_0 rfl rfl ?_
  refine wk_get (pc := 1) (v := .ref (a 1)) S_ 4 0 0 in_Ld rfl (by decide) rfl fl_Ld_9 d_Ld_gather_1 rfl rfl ?_
  refine wk_iconst (pc := 4) (v := (nI (0))) S_ d_Ld_gather_4 (by decide) ?_
  refine wk_run (pc := 5) (rest := []) (wr := [(a 0, .inr (4, [.ref (a 1), .ref (a 2), .int (nI (ct)), .ref (a 3), .int (nI (wr))])), (a 2, .inl (cI.1, 9, .inl (nF (io)))), (a 3, .inl (cI.1, 162, .inl (nF (sh)))), (s 0, .inr (2, [.ref (s 1), .ref (s 2), .ref (s 3), .ref (s 4), .ref (s 5), .int (nI (nb)), .int (nI (na)), .ref (s 6), .ref (s 7), .ref (s 8), .int (nI (nx))])), (s 1, .inl (cI.1, 8, .inl (zF (cl)))), (s 2, .inl (cI.1, 8, .inl (nF (gr)))), (s 3, .inl (cI.1, 8, .inl (nF (sp)))), (s 4, .inl (cI.1, 8, .inl (nF (rs)))), (s 5, .inl (cI.1, 8, .inl (nF (aw)))), (s 6, .inl (cI.1, 5, .inl (nF (bg)))), (s 7, .inl (cI.1, 5, .inl (nF (bb)))), (s 8, .inl (cI.1, 5, .inl (nF (ab)))), (b 0, .inl (cI.1, 8, .inl (zF (bx))))]) (wN := fun _ => (wLd a cI (fun _ => 0) io ct sh wr ++ wSt s cI cl gr sp rs aw nb na bg bb ab nx ++ wBx b cI bx)) S_ (wk_rS S_ (c_Ar_fill l D cI z (fun _ => a 1) 9 (nF (go)) (nI (0)) (by decide)) mv_Ld_21 rfl rfl (Nat.le_of_ble_eq_true rfl) (by rw [hR_]; decide) (by rw [hR_]; decide) d_Ld_gather_5) [1] [0, 2, 3, 4, 5, 6, 7, 8, 9, 10, 11, 12, 13] [0, 13, 1, 2, 3, 4, 5, 6, 7, 8, 9, 10, 11, 12] rfl rfl rfl (by decide) (by decide) (by decide) (by decide) (fun _ => rfl) (fun _ => rfl) (fun _ _ _ => ?_)
  refine wk_st (st' := []) rfl ?_
  refine wk_iconst (pc := 8) (v := (nI (0))) S_ d_Ld_gather_8 (by decide) ?_
  refine wk_istore_n (pc := 9) (lv' := [(3, .int (nI (0))), (0, .ref (a 0)), (1, .ref (s 0)), (2, .ref (b 0))]) S_ d_Ld_gather_9 rfl (by decide) rfl ?_
  have hL10 : ∀ (fuel10 : Nat), ∀ (k : Nat), nb - k < fuel10 → (k ≤ nb) → wk_G p_ l e_ R_ s_ m_ ar_ be_ me_ co_ Q_ D A_ 4 0 0 (wLd a cI (fun c => goN cl gr bx c k) io ct sh wr ++ wSt s cI cl gr sp rs aw nb na bg bb ab nx ++ wBx b cI bx) 10 [(0, .ref (a 0)), (1, .ref (s 0)), (2, .ref (b 0)), (3, .int (nI (k)))] [] := by
    intro fuel10
    induction fuel10 with
    | zero => intro k hm; exact absurd hm (Nat.not_lt_zero _)
    | succ fuel10 ih10 =>
      intro k hm hk
      refine wk_iload_n (pc := 10) S_ 3 d_Ld_gather_10 rfl rfl ?_
      refine wk_aload_n (pc := 11) S_ 1 d_Ld_gather_11 rfl rfl ?_
      refine wk_get (pc := 12) (v := .int (nI (nb))) S_ 2 5 4 in_St rfl (by decide) rfl fl_Ld_27 d_Ld_gather_12 rfl rfl ?_
      refine wk_icmp_geN (pc := 15) (tgt := 51) S_ d_Ld_gather_15 (by decide) (by omega) (by omega) (fun h15 => ?_) (fun h15 => ?_)
      · -- taken
        exact hQ_ () d_Ld_gather_51 (by rw [show k = nb by omega]) trivial
      · -- on
        refine wk_aload_n (pc := 18) S_ 2 d_Ld_gather_18 rfl rfl ?_
        refine wk_iload_n (pc := 19) S_ 3 d_Ld_gather_19 rfl rfl ?_
        refine wk_ialdY (pc := 20) (g := bx) S_ 13 0 d_Ld_gather_20 rfl rfl (by omega) (by decide) ?_
        refine wk_iconst (pc := 21) (v := (-1)) S_ d_Ld_gather_21 (by decide) ?_
        have hb1 := hb k
        have hc1 := hcl k
        refine wk_icmp_eqY (pc := 22) (tgt := 45) S_ d_Ld_gather_22 (by decide) (by omega) (fun h22 => ?_) (fun h22 => ?_)
        · -- taken
          refine wk_iincN (pc := 45) (d := 1) (lv' := [(3, .int (nI (k + 1))), (0, .ref (a 0)), (1, .ref (s 0)), (2, .ref (b 0))]) S_ 3 d_Ld_gather_45 (by decide) rfl (by decide) rfl ?_
          refine wk_goto (pc := 48) (tgt := 10) S_ d_Ld_gather_48 (by decide) ?_
          refine wk_weq (ws' := (wLd a cI (fun c => goN cl gr bx c (k + 1)) io ct sh wr ++ wSt s cI cl gr sp rs aw nb na bg bb ab nx ++ wBx b cI bx)) (by rw [go_no h22]) ?_
          refine wk_lv [1, 2, 3, 0] ?_ (ih10 (k + 1) (by omega) (by omega))
          rfl
        · -- on
          have hcv1 := hcv k (by omega) h22
          have hg1 := goN_le (cl := cl) (bx := bx) (c := cl k - 1) hgr k
          have hg2 := hgr k
          refine wk_aload_n (pc := 25) S_ 0 d_Ld_gather_25 rfl rfl ?_
          refine wk_get (pc := 26) (v := .ref (a 1)) S_ 4 0 0 in_Ld rfl (by decide) rfl fl_Ld_9 d_Ld_gather_26 rfl rfl ?_
          refine wk_aload_n (pc := 29) S_ 1 d_Ld_gather_29 rfl rfl ?_
          refine wk_get (pc := 30) (v := .ref (s 1)) S_ 2 0 4 in_St rfl (by decide) rfl fl_Ld_33 d_Ld_gather_30 rfl rfl ?_
          refine wk_iload_n (pc := 33) S_ 3 d_Ld_gather_33 rfl rfl ?_
          refine wk_ialdY (pc := 34) (g := cl) S_ 5 0 d_Ld_gather_34 rfl rfl (by omega) (by decide) ?_
          refine wk_top (y := (nI (cl k - 1))) (zI_p hcv1) ?_
          refine wk_dup2 (pc := 35) S_ d_Ld_gather_35 rfl rfl ?_
          refine wk_ialdN (pc := 36) (g := fun c => goN cl gr bx c k) S_ 1 0 d_Ld_gather_36 rfl rfl (by omega) (by decide) ?_
          refine wk_aload_n (pc := 37) S_ 1 d_Ld_gather_37 rfl rfl ?_
          refine wk_get (pc := 38) (v := .ref (s 2)) S_ 2 1 4 in_St rfl (by decide) rfl fl_Ld_36 d_Ld_gather_38 rfl rfl ?_
          refine wk_iload_n (pc := 41) S_ 3 d_Ld_gather_41 rfl rfl ?_
          refine wk_ialdN (pc := 42) (g := gr) S_ 6 0 d_Ld_gather_42 rfl rfl (by omega) (by decide) ?_
          refine wk_iaddN (pc := 43) S_ d_Ld_gather_43 ?_
          refine wk_iastN (pc := 44) (g := fun c => goN cl gr bx c k) (ws' := (wLd a cI (va_up (fun c => goN cl gr bx c k) (cl k - 1) (((fun c => goN cl gr bx c k) (cl k - 1)) + ((gr) (k)))) io ct sh wr ++ wSt s cI cl gr sp rs aw nb na bg bb ab nx ++ wBx b cI bx)) S_ 1 0 d_Ld_gather_44 rfl rfl (by omega) (by decide) rfl ?_
          refine wk_iincN (pc := 45) (d := 1) (lv' := [(3, .int (nI (k + 1))), (0, .ref (a 0)), (1, .ref (s 0)), (2, .ref (b 0))]) S_ 3 d_Ld_gather_45 (by decide) rfl (by decide) rfl ?_
          refine wk_goto (pc := 48) (tgt := 10) S_ d_Ld_gather_48 (by decide) ?_
          refine wk_weq (ws' := (wLd a cI (fun c => goN cl gr bx c (k + 1)) io ct sh wr ++ wSt s cI cl gr sp rs aw nb na bg bb ab nx ++ wBx b cI bx)) (by rw [go_up h22 hcv1]) ?_
          refine wk_lv [1, 2, 3, 0] ?_ (ih10 (k + 1) (by omega) (by omega))
          rfl
  refine wk_lv [1, 2, 3, 0] ?_ (hL10 _ (0) (Nat.lt_succ_self _) (by omega))
  rfl
set_option maxHeartbeats 4000000 in
set_option maxRecDepth 100000 in
theorem c_Ld_pointsOfClass (l : Launch) (D : va_G) (cI : CiT) (z : GzT) (a : Nat → Nat) (r : Nat → Nat) (go : (Nat → Nat)) (io : (Nat → Nat)) (ct : Nat) (sh : (Nat → Nat)) (wr : Nat) (ap : (Nat → Nat)) (pt : (Nat → Nat)) (rk : (Nat → Nat)) (cd : (Nat → Nat)) (mc : (Nat → Nat)) (mg : (Nat → Nat)) (mz : (Nat → Nat)) (nc : (Nat → Nat)) (nt : (Nat → Nat)) (oc : (Nat → Nat)) (fr : Nat) (c : Nat) (hc : c < 9) (hgo : ∀ c, go c ≤ 800000) : wk_C l D (tyK cI) (gX z) y_Ld_pointsOfClass b_Ld_pointsOfClass 3 (some .int) 0 0 0 0 [.ref (a 0), .ref (r 0), .int (nI (c))] (wLd a cI go io ct sh wr ++ wRl r cI ap pt rk cd mc mg mz nc nt oc fr) wk_i (fun (r : Int32) (_ : Unit) => r = (nI (((go c) + (999)) / (1000) * (pt c)))) (fun _ => (wLd a cI go io ct sh wr ++ wRl r cI ap pt rk cd mc mg mz nc nt oc fr)) := by
  refine wk_methI (own := R_Ld) [(0, .ref (a 0)), (1, .ref (r 0)), (2, .int (nI (c)))] (by decide) rfl (Nat.le_of_ble_eq_true rfl) rfl (gX_ok z) (fun p_ e_ R_ s_ m_ ar_ be_ me_ co_ Q_ A_ hR_ S_ hnm_ hQ_ => ?_)
  refine wk_aload_n (pc := 0) S_ 0 d_Ld_pointsOfClass_0 rfl rfl ?_
  refine wk_get (pc := 1) (v := .ref (a 1)) S_ 4 0 0 in_Ld rfl (by decide) rfl fl_Ld_9 d_Ld_pointsOfClass_1 rfl rfl ?_
  refine wk_iload_n (pc := 4) S_ 2 d_Ld_pointsOfClass_4 rfl rfl ?_
  refine wk_ialdN (pc := 5) (g := go) S_ 1 0 d_Ld_pointsOfClass_5 rfl rfl (by omega) (by decide) ?_
  refine wk_sipush (pc := 6) (v := (nI (999))) S_ d_Ld_pointsOfClass_6 (by decide) ?_
  refine wk_iaddN (pc := 9) S_ d_Ld_pointsOfClass_9 ?_
  refine wk_sipush (pc := 10) (v := (nI (1000))) S_ d_Ld_pointsOfClass_10 (by decide) ?_
  have hg1 := hgo c
  refine wk_idivN (pc := 13) S_ d_Ld_pointsOfClass_13 (by omega) (by omega) (by omega) ?_
  refine wk_aload_n (pc := 14) S_ 1 d_Ld_pointsOfClass_14 rfl rfl ?_
  refine wk_get (pc := 15) (v := .ref (r 2)) S_ 5 1 4 in_Rl rfl (by decide) rfl fl_Ld_51 d_Ld_pointsOfClass_15 rfl rfl ?_
  refine wk_iload_n (pc := 18) S_ 2 d_Ld_pointsOfClass_18 rfl rfl ?_
  refine wk_ialdN (pc := 19) (g := pt) S_ 6 0 d_Ld_pointsOfClass_19 rfl rfl (by omega) (by decide) ?_
  refine wk_imulN (pc := 20) S_ d_Ld_pointsOfClass_20 ?_
  exact hQ_ (nI (((((go) (c)) + (999)) / (1000)) * ((pt) (c)))) () d_Ld_pointsOfClass_21 rfl rfl
set_option maxHeartbeats 4000000 in
set_option maxRecDepth 100000 in
theorem c_Ld_pointsOfAll (l : Launch) (D : va_G) (cI : CiT) (z : GzT) (a : Nat → Nat) (r : Nat → Nat) (go : (Nat → Nat)) (io : (Nat → Nat)) (ct : Nat) (sh : (Nat → Nat)) (wr : Nat) (ap : (Nat → Nat)) (pt : (Nat → Nat)) (rk : (Nat → Nat)) (cd : (Nat → Nat)) (mc : (Nat → Nat)) (mg : (Nat → Nat)) (mz : (Nat → Nat)) (nc : (Nat → Nat)) (nt : (Nat → Nat)) (oc : (Nat → Nat)) (fr : Nat) (hgo : ∀ c, go c ≤ 800000) (hpt : ∀ c, pt c ≤ 1000) : wk_C l D (tyK cI) (gX z) y_Ld_pointsOfAll b_Ld_pointsOfAll 5 (some .long) 1 22 0 0 [.ref (a 0), .ref (r 0)] (wLd a cI go io ct sh wr ++ wRl r cI ap pt rk cd mc mg mz nc nt oc fr) wk_l (fun (r : Int64) (_ : Unit) => r = (lN (ptN pt go 9))) (fun _ => (wLd a cI go io ct sh wr ++ wRl r cI ap pt rk cd mc mg mz nc nt oc fr)) := by
  refine wk_methL (own := R_Ld) [(0, .ref (a 0)), (1, .ref (r 0))] (by decide) rfl (Nat.le_of_ble_eq_true rfl) rfl (gX_ok z) (fun p_ e_ R_ s_ m_ ar_ be_ me_ co_ Q_ A_ hR_ S_ hnm_ hQ_ => ?_)
  refine wk_lconst (pc := 0) (v := (lN (0))) S_ d_Ld_pointsOfAll_0 (by decide) ?_
  refine wk_lstore_n (pc := 1) (lv' := [(2, .long (lN (0))), (0, .ref (a 0)), (1, .ref (r 0))]) S_ d_Ld_pointsOfAll_1 rfl (by decide) rfl ?_
  refine wk_iconst (pc := 2) (v := (nI (0))) S_ d_Ld_pointsOfAll_2 (by decide) ?_
  refine wk_istore (pc := 3) (lv' := [(4, .int (nI (0))), (2, .long (lN (0))), (0, .ref (a 0)), (1, .ref (r 0))]) S_ d_Ld_pointsOfAll_3 (by decide) rfl ?_
  have hL5 : ∀ (fuel5 : Nat), ∀ (k : Nat), 9 - k < fuel5 → (k ≤ 9) → wk_G p_ l e_ R_ s_ m_ ar_ be_ me_ co_ Q_ D A_ 5 0 0 (wLd a cI go io ct sh wr ++ wRl r cI ap pt rk cd mc mg mz nc nt oc fr) 5 [(0, .ref (a 0)), (1, .ref (r 0)), (2, .long (lN (ptN pt go k))), (4, .int (nI (k)))] [] := by
    intro fuel5
    induction fuel5 with
    | zero => intro k hm; exact absurd hm (Nat.not_lt_zero _)
    | succ fuel5 ih5 =>
      intro k hm hk
      refine wk_iload (pc := 5) S_ 3 d_Ld_pointsOfAll_5 rfl ?_
      refine wk_bipush (pc := 7) (v := (nI (9))) S_ d_Ld_pointsOfAll_7 (by decide) ?_
      refine wk_icmp_geN (pc := 9) (tgt := 29) S_ d_Ld_pointsOfAll_9 (by decide) (by omega) (by omega) (fun h9 => ?_) (fun h9 => ?_)
      · -- taken
        refine wk_lload_n (pc := 29) S_ 2 d_Ld_pointsOfAll_29 rfl rfl ?_
        exact hQ_ (lN (ptN pt go k)) () d_Ld_pointsOfAll_30 rfl (by rw [show k = 9 by omega])
      · -- on
        refine wk_lload_n (pc := 12) S_ 2 d_Ld_pointsOfAll_12 rfl rfl ?_
        refine wk_aload_n (pc := 13) S_ 0 d_Ld_pointsOfAll_13 rfl rfl ?_
        refine wk_aload_n (pc := 14) S_ 1 d_Ld_pointsOfAll_14 rfl rfl ?_
        refine wk_iload (pc := 15) S_ 3 d_Ld_pointsOfAll_15 rfl ?_
        refine wk_run (pc := 17) (rest := [.long (lN (ptN pt go k))]) (wr := []) (wN := fun _ => (wLd a cI go io ct sh wr ++ wRl r cI ap pt rk cd mc mg mz nc nt oc fr)) S_ (wk_rV S_ (c_Ld_pointsOfClass l D cI z (a) (r) (go) (io) (ct) (sh) (wr) (ap) (pt) (rk) (cd) (mc) (mg) (mz) (nc) (nt) (oc) (fr) (k) (by omega) hgo) mv_Ld_54 (wk_rcv S_ 0 4 rfl rfl rfl) rfl rfl (Nat.le_of_ble_eq_true rfl) (by rw [hR_]; decide) (by rw [hR_]; decide) d_Ld_pointsOfAll_17) [0, 1, 2, 3, 4, 5, 6, 7, 8, 9, 10, 11, 12, 13, 14] [] [0, 1, 2, 3, 4, 5, 6, 7, 8, 9, 10, 11, 12, 13, 14] rfl rfl rfl (by decide) (by decide) (by decide) (by decide) (fun _ => rfl) (fun _ => rfl) (fun r17 _ hw17 => ?_)
        refine wk_st (st' := [.int (r17), .long (lN (ptN pt go k))]) rfl ?_
        refine wk_top (y := (nI ((((go) (k)) + (999)) / (1000) * ((pt) (k))))) hw17 ?_
        have hg1 := hgo k
        have hp1 : (go k + 999) / 1000 * pt k ≤ 801 * 1000 := Nat.mul_le_mul (by omega) (hpt k)
        refine wk_i2lN (pc := 20) S_ d_Ld_pointsOfAll_20 (by omega) ?_
        refine wk_laddN (pc := 21) S_ d_Ld_pointsOfAll_21 ?_
        refine wk_topl (y := (lN (ptN pt go (k + 1)))) rfl ?_
        refine wk_lstore_n (pc := 22) (lv' := [(2, .long (lN (ptN pt go (k + 1)))), (0, .ref (a 0)), (1, .ref (r 0)), (4, .int (nI (k)))]) S_ d_Ld_pointsOfAll_22 rfl (by decide) rfl ?_
        refine wk_iincN (pc := 23) (d := 1) (lv' := [(4, .int (nI (k + 1))), (2, .long (lN (ptN pt go (k + 1)))), (0, .ref (a 0)), (1, .ref (r 0))]) S_ 3 d_Ld_pointsOfAll_23 (by decide) rfl (by decide) rfl ?_
        refine wk_goto (pc := 26) (tgt := 5) S_ d_Ld_pointsOfAll_26 (by decide) ?_
        refine wk_lv [2, 3, 1, 0] ?_ (ih5 (k + 1) (by omega) (by omega))
        rfl
  refine wk_lv [2, 3, 1, 0] ?_ (hL5 _ (0) (Nat.lt_succ_self _) (by omega))
  rfl
set_option maxHeartbeats 4000000 in
set_option maxRecDepth 100000 in
theorem c_Ld_isFree (l : Launch) (D : va_G) (cI : CiT) (z : GzT) (a : Nat → Nat) (r : Nat → Nat) (go : (Nat → Nat)) (io : (Nat → Nat)) (ct : Nat) (sh : (Nat → Nat)) (wr : Nat) (ap : (Nat → Nat)) (pt : (Nat → Nat)) (rk : (Nat → Nat)) (cd : (Nat → Nat)) (mc : (Nat → Nat)) (mg : (Nat → Nat)) (mz : (Nat → Nat)) (nc : (Nat → Nat)) (nt : (Nat → Nat)) (oc : (Nat → Nat)) (fr : Nat) (hgo : ∀ c, go c ≤ 800000) (hpt : ∀ c, pt c ≤ 1000) (hfr : fr ≤ 999999) : wk_C l D (tyK cI) (gX z) y_Ld_isFree b_Ld_isFree 2 (some .boolean) 2 46 0 0 [.ref (a 0), .ref (r 0)] (wLd a cI go io ct sh wr ++ wRl r cI ap pt rk cd mc mg mz nc nt oc fr) wk_i (fun (r : Int32) (_ : Unit) => r = (bI (decide (ptN pt go 9 ≤ fr)))) (fun _ => (wLd a cI go io ct sh wr ++ wRl r cI ap pt rk cd mc mg mz nc nt oc fr)) := by
  refine wk_methZ (own := R_Ld) [(0, .ref (a 0)), (1, .ref (r 0))] (by decide) rfl (Nat.le_of_ble_eq_true rfl) rfl (gX_ok z) (fun p_ e_ R_ s_ m_ ar_ be_ me_ co_ Q_ A_ hR_ S_ hnm_ hQ_ => ?_)
  refine wk_aload_n (pc := 0) S_ 0 d_Ld_isFree_0 rfl rfl ?_
  refine wk_aload_n (pc := 1) S_ 1 d_Ld_isFree_1 rfl rfl ?_
  refine wk_run (pc := 2) (rest := []) (wr := []) (wN := fun _ => (wLd a cI go io ct sh wr ++ wRl r cI ap pt rk cd mc mg mz nc nt oc fr)) S_ (wk_rV S_ (c_Ld_pointsOfAll l D cI z (a) (r) (go) (io) (ct) (sh) (wr) (ap) (pt) (rk) (cd) (mc) (mg) (mz) (nc) (nt) (oc) (fr) hgo hpt) mv_Ld_58 (wk_rcv S_ 0 4 rfl rfl rfl) rfl rfl (Nat.le_of_ble_eq_true rfl) (by rw [hR_]; decide) (by rw [hR_]; decide) d_Ld_isFree_2) [0, 1, 2, 3, 4, 5, 6, 7, 8, 9, 10, 11, 12, 13, 14] [] [0, 1, 2, 3, 4, 5, 6, 7, 8, 9, 10, 11, 12, 13, 14] rfl rfl rfl (by decide) (by decide) (by decide) (by decide) (fun _ => rfl) (fun _ => rfl) (fun r2 _ hw2 => ?_)
  refine wk_st (st' := [.long (r2)]) rfl ?_
  refine wk_topl (y := (lN (ptN (pt) (go) 9))) hw2 ?_
  have hp1 := ptN_le (pt := pt) (go := go) hpt hgo 9
  refine wk_aload_n (pc := 5) S_ 1 d_Ld_isFree_5 rfl rfl ?_
  refine wk_get (pc := 6) (v := .int (nI (fr))) S_ 5 10 4 in_Rl rfl (by decide) rfl fl_Ld_62 d_Ld_isFree_6 rfl rfl ?_
  refine wk_i2lN (pc := 9) S_ d_Ld_isFree_9 (by omega) ?_
  refine wk_lcmp (pc := 10) S_ d_Ld_isFree_10 ?_
  refine wk_cmp_gtN (pc := 11) (tgt := 18) S_ d_Ld_isFree_11 (by decide) (by omega) (by omega) (fun h11 => ?_) (fun h11 => ?_)
  · -- taken
    refine wk_iconst (pc := 18) (v := (nI (0))) S_ d_Ld_isFree_18 (by decide) ?_
    exact hQ_ (nI (0)) () d_Ld_isFree_19 rfl rfl (bI_f (by (try simp at h11); simp [h11]))
  · -- on
    refine wk_iconst (pc := 14) (v := (nI (1))) S_ d_Ld_isFree_14 (by decide) ?_
    refine wk_goto (pc := 15) (tgt := 19) S_ d_Ld_isFree_15 (by decide) ?_
    exact hQ_ (nI (1)) () d_Ld_isFree_19 rfl rfl (bI_t (by (try simp at h11); simp [h11]))
set_option maxHeartbeats 4000000 in
set_option maxRecDepth 100000 in
theorem c_Ld_greatestCode (l : Launch) (D : va_G) (cI : CiT) (z : GzT) (a : Nat → Nat) (r : Nat → Nat) (go : (Nat → Nat)) (io : (Nat → Nat)) (ct : Nat) (sh : (Nat → Nat)) (wr : Nat) (ap : (Nat → Nat)) (pt : (Nat → Nat)) (rk : (Nat → Nat)) (cd : (Nat → Nat)) (mc : (Nat → Nat)) (mg : (Nat → Nat)) (mz : (Nat → Nat)) (nc : (Nat → Nat)) (nt : (Nat → Nat)) (oc : (Nat → Nat)) (fr : Nat) (hgo : ∀ c, go c ≤ 800000) (hcd : ∀ c, cd c ≤ 5) : wk_C l D (tyK cI) (gX z) y_Ld_greatestCode b_Ld_greatestCode 4 (some .int) 1 21 0 0 [.ref (a 0), .ref (r 0)] (wLd a cI go io ct sh wr ++ wRl r cI ap pt rk cd mc mg mz nc nt oc fr) wk_i (fun (r : Int32) (_ : Unit) => r = (nI (tnS cd go 9))) (fun _ => (wLd a cI go io ct sh wr ++ wRl r cI ap pt rk cd mc mg mz nc nt oc fr)) := by
  refine wk_methI (own := R_Ld) [(0, .ref (a 0)), (1, .ref (r 0))] (by decide) rfl (Nat.le_of_ble_eq_true rfl) rfl (gX_ok z) (fun p_ e_ R_ s_ m_ ar_ be_ me_ co_ Q_ A_ hR_ S_ hnm_ hQ_ => ?_)
  refine wk_iconst (pc := 0) (v := (nI (0))) S_ d_Ld_greatestCode_0 (by decide) ?_
  refine wk_istore_n (pc := 1) (lv' := [(2, .int (nI (0))), (0, .ref (a 0)), (1, .ref (r 0))]) S_ d_Ld_greatestCode_1 rfl (by decide) rfl ?_
  refine wk_iconst (pc := 2) (v := (nI (0))) S_ d_Ld_greatestCode_2 (by decide) ?_
  refine wk_istore_n (pc := 3) (lv' := [(3, .int (nI (0))), (2, .int (nI (0))), (0, .ref (a 0)), (1, .ref (r 0))]) S_ d_Ld_greatestCode_3 rfl (by decide) rfl ?_
  have hL4 : ∀ (fuel4 : Nat), ∀ (k : Nat), 9 - k < fuel4 → (k ≤ 9) → wk_G p_ l e_ R_ s_ m_ ar_ be_ me_ co_ Q_ D A_ 4 0 0 (wLd a cI go io ct sh wr ++ wRl r cI ap pt rk cd mc mg mz nc nt oc fr) 4 [(0, .ref (a 0)), (1, .ref (r 0)), (2, .int (nI (tnS cd go k))), (3, .int (nI (k)))] [] := by
    intro fuel4
    induction fuel4 with
    | zero => intro k hm; exact absurd hm (Nat.not_lt_zero _)
    | succ fuel4 ih4 =>
      intro k hm hk
      refine wk_iload_n (pc := 4) S_ 3 d_Ld_greatestCode_4 rfl rfl ?_
      refine wk_bipush (pc := 5) (v := (nI (9))) S_ d_Ld_greatestCode_5 (by decide) ?_
      refine wk_icmp_geN (pc := 7) (tgt := 36) S_ d_Ld_greatestCode_7 (by decide) (by omega) (by omega) (fun h7 => ?_) (fun h7 => ?_)
      · -- taken
        refine wk_iload_n (pc := 36) S_ 2 d_Ld_greatestCode_36 rfl rfl ?_
        exact hQ_ (nI (tnS cd go k)) () d_Ld_greatestCode_37 rfl (by rw [show k = 9 by omega])
      · -- on
        refine wk_aload_n (pc := 10) S_ 0 d_Ld_greatestCode_10 rfl rfl ?_
        refine wk_get (pc := 11) (v := .ref (a 1)) S_ 4 0 0 in_Ld rfl (by decide) rfl fl_Ld_9 d_Ld_greatestCode_11 rfl rfl ?_
        refine wk_iload_n (pc := 14) S_ 3 d_Ld_greatestCode_14 rfl rfl ?_
        refine wk_ialdN (pc := 15) (g := go) S_ 1 0 d_Ld_greatestCode_15 rfl rfl (by omega) (by decide) ?_
        have hg1 := hgo k
        have hc1 := hcd k
        have ht1 := tnS_le (go := go) hcd k
        refine wk_if_leN (pc := 16) (tgt := 30) S_ d_Ld_greatestCode_16 (by decide) (by omega) (fun h16 => ?_) (fun h16 => ?_)
        · -- taken
          refine wk_iincN (pc := 30) (d := 1) (lv' := [(3, .int (nI (k + 1))), (0, .ref (a 0)), (1, .ref (r 0)), (2, .int (nI (tnS cd go k)))]) S_ 3 d_Ld_greatestCode_30 (by decide) rfl (by decide) rfl ?_
          refine wk_goto (pc := 33) (tgt := 4) S_ d_Ld_greatestCode_33 (by decide) ?_
          refine wk_lveq (lv' := [(3, .int (nI (k + 1))), (0, .ref (a 0)), (1, .ref (r 0)), (2, .int (nI (tnS cd go (k + 1))))]) (by rw [tnS, if_neg (by omega)]) ?_
          refine wk_lv [1, 2, 3, 0] ?_ (ih4 (k + 1) (by omega) (by omega))
          rfl
        · -- on
          refine wk_iload_n (pc := 19) S_ 2 d_Ld_greatestCode_19 rfl rfl ?_
          refine wk_aload_n (pc := 20) S_ 1 d_Ld_greatestCode_20 rfl rfl ?_
          refine wk_get (pc := 21) (v := .ref (r 4)) S_ 5 3 4 in_Rl rfl (by decide) rfl fl_Ld_65 d_Ld_greatestCode_21 rfl rfl ?_
          refine wk_iload_n (pc := 24) S_ 3 d_Ld_greatestCode_24 rfl rfl ?_
          refine wk_ialdN (pc := 25) (g := cd) S_ 8 0 d_Ld_greatestCode_25 rfl rfl (by omega) (by decide) ?_
          refine wk_mmax (pc := 26) S_ ml_Ld_68 in_mmaxS in_mI in_mmaxC (by rw [hR_]; decide) (by rw [hR_]; decide) (by rw [hR_]; decide) (by rw [hR_]; decide) d_Ld_greatestCode_26 ?_
          refine wk_top (y := (nI (tnS cd go (k + 1)))) (tn_max (by omega) (by omega) (by omega)) ?_
          refine wk_istore_n (pc := 29) (lv' := [(2, .int (nI (tnS cd go (k + 1)))), (0, .ref (a 0)), (1, .ref (r 0)), (3, .int (nI (k)))]) S_ d_Ld_greatestCode_29 rfl (by decide) rfl ?_
          refine wk_iincN (pc := 30) (d := 1) (lv' := [(3, .int (nI (k + 1))), (2, .int (nI (tnS cd go (k + 1)))), (0, .ref (a 0)), (1, .ref (r 0))]) S_ 3 d_Ld_greatestCode_30 (by decide) rfl (by decide) rfl ?_
          refine wk_goto (pc := 33) (tgt := 4) S_ d_Ld_greatestCode_33 (by decide) ?_
          refine wk_lv [2, 3, 1, 0] ?_ (ih4 (k + 1) (by omega) (by omega))
          rfl
  refine wk_lv [2, 3, 1, 0] ?_ (hL4 _ (0) (Nat.lt_succ_self _) (by omega))
  rfl
end
