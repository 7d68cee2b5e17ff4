theorem le256 {x : Int32} (h : nI 255 < x) : nI 256 ≤ x := by
  rw [Int32.lt_iff_toInt_lt, nI_toInt (by decide)] at h
  rw [Int32.le_iff_toInt_le, nI_toInt (by decide)]
  omega
theorem fl_Rl_33 : Cond.fieldLink R_Rl 33 R_Rl "noteCounts" "[I" ∈ lw_gd := (gd _ (tb0 _ (List.mem_of_getElem? (i := 197) rfl)) rfl)
theorem fl_Rl_36 : Cond.fieldLink R_Rl 36 R_Rl "notes" "[I" ∈ lw_gd := (gd _ (tb0 _ (List.mem_of_getElem? (i := 198) rfl)) rfl)
theorem d_Rl_noteAt_0 : decode b_Rl_noteAt 0 = .ok (.iload_n 1, 1) := by decide +kernel
theorem d_Rl_noteAt_1 : decode b_Rl_noteAt 1 = .ok (.ifCond .lt 22, 3) := by decide +kernel
theorem d_Rl_noteAt_4 : decode b_Rl_noteAt 4 = .ok (.iload_n 1, 1) := by decide +kernel
theorem d_Rl_noteAt_5 : decode b_Rl_noteAt 5 = .ok (.iconst 4, 1) := by decide +kernel
theorem d_Rl_noteAt_6 : decode b_Rl_noteAt 6 = .ok (.if_icmp .ge 17, 3) := by decide +kernel
theorem d_Rl_noteAt_9 : decode b_Rl_noteAt 9 = .ok (.iload_n 2, 1) := by decide +kernel
theorem d_Rl_noteAt_10 : decode b_Rl_noteAt 10 = .ok (.ifCond .lt 13, 3) := by decide +kernel
theorem d_Rl_noteAt_13 : decode b_Rl_noteAt 13 = .ok (.iload_n 2, 1) := by decide +kernel
theorem d_Rl_noteAt_14 : decode b_Rl_noteAt 14 = .ok (.aload_n 0, 1) := by decide +kernel
theorem d_Rl_noteAt_15 : decode b_Rl_noteAt 15 = .ok (.getfield 33, 3) := by decide +kernel
theorem d_Rl_noteAt_18 : decode b_Rl_noteAt 18 = .ok (.iload_n 1, 1) := by decide +kernel
theorem d_Rl_noteAt_19 : decode b_Rl_noteAt 19 = .ok (.iaload, 1) := by decide +kernel
theorem d_Rl_noteAt_20 : decode b_Rl_noteAt 20 = .ok (.if_icmp .lt 5, 3) := by decide +kernel
theorem d_Rl_noteAt_23 : decode b_Rl_noteAt 23 = .ok (.iconst (-1), 1) := by decide +kernel
theorem d_Rl_noteAt_24 : decode b_Rl_noteAt 24 = .ok (.ireturn, 1) := by decide +kernel
theorem d_Rl_noteAt_25 : decode b_Rl_noteAt 25 = .ok (.aload_n 0, 1) := by decide +kernel
theorem d_Rl_noteAt_26 : decode b_Rl_noteAt 26 = .ok (.getfield 36, 3) := by decide +kernel
theorem d_Rl_noteAt_29 : decode b_Rl_noteAt 29 = .ok (.iload_n 1, 1) := by decide +kernel
theorem d_Rl_noteAt_30 : decode b_Rl_noteAt 30 = .ok (.bipush 8, 2) := by decide +kernel
theorem d_Rl_noteAt_32 : decode b_Rl_noteAt 32 = .ok (.imul, 1) := by decide +kernel
theorem d_Rl_noteAt_33 : decode b_Rl_noteAt 33 = .ok (.iload_n 2, 1) := by decide +kernel
theorem d_Rl_noteAt_34 : decode b_Rl_noteAt 34 = .ok (.iadd, 1) := by decide +kernel
theorem d_Rl_noteAt_35 : decode b_Rl_noteAt 35 = .ok (.iaload, 1) := by decide +kernel
theorem d_Rl_noteAt_36 : decode b_Rl_noteAt 36 = .ok (.ireturn, 1) := by decide +kernel
theorem fl_Rl_39 : Cond.fieldLink R_Rl 39 R_Rl "outcomes" "[I" ∈ lw_gd := (gd _ (tb0 _ (List.mem_of_getElem? (i := 199) rfl)) rfl)
theorem d_Rl_outcomeOf_0 : decode b_Rl_outcomeOf 0 = .ok (.iload_n 1, 1) := by decide +kernel
theorem d_Rl_outcomeOf_1 : decode b_Rl_outcomeOf 1 = .ok (.ifCond .lt 18, 3) := by decide +kernel
theorem d_Rl_outcomeOf_4 : decode b_Rl_outcomeOf 4 = .ok (.iload_n 1, 1) := by decide +kernel
theorem d_Rl_outcomeOf_5 : decode b_Rl_outcomeOf 5 = .ok (.bipush 10, 2) := by decide +kernel
theorem d_Rl_outcomeOf_7 : decode b_Rl_outcomeOf 7 = .ok (.if_icmp .ge 12, 3) := by decide +kernel
theorem d_Rl_outcomeOf_10 : decode b_Rl_outcomeOf 10 = .ok (.iload_n 2, 1) := by decide +kernel
theorem d_Rl_outcomeOf_11 : decode b_Rl_outcomeOf 11 = .ok (.ifCond .lt 8, 3) := by decide +kernel
theorem d_Rl_outcomeOf_14 : decode b_Rl_outcomeOf 14 = .ok (.iload_n 2, 1) := by decide +kernel
theorem d_Rl_outcomeOf_15 : decode b_Rl_outcomeOf 15 = .ok (.iconst 4, 1) := by decide +kernel
theorem d_Rl_outcomeOf_16 : decode b_Rl_outcomeOf 16 = .ok (.if_icmp .lt 5, 3) := by decide +kernel
theorem d_Rl_outcomeOf_19 : decode b_Rl_outcomeOf 19 = .ok (.iconst (-1), 1) := by decide +kernel
theorem d_Rl_outcomeOf_20 : decode b_Rl_outcomeOf 20 = .ok (.ireturn, 1) := by decide +kernel
theorem d_Rl_outcomeOf_21 : decode b_Rl_outcomeOf 21 = .ok (.aload_n 0, 1) := by decide +kernel
theorem d_Rl_outcomeOf_22 : decode b_Rl_outcomeOf 22 = .ok (.getfield 39, 3) := by decide +kernel
theorem d_Rl_outcomeOf_25 : decode b_Rl_outcomeOf 25 = .ok (.iload_n 1, 1) := by decide +kernel
theorem d_Rl_outcomeOf_26 : decode b_Rl_outcomeOf 26 = .ok (.iconst 4, 1) := by decide +kernel
theorem d_Rl_outcomeOf_27 : decode b_Rl_outcomeOf 27 = .ok (.imul, 1) := by decide +kernel
theorem d_Rl_outcomeOf_28 : decode b_Rl_outcomeOf 28 = .ok (.iload_n 2, 1) := by decide +kernel
theorem d_Rl_outcomeOf_29 : decode b_Rl_outcomeOf 29 = .ok (.iadd, 1) := by decide +kernel
theorem d_Rl_outcomeOf_30 : decode b_Rl_outcomeOf 30 = .ok (.iaload, 1) := by decide +kernel
theorem d_Rl_outcomeOf_31 : decode b_Rl_outcomeOf 31 = .ok (.ireturn, 1) := by decide +kernel
theorem fl_Rl_24 : Cond.fieldLink R_Rl 24 R_Rl "markCounts" "[I" ∈ lw_gd := (gd _ (tb0 _ (List.mem_of_getElem? (i := 194) rfl)) rfl)
theorem fl_Rl_27 : Cond.fieldLink R_Rl 27 R_Rl "markGrams" "[I" ∈ lw_gd := (gd _ (tb0 _ (List.mem_of_getElem? (i := 195) rfl)) rfl)
theorem fl_Rl_30 : Cond.fieldLink R_Rl 30 R_Rl "markSizes" "[I" ∈ lw_gd := (gd _ (tb0 _ (List.mem_of_getElem? (i := 196) rfl)) rfl)
theorem d_Rl_markSize_0 : decode b_Rl_markSize 0 = .ok (.aload_n 0, 1) := by decide +kernel
theorem d_Rl_markSize_1 : decode b_Rl_markSize 1 = .ok (.getfield 24, 3) := by decide +kernel
theorem d_Rl_markSize_4 : decode b_Rl_markSize 4 = .ok (.iload_n 1, 1) := by decide +kernel
theorem d_Rl_markSize_5 : decode b_Rl_markSize 5 = .ok (.iaload, 1) := by decide +kernel
theorem d_Rl_markSize_6 : decode b_Rl_markSize 6 = .ok (.iconst 1, 1) := by decide +kernel
theorem d_Rl_markSize_7 : decode b_Rl_markSize 7 = .ok (.isub, 1) := by decide +kernel
theorem d_Rl_markSize_8 : decode b_Rl_markSize 8 = .ok (.istore_n 3, 1) := by decide +kernel
theorem d_Rl_markSize_9 : decode b_Rl_markSize 9 = .ok (.iload_n 3, 1) := by decide +kernel
theorem d_Rl_markSize_10 : decode b_Rl_markSize 10 = .ok (.ifCond .lt 36, 3) := by decide +kernel
theorem d_Rl_markSize_13 : decode b_Rl_markSize 13 = .ok (.aload_n 0, 1) := by decide +kernel
theorem d_Rl_markSize_14 : decode b_Rl_markSize 14 = .ok (.getfield 27, 3) := by decide +kernel
theorem d_Rl_markSize_17 : decode b_Rl_markSize 17 = .ok (.iload_n 1, 1) := by decide +kernel
theorem d_Rl_markSize_18 : decode b_Rl_markSize 18 = .ok (.bipush 6, 2) := by decide +kernel
theorem d_Rl_markSize_20 : decode b_Rl_markSize 20 = .ok (.imul, 1) := by decide +kernel
theorem d_Rl_markSize_21 : decode b_Rl_markSize 21 = .ok (.iload_n 3, 1) := by decide +kernel
theorem d_Rl_markSize_22 : decode b_Rl_markSize 22 = .ok (.iadd, 1) := by decide +kernel
theorem d_Rl_markSize_23 : decode b_Rl_markSize 23 = .ok (.iaload, 1) := by decide +kernel
theorem d_Rl_markSize_24 : decode b_Rl_markSize 24 = .ok (.iload_n 2, 1) := by decide +kernel
theorem d_Rl_markSize_25 : decode b_Rl_markSize 25 = .ok (.if_icmp .gt 15, 3) := by decide +kernel
theorem d_Rl_markSize_28 : decode b_Rl_markSize 28 = .ok (.aload_n 0, 1) := by decide +kernel
theorem d_Rl_markSize_29 : decode b_Rl_markSize 29 = .ok (.getfield 30, 3) := by decide +kernel
theorem d_Rl_markSize_32 : decode b_Rl_markSize 32 = .ok (.iload_n 1, 1) := by decide +kernel
theorem d_Rl_markSize_33 : decode b_Rl_markSize 33 = .ok (.bipush 6, 2) := by decide +kernel
theorem d_Rl_markSize_35 : decode b_Rl_markSize 35 = .ok (.imul, 1) := by decide +kernel
theorem d_Rl_markSize_36 : decode b_Rl_markSize 36 = .ok (.iload_n 3, 1) := by decide +kernel
theorem d_Rl_markSize_37 : decode b_Rl_markSize 37 = .ok (.iadd, 1) := by decide +kernel
theorem d_Rl_markSize_38 : decode b_Rl_markSize 38 = .ok (.iaload, 1) := by decide +kernel
theorem d_Rl_markSize_39 : decode b_Rl_markSize 39 = .ok (.ireturn, 1) := by decide +kernel
theorem d_Rl_markSize_40 : decode b_Rl_markSize 40 = .ok (.iinc 3 (-1), 3) := by decide +kernel
theorem d_Rl_markSize_43 : decode b_Rl_markSize 43 = .ok (.goto (-34), 3) := by decide +kernel
theorem d_Rl_markSize_46 : decode b_Rl_markSize 46 = .ok (.iconst 0, 1) := by decide +kernel
theorem d_Rl_markSize_47 : decode b_Rl_markSize 47 = .ok (.ireturn, 1) := by decide +kernel
theorem d_Rl_placeOfMark_0 : decode b_Rl_placeOfMark 0 = .ok (.iconst 0, 1) := by decide +kernel
theorem d_Rl_placeOfMark_1 : decode b_Rl_placeOfMark 1 = .ok (.istore_n 3, 1) := by decide +kernel
theorem d_Rl_placeOfMark_2 : decode b_Rl_placeOfMark 2 = .ok (.iload_n 3, 1) := by decide +kernel
theorem d_Rl_placeOfMark_3 : decode b_Rl_placeOfMark 3 = .ok (.aload_n 0, 1) := by decide +kernel
theorem d_Rl_placeOfMark_4 : decode b_Rl_placeOfMark 4 = .ok (.getfield 24, 3) := by decide +kernel
theorem d_Rl_placeOfMark_7 : decode b_Rl_placeOfMark 7 = .ok (.iload_n 1, 1) := by decide +kernel
theorem d_Rl_placeOfMark_8 : decode b_Rl_placeOfMark 8 = .ok (.iaload, 1) := by decide +kernel
theorem d_Rl_placeOfMark_9 : decode b_Rl_placeOfMark 9 = .ok (.if_icmp .ge 26, 3) := by decide +kernel
theorem d_Rl_placeOfMark_12 : decode b_Rl_placeOfMark 12 = .ok (.aload_n 0, 1) := by decide +kernel
theorem d_Rl_placeOfMark_13 : decode b_Rl_placeOfMark 13 = .ok (.getfield 27, 3) := by decide +kernel
theorem d_Rl_placeOfMark_16 : decode b_Rl_placeOfMark 16 = .ok (.iload_n 1, 1) := by decide +kernel
theorem d_Rl_placeOfMark_17 : decode b_Rl_placeOfMark 17 = .ok (.bipush 6, 2) := by decide +kernel
theorem d_Rl_placeOfMark_19 : decode b_Rl_placeOfMark 19 = .ok (.imul, 1) := by decide +kernel
theorem d_Rl_placeOfMark_20 : decode b_Rl_placeOfMark 20 = .ok (.iload_n 3, 1) := by decide +kernel
theorem d_Rl_placeOfMark_21 : decode b_Rl_placeOfMark 21 = .ok (.iadd, 1) := by decide +kernel
theorem d_Rl_placeOfMark_22 : decode b_Rl_placeOfMark 22 = .ok (.iaload, 1) := by decide +kernel
theorem d_Rl_placeOfMark_23 : decode b_Rl_placeOfMark 23 = .ok (.iload_n 2, 1) := by decide +kernel
theorem d_Rl_placeOfMark_24 : decode b_Rl_placeOfMark 24 = .ok (.if_icmp .ne 5, 3) := by decide +kernel
theorem d_Rl_placeOfMark_27 : decode b_Rl_placeOfMark 27 = .ok (.iload_n 3, 1) := by decide +kernel
theorem d_Rl_placeOfMark_28 : decode b_Rl_placeOfMark 28 = .ok (.ireturn, 1) := by decide +kernel
theorem d_Rl_placeOfMark_29 : decode b_Rl_placeOfMark 29 = .ok (.iinc 3 1, 3) := by decide +kernel
theorem d_Rl_placeOfMark_32 : decode b_Rl_placeOfMark 32 = .ok (.goto (-30), 3) := by decide +kernel
theorem d_Rl_placeOfMark_35 : decode b_Rl_placeOfMark 35 = .ok (.aload_n 0, 1) := by decide +kernel
theorem d_Rl_placeOfMark_36 : decode b_Rl_placeOfMark 36 = .ok (.getfield 24, 3) := by decide +kernel
theorem d_Rl_placeOfMark_39 : decode b_Rl_placeOfMark 39 = .ok (.iload_n 1, 1) := by decide +kernel
theorem d_Rl_placeOfMark_40 : decode b_Rl_placeOfMark 40 = .ok (.iaload, 1) := by decide +kernel
theorem d_Rl_placeOfMark_41 : decode b_Rl_placeOfMark 41 = .ok (.ireturn, 1) := by decide +kernel
theorem d_Rl_hasRoomForNote_0 : decode b_Rl_hasRoomForNote 0 = .ok (.aload_n 0, 1) := by decide +kernel
theorem d_Rl_hasRoomForNote_1 : decode b_Rl_hasRoomForNote 1 = .ok (.getfield 33, 3) := by decide +kernel
theorem d_Rl_hasRoomForNote_4 : decode b_Rl_hasRoomForNote 4 = .ok (.iload_n 1, 1) := by decide +kernel
theorem d_Rl_hasRoomForNote_5 : decode b_Rl_hasRoomForNote 5 = .ok (.iaload, 1) := by decide +kernel
theorem d_Rl_hasRoomForNote_6 : decode b_Rl_hasRoomForNote 6 = .ok (.bipush 8, 2) := by decide +kernel
theorem d_Rl_hasRoomForNote_8 : decode b_Rl_hasRoomForNote 8 = .ok (.if_icmp .ge 7, 3) := by decide +kernel
theorem d_Rl_hasRoomForNote_11 : decode b_Rl_hasRoomForNote 11 = .ok (.iconst 1, 1) := by decide +kernel
theorem d_Rl_hasRoomForNote_12 : decode b_Rl_hasRoomForNote 12 = .ok (.goto 4, 3) := by decide +kernel
theorem d_Rl_hasRoomForNote_15 : decode b_Rl_hasRoomForNote 15 = .ok (.iconst 0, 1) := by decide +kernel
theorem d_Rl_hasRoomForNote_16 : decode b_Rl_hasRoomForNote 16 = .ok (.ireturn, 1) := by decide +kernel
theorem fl_St_18 : Cond.fieldLink R_St 18 R_St "steps" "[I" ∈ lw_gd := (gd _ (tb0 _ (List.mem_of_getElem? (i := 65) rfl)) rfl)
theorem d_St_learn_0 : decode b_St_learn 0 = .ok (.iload_n 2, 1) := by decide +kernel
theorem d_St_learn_1 : decode b_St_learn 1 = .ok (.bipush 10, 2) := by decide +kernel
theorem d_St_learn_3 : decode b_St_learn 3 = .ok (.if_icmp .ge 12, 3) := by decide +kernel
theorem d_St_learn_6 : decode b_St_learn 6 = .ok (.aload_n 0, 1) := by decide +kernel
theorem d_St_learn_7 : decode b_St_learn 7 = .ok (.getfield 18, 3) := by decide +kernel
theorem d_St_learn_10 : decode b_St_learn 10 = .ok (.iload_n 1, 1) := by decide +kernel
theorem d_St_learn_11 : decode b_St_learn 11 = .ok (.iload_n 2, 1) := by decide +kernel
theorem d_St_learn_12 : decode b_St_learn 12 = .ok (.iastore, 1) := by decide +kernel
theorem d_St_learn_13 : decode b_St_learn 13 = .ok (.iload_n 2, 1) := by decide +kernel
theorem d_St_learn_14 : decode b_St_learn 14 = .ok (.ireturn, 1) := by decide +kernel
theorem d_St_learn_15 : decode b_St_learn 15 = .ok (.aload_n 0, 1) := by decide +kernel
theorem d_St_learn_16 : decode b_St_learn 16 = .ok (.getfield 9, 3) := by decide +kernel
theorem d_St_learn_19 : decode b_St_learn 19 = .ok (.iload_n 1, 1) := by decide +kernel
theorem d_St_learn_20 : decode b_St_learn 20 = .ok (.iload_n 2, 1) := by decide +kernel
theorem d_St_learn_21 : decode b_St_learn 21 = .ok (.bipush 10, 2) := by decide +kernel
theorem d_St_learn_23 : decode b_St_learn 23 = .ok (.isub, 1) := by decide +kernel
theorem d_St_learn_24 : decode b_St_learn 24 = .ok (.iastore, 1) := by decide +kernel
theorem d_St_learn_25 : decode b_St_learn 25 = .ok (.iconst (-1), 1) := by decide +kernel
theorem d_St_learn_26 : decode b_St_learn 26 = .ok (.aload_n 0, 1) := by decide +kernel
theorem d_St_learn_27 : decode b_St_learn 27 = .ok (.getfield 9, 3) := by decide +kernel
theorem d_St_learn_30 : decode b_St_learn 30 = .ok (.iload_n 1, 1) := by decide +kernel
theorem d_St_learn_31 : decode b_St_learn 31 = .ok (.iaload, 1) := by decide +kernel
theorem d_St_learn_32 : decode b_St_learn 32 = .ok (.isub, 1) := by decide +kernel
theorem d_St_learn_33 : decode b_St_learn 33 = .ok (.ireturn, 1) := by decide +kernel
theorem fl_Tx_18 : Cond.fieldLink R_Tx 18 R_Tx "length" "I" ∈ lw_gd := (gd _ (tb0 _ (List.mem_of_getElem? (i := 33) rfl)) rfl)
theorem fl_Tx_9 : Cond.fieldLink R_Tx 9 R_Tx "bytes" "[I" ∈ lw_gd := (gd _ (tb0 _ (List.mem_of_getElem? (i := 32) rfl)) rfl)
theorem d_Tx_takeByte_0 : decode b_Tx_takeByte 0 = .ok (.iload_n 1, 1) := by decide +kernel
theorem d_Tx_takeByte_1 : decode b_Tx_takeByte 1 = .ok (.ifCond .lt 20, 3) := by decide +kernel
theorem d_Tx_takeByte_4 : decode b_Tx_takeByte 4 = .ok (.iload_n 1, 1) := by decide +kernel
theorem d_Tx_takeByte_5 : decode b_Tx_takeByte 5 = .ok (.sipush 255, 3) := by decide +kernel
theorem d_Tx_takeByte_8 : decode b_Tx_takeByte 8 = .ok (.if_icmp .gt 13, 3) := by decide +kernel
theorem d_Tx_takeByte_11 : decode b_Tx_takeByte 11 = .ok (.aload_n 0, 1) := by decide +kernel
theorem d_Tx_takeByte_12 : decode b_Tx_takeByte 12 = .ok (.getfield 18, 3) := by decide +kernel
theorem d_Tx_takeByte_15 : decode b_Tx_takeByte 15 = .ok (.sipush 1500, 3) := by decide +kernel
theorem d_Tx_takeByte_18 : decode b_Tx_takeByte 18 = .ok (.if_icmp .lt 5, 3) := by decide +kernel
theorem d_Tx_takeByte_21 : decode b_Tx_takeByte 21 = .ok (.iconst 0, 1) := by decide +kernel
theorem d_Tx_takeByte_22 : decode b_Tx_takeByte 22 = .ok (.ireturn, 1) := by decide +kernel
theorem d_Tx_takeByte_23 : decode b_Tx_takeByte 23 = .ok (.aload_n 0, 1) := by decide +kernel
theorem d_Tx_takeByte_24 : decode b_Tx_takeByte 24 = .ok (.getfield 9, 3) := by decide +kernel
theorem d_Tx_takeByte_27 : decode b_Tx_takeByte 27 = .ok (.aload_n 0, 1) := by decide +kernel
theorem d_Tx_takeByte_28 : decode b_Tx_takeByte 28 = .ok (.getfield 18, 3) := by decide +kernel
theorem d_Tx_takeByte_31 : decode b_Tx_takeByte 31 = .ok (.iload_n 1, 1) := by decide +kernel
theorem d_Tx_takeByte_32 : decode b_Tx_takeByte 32 = .ok (.iastore, 1) := by decide +kernel
theorem d_Tx_takeByte_33 : decode b_Tx_takeByte 33 = .ok (.aload_n 0, 1) := by decide +kernel
theorem d_Tx_takeByte_34 : decode b_Tx_takeByte 34 = .ok (.dup, 1) := by decide +kernel
theorem d_Tx_takeByte_35 : decode b_Tx_takeByte 35 = .ok (.getfield 18, 3) := by decide +kernel
theorem d_Tx_takeByte_38 : decode b_Tx_takeByte 38 = .ok (.iconst 1, 1) := by decide +kernel
theorem d_Tx_takeByte_39 : decode b_Tx_takeByte 39 = .ok (.iadd, 1) := by decide +kernel
theorem d_Tx_takeByte_40 : decode b_Tx_takeByte 40 = .ok (.putfield 18, 3) := by decide +kernel
theorem d_Tx_takeByte_43 : decode b_Tx_takeByte 43 = .ok (.iconst 1, 1) := by decide +kernel
theorem d_Tx_takeByte_44 : decode b_Tx_takeByte 44 = .ok (.ireturn, 1) := by decide +kernel
theorem d_PL_isClass_0 : decode b_PL_isClass 0 = .ok (.iload_n 0, 1) := by decide +kernel
theorem d_PL_isClass_1 : decode b_PL_isClass 1 = .ok (.ifCond .lt 13, 3) := by decide +kernel
theorem d_PL_isClass_4 : decode b_PL_isClass 4 = .ok (.iload_n 0, 1) := by decide +kernel
theorem d_PL_isClass_5 : decode b_PL_isClass 5 = .ok (.bipush 9, 2) := by decide +kernel
theorem d_PL_isClass_7 : decode b_PL_isClass 7 = .ok (.if_icmp .ge 7, 3) := by decide +kernel
theorem d_PL_isClass_10 : decode b_PL_isClass 10 = .ok (.iconst 1, 1) := by decide +kernel
theorem d_PL_isClass_11 : decode b_PL_isClass 11 = .ok (.goto 4, 3) := by decide +kernel
theorem d_PL_isClass_14 : decode b_PL_isClass 14 = .ok (.iconst 0, 1) := by decide +kernel
theorem d_PL_isClass_15 : decode b_PL_isClass 15 = .ok (.ireturn, 1) := by decide +kernel
theorem kc_PL_185 : Cond.constantLong R_PL 185 (lN 1000000) ∈ lw_gd := (gd _ (tb1 _ (List.mem_of_getElem? (i := 183) rfl)) rfl)
theorem d_PL_isBoxGrams_0 : decode b_PL_isBoxGrams 0 = .ok (.lload_n 0, 1) := by decide +kernel
theorem d_PL_isBoxGrams_1 : decode b_PL_isBoxGrams 1 = .ok (.lconst 0, 1) := by decide +kernel
theorem d_PL_isBoxGrams_2 : decode b_PL_isBoxGrams 2 = .ok (.lcmp, 1) := by decide +kernel
theorem d_PL_isBoxGrams_3 : decode b_PL_isBoxGrams 3 = .ok (.ifCond .lt 15, 3) := by decide +kernel
theorem d_PL_isBoxGrams_6 : decode b_PL_isBoxGrams 6 = .ok (.lload_n 0, 1) := by decide +kernel
theorem d_PL_isBoxGrams_7 : decode b_PL_isBoxGrams 7 = .ok (.ldc2_w 185, 3) := by decide +kernel
theorem d_PL_isBoxGrams_10 : decode b_PL_isBoxGrams 10 = .ok (.lcmp, 1) := by decide +kernel
theorem d_PL_isBoxGrams_11 : decode b_PL_isBoxGrams 11 = .ok (.ifCond .gt 7, 3) := by decide +kernel
theorem d_PL_isBoxGrams_14 : decode b_PL_isBoxGrams 14 = .ok (.iconst 1, 1) := by decide +kernel
theorem d_PL_isBoxGrams_15 : decode b_PL_isBoxGrams 15 = .ok (.goto 4, 3) := by decide +kernel
theorem d_PL_isBoxGrams_18 : decode b_PL_isBoxGrams 18 = .ok (.iconst 0, 1) := by decide +kernel
theorem d_PL_isBoxGrams_19 : decode b_PL_isBoxGrams 19 = .ok (.ireturn, 1) := by decide +kernel
set_option maxHeartbeats 4000000 in
set_option maxRecDepth 100000 in
theorem c_Rl_noteAt (l : Launch) (D : va_G) (cI : CiT) (z : GzT) (r : Nat → Nat) (ap : (Nat → Nat)) (pt : (Nat → Nat)) (rk : (Nat → Nat)) (cd : (Nat → Nat)) (mc : (Nat → Nat)) (mg : (Nat → Nat)) (mz : (Nat → Nat)) (nc : (Nat → Nat)) (nt : (Nat → Nat)) (oc : (Nat → Nat)) (fr : Nat) (x : Int32) (i : Int32) (hnc : ∀ c, nc c ≤ 8) : wk_C l D (tyK cI) (gX z) y_Rl_noteAt b_Rl_noteAt 3 (some .int) 0 0 0 0 [.ref (r 0), .int (x), .int (i)] (wRl r cI ap pt rk cd mc mg mz nc nt oc fr) wk_i (fun (r : Int32) (_ : Unit) => r = (zI (ntN nc nt x i))) (fun _ => (wRl r cI ap pt rk cd mc mg mz nc nt oc fr)) := by
  refine wk_methI (own := R_Rl) [(0, .ref (r 0)), (1, .int (x)), (2, .int (i))] (by decide) rfl (Nat.le_of_ble_eq_true rfl) rfl (gX_ok z) (fun p_ e_ R_ s_ m_ ar_ be_ me_ co_ Q_ A_ hR_ S_ hnm_ hQ_ => ?_)
  refine wk_iload_n (pc := 0) S_ 1 d_Rl_noteAt_0 rfl rfl ?_
  refine wk_if_lt (pc := 1) (tgt := 23) S_ d_Rl_noteAt_1 (by decide) (fun h1 => ?_) (fun h1 => ?_)
  · -- taken
    refine wk_iconst (pc := 23) (v := (-1)) S_ d_Rl_noteAt_23 (by decide) ?_
    exact hQ_ (-1) () d_Rl_noteAt_24 rfl (by rw [ntN_f (ixI_a h1)]; exact zI_0.symm)
  · -- on
    refine wk_iload_n (pc := 4) S_ 1 d_Rl_noteAt_4 rfl rfl ?_
    refine wk_iconst (pc := 5) (v := (nI (4))) S_ d_Rl_noteAt_5 (by decide) ?_
    refine wk_icmp_ge (pc := 6) (tgt := 23) S_ d_Rl_noteAt_6 (by decide) (fun h6 => ?_) (fun h6 => ?_)
    · -- taken
      refine wk_iconst (pc := 23) (v := (-1)) S_ d_Rl_noteAt_23 (by decide) ?_
      exact hQ_ (-1) () d_Rl_noteAt_24 rfl (by rw [ntN_f (ixI_b h6)]; exact zI_0.symm)
    · -- on
      obtain ⟨L, hL, rfl⟩ := ix_of h1 h6 (by decide)
      refine wk_iload_n (pc := 9) S_ 2 d_Rl_noteAt_9 rfl rfl ?_
      refine wk_if_lt (pc := 10) (tgt := 23) S_ d_Rl_noteAt_10 (by decide) (fun h10 => ?_) (fun h10 => ?_)
      · -- taken
        refine wk_iconst (pc := 23) (v := (-1)) S_ d_Rl_noteAt_23 (by decide) ?_
        exact hQ_ (-1) () d_Rl_noteAt_24 rfl (by rw [ntN_in hL, pick_a h10]; exact zI_0.symm)
      · -- on
        refine wk_iload_n (pc := 13) S_ 2 d_Rl_noteAt_13 rfl rfl ?_
        refine wk_aload_n (pc := 14) S_ 0 d_Rl_noteAt_14 rfl rfl ?_
        refine wk_get (pc := 15) (v := .ref (r 8)) S_ 5 7 0 in_Rl rfl (by decide) rfl fl_Rl_33 d_Rl_noteAt_15 rfl rfl ?_
        refine wk_iload_n (pc := 18) S_ 1 d_Rl_noteAt_18 rfl rfl ?_
        refine wk_ialdN (pc := 19) (g := nc) S_ 8 0 d_Rl_noteAt_19 rfl rfl (by omega) (by decide) ?_
        have hn1 := hnc L
        refine wk_icmp_lt (pc := 20) (tgt := 25) S_ d_Rl_noteAt_20 (by decide) (fun h20 => ?_) (fun h20 => ?_)
        · -- taken
          obtain ⟨j, hj, rfl⟩ := ix_of h10 (Int32.not_le.mpr h20) (by omega)
          refine wk_aload_n (pc := 25) S_ 0 d_Rl_noteAt_25 rfl rfl ?_
          refine wk_get (pc := 26) (v := .ref (r 9)) S_ 5 8 0 in_Rl rfl (by decide) rfl fl_Rl_36 d_Rl_noteAt_26 rfl rfl ?_
          refine wk_iload_n (pc := 29) S_ 1 d_Rl_noteAt_29 rfl rfl ?_
          refine wk_bipush (pc := 30) (v := (nI (8))) S_ d_Rl_noteAt_30 (by decide) ?_
          refine wk_imulN (pc := 32) S_ d_Rl_noteAt_32 ?_
          refine wk_iload_n (pc := 33) S_ 2 d_Rl_noteAt_33 rfl rfl ?_
          refine wk_iaddN (pc := 34) S_ d_Rl_noteAt_34 ?_
          refine wk_ialdN (pc := 35) (g := nt) S_ 9 0 d_Rl_noteAt_35 rfl rfl (by omega) (by decide) ?_
          exact hQ_ (nI ((nt) (((L) * (8)) + (j)))) () d_Rl_noteAt_36 rfl (by rw [ntN_in hL, pick_in hj (by omega), zI_s, Nat.mul_comm 8 L])
        · -- on
          refine wk_iconst (pc := 23) (v := (-1)) S_ d_Rl_noteAt_23 (by decide) ?_
          exact hQ_ (-1) () d_Rl_noteAt_24 rfl (by rw [ntN_in hL, pick_b (Int32.not_lt.mp h20)]; exact zI_0.symm)
set_option maxHeartbeats 4000000 in
set_option maxRecDepth 100000 in
theorem c_Rl_outcomeOf (l : Launch) (D : va_G) (cI : CiT) (z : GzT) (r : Nat → Nat) (ap : (Nat → Nat)) (pt : (Nat → Nat)) (rk : (Nat → Nat)) (cd : (Nat → Nat)) (mc : (Nat → Nat)) (mg : (Nat → Nat)) (mz : (Nat → Nat)) (nc : (Nat → Nat)) (nt : (Nat → Nat)) (oc : (Nat → Nat)) (fr : Nat) (x : Nat) (i : Int32) (hx : x ≤ 9) : wk_C l D (tyK cI) (gX z) y_Rl_outcomeOf b_Rl_outcomeOf 3 (some .int) 0 0 0 0 [.ref (r 0), .int (nI (x)), .int (i)] (wRl r cI ap pt rk cd mc mg mz nc nt oc fr) wk_i (fun (r : Int32) (_ : Unit) => r = (zI (pickY 4 (fun jj => oc (4 * x + jj)) i))) (fun _ => (wRl r cI ap pt rk cd mc mg mz nc nt oc fr)) := by
  refine wk_methI (own := R_Rl) [(0, .ref (r 0)), (1, .int (nI (x))), (2, .int (i))] (by decide) rfl (Nat.le_of_ble_eq_true rfl) rfl (gX_ok z) (fun p_ e_ R_ s_ m_ ar_ be_ me_ co_ Q_ A_ hR_ S_ hnm_ hQ_ => ?_)
  refine wk_iload_n (pc := 0) S_ 1 d_Rl_outcomeOf_0 rfl rfl ?_
  refine wk_if_ltN (pc := 1) (tgt := 19) S_ d_Rl_outcomeOf_1 (by decide) (by omega) ?_
  refine wk_iload_n (pc := 4) S_ 1 d_Rl_outcomeOf_4 rfl rfl ?_
  refine wk_bipush (pc := 5) (v := (nI (10))) S_ d_Rl_outcomeOf_5 (by decide) ?_
  refine wk_icmp_geN (pc := 7) (tgt := 19) S_ d_Rl_outcomeOf_7 (by decide) (by omega) (by omega) (fun h7 => absurd h7 (by omega)) (fun h7 => ?_)
  refine wk_iload_n (pc := 10) S_ 2 d_Rl_outcomeOf_10 rfl rfl ?_
  refine wk_if_lt (pc := 11) (tgt := 19) S_ d_Rl_outcomeOf_11 (by decide) (fun h11 => ?_) (fun h11 => ?_)
  · -- taken
    refine wk_iconst (pc := 19) (v := (-1)) S_ d_Rl_outcomeOf_19 (by decide) ?_
    exact hQ_ (-1) () d_Rl_outcomeOf_20 rfl (by rw [pickY_f (ixI_a h11)]; exact zI_0.symm)
  · -- on
    refine wk_iload_n (pc := 14) S_ 2 d_Rl_outcomeOf_14 rfl rfl ?_
    refine wk_iconst (pc := 15) (v := (nI (4))) S_ d_Rl_outcomeOf_15 (by decide) ?_
    refine wk_icmp_lt (pc := 16) (tgt := 21) S_ d_Rl_outcomeOf_16 (by decide) (fun h16 => ?_) (fun h16 => ?_)
    · -- taken
      obtain ⟨j, hj, rfl⟩ := ix_of h11 (Int32.not_le.mpr h16) (by decide)
      refine wk_aload_n (pc := 21) S_ 0 d_Rl_outcomeOf_21 rfl rfl ?_
      refine wk_get (pc := 22) (v := .ref (r 10)) S_ 5 9 0 in_Rl rfl (by decide) rfl fl_Rl_39 d_Rl_outcomeOf_22 rfl rfl ?_
      refine wk_iload_n (pc := 25) S_ 1 d_Rl_outcomeOf_25 rfl rfl ?_
      refine wk_iconst (pc := 26) (v := (nI (4))) S_ d_Rl_outcomeOf_26 (by decide) ?_
      refine wk_imulN (pc := 27) S_ d_Rl_outcomeOf_27 ?_
      refine wk_iload_n (pc := 28) S_ 2 d_Rl_outcomeOf_28 rfl rfl ?_
      refine wk_iaddN (pc := 29) S_ d_Rl_outcomeOf_29 ?_
      refine wk_ialdY (pc := 30) (g := oc) S_ 10 0 d_Rl_outcomeOf_30 rfl rfl (by omega) (by decide) ?_
      exact hQ_ (zI ((oc) (((x) * (4)) + (j)))) () d_Rl_outcomeOf_31 rfl (by rw [pickY_in hj (by decide), Nat.mul_comm 4 x])
    · -- on
      refine wk_iconst (pc := 19) (v := (-1)) S_ d_Rl_outcomeOf_19 (by decide) ?_
      exact hQ_ (-1) () d_Rl_outcomeOf_20 rfl (by rw [pickY_f (ixI_b (Int32.not_lt.mp h16))]; exact zI_0.symm)
set_option maxHeartbeats 4000000 in
set_option maxRecDepth 100000 in
theorem c_Rl_markSize (l : Launch) (D : va_G) (cI : CiT) (z : GzT) (r : Nat → Nat) (ap : (Nat → Nat)) (pt : (Nat → Nat)) (rk : (Nat → Nat)) (cd : (Nat → Nat)) (mc : (Nat → Nat)) (mg : (Nat → Nat)) (mz : (Nat → Nat)) (nc : (Nat → Nat)) (nt : (Nat → Nat)) (oc : (Nat → Nat)) (fr : Nat) (c : Nat) (w : Nat) (hc : c < 9) (hw : w < 2 ^ 31) (hmc : ∀ c, mc c ≤ 6) (hmg : ∀ c, mg c ≤ 999999) : wk_C l D (tyK cI) (gX z) y_Rl_markSize b_Rl_markSize 4 (some .int) 0 0 0 0 [.ref (r 0), .int (nI (c)), .int (nI (w))] (wRl r cI ap pt rk cd mc mg mz nc nt oc fr) wk_i (fun (r : Int32) (_ : Unit) => r = (nI (mkS mg mz c w (mc c)))) (fun _ => (wRl r cI ap pt rk cd mc mg mz nc nt oc fr)) := by
  refine wk_methI (own := R_Rl) [(0, .ref (r 0)), (1, .int (nI (c))), (2, .int (nI (w)))] (by decide) rfl (Nat.le_of_ble_eq_true rfl) rfl (gX_ok z) (fun p_ e_ R_ s_ m_ ar_ be_ me_ co_ Q_ A_ hR_ S_ hnm_ hQ_ => ?_)
  refine wk_aload_n (pc := 0) S_ 0 d_Rl_markSize_0 rfl rfl ?_
  refine wk_get (pc := 1) (v := .ref (r 5)) S_ 5 4 0 in_Rl rfl (by decide) rfl fl_Rl_24 d_Rl_markSize_1 rfl rfl ?_
  refine wk_iload_n (pc := 4) S_ 1 d_Rl_markSize_4 rfl rfl ?_
  refine wk_ialdN (pc := 5) (g := mc) S_ 5 0 d_Rl_markSize_5 rfl rfl (by omega) (by decide) ?_
  refine wk_iconst (pc := 6) (v := (nI (1))) S_ d_Rl_markSize_6 (by decide) ?_
  refine wk_isub (pc := 7) S_ d_Rl_markSize_7 ?_
  refine wk_top (y := (zI (mc c))) rfl ?_
  refine wk_istore_n (pc := 8) (lv' := [(3, .int (zI (mc c))), (0, .ref (r 0)), (1, .int (nI (c))), (2, .int (nI (w)))]) S_ d_Rl_markSize_8 rfl (by decide) rfl ?_
  have hL9 : ∀ (fuel9 : Nat), ∀ (k : Nat), k < fuel9 → (k ≤ mc c) → (mkS mg mz c w k = mkS mg mz c w (mc c)) → wk_G p_ l e_ R_ s_ m_ ar_ be_ me_ co_ Q_ D A_ 4 0 0 (wRl r cI ap pt rk cd mc mg mz nc nt oc fr) 9 [(0, .ref (r 0)), (1, .int (nI (c))), (2, .int (nI (w))), (3, .int (zI (k)))] [] := by
    intro fuel9
    induction fuel9 with
    | zero => intro k hm; exact absurd hm (Nat.not_lt_zero _)
    | succ fuel9 ih9 =>
      intro k hm hk hE
      refine wk_iload_n (pc := 9) S_ 3 d_Rl_markSize_9 rfl rfl ?_
      have hm1 := hmc c
      refine wk_if_ltY (pc := 10) (tgt := 46) S_ d_Rl_markSize_10 (by decide) (by omega) (fun h10 => ?_) (fun h10 => ?_)
      · -- taken
        refine wk_iconst (pc := 46) (v := (nI (0))) S_ d_Rl_markSize_46 (by decide) ?_
        exact hQ_ (nI (0)) () d_Rl_markSize_47 rfl (congrArg nI (by rw [← hE, h10]; rfl))
      · -- on
        refine wk_aload_n (pc := 13) S_ 0 d_Rl_markSize_13 rfl rfl ?_
        refine wk_get (pc := 14) (v := .ref (r 6)) S_ 5 5 0 in_Rl rfl (by decide) rfl fl_Rl_27 d_Rl_markSize_14 rfl rfl ?_
        refine wk_iload_n (pc := 17) S_ 1 d_Rl_markSize_17 rfl rfl ?_
        refine wk_bipush (pc := 18) (v := (nI (6))) S_ d_Rl_markSize_18 (by decide) ?_
        refine wk_imulN (pc := 20) S_ d_Rl_markSize_20 ?_
        refine wk_iload_n (pc := 21) S_ 3 d_Rl_markSize_21 rfl rfl ?_
        refine wk_top (y := (nI (k - 1))) (zI_p h10) ?_
        refine wk_iaddN (pc := 22) S_ d_Rl_markSize_22 ?_
        refine wk_ialdN (pc := 23) (g := mg) S_ 6 0 d_Rl_markSize_23 rfl rfl (by omega) (by decide) ?_
        refine wk_iload_n (pc := 24) S_ 2 d_Rl_markSize_24 rfl rfl ?_
        have hm2 := hmg (c * 6 + (k - 1))
        refine wk_icmp_gtN (pc := 25) (tgt := 40) S_ d_Rl_markSize_25 (by decide) (by omega) (by omega) (fun h25 => ?_) (fun h25 => ?_)
        · -- taken
          refine wk_iincZ (pc := 40) (lv' := [(3, .int (zI (k - 1))), (0, .ref (r 0)), (1, .int (nI (c))), (2, .int (nI (w)))]) S_ 3 d_Rl_markSize_40 (by decide) (by omega) rfl (by decide) rfl ?_
          refine wk_goto (pc := 43) (tgt := 9) S_ d_Rl_markSize_43 (by decide) ?_
          refine wk_lv [1, 2, 3, 0] ?_ (ih9 (k - 1) (by omega) (by omega) (by rw [← hE]; obtain ⟨r2, rfl⟩ : ∃ r, k = r + 1 := ⟨k - 1, by omega⟩; rw [mkS, if_neg (by simp only [Nat.add_sub_cancel, Nat.mul_comm c 6] at h25; omega)]; rfl))
          rfl
        · -- on
          refine wk_aload_n (pc := 28) S_ 0 d_Rl_markSize_28 rfl rfl ?_
          refine wk_get (pc := 29) (v := .ref (r 7)) S_ 5 6 0 in_Rl rfl (by decide) rfl fl_Rl_30 d_Rl_markSize_29 rfl rfl ?_
          refine wk_iload_n (pc := 32) S_ 1 d_Rl_markSize_32 rfl rfl ?_
          refine wk_bipush (pc := 33) (v := (nI (6))) S_ d_Rl_markSize_33 (by decide) ?_
          refine wk_imulN (pc := 35) S_ d_Rl_markSize_35 ?_
          refine wk_iload_n (pc := 36) S_ 3 d_Rl_markSize_36 rfl rfl ?_
          refine wk_top (y := (nI (k - 1))) (zI_p h10) ?_
          refine wk_iaddN (pc := 37) S_ d_Rl_markSize_37 ?_
          refine wk_ialdN (pc := 38) (g := mz) S_ 7 0 d_Rl_markSize_38 rfl rfl (by omega) (by decide) ?_
          exact hQ_ (nI ((mz) (((c) * (6)) + (k - 1)))) () d_Rl_markSize_39 rfl (congrArg nI (by rw [← hE]; obtain ⟨r2, rfl⟩ : ∃ r, k = r + 1 := ⟨k - 1, by omega⟩; simp only [Nat.add_sub_cancel, Nat.mul_comm c 6] at h25 ⊢; rw [mkS, if_pos h25]))
  refine wk_lv [1, 2, 3, 0] ?_ (hL9 _ (mc c) (Nat.lt_succ_self _) (by omega) rfl)
  rfl
set_option maxHeartbeats 4000000 in
set_option maxRecDepth 100000 in
theorem c_Rl_placeOfMark (l : Launch) (D : va_G) (cI : CiT) (z : GzT) (r : Nat → Nat) (ap : (Nat → Nat)) (pt : (Nat → Nat)) (rk : (Nat → Nat)) (cd : (Nat → Nat)) (mc : (Nat → Nat)) (mg : (Nat → Nat)) (mz : (Nat → Nat)) (nc : (Nat → Nat)) (nt : (Nat → Nat)) (oc : (Nat → Nat)) (fr : Nat) (c : Nat) (w : Nat) (hc : c < 9) (hw : w < 2 ^ 31) (hmc : ∀ c, mc c ≤ 6) (hmg : ∀ c, mg c ≤ 999999) : wk_C l D (tyK cI) (gX z) y_Rl_placeOfMark b_Rl_placeOfMark 4 (some .int) 0 0 0 0 [.ref (r 0), .int (nI (c)), .int (nI (w))] (wRl r cI ap pt rk cd mc mg mz nc nt oc fr) wk_i (fun (r : Int32) (_ : Unit) => r = (nI (mpS mg c w (mc c) 0))) (fun _ => (wRl r cI ap pt rk cd mc mg mz nc nt oc fr)) := by
  refine wk_methI (own := R_Rl) [(0, .ref (r 0)), (1, .int (nI (c))), (2, .int (nI (w)))] (by decide) rfl (Nat.le_of_ble_eq_true rfl) rfl (gX_ok z) (fun p_ e_ R_ s_ m_ ar_ be_ me_ co_ Q_ A_ hR_ S_ hnm_ hQ_ => ?_)
  refine wk_iconst (pc := 0) (v := (nI (0))) S_ d_Rl_placeOfMark_0 (by decide) ?_
  refine wk_istore_n (pc := 1) (lv' := [(3, .int (nI (0))), (0, .ref (r 0)), (1, .int (nI (c))), (2, .int (nI (w)))]) S_ d_Rl_placeOfMark_1 rfl (by decide) rfl ?_
  have hL2 : ∀ (fuel2 : Nat), ∀ (q : Nat) (i : Nat), q < fuel2 → (i + q = mc c) → (mpS mg c w q i = mpS mg c w (mc c) 0) → wk_G p_ l e_ R_ s_ m_ ar_ be_ me_ co_ Q_ D A_ 4 0 0 (wRl r cI ap pt rk cd mc mg mz nc nt oc fr) 2 [(0, .ref (r 0)), (1, .int (nI (c))), (2, .int (nI (w))), (3, .int (nI (i)))] [] := by
    intro fuel2
    induction fuel2 with
    | zero => intro q i hm; exact absurd hm (Nat.not_lt_zero _)
    | succ fuel2 ih2 =>
      intro q i hm hk hE
      refine wk_iload_n (pc := 2) S_ 3 d_Rl_placeOfMark_2 rfl rfl ?_
      refine wk_aload_n (pc := 3) S_ 0 d_Rl_placeOfMark_3 rfl rfl ?_
      refine wk_get (pc := 4) (v := .ref (r 5)) S_ 5 4 0 in_Rl rfl (by decide) rfl fl_Rl_24 d_Rl_placeOfMark_4 rfl rfl ?_
      refine wk_iload_n (pc := 7) S_ 1 d_Rl_placeOfMark_7 rfl rfl ?_
      refine wk_ialdN (pc := 8) (g := mc) S_ 5 0 d_Rl_placeOfMark_8 rfl rfl (by omega) (by decide) ?_
      have hm1 := hmc c
      refine wk_icmp_geN (pc := 9) (tgt := 35) S_ d_Rl_placeOfMark_9 (by decide) (by omega) (by omega) (fun h9 => ?_) (fun h9 => ?_)
      · -- taken
        refine wk_aload_n (pc := 35) S_ 0 d_Rl_placeOfMark_35 rfl rfl ?_
        refine wk_get (pc := 36) (v := .ref (r 5)) S_ 5 4 0 in_Rl rfl (by decide) rfl fl_Rl_24 d_Rl_placeOfMark_36 rfl rfl ?_
        refine wk_iload_n (pc := 39) S_ 1 d_Rl_placeOfMark_39 rfl rfl ?_
        refine wk_ialdN (pc := 40) (g := mc) S_ 5 0 d_Rl_placeOfMark_40 rfl rfl (by omega) (by decide) ?_
        exact hQ_ (nI ((mc) (c))) () d_Rl_placeOfMark_41 rfl (congrArg nI (by rw [← hE, show q = 0 by omega, mpS]; omega))
      · -- on
        refine wk_aload_n (pc := 12) S_ 0 d_Rl_placeOfMark_12 rfl rfl ?_
        refine wk_get (pc := 13) (v := .ref (r 6)) S_ 5 5 0 in_Rl rfl (by decide) rfl fl_Rl_27 d_Rl_placeOfMark_13 rfl rfl ?_
        refine wk_iload_n (pc := 16) S_ 1 d_Rl_placeOfMark_16 rfl rfl ?_
        refine wk_bipush (pc := 17) (v := (nI (6))) S_ d_Rl_placeOfMark_17 (by decide) ?_
        refine wk_imulN (pc := 19) S_ d_Rl_placeOfMark_19 ?_
        refine wk_iload_n (pc := 20) S_ 3 d_Rl_placeOfMark_20 rfl rfl ?_
        refine wk_iaddN (pc := 21) S_ d_Rl_placeOfMark_21 ?_
        refine wk_ialdN (pc := 22) (g := mg) S_ 6 0 d_Rl_placeOfMark_22 rfl rfl (by omega) (by decide) ?_
        refine wk_iload_n (pc := 23) S_ 2 d_Rl_placeOfMark_23 rfl rfl ?_
        have hm2 := hmg (c * 6 + i)
        refine wk_icmp_neN (pc := 24) (tgt := 29) S_ d_Rl_placeOfMark_24 (by decide) (by omega) (by omega) (fun h24 => ?_) (fun h24 => ?_)
        · -- taken
          refine wk_iincN (pc := 29) (d := 1) (lv' := [(3, .int (nI (i + 1))), (0, .ref (r 0)), (1, .int (nI (c))), (2, .int (nI (w)))]) S_ 3 d_Rl_placeOfMark_29 (by decide) rfl (by decide) rfl ?_
          refine wk_goto (pc := 32) (tgt := 2) S_ d_Rl_placeOfMark_32 (by decide) ?_
          refine wk_lv [1, 2, 3, 0] ?_ (ih2 (q - 1) (i + 1) (by omega) (by omega) (by rw [← hE]; obtain ⟨r2, rfl⟩ : ∃ r, q = r + 1 := ⟨q - 1, by omega⟩; rw [mpS, if_neg (by rw [Nat.mul_comm 6 c]; exact h24)]; rfl))
          rfl
        · -- on
          refine wk_iload_n (pc := 27) S_ 3 d_Rl_placeOfMark_27 rfl rfl ?_
          exact hQ_ (nI (i)) () d_Rl_placeOfMark_28 rfl (congrArg nI (by rw [← hE]; obtain ⟨r2, rfl⟩ : ∃ r, q = r + 1 := ⟨q - 1, by omega⟩; rw [mpS, if_pos (by rw [Nat.mul_comm 6 c]; exact h24)]))
  refine wk_lv [1, 2, 3, 0] ?_ (hL2 _ (mc c) (0) (Nat.lt_succ_self _) (by omega) rfl)
  rfl
set_option maxHeartbeats 4000000 in
set_option maxRecDepth 100000 in
theorem c_Rl_hasRoomForNote (l : Launch) (D : va_G) (cI : CiT) (z : GzT) (r : Nat → Nat) (ap : (Nat → Nat)) (pt : (Nat → Nat)) (rk : (Nat → Nat)) (cd : (Nat → Nat)) (mc : (Nat → Nat)) (mg : (Nat → Nat)) (mz : (Nat → Nat)) (nc : (Nat → Nat)) (nt : (Nat → Nat)) (oc : (Nat → Nat)) (fr : Nat) (c : Nat) (hc : c < 4) (hnc : ∀ c, nc c ≤ 8) : wk_C l D (tyK cI) (gX z) y_Rl_hasRoomForNote b_Rl_hasRoomForNote 2 (some .boolean) 0 0 0 0 [.ref (r 0), .int (nI (c))] (wRl r cI ap pt rk cd mc mg mz nc nt oc fr) wk_i (fun (r : Int32) (_ : Unit) => r = (bI (decide (nc c < 8)))) (fun _ => (wRl r cI ap pt rk cd mc mg mz nc nt oc fr)) := by
  refine wk_methZ (own := R_Rl) [(0, .ref (r 0)), (1, .int (nI (c)))] (by decide) rfl (Nat.le_of_ble_eq_true rfl) rfl (gX_ok z) (fun p_ e_ R_ s_ m_ ar_ be_ me_ co_ Q_ A_ hR_ S_ hnm_ hQ_ => ?_)
  refine wk_aload_n (pc := 0) S_ 0 d_Rl_hasRoomForNote_0 rfl rfl ?_
  refine wk_get (pc := 1) (v := .ref (r 8)) S_ 5 7 0 in_Rl rfl (by decide) rfl fl_Rl_33 d_Rl_hasRoomForNote_1 rfl rfl ?_
  refine wk_iload_n (pc := 4) S_ 1 d_Rl_hasRoomForNote_4 rfl rfl ?_
  refine wk_ialdN (pc := 5) (g := nc) S_ 8 0 d_Rl_hasRoomForNote_5 rfl rfl (by omega) (by decide) ?_
  refine wk_bipush (pc := 6) (v := (nI (8))) S_ d_Rl_hasRoomForNote_6 (by decide) ?_
  have hn1 := hnc c
  refine wk_icmp_geN (pc := 8) (tgt := 15) S_ d_Rl_hasRoomForNote_8 (by decide) (by omega) (by omega) (fun h8 => ?_) (fun h8 => ?_)
  · -- taken
    refine wk_iconst (pc := 15) (v := (nI (0))) S_ d_Rl_hasRoomForNote_15 (by decide) ?_
    exact hQ_ (nI (0)) () d_Rl_hasRoomForNote_16 rfl rfl (bI_f (by (try simp at h8); simp [h8]))
  · -- on
    refine wk_iconst (pc := 11) (v := (nI (1))) S_ d_Rl_hasRoomForNote_11 (by decide) ?_
    refine wk_goto (pc := 12) (tgt := 16) S_ d_Rl_hasRoomForNote_12 (by decide) ?_
    exact hQ_ (nI (1)) () d_Rl_hasRoomForNote_16 rfl rfl (bI_t (by (try simp at h8); simp [h8]))
set_option maxHeartbeats 4000000 in
set_option maxRecDepth 100000 in
theorem c_St_learn (l : Launch) (D : va_G) (cI : CiT) (z : GzT) (s : Nat → Nat) (cl : (Nat → Nat)) (gr : (Nat → Nat)) (sp : (Nat → Nat)) (rs : (Nat → Nat)) (aw : (Nat → Nat)) (nb : Nat) (na : Nat) (bg : (Nat → Nat)) (bb : (Nat → Nat)) (ab : (Nat → Nat)) (nx : Nat) (j : Nat) (o : Nat) (hj : j < 8) (ho : o ≤ 18) : wk_C l D (tyK cI) (gX z) y_St_learn b_St_learn 3 (some .int) 0 0 0 0 [.ref (s 0), .int (nI (j)), .int (nI (o))] (wSt s cI cl gr sp rs aw nb na bg bb ab nx) wk_i (fun (r : Int32) (_ : Unit) => r = (lI (o + 1))) (fun _ => (wSt s cI (if o < 10 then cl else va_up cl j (o - 10 + 1)) gr (if o < 10 then va_up sp j o else sp) rs aw nb na bg bb ab nx)) := by
  refine wk_methI (own := R_St) [(0, .ref (s 0)), (1, .int (nI (j))), (2, .int (nI (o)))] (by decide) rfl (Nat.le_of_ble_eq_true rfl) rfl (gX_ok z) (fun p_ e_ R_ s_ m_ ar_ be_ me_ co_ Q_ A_ hR_ S_ hnm_ hQ_ => ?_)
  refine wk_iload_n (pc := 0) S_ 2 d_St_learn_0 rfl rfl ?_
  refine wk_bipush (pc := 1) (v := (nI (10))) S_ d_St_learn_1 (by decide) ?_
  refine wk_icmp_geN (pc := 3) (tgt := 15) S_ d_St_learn_3 (by decide) (by omega) (by omega) (fun h3 => ?_) (fun h3 => ?_)
  · -- taken
    refine wk_aload_n (pc := 15) S_ 0 d_St_learn_15 rfl rfl ?_
    refine wk_get (pc := 16) (v := .ref (s 1)) S_ 2 0 0 in_St rfl (by decide) rfl fl_St_9 d_St_learn_16 rfl rfl ?_
    refine wk_iload_n (pc := 19) S_ 1 d_St_learn_19 rfl rfl ?_
    refine wk_iload_n (pc := 20) S_ 2 d_St_learn_20 rfl rfl ?_
    refine wk_bipush (pc := 21) (v := (nI (10))) S_ d_St_learn_21 (by decide) ?_
    refine wk_isubN (pc := 23) S_ d_St_learn_23 (by omega) ?_
    refine wk_iastYN (pc := 24) (g := cl) (ws' := (wSt s cI (va_up (cl) (j) (((o) - (10)) + 1)) gr sp rs aw nb na bg bb ab nx)) S_ 1 0 d_St_learn_24 rfl rfl (by omega) (by decide) rfl ?_
    refine wk_iconst (pc := 25) (v := (-1)) S_ d_St_learn_25 (by decide) ?_
    refine wk_aload_n (pc := 26) S_ 0 d_St_learn_26 rfl rfl ?_
    refine wk_get (pc := 27) (v := .ref (s 1)) S_ 2 0 0 in_St rfl (by decide) rfl fl_St_9 d_St_learn_27 rfl rfl ?_
    refine wk_iload_n (pc := 30) S_ 1 d_St_learn_30 rfl rfl ?_
    refine wk_ialdY (pc := 31) (g := va_up (cl) (j) (((o) - (10)) + 1)) S_ 1 0 d_St_learn_31 rfl rfl (by omega) (by decide) ?_
    refine wk_top (y := (nI (o - 10))) (by rw [va_up_self, zI_s]) ?_
    refine wk_isub (pc := 32) S_ d_St_learn_32 ?_
    exact hQ_ ((-1) - (nI (o - 10))) () d_St_learn_33 (by rw [if_neg (by omega), if_neg (by omega)]) (by rw [lI, if_neg (by omega), if_neg (by omega), show o + 1 - 11 = o - 10 by omega])
  · -- on
    refine wk_aload_n (pc := 6) S_ 0 d_St_learn_6 rfl rfl ?_
    refine wk_get (pc := 7) (v := .ref (s 3)) S_ 2 2 0 in_St rfl (by decide) rfl fl_St_18 d_St_learn_7 rfl rfl ?_
    refine wk_iload_n (pc := 10) S_ 1 d_St_learn_10 rfl rfl ?_
    refine wk_iload_n (pc := 11) S_ 2 d_St_learn_11 rfl rfl ?_
    refine wk_iastN (pc := 12) (g := sp) (ws' := (wSt s cI cl gr (va_up (sp) (j) (o)) rs aw nb na bg bb ab nx)) S_ 3 0 d_St_learn_12 rfl rfl (by omega) (by decide) rfl ?_
    refine wk_iload_n (pc := 13) S_ 2 d_St_learn_13 rfl rfl ?_
    exact hQ_ (nI (o)) () d_St_learn_14 (by rw [if_pos h3, if_pos h3]) (by rw [lI_st (by omega) (by omega)]; rfl)
set_option maxHeartbeats 4000000 in
set_option maxRecDepth 100000 in
theorem c_Tx_takeByte (l : Launch) (D : va_G) (cI : CiT) (z : GzT) (t : Nat → Nat) (ty : (Nat → Nat)) (nu : (Nat → Nat)) (ln : Nat) (gt : Nat) (ok : Nat) (sn : Nat) (x : Int32) (hln : ln ≤ 1500) : wk_C l D (tyK cI) (gX z) y_Tx_takeByte b_Tx_takeByte 2 (some .boolean) 0 0 0 0 [.ref (t 0), .int (x)] (wTx t cI (zA z) ty nu ln gt ok sn) wk_i (fun (r : Int32) (u : (Nat → Nat) × Nat) => r = bI (unS ty ln true x).1 ∧ u.1 = (unS ty ln true x).2.1 ∧ u.2 = (unS ty ln true x).2.2.1) (fun u => (wTx t cI (zA z) u.1 nu u.2 gt ok sn)) := by
  refine wk_methZ (own := R_Tx) [(0, .ref (t 0)), (1, .int (x))] (by decide) rfl (Nat.le_of_ble_eq_true rfl) rfl (gX_ok z) (fun p_ e_ R_ s_ m_ ar_ be_ me_ co_ Q_ A_ hR_ S_ hnm_ hQ_ => ?_)
  refine wk_iload_n (pc := 0) S_ 1 d_Tx_takeByte_0 rfl rfl ?_
  refine wk_if_lt (pc := 1) (tgt := 21) S_ d_Tx_takeByte_1 (by decide) (fun h1 => ?_) (fun h1 => ?_)
  · -- taken
    refine wk_iconst (pc := 21) (v := (nI (0))) S_ d_Tx_takeByte_21 (by decide) ?_
    exact hQ_ (nI (0)) (ty, ln) d_Tx_takeByte_22 rfl rfl (by rw [unS, if_neg (fun z => by rw [ixI_a h1] at z; exact absurd z.1 (by decide))]; exact ⟨rfl, rfl, rfl⟩)
  · -- on
    refine wk_iload_n (pc := 4) S_ 1 d_Tx_takeByte_4 rfl rfl ?_
    refine wk_sipush (pc := 5) (v := (nI (255))) S_ d_Tx_takeByte_5 (by decide) ?_
    refine wk_icmp_gt (pc := 8) (tgt := 21) S_ d_Tx_takeByte_8 (by decide) (fun h8 => ?_) (fun h8 => ?_)
    · -- taken
      refine wk_iconst (pc := 21) (v := (nI (0))) S_ d_Tx_takeByte_21 (by decide) ?_
      exact hQ_ (nI (0)) (ty, ln) d_Tx_takeByte_22 rfl rfl (by rw [unS, if_neg (fun z => by rw [ixI_b (le256 h8)] at z; exact absurd z.1 (by decide))]; exact ⟨rfl, rfl, rfl⟩)
    · -- on
      refine wk_aload_n (pc := 11) S_ 0 d_Tx_takeByte_11 rfl rfl ?_
      refine wk_get (pc := 12) (v := .int (nI (ln))) S_ 1 1 0 in_Tx rfl (by decide) rfl fl_Tx_18 d_Tx_takeByte_12 rfl rfl ?_
      refine wk_sipush (pc := 15) (v := (nI (1500))) S_ d_Tx_takeByte_15 (by decide) ?_
      refine wk_icmp_ltN (pc := 18) (tgt := 23) S_ d_Tx_takeByte_18 (by decide) (by omega) (by omega) (fun h18 => ?_) (fun h18 => ?_)
      · -- taken
        obtain ⟨j, hj, rfl⟩ := ix_of (n := 256) h1 (fun z => h8 (Int32.lt_of_lt_of_le (by decide) z)) (by decide)
        refine wk_aload_n (pc := 23) S_ 0 d_Tx_takeByte_23 rfl rfl ?_
        refine wk_get (pc := 24) (v := .ref (t 1)) S_ 1 0 0 in_Tx rfl (by decide) rfl fl_Tx_9 d_Tx_takeByte_24 rfl rfl ?_
        refine wk_aload_n (pc := 27) S_ 0 d_Tx_takeByte_27 rfl rfl ?_
        refine wk_get (pc := 28) (v := .int (nI (ln))) S_ 1 1 0 in_Tx rfl (by decide) rfl fl_Tx_18 d_Tx_takeByte_28 rfl rfl ?_
        refine wk_iload_n (pc := 31) S_ 1 d_Tx_takeByte_31 rfl rfl ?_
        refine wk_iastN (pc := 32) (g := ty) (ws' := (wTx t cI (zA z) (va_up (ty) (ln) (j)) nu ln gt ok sn)) S_ 1 0 d_Tx_takeByte_32 rfl rfl (by omega) (by decide) rfl ?_
        refine wk_aload_n (pc := 33) S_ 0 d_Tx_takeByte_33 rfl rfl ?_
        refine wk_dup (pc := 34) S_ d_Tx_takeByte_34 rfl ?_
        refine wk_get (pc := 35) (v := .int (nI (ln))) S_ 1 1 0 in_Tx rfl (by decide) rfl fl_Tx_18 d_Tx_takeByte_35 rfl rfl ?_
        refine wk_iconst (pc := 38) (v := (nI (1))) S_ d_Tx_takeByte_38 (by decide) ?_
        refine wk_iaddN (pc := 39) S_ d_Tx_takeByte_39 ?_
        refine wk_put (pc := 40) (ty := .int) (ws' := (wTx t cI (zA z) (va_up (ty) (ln) (j)) nu ((ln) + (1)) gt ok sn)) S_ 1 1 0 in_Tx t_Tx t_Tx_ok n_Tx rfl (by decide) rfl fl_Tx_18 (by decide +kernel) d_Tx_takeByte_40 rfl rfl rfl (Nat.le_of_ble_eq_true rfl) rfl ?_
        refine wk_iconst (pc := 43) (v := (nI (1))) S_ d_Tx_takeByte_43 (by decide) ?_
        exact hQ_ (nI (1)) (va_up (ty) (ln) (j), (ln) + (1)) d_Tx_takeByte_44 rfl rfl (by rw [unS, if_pos ⟨by rw [ixI_nI (by decide) (by omega)]; simpa using hj, by omega⟩, nI_clamp (by omega)]; exact ⟨rfl, rfl, rfl⟩)
      · -- on
        refine wk_iconst (pc := 21) (v := (nI (0))) S_ d_Tx_takeByte_21 (by decide) ?_
        exact hQ_ (nI (0)) (ty, ln) d_Tx_takeByte_22 rfl rfl (by rw [unS, if_neg (fun z => by omega)]; exact ⟨rfl, rfl, rfl⟩)
set_option maxHeartbeats 4000000 in
set_option maxRecDepth 100000 in
theorem c_PL_isClass (l : Launch) (D : va_G) (cI : CiT) (z : GzT) (x : Int32) : wk_C l D (tyK cI) (gX z) y_PL_isClass b_PL_isClass 1 (some .boolean) 0 0 0 0 [.int (x)] [] wk_i (fun (r : Int32) (_ : Unit) => r = (bI (ixI 9 x))) (fun _ => []) := by
  refine wk_methZ (own := R_PL) [(0, .int (x))] (by decide) rfl (Nat.le_of_ble_eq_true rfl) rfl (gX_ok z) (fun p_ e_ R_ s_ m_ ar_ be_ me_ co_ Q_ A_ hR_ S_ hnm_ hQ_ => ?_)
  refine wk_iload_n (pc := 0) S_ 0 d_PL_isClass_0 rfl rfl ?_
  refine wk_if_lt (pc := 1) (tgt := 14) S_ d_PL_isClass_1 (by decide) (fun h1 => ?_) (fun h1 => ?_)
  · -- taken
    refine wk_iconst (pc := 14) (v := (nI (0))) S_ d_PL_isClass_14 (by decide) ?_
    exact hQ_ (nI (0)) () d_PL_isClass_15 rfl rfl (bI_f (by simp [ixI, h1]))
  · -- on
    refine wk_iload_n (pc := 4) S_ 0 d_PL_isClass_4 rfl rfl ?_
    refine wk_bipush (pc := 5) (v := (nI (9))) S_ d_PL_isClass_5 (by decide) ?_
    refine wk_icmp_ge (pc := 7) (tgt := 14) S_ d_PL_isClass_7 (by decide) (fun h7 => ?_) (fun h7 => ?_)
    · -- taken
      refine wk_iconst (pc := 14) (v := (nI (0))) S_ d_PL_isClass_14 (by decide) ?_
      exact hQ_ (nI (0)) () d_PL_isClass_15 rfl rfl (bI_f (by simp [ixI, h1, h7]))
    · -- on
      refine wk_iconst (pc := 10) (v := (nI (1))) S_ d_PL_isClass_10 (by decide) ?_
      refine wk_goto (pc := 11) (tgt := 15) S_ d_PL_isClass_11 (by decide) ?_
      exact hQ_ (nI (1)) () d_PL_isClass_15 rfl rfl (bI_t (by simp [ixI, h1, h7]))
set_option maxHeartbeats 4000000 in
set_option maxRecDepth 100000 in
theorem c_PL_isBoxGrams (l : Launch) (D : va_G) (cI : CiT) (z : GzT) (v : Int64) : wk_C l D (tyK cI) (gX z) y_PL_isBoxGrams b_PL_isBoxGrams 2 (some .boolean) 0 0 0 0 [.long (v)] [] wk_i (fun (r : Int32) (_ : Unit) => r = (bI (lxI v (lN 0) (lN 1000000)))) (fun _ => []) := by
  refine wk_methZ (own := R_PL) [(0, .long (v))] (by decide) rfl (Nat.le_of_ble_eq_true rfl) rfl (gX_ok z) (fun p_ e_ R_ s_ m_ ar_ be_ me_ co_ Q_ A_ hR_ S_ hnm_ hQ_ => ?_)
  refine wk_lload_n (pc := 0) S_ 0 d_PL_isBoxGrams_0 rfl rfl ?_
  refine wk_lconst (pc := 1) (v := (lN (0))) S_ d_PL_isBoxGrams_1 (by decide) ?_
  refine wk_lcmp (pc := 2) S_ d_PL_isBoxGrams_2 ?_
  refine wk_cmp_lt (pc := 3) (tgt := 18) S_ d_PL_isBoxGrams_3 (by decide) (fun h3 => ?_) (fun h3 => ?_)
  · -- taken
    refine wk_iconst (pc := 18) (v := (nI (0))) S_ d_PL_isBoxGrams_18 (by decide) ?_
    exact hQ_ (nI (0)) () d_PL_isBoxGrams_19 rfl rfl (bI_f (by simp [lxI, show ¬ lN 0 ≤ v from Int64.not_le.mpr h3]))
  · -- on
    refine wk_lload_n (pc := 6) S_ 0 d_PL_isBoxGrams_6 rfl rfl ?_
    refine wk_ldc2 (pc := 7) (v := (lN (1000000))) S_ kc_PL_185 d_PL_isBoxGrams_7 ?_
    refine wk_lcmp (pc := 10) S_ d_PL_isBoxGrams_10 ?_
    refine wk_cmp_gt (pc := 11) (tgt := 18) S_ d_PL_isBoxGrams_11 (by decide) (fun h11 => ?_) (fun h11 => ?_)
    · -- taken
      refine wk_iconst (pc := 18) (v := (nI (0))) S_ d_PL_isBoxGrams_18 (by decide) ?_
      exact hQ_ (nI (0)) () d_PL_isBoxGrams_19 rfl rfl (bI_f (by simp [lxI, show ¬ v ≤ lN 1000000 from Int64.not_le.mpr h11]))
    · -- on
      refine wk_iconst (pc := 14) (v := (nI (1))) S_ d_PL_isBoxGrams_14 (by decide) ?_
      refine wk_goto (pc := 15) (tgt := 19) S_ d_PL_isBoxGrams_15 (by decide) ?_
      exact hQ_ (nI (1)) () d_PL_isBoxGrams_19 rfl rfl (bI_t (by simp [lxI, Int64.not_lt.mp h3, Int64.not_lt.mp h11]))
