theorem fl_Tx_22 : Cond.fieldLink R_Tx 22 R_Tx "open" "LPackLists$Kind;" ∈ lw_gd := (gd _ (tb0 _ (List.mem_of_getElem? (i := 36) rfl)) rfl)
theorem fl_Tx_26 : Cond.fieldLink R_Tx 26 R_Tx "got" "I" ∈ lw_gd := (gd _ (tb0 _ (List.mem_of_getElem? (i := 35) rfl)) rfl)
theorem fl_Tx_29 : Cond.fieldLink R_Tx 29 R_Tx "sentences" "I" ∈ lw_gd := (gd _ (tb0 _ (List.mem_of_getElem? (i := 37) rfl)) rfl)
theorem d_Tx_clear_0 : decode b_Tx_clear 0 = .ok (.aload_n 0, 1) := by decide +kernel
theorem d_Tx_clear_1 : decode b_Tx_clear 1 = .ok (.iconst 0, 1) := by decide +kernel
theorem d_Tx_clear_2 : decode b_Tx_clear 2 = .ok (.putfield 18, 3) := by decide +kernel
theorem d_Tx_clear_5 : decode b_Tx_clear 5 = .ok (.aload_n 0, 1) := by decide +kernel
theorem d_Tx_clear_6 : decode b_Tx_clear 6 = .ok (.aconst_null, 1) := by decide +kernel
theorem d_Tx_clear_7 : decode b_Tx_clear 7 = .ok (.putfield 22, 3) := by decide +kernel
theorem d_Tx_clear_10 : decode b_Tx_clear 10 = .ok (.aload_n 0, 1) := by decide +kernel
theorem d_Tx_clear_11 : decode b_Tx_clear 11 = .ok (.iconst 0, 1) := by decide +kernel
theorem d_Tx_clear_12 : decode b_Tx_clear 12 = .ok (.putfield 26, 3) := by decide +kernel
theorem d_Tx_clear_15 : decode b_Tx_clear 15 = .ok (.aload_n 0, 1) := by decide +kernel
theorem d_Tx_clear_16 : decode b_Tx_clear 16 = .ok (.iconst 0, 1) := by decide +kernel
theorem d_Tx_clear_17 : decode b_Tx_clear 17 = .ok (.putfield 29, 3) := by decide +kernel
theorem d_Tx_clear_20 : decode b_Tx_clear 20 = .ok (.return_, 1) := by decide +kernel
theorem mv_Tx_102 : wk_V R_Tx 102 R_Sg y_Sg_length b_Sg_length 1 (some .int) 0 := ⟨(gd _ (tb1 _ (List.mem_of_getElem? (i := 44) rfl)) rfl), (gd _ (tb0 _ (List.mem_of_getElem? (i := 9) rfl)) rfl), (gd _ (tb1 _ (List.mem_of_getElem? (i := 41) rfl)) rfl), (by decide +kernel), (gd _ (tb1 _ (List.mem_of_getElem? (i := 42) rfl)) rfl), (gd _ (tb1 _ (List.mem_of_getElem? (i := 43) rfl)) rfl)⟩
theorem mv_Tx_107 : wk_V R_Tx 107 R_Sg y_Sg_charAt b_Sg_charAt 2 (some .char) 1 := ⟨(gd _ (tb1 _ (List.mem_of_getElem? (i := 54) rfl)) rfl), (gd _ (tb0 _ (List.mem_of_getElem? (i := 9) rfl)) rfl), (gd _ (tb1 _ (List.mem_of_getElem? (i := 51) rfl)) rfl), (by decide +kernel), (gd _ (tb1 _ (List.mem_of_getElem? (i := 52) rfl)) rfl), (gd _ (tb1 _ (List.mem_of_getElem? (i := 53) rfl)) rfl)⟩
theorem d_Tx_isWord_0 : decode b_Tx_isWord 0 = .ok (.aload_n 1, 1) := by decide +kernel
theorem d_Tx_isWord_1 : decode b_Tx_isWord 1 = .ok (.invokevirtual 102, 3) := by decide +kernel
theorem d_Tx_isWord_4 : decode b_Tx_isWord 4 = .ok (.iload_n 3, 1) := by decide +kernel
theorem d_Tx_isWord_5 : decode b_Tx_isWord 5 = .ok (.iload_n 2, 1) := by decide +kernel
theorem d_Tx_isWord_6 : decode b_Tx_isWord 6 = .ok (.isub, 1) := by decide +kernel
theorem d_Tx_isWord_7 : decode b_Tx_isWord 7 = .ok (.if_icmp .eq 5, 3) := by decide +kernel
theorem d_Tx_isWord_10 : decode b_Tx_isWord 10 = .ok (.iconst 0, 1) := by decide +kernel
theorem d_Tx_isWord_11 : decode b_Tx_isWord 11 = .ok (.ireturn, 1) := by decide +kernel
theorem d_Tx_isWord_12 : decode b_Tx_isWord 12 = .ok (.iconst 0, 1) := by decide +kernel
theorem d_Tx_isWord_13 : decode b_Tx_isWord 13 = .ok (.istore 4, 2) := by decide +kernel
theorem d_Tx_isWord_15 : decode b_Tx_isWord 15 = .ok (.iload 4, 2) := by decide +kernel
theorem d_Tx_isWord_17 : decode b_Tx_isWord 17 = .ok (.aload_n 1, 1) := by decide +kernel
theorem d_Tx_isWord_18 : decode b_Tx_isWord 18 = .ok (.invokevirtual 102, 3) := by decide +kernel
theorem d_Tx_isWord_21 : decode b_Tx_isWord 21 = .ok (.if_icmp .ge 29, 3) := by decide +kernel
theorem d_Tx_isWord_24 : decode b_Tx_isWord 24 = .ok (.aload_n 0, 1) := by decide +kernel
theorem d_Tx_isWord_25 : decode b_Tx_isWord 25 = .ok (.getfield 9, 3) := by decide +kernel
theorem d_Tx_isWord_28 : decode b_Tx_isWord 28 = .ok (.iload_n 2, 1) := by decide +kernel
theorem d_Tx_isWord_29 : decode b_Tx_isWord 29 = .ok (.iload 4, 2) := by decide +kernel
theorem d_Tx_isWord_31 : decode b_Tx_isWord 31 = .ok (.iadd, 1) := by decide +kernel
theorem d_Tx_isWord_32 : decode b_Tx_isWord 32 = .ok (.iaload, 1) := by decide +kernel
theorem d_Tx_isWord_33 : decode b_Tx_isWord 33 = .ok (.aload_n 1, 1) := by decide +kernel
theorem d_Tx_isWord_34 : decode b_Tx_isWord 34 = .ok (.iload 4, 2) := by decide +kernel
theorem d_Tx_isWord_36 : decode b_Tx_isWord 36 = .ok (.invokevirtual 107, 3) := by decide +kernel
theorem d_Tx_isWord_39 : decode b_Tx_isWord 39 = .ok (.if_icmp .eq 5, 3) := by decide +kernel
theorem d_Tx_isWord_42 : decode b_Tx_isWord 42 = .ok (.iconst 0, 1) := by decide +kernel
theorem d_Tx_isWord_43 : decode b_Tx_isWord 43 = .ok (.ireturn, 1) := by decide +kernel
theorem d_Tx_isWord_44 : decode b_Tx_isWord 44 = .ok (.iinc 4 1, 3) := by decide +kernel
theorem d_Tx_isWord_47 : decode b_Tx_isWord 47 = .ok (.goto (-32), 3) := by decide +kernel
theorem d_Tx_isWord_50 : decode b_Tx_isWord 50 = .ok (.iconst 1, 1) := by decide +kernel
theorem d_Tx_isWord_51 : decode b_Tx_isWord 51 = .ok (.ireturn, 1) := by decide +kernel
-- wanting: Cond.fieldLink "PackLists$Text" 90 "PackLists" "KINDS" "[LPackLists$Kind;"
-- wanting: Cond.fieldLink "PackLists$Text" 90 "PackLists" "KINDS" "[LPackLists$Kind;"
theorem fl_Tx_94 : Cond.fieldLink R_Tx 94 R_Kd "word" "Ljava/lang/String;" ∈ lw_gd := (gd _ (tb4 _ (List.mem_of_getElem? (i := 5) rfl)) rfl)
theorem mv_Tx_98 : wk_V R_Tx 98 R_Tx y_Tx_isWord b_Tx_isWord 5 (some .boolean) 3 := ⟨(gd _ (tb1 _ (List.mem_of_getElem? (i := 40) rfl)) rfl), (gd _ (tb0 _ (List.mem_of_getElem? (i := 2) rfl)) rfl), (gd _ (tb1 _ (List.mem_of_getElem? (i := 37) rfl)) rfl), (by decide +kernel), (gd _ (tb1 _ (List.mem_of_getElem? (i := 39) rfl)) rfl), (gd _ (List.mem_append_left _ (by decide +kernel)) rfl)⟩
-- wanting: Cond.fieldLink "PackLists$Text" 90 "PackLists" "KINDS" "[LPackLists$Kind;"
theorem d_Tx_kindOf_0 : decode b_Tx_kindOf 0 = .ok (.iconst 0, 1) := by decide +kernel
theorem d_Tx_kindOf_1 : decode b_Tx_kindOf 1 = .ok (.istore_n 3, 1) := by decide +kernel
theorem d_Tx_kindOf_2 : decode b_Tx_kindOf 2 = .ok (.iload_n 3, 1) := by decide +kernel
theorem d_Tx_kindOf_3 : decode b_Tx_kindOf 3 = .ok (.getstatic 90, 3) := by decide +kernel
theorem d_Tx_kindOf_6 : decode b_Tx_kindOf 6 = .ok (.arraylength, 1) := by decide +kernel
theorem d_Tx_kindOf_7 : decode b_Tx_kindOf 7 = .ok (.if_icmp .ge 32, 3) := by decide +kernel
theorem d_Tx_kindOf_10 : decode b_Tx_kindOf 10 = .ok (.aload_n 0, 1) := by decide +kernel
theorem d_Tx_kindOf_11 : decode b_Tx_kindOf 11 = .ok (.getstatic 90, 3) := by decide +kernel
theorem d_Tx_kindOf_14 : decode b_Tx_kindOf 14 = .ok (.iload_n 3, 1) := by decide +kernel
theorem d_Tx_kindOf_15 : decode b_Tx_kindOf 15 = .ok (.aaload, 1) := by decide +kernel
theorem d_Tx_kindOf_16 : decode b_Tx_kindOf 16 = .ok (.getfield 94, 3) := by decide +kernel
theorem d_Tx_kindOf_19 : decode b_Tx_kindOf 19 = .ok (.iload_n 1, 1) := by decide +kernel
theorem d_Tx_kindOf_20 : decode b_Tx_kindOf 20 = .ok (.iload_n 2, 1) := by decide +kernel
theorem d_Tx_kindOf_21 : decode b_Tx_kindOf 21 = .ok (.invokevirtual 98, 3) := by decide +kernel
theorem d_Tx_kindOf_24 : decode b_Tx_kindOf 24 = .ok (.ifCond .eq 9, 3) := by decide +kernel
theorem d_Tx_kindOf_27 : decode b_Tx_kindOf 27 = .ok (.getstatic 90, 3) := by decide +kernel
theorem d_Tx_kindOf_30 : decode b_Tx_kindOf 30 = .ok (.iload_n 3, 1) := by decide +kernel
theorem d_Tx_kindOf_31 : decode b_Tx_kindOf 31 = .ok (.aaload, 1) := by decide +kernel
theorem d_Tx_kindOf_32 : decode b_Tx_kindOf 32 = .ok (.areturn, 1) := by decide +kernel
theorem d_Tx_kindOf_33 : decode b_Tx_kindOf 33 = .ok (.iinc 3 1, 3) := by decide +kernel
theorem d_Tx_kindOf_36 : decode b_Tx_kindOf 36 = .ok (.goto (-34), 3) := by decide +kernel
theorem d_Tx_kindOf_39 : decode b_Tx_kindOf 39 = .ok (.aconst_null, 1) := by decide +kernel
theorem d_Tx_kindOf_40 : decode b_Tx_kindOf 40 = .ok (.areturn, 1) := by decide +kernel
theorem d_Tx_numberOf_0 : decode b_Tx_numberOf 0 = .ok (.iload_n 2, 1) := by decide +kernel
theorem d_Tx_numberOf_1 : decode b_Tx_numberOf 1 = .ok (.iload_n 1, 1) := by decide +kernel
theorem d_Tx_numberOf_2 : decode b_Tx_numberOf 2 = .ok (.isub, 1) := by decide +kernel
theorem d_Tx_numberOf_3 : decode b_Tx_numberOf 3 = .ok (.bipush 6, 2) := by decide +kernel
theorem d_Tx_numberOf_5 : decode b_Tx_numberOf 5 = .ok (.if_icmp .le 5, 3) := by decide +kernel
theorem d_Tx_numberOf_8 : decode b_Tx_numberOf 8 = .ok (.iconst (-1), 1) := by decide +kernel
theorem d_Tx_numberOf_9 : decode b_Tx_numberOf 9 = .ok (.ireturn, 1) := by decide +kernel
theorem d_Tx_numberOf_10 : decode b_Tx_numberOf 10 = .ok (.iconst 0, 1) := by decide +kernel
theorem d_Tx_numberOf_11 : decode b_Tx_numberOf 11 = .ok (.istore_n 3, 1) := by decide +kernel
theorem d_Tx_numberOf_12 : decode b_Tx_numberOf 12 = .ok (.iload_n 1, 1) := by decide +kernel
theorem d_Tx_numberOf_13 : decode b_Tx_numberOf 13 = .ok (.istore 4, 2) := by decide +kernel
theorem d_Tx_numberOf_15 : decode b_Tx_numberOf 15 = .ok (.iload 4, 2) := by decide +kernel
theorem d_Tx_numberOf_17 : decode b_Tx_numberOf 17 = .ok (.iload_n 2, 1) := by decide +kernel
theorem d_Tx_numberOf_18 : decode b_Tx_numberOf 18 = .ok (.if_icmp .ge 43, 3) := by decide +kernel
theorem d_Tx_numberOf_21 : decode b_Tx_numberOf 21 = .ok (.aload_n 0, 1) := by decide +kernel
theorem d_Tx_numberOf_22 : decode b_Tx_numberOf 22 = .ok (.getfield 9, 3) := by decide +kernel
theorem d_Tx_numberOf_25 : decode b_Tx_numberOf 25 = .ok (.iload 4, 2) := by decide +kernel
theorem d_Tx_numberOf_27 : decode b_Tx_numberOf 27 = .ok (.iaload, 1) := by decide +kernel
theorem d_Tx_numberOf_28 : decode b_Tx_numberOf 28 = .ok (.bipush 48, 2) := by decide +kernel
theorem d_Tx_numberOf_30 : decode b_Tx_numberOf 30 = .ok (.isub, 1) := by decide +kernel
theorem d_Tx_numberOf_31 : decode b_Tx_numberOf 31 = .ok (.istore 5, 2) := by decide +kernel
theorem d_Tx_numberOf_33 : decode b_Tx_numberOf 33 = .ok (.iload 5, 2) := by decide +kernel
theorem d_Tx_numberOf_35 : decode b_Tx_numberOf 35 = .ok (.ifCond .lt 10, 3) := by decide +kernel
theorem d_Tx_numberOf_38 : decode b_Tx_numberOf 38 = .ok (.iload 5, 2) := by decide +kernel
theorem d_Tx_numberOf_40 : decode b_Tx_numberOf 40 = .ok (.bipush 9, 2) := by decide +kernel
theorem d_Tx_numberOf_42 : decode b_Tx_numberOf 42 = .ok (.if_icmp .le 5, 3) := by decide +kernel
theorem d_Tx_numberOf_45 : decode b_Tx_numberOf 45 = .ok (.iconst (-1), 1) := by decide +kernel
theorem d_Tx_numberOf_46 : decode b_Tx_numberOf 46 = .ok (.ireturn, 1) := by decide +kernel
theorem d_Tx_numberOf_47 : decode b_Tx_numberOf 47 = .ok (.bipush 10, 2) := by decide +kernel
theorem d_Tx_numberOf_49 : decode b_Tx_numberOf 49 = .ok (.iload_n 3, 1) := by decide +kernel
theorem d_Tx_numberOf_50 : decode b_Tx_numberOf 50 = .ok (.imul, 1) := by decide +kernel
theorem d_Tx_numberOf_51 : decode b_Tx_numberOf 51 = .ok (.iload 5, 2) := by decide +kernel
theorem d_Tx_numberOf_53 : decode b_Tx_numberOf 53 = .ok (.iadd, 1) := by decide +kernel
theorem d_Tx_numberOf_54 : decode b_Tx_numberOf 54 = .ok (.istore_n 3, 1) := by decide +kernel
theorem d_Tx_numberOf_55 : decode b_Tx_numberOf 55 = .ok (.iinc 4 1, 3) := by decide +kernel
theorem d_Tx_numberOf_58 : decode b_Tx_numberOf 58 = .ok (.goto (-43), 3) := by decide +kernel
theorem d_Tx_numberOf_61 : decode b_Tx_numberOf 61 = .ok (.iload_n 3, 1) := by decide +kernel
theorem d_Tx_numberOf_62 : decode b_Tx_numberOf 62 = .ok (.ireturn, 1) := by decide +kernel
theorem fl_Tx_52 : Cond.fieldLink R_Tx 52 R_Kd "NOTE" "LPackLists$Kind;" ∈ lw_gd := (gd _ (tb1 _ (List.mem_of_getElem? (i := 93) rfl)) rfl)
theorem mv_Tx_57 : wk_V R_Tx 57 R_Rl y_Rl_hasRoomForNotes b_Rl_hasRoomForNotes 2 (some .boolean) 0 := ⟨(gd _ (tb1 _ (List.mem_of_getElem? (i := 98) rfl)) rfl), (gd _ (tb0 _ (List.mem_of_getElem? (i := 7) rfl)) rfl), (gd _ (tb1 _ (List.mem_of_getElem? (i := 95) rfl)) rfl), (by decide +kernel), (gd _ (tb1 _ (List.mem_of_getElem? (i := 96) rfl)) rfl), (gd _ (tb1 _ (List.mem_of_getElem? (i := 97) rfl)) rfl)⟩
theorem d_Tx_canBegin_0 : decode b_Tx_canBegin 0 = .ok (.aload_n 0, 1) := by decide +kernel
theorem d_Tx_canBegin_1 : decode b_Tx_canBegin 1 = .ok (.getfield 22, 3) := by decide +kernel
theorem d_Tx_canBegin_4 : decode b_Tx_canBegin 4 = .ok (.getstatic 52, 3) := by decide +kernel
theorem d_Tx_canBegin_7 : decode b_Tx_canBegin 7 = .ok (.if_acmp .ne 10, 3) := by decide +kernel
theorem d_Tx_canBegin_10 : decode b_Tx_canBegin 10 = .ok (.aload_n 1, 1) := by decide +kernel
theorem d_Tx_canBegin_11 : decode b_Tx_canBegin 11 = .ok (.invokevirtual 57, 3) := by decide +kernel
theorem d_Tx_canBegin_14 : decode b_Tx_canBegin 14 = .ok (.ifCond .eq 7, 3) := by decide +kernel
theorem d_Tx_canBegin_17 : decode b_Tx_canBegin 17 = .ok (.iconst 1, 1) := by decide +kernel
theorem d_Tx_canBegin_18 : decode b_Tx_canBegin 18 = .ok (.goto 4, 3) := by decide +kernel
theorem d_Tx_canBegin_21 : decode b_Tx_canBegin 21 = .ok (.iconst 0, 1) := by decide +kernel
theorem d_Tx_canBegin_22 : decode b_Tx_canBegin 22 = .ok (.ireturn, 1) := by decide +kernel
theorem mv_Tx_72 : wk_V R_Tx 72 R_Kd y_Kd_least b_Kd_least 4 (some .int) 1 := ⟨(gd _ (tb1 _ (List.mem_of_getElem? (i := 118) rfl)) rfl), (gd _ (tb0 _ (List.mem_of_getElem? (i := 14) rfl)) rfl), (gd _ (tb1 _ (List.mem_of_getElem? (i := 115) rfl)) rfl), (by decide +kernel), (gd _ (tb1 _ (List.mem_of_getElem? (i := 116) rfl)) rfl), (gd _ (tb1 _ (List.mem_of_getElem? (i := 117) rfl)) rfl)⟩
theorem mv_Tx_76 : wk_V R_Tx 76 R_Kd y_Kd_most b_Kd_most 2 (some .int) 1 := ⟨(gd _ (tb1 _ (List.mem_of_getElem? (i := 126) rfl)) rfl), (gd _ (tb0 _ (List.mem_of_getElem? (i := 14) rfl)) rfl), (gd _ (tb1 _ (List.mem_of_getElem? (i := 123) rfl)) rfl), (by decide +kernel), (gd _ (tb1 _ (List.mem_of_getElem? (i := 124) rfl)) rfl), (gd _ (tb1 _ (List.mem_of_getElem? (i := 125) rfl)) rfl)⟩
theorem mv_Tx_79 : wk_V R_Tx 79 R_Rl y_Rl_hasRoomForNote b_Rl_hasRoomForNote 2 (some .boolean) 1 := ⟨(gd _ (tb1 _ (List.mem_of_getElem? (i := 102) rfl)) rfl), (gd _ (tb0 _ (List.mem_of_getElem? (i := 7) rfl)) rfl), (gd _ (tb1 _ (List.mem_of_getElem? (i := 127) rfl)) rfl), (by decide +kernel), (gd _ (tb1 _ (List.mem_of_getElem? (i := 100) rfl)) rfl), (gd _ (tb1 _ (List.mem_of_getElem? (i := 101) rfl)) rfl)⟩
theorem fl_Tx_83 : Cond.fieldLink R_Tx 83 R_Kd "MARK" "LPackLists$Kind;" ∈ lw_gd := (gd _ (tb1 _ (List.mem_of_getElem? (i := 128) rfl)) rfl)
theorem fl_Tx_15 : Cond.fieldLink R_Tx 15 R_Tx "numbers" "[I" ∈ lw_gd := (gd _ (tb0 _ (List.mem_of_getElem? (i := 34) rfl)) rfl)
theorem mv_Tx_86 : wk_V R_Tx 86 R_Rl y_Rl_hasRoomForMark b_Rl_hasRoomForMark 3 (some .boolean) 2 := ⟨(gd _ (tb1 _ (List.mem_of_getElem? (i := 132) rfl)) rfl), (gd _ (tb0 _ (List.mem_of_getElem? (i := 7) rfl)) rfl), (gd _ (tb1 _ (List.mem_of_getElem? (i := 129) rfl)) rfl), (by decide +kernel), (gd _ (tb1 _ (List.mem_of_getElem? (i := 130) rfl)) rfl), (gd _ (tb1 _ (List.mem_of_getElem? (i := 131) rfl)) rfl)⟩
theorem d_Tx_canStand_0 : decode b_Tx_canStand 0 = .ok (.iload_n 1, 1) := by decide +kernel
theorem d_Tx_canStand_1 : decode b_Tx_canStand 1 = .ok (.aload_n 0, 1) := by decide +kernel
theorem d_Tx_canStand_2 : decode b_Tx_canStand 2 = .ok (.getfield 22, 3) := by decide +kernel
theorem d_Tx_canStand_5 : decode b_Tx_canStand 5 = .ok (.aload_n 0, 1) := by decide +kernel
theorem d_Tx_canStand_6 : decode b_Tx_canStand 6 = .ok (.getfield 26, 3) := by decide +kernel
theorem d_Tx_canStand_9 : decode b_Tx_canStand 9 = .ok (.invokevirtual 72, 3) := by decide +kernel
theorem d_Tx_canStand_12 : decode b_Tx_canStand 12 = .ok (.if_icmp .lt 18, 3) := by decide +kernel
theorem d_Tx_canStand_15 : decode b_Tx_canStand 15 = .ok (.iload_n 1, 1) := by decide +kernel
theorem d_Tx_canStand_16 : decode b_Tx_canStand 16 = .ok (.aload_n 0, 1) := by decide +kernel
theorem d_Tx_canStand_17 : decode b_Tx_canStand 17 = .ok (.getfield 22, 3) := by decide +kernel
theorem d_Tx_canStand_20 : decode b_Tx_canStand 20 = .ok (.aload_n 0, 1) := by decide +kernel
theorem d_Tx_canStand_21 : decode b_Tx_canStand 21 = .ok (.getfield 26, 3) := by decide +kernel
theorem d_Tx_canStand_24 : decode b_Tx_canStand 24 = .ok (.invokevirtual 76, 3) := by decide +kernel
theorem d_Tx_canStand_27 : decode b_Tx_canStand 27 = .ok (.if_icmp .le 5, 3) := by decide +kernel
theorem d_Tx_canStand_30 : decode b_Tx_canStand 30 = .ok (.iconst 0, 1) := by decide +kernel
theorem d_Tx_canStand_31 : decode b_Tx_canStand 31 = .ok (.ireturn, 1) := by decide +kernel
theorem d_Tx_canStand_32 : decode b_Tx_canStand 32 = .ok (.aload_n 0, 1) := by decide +kernel
theorem d_Tx_canStand_33 : decode b_Tx_canStand 33 = .ok (.getfield 22, 3) := by decide +kernel
theorem d_Tx_canStand_36 : decode b_Tx_canStand 36 = .ok (.getstatic 52, 3) := by decide +kernel
theorem d_Tx_canStand_39 : decode b_Tx_canStand 39 = .ok (.if_acmp .ne 16, 3) := by decide +kernel
theorem d_Tx_canStand_42 : decode b_Tx_canStand 42 = .ok (.aload_n 0, 1) := by decide +kernel
theorem d_Tx_canStand_43 : decode b_Tx_canStand 43 = .ok (.getfield 26, 3) := by decide +kernel
theorem d_Tx_canStand_46 : decode b_Tx_canStand 46 = .ok (.ifCond .ne 9, 3) := by decide +kernel
theorem d_Tx_canStand_49 : decode b_Tx_canStand 49 = .ok (.aload_n 2, 1) := by decide +kernel
theorem d_Tx_canStand_50 : decode b_Tx_canStand 50 = .ok (.iload_n 1, 1) := by decide +kernel
theorem d_Tx_canStand_51 : decode b_Tx_canStand 51 = .ok (.invokevirtual 79, 3) := by decide +kernel
theorem d_Tx_canStand_54 : decode b_Tx_canStand 54 = .ok (.ireturn, 1) := by decide +kernel
theorem d_Tx_canStand_55 : decode b_Tx_canStand 55 = .ok (.aload_n 0, 1) := by decide +kernel
theorem d_Tx_canStand_56 : decode b_Tx_canStand 56 = .ok (.getfield 22, 3) := by decide +kernel
theorem d_Tx_canStand_59 : decode b_Tx_canStand 59 = .ok (.getstatic 83, 3) := by decide +kernel
theorem d_Tx_canStand_62 : decode b_Tx_canStand 62 = .ok (.if_acmp .ne 23, 3) := by decide +kernel
theorem d_Tx_canStand_65 : decode b_Tx_canStand 65 = .ok (.aload_n 0, 1) := by decide +kernel
theorem d_Tx_canStand_66 : decode b_Tx_canStand 66 = .ok (.getfield 26, 3) := by decide +kernel
theorem d_Tx_canStand_69 : decode b_Tx_canStand 69 = .ok (.iconst 1, 1) := by decide +kernel
theorem d_Tx_canStand_70 : decode b_Tx_canStand 70 = .ok (.if_icmp .ne 15, 3) := by decide +kernel
theorem d_Tx_canStand_73 : decode b_Tx_canStand 73 = .ok (.aload_n 2, 1) := by decide +kernel
theorem d_Tx_canStand_74 : decode b_Tx_canStand 74 = .ok (.aload_n 0, 1) := by decide +kernel
theorem d_Tx_canStand_75 : decode b_Tx_canStand 75 = .ok (.getfield 15, 3) := by decide +kernel
theorem d_Tx_canStand_78 : decode b_Tx_canStand 78 = .ok (.iconst 0, 1) := by decide +kernel
theorem d_Tx_canStand_79 : decode b_Tx_canStand 79 = .ok (.iaload, 1) := by decide +kernel
theorem d_Tx_canStand_80 : decode b_Tx_canStand 80 = .ok (.iload_n 1, 1) := by decide +kernel
theorem d_Tx_canStand_81 : decode b_Tx_canStand 81 = .ok (.invokevirtual 86, 3) := by decide +kernel
theorem d_Tx_canStand_84 : decode b_Tx_canStand 84 = .ok (.ireturn, 1) := by decide +kernel
theorem d_Tx_canStand_85 : decode b_Tx_canStand 85 = .ok (.iconst 1, 1) := by decide +kernel
theorem d_Tx_canStand_86 : decode b_Tx_canStand 86 = .ok (.ireturn, 1) := by decide +kernel
theorem mv_Tx_63 : wk_V R_Tx 63 R_Tx y_Tx_canStand b_Tx_canStand 3 (some .boolean) 2 := ⟨(gd _ (tb1 _ (List.mem_of_getElem? (i := 114) rfl)) rfl), (gd _ (tb0 _ (List.mem_of_getElem? (i := 2) rfl)) rfl), (gd _ (tb1 _ (List.mem_of_getElem? (i := 111) rfl)) rfl), (by decide +kernel), (gd _ (tb1 _ (List.mem_of_getElem? (i := 113) rfl)) rfl), (gd _ (List.mem_append_left _ (by decide +kernel)) rfl)⟩
theorem fl_Tx_66 : Cond.fieldLink R_Tx 66 R_Kd "numbers" "I" ∈ lw_gd := (gd _ (tb4 _ (List.mem_of_getElem? (i := 11) rfl)) rfl)
theorem mv_Tx_68 : wk_V R_Tx 68 R_Rl y_Rl_learn b_Rl_learn 5 none 4 := ⟨(gd _ (tb1 _ (List.mem_of_getElem? (i := 140) rfl)) rfl), (gd _ (tb0 _ (List.mem_of_getElem? (i := 7) rfl)) rfl), (gd _ (tb1 _ (List.mem_of_getElem? (i := 137) rfl)) rfl), (by decide +kernel), (gd _ (tb1 _ (List.mem_of_getElem? (i := 138) rfl)) rfl), (gd _ (tb1 _ (List.mem_of_getElem? (i := 139) rfl)) rfl)⟩
theorem d_Tx_takeNumber_0 : decode b_Tx_takeNumber 0 = .ok (.aload_n 0, 1) := by decide +kernel
theorem d_Tx_takeNumber_1 : decode b_Tx_takeNumber 1 = .ok (.getfield 26, 3) := by decide +kernel
theorem d_Tx_takeNumber_4 : decode b_Tx_takeNumber 4 = .ok (.iconst 3, 1) := by decide +kernel
theorem d_Tx_takeNumber_5 : decode b_Tx_takeNumber 5 = .ok (.if_icmp .ge 12, 3) := by decide +kernel
theorem d_Tx_takeNumber_8 : decode b_Tx_takeNumber 8 = .ok (.aload_n 0, 1) := by decide +kernel
theorem d_Tx_takeNumber_9 : decode b_Tx_takeNumber 9 = .ok (.iload_n 1, 1) := by decide +kernel
theorem d_Tx_takeNumber_10 : decode b_Tx_takeNumber 10 = .ok (.aload_n 2, 1) := by decide +kernel
theorem d_Tx_takeNumber_11 : decode b_Tx_takeNumber 11 = .ok (.invokevirtual 63, 3) := by decide +kernel
theorem d_Tx_takeNumber_14 : decode b_Tx_takeNumber 14 = .ok (.ifCond .ne 5, 3) := by decide +kernel
theorem d_Tx_takeNumber_17 : decode b_Tx_takeNumber 17 = .ok (.iconst 0, 1) := by decide +kernel
theorem d_Tx_takeNumber_18 : decode b_Tx_takeNumber 18 = .ok (.ireturn, 1) := by decide +kernel
theorem d_Tx_takeNumber_19 : decode b_Tx_takeNumber 19 = .ok (.aload_n 0, 1) := by decide +kernel
theorem d_Tx_takeNumber_20 : decode b_Tx_takeNumber 20 = .ok (.getfield 15, 3) := by decide +kernel
theorem d_Tx_takeNumber_23 : decode b_Tx_takeNumber 23 = .ok (.aload_n 0, 1) := by decide +kernel
theorem d_Tx_takeNumber_24 : decode b_Tx_takeNumber 24 = .ok (.getfield 26, 3) := by decide +kernel
theorem d_Tx_takeNumber_27 : decode b_Tx_takeNumber 27 = .ok (.iload_n 1, 1) := by decide +kernel
theorem d_Tx_takeNumber_28 : decode b_Tx_takeNumber 28 = .ok (.iastore, 1) := by decide +kernel
theorem d_Tx_takeNumber_29 : decode b_Tx_takeNumber 29 = .ok (.aload_n 0, 1) := by decide +kernel
theorem d_Tx_takeNumber_30 : decode b_Tx_takeNumber 30 = .ok (.dup, 1) := by decide +kernel
theorem d_Tx_takeNumber_31 : decode b_Tx_takeNumber 31 = .ok (.getfield 26, 3) := by decide +kernel
theorem d_Tx_takeNumber_34 : decode b_Tx_takeNumber 34 = .ok (.iconst 1, 1) := by decide +kernel
theorem d_Tx_takeNumber_35 : decode b_Tx_takeNumber 35 = .ok (.iadd, 1) := by decide +kernel
theorem d_Tx_takeNumber_36 : decode b_Tx_takeNumber 36 = .ok (.putfield 26, 3) := by decide +kernel
theorem d_Tx_takeNumber_39 : decode b_Tx_takeNumber 39 = .ok (.aload_n 0, 1) := by decide +kernel
theorem d_Tx_takeNumber_40 : decode b_Tx_takeNumber 40 = .ok (.getfield 26, 3) := by decide +kernel
theorem d_Tx_takeNumber_43 : decode b_Tx_takeNumber 43 = .ok (.aload_n 0, 1) := by decide +kernel
theorem d_Tx_takeNumber_44 : decode b_Tx_takeNumber 44 = .ok (.getfield 22, 3) := by decide +kernel
theorem d_Tx_takeNumber_47 : decode b_Tx_takeNumber 47 = .ok (.getfield 66, 3) := by decide +kernel
theorem d_Tx_takeNumber_50 : decode b_Tx_takeNumber 50 = .ok (.if_icmp .lt 44, 3) := by decide +kernel
theorem d_Tx_takeNumber_53 : decode b_Tx_takeNumber 53 = .ok (.aload_n 2, 1) := by decide +kernel
theorem d_Tx_takeNumber_54 : decode b_Tx_takeNumber 54 = .ok (.aload_n 0, 1) := by decide +kernel
theorem d_Tx_takeNumber_55 : decode b_Tx_takeNumber 55 = .ok (.getfield 22, 3) := by decide +kernel
theorem d_Tx_takeNumber_58 : decode b_Tx_takeNumber 58 = .ok (.aload_n 0, 1) := by decide +kernel
theorem d_Tx_takeNumber_59 : decode b_Tx_takeNumber 59 = .ok (.getfield 15, 3) := by decide +kernel
theorem d_Tx_takeNumber_62 : decode b_Tx_takeNumber 62 = .ok (.iconst 0, 1) := by decide +kernel
theorem d_Tx_takeNumber_63 : decode b_Tx_takeNumber 63 = .ok (.iaload, 1) := by decide +kernel
theorem d_Tx_takeNumber_64 : decode b_Tx_takeNumber 64 = .ok (.aload_n 0, 1) := by decide +kernel
theorem d_Tx_takeNumber_65 : decode b_Tx_takeNumber 65 = .ok (.getfield 15, 3) := by decide +kernel
theorem d_Tx_takeNumber_68 : decode b_Tx_takeNumber 68 = .ok (.iconst 1, 1) := by decide +kernel
theorem d_Tx_takeNumber_69 : decode b_Tx_takeNumber 69 = .ok (.iaload, 1) := by decide +kernel
theorem d_Tx_takeNumber_70 : decode b_Tx_takeNumber 70 = .ok (.aload_n 0, 1) := by decide +kernel
theorem d_Tx_takeNumber_71 : decode b_Tx_takeNumber 71 = .ok (.getfield 15, 3) := by decide +kernel
theorem d_Tx_takeNumber_74 : decode b_Tx_takeNumber 74 = .ok (.iconst 2, 1) := by decide +kernel
theorem d_Tx_takeNumber_75 : decode b_Tx_takeNumber 75 = .ok (.iaload, 1) := by decide +kernel
theorem d_Tx_takeNumber_76 : decode b_Tx_takeNumber 76 = .ok (.invokevirtual 68, 3) := by decide +kernel
theorem d_Tx_takeNumber_79 : decode b_Tx_takeNumber 79 = .ok (.aload_n 0, 1) := by decide +kernel
theorem d_Tx_takeNumber_80 : decode b_Tx_takeNumber 80 = .ok (.aconst_null, 1) := by decide +kernel
theorem d_Tx_takeNumber_81 : decode b_Tx_takeNumber 81 = .ok (.putfield 22, 3) := by decide +kernel
theorem d_Tx_takeNumber_84 : decode b_Tx_takeNumber 84 = .ok (.aload_n 0, 1) := by decide +kernel
theorem d_Tx_takeNumber_85 : decode b_Tx_takeNumber 85 = .ok (.dup, 1) := by decide +kernel
theorem d_Tx_takeNumber_86 : decode b_Tx_takeNumber 86 = .ok (.getfield 29, 3) := by decide +kernel
theorem d_Tx_takeNumber_89 : decode b_Tx_takeNumber 89 = .ok (.iconst 1, 1) := by decide +kernel
theorem d_Tx_takeNumber_90 : decode b_Tx_takeNumber 90 = .ok (.iadd, 1) := by decide +kernel
theorem d_Tx_takeNumber_91 : decode b_Tx_takeNumber 91 = .ok (.putfield 29, 3) := by decide +kernel
theorem d_Tx_takeNumber_94 : decode b_Tx_takeNumber 94 = .ok (.iconst 1, 1) := by decide +kernel
theorem d_Tx_takeNumber_95 : decode b_Tx_takeNumber 95 = .ok (.ireturn, 1) := by decide +kernel
theorem mv_Tx_36 : wk_V R_Tx 36 R_Tx y_Tx_kindOf b_Tx_kindOf 4 (some (.object "PackLists$Kind")) 2 := ⟨(gd _ (tb1 _ (List.mem_of_getElem? (i := 34) rfl)) rfl), (gd _ (tb0 _ (List.mem_of_getElem? (i := 2) rfl)) rfl), (gd _ (tb1 _ (List.mem_of_getElem? (i := 31) rfl)) rfl), (by decide +kernel), (gd _ (tb1 _ (List.mem_of_getElem? (i := 33) rfl)) rfl), (gd _ (List.mem_append_left _ (by decide +kernel)) rfl)⟩
theorem mv_Tx_40 : wk_V R_Tx 40 R_Tx y_Tx_canBegin b_Tx_canBegin 2 (some .boolean) 1 := ⟨(gd _ (tb1 _ (List.mem_of_getElem? (i := 92) rfl)) rfl), (gd _ (tb0 _ (List.mem_of_getElem? (i := 2) rfl)) rfl), (gd _ (tb1 _ (List.mem_of_getElem? (i := 89) rfl)) rfl), (by decide +kernel), (gd _ (tb1 _ (List.mem_of_getElem? (i := 91) rfl)) rfl), (gd _ (List.mem_append_left _ (by decide +kernel)) rfl)⟩
theorem mv_Tx_44 : wk_V R_Tx 44 R_Tx y_Tx_numberOf b_Tx_numberOf 6 (some .int) 2 := ⟨(gd _ (tb1 _ (List.mem_of_getElem? (i := 106) rfl)) rfl), (gd _ (tb0 _ (List.mem_of_getElem? (i := 2) rfl)) rfl), (gd _ (tb1 _ (List.mem_of_getElem? (i := 103) rfl)) rfl), (by decide +kernel), (gd _ (tb1 _ (List.mem_of_getElem? (i := 105) rfl)) rfl), (gd _ (List.mem_append_left _ (by decide +kernel)) rfl)⟩
theorem mv_Tx_48 : wk_V R_Tx 48 R_Tx y_Tx_takeNumber b_Tx_takeNumber 3 (some .boolean) 2 := ⟨(gd _ (tb1 _ (List.mem_of_getElem? (i := 110) rfl)) rfl), (gd _ (tb0 _ (List.mem_of_getElem? (i := 2) rfl)) rfl), (gd _ (tb1 _ (List.mem_of_getElem? (i := 107) rfl)) rfl), (by decide +kernel), (gd _ (tb1 _ (List.mem_of_getElem? (i := 109) rfl)) rfl), (gd _ (List.mem_append_left _ (by decide +kernel)) rfl)⟩
theorem d_Tx_takeWord_0 : decode b_Tx_takeWord 0 = .ok (.aload_n 0, 1) := by decide +kernel
theorem d_Tx_takeWord_1 : decode b_Tx_takeWord 1 = .ok (.getfield 22, 3) := by decide +kernel
theorem d_Tx_takeWord_4 : decode b_Tx_takeWord 4 = .ok (.ifnonnull 39, 3) := by decide +kernel
theorem d_Tx_takeWord_7 : decode b_Tx_takeWord 7 = .ok (.aload_n 0, 1) := by decide +kernel
theorem d_Tx_takeWord_8 : decode b_Tx_takeWord 8 = .ok (.aload_n 0, 1) := by decide +kernel
theorem d_Tx_takeWord_9 : decode b_Tx_takeWord 9 = .ok (.iload_n 1, 1) := by decide +kernel
theorem d_Tx_takeWord_10 : decode b_Tx_takeWord 10 = .ok (.iload_n 2, 1) := by decide +kernel
theorem d_Tx_takeWord_11 : decode b_Tx_takeWord 11 = .ok (.invokevirtual 36, 3) := by decide +kernel
theorem d_Tx_takeWord_14 : decode b_Tx_takeWord 14 = .ok (.putfield 22, 3) := by decide +kernel
theorem d_Tx_takeWord_17 : decode b_Tx_takeWord 17 = .ok (.aload_n 0, 1) := by decide +kernel
theorem d_Tx_takeWord_18 : decode b_Tx_takeWord 18 = .ok (.iconst 0, 1) := by decide +kernel
theorem d_Tx_takeWord_19 : decode b_Tx_takeWord 19 = .ok (.putfield 26, 3) := by decide +kernel
theorem d_Tx_takeWord_22 : decode b_Tx_takeWord 22 = .ok (.aload_n 0, 1) := by decide +kernel
theorem d_Tx_takeWord_23 : decode b_Tx_takeWord 23 = .ok (.getfield 22, 3) := by decide +kernel
theorem d_Tx_takeWord_26 : decode b_Tx_takeWord 26 = .ok (.ifnull 15, 3) := by decide +kernel
theorem d_Tx_takeWord_29 : decode b_Tx_takeWord 29 = .ok (.aload_n 0, 1) := by decide +kernel
theorem d_Tx_takeWord_30 : decode b_Tx_takeWord 30 = .ok (.aload_n 3, 1) := by decide +kernel
theorem d_Tx_takeWord_31 : decode b_Tx_takeWord 31 = .ok (.invokevirtual 40, 3) := by decide +kernel
theorem d_Tx_takeWord_34 : decode b_Tx_takeWord 34 = .ok (.ifCond .eq 7, 3) := by decide +kernel
theorem d_Tx_takeWord_37 : decode b_Tx_takeWord 37 = .ok (.iconst 1, 1) := by decide +kernel
theorem d_Tx_takeWord_38 : decode b_Tx_takeWord 38 = .ok (.goto 4, 3) := by decide +kernel
theorem d_Tx_takeWord_41 : decode b_Tx_takeWord 41 = .ok (.iconst 0, 1) := by decide +kernel
theorem d_Tx_takeWord_42 : decode b_Tx_takeWord 42 = .ok (.ireturn, 1) := by decide +kernel
theorem d_Tx_takeWord_43 : decode b_Tx_takeWord 43 = .ok (.aload_n 0, 1) := by decide +kernel
theorem d_Tx_takeWord_44 : decode b_Tx_takeWord 44 = .ok (.aload_n 0, 1) := by decide +kernel
theorem d_Tx_takeWord_45 : decode b_Tx_takeWord 45 = .ok (.iload_n 1, 1) := by decide +kernel
theorem d_Tx_takeWord_46 : decode b_Tx_takeWord 46 = .ok (.iload_n 2, 1) := by decide +kernel
theorem d_Tx_takeWord_47 : decode b_Tx_takeWord 47 = .ok (.invokevirtual 44, 3) := by decide +kernel
theorem d_Tx_takeWord_50 : decode b_Tx_takeWord 50 = .ok (.aload_n 3, 1) := by decide +kernel
theorem d_Tx_takeWord_51 : decode b_Tx_takeWord 51 = .ok (.invokevirtual 48, 3) := by decide +kernel
theorem d_Tx_takeWord_54 : decode b_Tx_takeWord 54 = .ok (.ireturn, 1) := by decide +kernel
theorem mv_Tx_32 : wk_V R_Tx 32 R_Tx y_Tx_takeWord b_Tx_takeWord 4 (some .boolean) 3 := ⟨(gd _ (tb1 _ (List.mem_of_getElem? (i := 30) rfl)) rfl), (gd _ (tb0 _ (List.mem_of_getElem? (i := 2) rfl)) rfl), (gd _ (tb1 _ (List.mem_of_getElem? (i := 27) rfl)) rfl), (by decide +kernel), (gd _ (tb1 _ (List.mem_of_getElem? (i := 29) rfl)) rfl), (gd _ (List.mem_append_left _ (by decide +kernel)) rfl)⟩
theorem d_Tx_read_0 : decode b_Tx_read 0 = .ok (.iconst 0, 1) := by decide +kernel
theorem d_Tx_read_1 : decode b_Tx_read 1 = .ok (.istore_n 2, 1) := by decide +kernel
theorem d_Tx_read_2 : decode b_Tx_read 2 = .ok (.iconst (-1), 1) := by decide +kernel
theorem d_Tx_read_3 : decode b_Tx_read 3 = .ok (.istore_n 3, 1) := by decide +kernel
theorem d_Tx_read_4 : decode b_Tx_read 4 = .ok (.iconst 0, 1) := by decide +kernel
theorem d_Tx_read_5 : decode b_Tx_read 5 = .ok (.istore 4, 2) := by decide +kernel
theorem d_Tx_read_7 : decode b_Tx_read 7 = .ok (.iload 4, 2) := by decide +kernel
theorem d_Tx_read_9 : decode b_Tx_read 9 = .ok (.aload_n 0, 1) := by decide +kernel
theorem d_Tx_read_10 : decode b_Tx_read 10 = .ok (.getfield 18, 3) := by decide +kernel
theorem d_Tx_read_13 : decode b_Tx_read 13 = .ok (.if_icmp .gt 92, 3) := by decide +kernel
theorem d_Tx_read_16 : decode b_Tx_read 16 = .ok (.iload 4, 2) := by decide +kernel
theorem d_Tx_read_18 : decode b_Tx_read 18 = .ok (.aload_n 0, 1) := by decide +kernel
theorem d_Tx_read_19 : decode b_Tx_read 19 = .ok (.getfield 18, 3) := by decide +kernel
theorem d_Tx_read_22 : decode b_Tx_read 22 = .ok (.if_icmp .ge 31, 3) := by decide +kernel
theorem d_Tx_read_25 : decode b_Tx_read 25 = .ok (.aload_n 0, 1) := by decide +kernel
theorem d_Tx_read_26 : decode b_Tx_read 26 = .ok (.getfield 9, 3) := by decide +kernel
theorem d_Tx_read_29 : decode b_Tx_read 29 = .ok (.iload 4, 2) := by decide +kernel
theorem d_Tx_read_31 : decode b_Tx_read 31 = .ok (.iaload, 1) := by decide +kernel
theorem d_Tx_read_32 : decode b_Tx_read 32 = .ok (.bipush 32, 2) := by decide +kernel
theorem d_Tx_read_34 : decode b_Tx_read 34 = .ok (.if_icmp .eq 19, 3) := by decide +kernel
theorem d_Tx_read_37 : decode b_Tx_read 37 = .ok (.aload_n 0, 1) := by decide +kernel
theorem d_Tx_read_38 : decode b_Tx_read 38 = .ok (.getfield 9, 3) := by decide +kernel
theorem d_Tx_read_41 : decode b_Tx_read 41 = .ok (.iload 4, 2) := by decide +kernel
theorem d_Tx_read_43 : decode b_Tx_read 43 = .ok (.iaload, 1) := by decide +kernel
theorem d_Tx_read_44 : decode b_Tx_read 44 = .ok (.bipush 10, 2) := by decide +kernel
theorem d_Tx_read_46 : decode b_Tx_read 46 = .ok (.if_icmp .eq 7, 3) := by decide +kernel
theorem d_Tx_read_49 : decode b_Tx_read 49 = .ok (.iconst 1, 1) := by decide +kernel
theorem d_Tx_read_50 : decode b_Tx_read 50 = .ok (.goto 4, 3) := by decide +kernel
theorem d_Tx_read_53 : decode b_Tx_read 53 = .ok (.iconst 0, 1) := by decide +kernel
theorem d_Tx_read_54 : decode b_Tx_read 54 = .ok (.istore 5, 2) := by decide +kernel
theorem d_Tx_read_56 : decode b_Tx_read 56 = .ok (.iload 5, 2) := by decide +kernel
theorem d_Tx_read_58 : decode b_Tx_read 58 = .ok (.ifCond .eq 11, 3) := by decide +kernel
theorem d_Tx_read_61 : decode b_Tx_read 61 = .ok (.iload_n 3, 1) := by decide +kernel
theorem d_Tx_read_62 : decode b_Tx_read 62 = .ok (.iconst (-1), 1) := by decide +kernel
theorem d_Tx_read_63 : decode b_Tx_read 63 = .ok (.if_icmp .ne 6, 3) := by decide +kernel
theorem d_Tx_read_66 : decode b_Tx_read 66 = .ok (.iload 4, 2) := by decide +kernel
theorem d_Tx_read_68 : decode b_Tx_read 68 = .ok (.istore_n 3, 1) := by decide +kernel
theorem d_Tx_read_69 : decode b_Tx_read 69 = .ok (.iload 5, 2) := by decide +kernel
theorem d_Tx_read_71 : decode b_Tx_read 71 = .ok (.ifCond .ne 28, 3) := by decide +kernel
theorem d_Tx_read_74 : decode b_Tx_read 74 = .ok (.iload_n 3, 1) := by decide +kernel
theorem d_Tx_read_75 : decode b_Tx_read 75 = .ok (.iconst (-1), 1) := by decide +kernel
theorem d_Tx_read_76 : decode b_Tx_read 76 = .ok (.if_icmp .eq 23, 3) := by decide +kernel
theorem d_Tx_read_79 : decode b_Tx_read 79 = .ok (.aload_n 0, 1) := by decide +kernel
theorem d_Tx_read_80 : decode b_Tx_read 80 = .ok (.iload_n 3, 1) := by decide +kernel
theorem d_Tx_read_81 : decode b_Tx_read 81 = .ok (.iload 4, 2) := by decide +kernel
theorem d_Tx_read_83 : decode b_Tx_read 83 = .ok (.aload_n 1, 1) := by decide +kernel
theorem d_Tx_read_84 : decode b_Tx_read 84 = .ok (.invokevirtual 32, 3) := by decide +kernel
theorem d_Tx_read_87 : decode b_Tx_read 87 = .ok (.ifCond .ne 7, 3) := by decide +kernel
theorem d_Tx_read_90 : decode b_Tx_read 90 = .ok (.iconst (-1), 1) := by decide +kernel
theorem d_Tx_read_91 : decode b_Tx_read 91 = .ok (.iload_n 2, 1) := by decide +kernel
theorem d_Tx_read_92 : decode b_Tx_read 92 = .ok (.isub, 1) := by decide +kernel
theorem d_Tx_read_93 : decode b_Tx_read 93 = .ok (.ireturn, 1) := by decide +kernel
theorem d_Tx_read_94 : decode b_Tx_read 94 = .ok (.iinc 2 1, 3) := by decide +kernel
theorem d_Tx_read_97 : decode b_Tx_read 97 = .ok (.iconst (-1), 1) := by decide +kernel
theorem d_Tx_read_98 : decode b_Tx_read 98 = .ok (.istore_n 3, 1) := by decide +kernel
theorem d_Tx_read_99 : decode b_Tx_read 99 = .ok (.iinc 4 1, 3) := by decide +kernel
theorem d_Tx_read_102 : decode b_Tx_read 102 = .ok (.goto (-95), 3) := by decide +kernel
theorem d_Tx_read_105 : decode b_Tx_read 105 = .ok (.aload_n 0, 1) := by decide +kernel
theorem d_Tx_read_106 : decode b_Tx_read 106 = .ok (.getfield 22, 3) := by decide +kernel
theorem d_Tx_read_109 : decode b_Tx_read 109 = .ok (.ifnonnull 10, 3) := by decide +kernel
theorem d_Tx_read_112 : decode b_Tx_read 112 = .ok (.aload_n 0, 1) := by decide +kernel
theorem d_Tx_read_113 : decode b_Tx_read 113 = .ok (.getfield 29, 3) := by decide +kernel
theorem d_Tx_read_116 : decode b_Tx_read 116 = .ok (.goto 6, 3) := by decide +kernel
theorem d_Tx_read_119 : decode b_Tx_read 119 = .ok (.iconst (-1), 1) := by decide +kernel
theorem d_Tx_read_120 : decode b_Tx_read 120 = .ok (.iload_n 2, 1) := by decide +kernel
theorem d_Tx_read_121 : decode b_Tx_read 121 = .ok (.isub, 1) := by decide +kernel
theorem d_Tx_read_122 : decode b_Tx_read 122 = .ok (.ireturn, 1) := by decide +kernel
set_option maxHeartbeats 4000000 in
set_option maxRecDepth 100000 in
theorem c_Tx_clear (l : Launch) (D : va_G) (cI : CiT) (z : GzT) (t : Nat → Nat) (ty : (Nat → Nat)) (nu : (Nat → Nat)) (ln : Nat) (gt : Nat) (ok : Nat) (sn : Nat) : wk_C l D (tyK cI) (gX z) y_Tx_clear b_Tx_clear 1 none 0 0 0 0 [.ref (t 0)] (wTx t cI (zA z) ty nu ln gt ok sn) wk_v (fun (_ : Unit) (_ : Unit) => True) (fun _ => (wTx t cI (zA z) ty nu 0 0 0 0)) := by
  refine wk_methV (own := R_Tx) [(0, .ref (t 0))] (by decide) rfl (Nat.le_of_ble_eq_true rfl) rfl (gX_ok z) (fun p_ e_ R_ s_ m_ ar_ be_ me_ co_ Q_ A_ hR_ S_ hnm_ hQ_ => ?_)
  refine wk_aload_n (pc := 0) S_ 0 d_Tx_clear_0 rfl rfl ?_
  refine wk_iconst (pc := 1) (v := (nI (0))) S_ d_Tx_clear_1 (by decide) ?_
  refine wk_put (pc := 2) (ty := .int) (ws' := (wTx t cI (zA z) ty nu 0 gt ok sn)) S_ 1 1 0 in_Tx t_Tx t_Tx_ok n_Tx rfl (by decide) rfl fl_Tx_18 (by decide +kernel) d_Tx_clear_2 rfl rfl rfl (Nat.le_of_ble_eq_true rfl) rfl ?_
  refine wk_aload_n (pc := 5) S_ 0 d_Tx_clear_5 rfl rfl ?_
  refine wk_null (pc := 6) S_ d_Tx_clear_6 ?_
  refine wk_put (pc := 7) (ty := .object "PackLists$Kind") (ws' := (wTx t cI (zA z) ty nu 0 gt 0 sn)) S_ 1 4 0 in_Tx t_Tx t_Tx_ok n_Tx rfl (by decide) rfl fl_Tx_22 (by decide +kernel) d_Tx_clear_7 rfl rfl rfl (Nat.le_of_ble_eq_true rfl) rfl ?_
  refine wk_aload_n (pc := 10) S_ 0 d_Tx_clear_10 rfl rfl ?_
  refine wk_iconst (pc := 11) (v := (nI (0))) S_ d_Tx_clear_11 (by decide) ?_
  refine wk_put (pc := 12) (ty := .int) (ws' := (wTx t cI (zA z) ty nu 0 0 0 sn)) S_ 1 3 0 in_Tx t_Tx t_Tx_ok n_Tx rfl (by decide) rfl fl_Tx_26 (by decide +kernel) d_Tx_clear_12 rfl rfl rfl (Nat.le_of_ble_eq_true rfl) rfl ?_
  refine wk_aload_n (pc := 15) S_ 0 d_Tx_clear_15 rfl rfl ?_
  refine wk_iconst (pc := 16) (v := (nI (0))) S_ d_Tx_clear_16 (by decide) ?_
  refine wk_put (pc := 17) (ty := .int) (ws' := (wTx t cI (zA z) ty nu 0 0 0 0)) S_ 1 5 0 in_Tx t_Tx t_Tx_ok n_Tx rfl (by decide) rfl fl_Tx_29 (by decide +kernel) d_Tx_clear_17 rfl rfl rfl (Nat.le_of_ble_eq_true rfl) rfl ?_
  exact hQ_ () d_Tx_clear_20 rfl trivial
set_option maxHeartbeats 4000000 in
set_option maxRecDepth 100000 in
theorem c_Tx_isWord (l : Launch) (D : va_G) (cI : CiT) (z : GzT) (t : Nat → Nat) (ty : (Nat → Nat)) (nu : (Nat → Nat)) (ln : Nat) (gt : Nat) (ok : Nat) (sn : Nat) (i : Nat) (s : Nat) (e : Nat) (hi : i < 9) (hse : s ≤ e ∧ e ≤ 1500) (hty : ∀ i, ty i < 256) : wk_C l D (tyK cI) (gX z) y_Tx_isWord b_Tx_isWord 5 (some .boolean) 4 85 0 0 [.ref (t 0), .ref (zK z (i)), .int (nI (s)), .int (nI (e))] (wTx t cI (zA z) ty nu ln gt ok sn) wk_i (fun (r : Int32) (_ : Unit) => r = (bI (kwI ty s e i))) (fun _ => (wTx t cI (zA z) ty nu ln gt ok sn)) := by
  refine wk_methZ (own := R_Tx) [(0, .ref (t 0)), (1, .ref (zK z (i))), (2, .int (nI (s))), (3, .int (nI (e)))] (by decide) rfl (Nat.le_of_ble_eq_true rfl) rfl (gX_ok z) (fun p_ e_ R_ s_ m_ ar_ be_ me_ co_ Q_ A_ hR_ S_ hnm_ hQ_ => ?_)
  have hl6 := kl_le i
  refine wk_aload_n (pc := 0) S_ 1 d_Tx_isWord_0 rfl rfl ?_
  refine wk_run (pc := 1) (rest := []) (wr := (wTx t cI (zA z) ty nu ln gt ok sn)) (wN := fun _ => (wTx t cI (zA z) ty nu ln gt ok sn)) S_ (wk_rV S_ (c_Sg_length l D cI z (i) (by omega)) mv_Tx_102 (fun H locs _ hS => vk_recv (S_.2.2.2.1).2.2.1 (show i < 9 by omega) hS) rfl rfl (Nat.le_of_ble_eq_true rfl) (by rw [hR_]; decide) (by rw [hR_]; decide) d_Tx_isWord_1) [] [0, 1, 2] [0, 1, 2] rfl rfl rfl (by decide) (by decide) (by decide) (by decide) (fun _ => rfl) (fun _ => rfl) (fun r1 _ hw1 => ?_)
  refine wk_st (st' := [.int (r1)]) rfl ?_
  refine wk_top (y := (nI ((kwd (i)).length))) hw1 ?_
  refine wk_iload_n (pc := 4) S_ 3 d_Tx_isWord_4 rfl rfl ?_
  refine wk_iload_n (pc := 5) S_ 2 d_Tx_isWord_5 rfl rfl ?_
  refine wk_isubN (pc := 6) S_ d_Tx_isWord_6 (by omega) ?_
  refine wk_icmp_eqN (pc := 7) (tgt := 12) S_ d_Tx_isWord_7 (by decide) (by omega) (by omega) (fun h7 => ?_) (fun h7 => ?_)
  · -- taken
    refine wk_iconst (pc := 12) (v := (nI (0))) S_ d_Tx_isWord_12 (by decide) ?_
    refine wk_istore (pc := 13) (lv' := [(4, .int (nI (0))), (0, .ref (t 0)), (1, .ref (zK z (i))), (2, .int (nI (s))), (3, .int (nI (e)))]) S_ d_Tx_isWord_13 (by decide) rfl ?_
    have hL15 : ∀ (fuel15 : Nat), ∀ (k : Nat), (kwd i).length - k < fuel15 → (k ≤ (kwd i).length) → (∀ j, j < k → ty (s + j) = ch (kwd i) j) → wk_G p_ l e_ R_ s_ m_ ar_ be_ me_ co_ Q_ D A_ 5 0 0 (wTx t cI (zA z) ty nu ln gt ok sn) 15 [(0, .ref (t 0)), (1, .ref (zK z (i))), (2, .int (nI (s))), (3, .int (nI (e))), (4, .int (nI (k)))] [] := by
      intro fuel15
      induction fuel15 with
      | zero => intro k hm; exact absurd hm (Nat.not_lt_zero _)
      | succ fuel15 ih15 =>
        intro k hm hk hE
        refine wk_iload (pc := 15) S_ 4 d_Tx_isWord_15 rfl ?_
        refine wk_aload_n (pc := 17) S_ 1 d_Tx_isWord_17 rfl rfl ?_
        refine wk_run (pc := 18) (rest := [.int (nI (k))]) (wr := (wTx t cI (zA z) ty nu ln gt ok sn)) (wN := fun _ => (wTx t cI (zA z) ty nu ln gt ok sn)) S_ (wk_rV S_ (c_Sg_length l D cI z (i) (by omega)) mv_Tx_102 (fun H locs _ hS => vk_recv (S_.2.2.2.1).2.2.1 (show i < 9 by omega) hS) rfl rfl (Nat.le_of_ble_eq_true rfl) (by rw [hR_]; decide) (by rw [hR_]; decide) d_Tx_isWord_18) [] [0, 1, 2] [0, 1, 2] rfl rfl rfl (by decide) (by decide) (by decide) (by decide) (fun _ => rfl) (fun _ => rfl) (fun r18 _ hw18 => ?_)
        refine wk_st (st' := [.int (r18), .int (nI (k))]) rfl ?_
        refine wk_top (y := (nI ((kwd (i)).length))) hw18 ?_
        refine wk_icmp_geN (pc := 21) (tgt := 50) S_ d_Tx_isWord_21 (by decide) (by omega) (by omega) (fun h21 => ?_) (fun h21 => ?_)
        · -- taken
          refine wk_iconst (pc := 50) (v := (nI (1))) S_ d_Tx_isWord_50 (by decide) ?_
          exact hQ_ (nI (1)) () d_Tx_isWord_51 rfl rfl (bI_t (by rw [kwI, wIs]; exact decide_eq_true ⟨h7.symm, fun j hj => hE j (by omega)⟩))
        · -- on
          refine wk_aload_n (pc := 24) S_ 0 d_Tx_isWord_24 rfl rfl ?_
          refine wk_get (pc := 25) (v := .ref (t 1)) S_ 1 0 0 in_Tx rfl (by decide) rfl fl_Tx_9 d_Tx_isWord_25 rfl rfl ?_
          refine wk_iload_n (pc := 28) S_ 2 d_Tx_isWord_28 rfl rfl ?_
          refine wk_iload (pc := 29) S_ 4 d_Tx_isWord_29 rfl ?_
          refine wk_iaddN (pc := 31) S_ d_Tx_isWord_31 ?_
          refine wk_ialdN (pc := 32) (g := ty) S_ 1 0 d_Tx_isWord_32 rfl rfl (by omega) (by decide) ?_
          refine wk_aload_n (pc := 33) S_ 1 d_Tx_isWord_33 rfl rfl ?_
          refine wk_iload (pc := 34) S_ 4 d_Tx_isWord_34 rfl ?_
          refine wk_run (pc := 36) (rest := [.int (nI ((ty) ((s) + (k))))]) (wr := (wTx t cI (zA z) ty nu ln gt ok sn)) (wN := fun _ => (wTx t cI (zA z) ty nu ln gt ok sn)) S_ (wk_rV S_ (c_Sg_charAt l D cI z (i) (k) (by omega) (by omega)) mv_Tx_107 (fun H locs _ hS => vk_recv (S_.2.2.2.1).2.2.1 (show i < 9 by omega) hS) rfl rfl (Nat.le_of_ble_eq_true rfl) (by rw [hR_]; decide) (by rw [hR_]; decide) d_Tx_isWord_36) [] [0, 1, 2] [0, 1, 2] rfl rfl rfl (by decide) (by decide) (by decide) (by decide) (fun _ => rfl) (fun _ => rfl) (fun r36 _ hw36 => ?_)
          refine wk_st (st' := [.int (r36), .int (nI ((ty) ((s) + (k))))]) rfl ?_
          refine wk_top (y := (nI (ch (kwd (i)) (k)))) hw36 ?_
          have ht1 := hty (s + k)
          have hc1 := kw_lt i k
          refine wk_icmp_eqN (pc := 39) (tgt := 44) S_ d_Tx_isWord_39 (by decide) (by omega) (by omega) (fun h39 => ?_) (fun h39 => ?_)
          · -- taken
            refine wk_iincN (pc := 44) (d := 1) (lv' := [(4, .int (nI (k + 1))), (0, .ref (t 0)), (1, .ref (zK z (i))), (2, .int (nI (s))), (3, .int (nI (e)))]) S_ 4 d_Tx_isWord_44 (by decide) rfl (by decide) rfl ?_
            refine wk_goto (pc := 47) (tgt := 15) S_ d_Tx_isWord_47 (by decide) ?_
            refine wk_lv [1, 2, 3, 4, 0] ?_ (ih15 (k + 1) (by omega) (by omega) (fun j hj => by by_cases e1 : j = k; { rw [e1]; exact h39 }; { exact hE j (by omega) }))
            rfl
          · -- on
            refine wk_iconst (pc := 42) (v := (nI (0))) S_ d_Tx_isWord_42 (by decide) ?_
            exact hQ_ (nI (0)) () d_Tx_isWord_43 rfl rfl (bI_f (by rw [kwI, wIs]; exact decide_eq_false (fun z => h39 (z.2 k (by omega)))))
    refine wk_lv [1, 2, 3, 4, 0] ?_ (hL15 _ (0) (Nat.lt_succ_self _) (by omega) (fun j hj => absurd hj (Nat.not_lt_zero j)))
    rfl
  · -- on
    refine wk_iconst (pc := 10) (v := (nI (0))) S_ d_Tx_isWord_10 (by decide) ?_
    exact hQ_ (nI (0)) () d_Tx_isWord_11 rfl rfl (bI_f (by rw [kwI, wIs]; exact decide_eq_false (fun z => h7 z.1.symm)))
set_option maxHeartbeats 4000000 in
set_option maxRecDepth 100000 in
theorem c_Tx_kindOf (l : Launch) (D : va_G) (cI : CiT) (z : GzT) (t : Nat → Nat) (ty : (Nat → Nat)) (nu : (Nat → Nat)) (ln : Nat) (gt : Nat) (ok : Nat) (sn : Nat) (s : Nat) (e : Nat) (hse : s ≤ e ∧ e ≤ 1500) (hty : ∀ i, ty i < 256) : wk_C l D (tyK cI) (gX z) y_Tx_kindOf b_Tx_kindOf 4 (some (.object "PackLists$Kind")) 5 109 0 0 [.ref (t 0), .int (nI (s)), .int (nI (e))] (wTx t cI (zA z) ty nu ln gt ok sn) (wk_k (zA z)) (fun (r : Nat) (_ : Unit) => r = (kdS ty s e 9 0)) (fun _ => (wTx t cI (zA z) ty nu ln gt ok sn)) := by
  refine wk_methK (own := R_Tx) [(0, .ref (t 0)), (1, .int (nI (s))), (2, .int (nI (e)))] (by decide) rfl (Nat.le_of_ble_eq_true rfl) rfl (gX_ok z) (fun p_ e_ R_ s_ m_ ar_ be_ me_ co_ Q_ A_ hR_ S_ hnm_ hQ_ => ?_)
  refine wk_iconst (pc := 0) (v := (nI (0))) S_ d_Tx_kindOf_0 (by decide) ?_
  refine wk_istore_n (pc := 1) (lv' := [(3, .int (nI (0))), (0, .ref (t 0)), (1, .int (nI (s))), (2, .int (nI (e)))]) S_ d_Tx_kindOf_1 rfl (by decide) rfl ?_
  have hL2 : ∀ (fuel2 : Nat), ∀ (q : Nat) (k : Nat), q < fuel2 → (k + q = 9) → (kdS ty s e q k = kdS ty s e 9 0) → wk_G p_ l e_ R_ s_ m_ ar_ be_ me_ co_ Q_ D A_ 4 0 0 (wTx t cI (zA z) ty nu ln gt ok sn) 2 [(0, .ref (t 0)), (1, .int (nI (s))), (2, .int (nI (e))), (3, .int (nI (k)))] [] := by
    intro fuel2
    induction fuel2 with
    | zero => intro q k hm; exact absurd hm (Nat.not_lt_zero _)
    | succ fuel2 ih2 =>
      intro q k hm hk hE
      refine wk_iload_n (pc := 2) S_ 3 d_Tx_kindOf_2 rfl rfl ?_
      refine wk_getsN (pc := 3) S_ (gx_ks S_.2.2.2.1) (gx_n3 S_.2.2.2.1) d_Tx_kindOf_3 ?_
      refine wk_tlen (pc := 6) (v := nI 9) S_ (gx_kt S_.2.2.2.1) (by decide) d_Tx_kindOf_6 ?_
      refine wk_icmp_geN (pc := 7) (tgt := 39) S_ d_Tx_kindOf_7 (by decide) (by omega) (by omega) (fun h7 => ?_) (fun h7 => ?_)
      · -- taken
        refine wk_null (pc := 39) S_ d_Tx_kindOf_39 ?_
        exact hQ_ (0) () d_Tx_kindOf_40 rfl (by rw [← hE, show q = 0 by omega]; rfl)
      · -- on
        refine wk_aload_n (pc := 10) S_ 0 d_Tx_kindOf_10 rfl rfl ?_
        refine wk_getsN (pc := 11) S_ (gx_ks S_.2.2.2.1) (gx_n3 S_.2.2.2.1) d_Tx_kindOf_11 ?_
        refine wk_iload_n (pc := 14) S_ 3 d_Tx_kindOf_14 rfl rfl ?_
        refine wk_tq (pc := 15) S_ (gx_kt S_.2.2.2.1) (show k < 9 by omega) (by decide) d_Tx_kindOf_15 ?_
        refine wk_st (st' := [.ref (zA z (k)), .ref (t 0)]) rfl ?_
        refine wk_getO (pc := 16) S_ (gx_w S_.2.2.2.1 (show k < 9 by omega)) fl_Tx_94 d_Tx_kindOf_16 ?_
        refine wk_iload_n (pc := 19) S_ 1 d_Tx_kindOf_19 rfl rfl ?_
        refine wk_iload_n (pc := 20) S_ 2 d_Tx_kindOf_20 rfl rfl ?_
        refine wk_run (pc := 21) (rest := []) (wr := []) (wN := fun _ => (wTx t cI (zA z) ty nu ln gt ok sn)) S_ (wk_rV S_ (c_Tx_isWord l D cI z (t) (ty) (nu) (ln) (gt) (ok) (sn) (k) (s) (e) (by omega) hse hty) mv_Tx_98 (wk_rcv S_ 0 1 rfl rfl rfl) rfl rfl (Nat.le_of_ble_eq_true rfl) (by rw [hR_]; decide) (by rw [hR_]; decide) d_Tx_kindOf_21) [0, 1, 2] [] [0, 1, 2] rfl rfl rfl (by decide) (by decide) (by decide) (by decide) (fun _ => rfl) (fun _ => rfl) (fun r21 _ hw21 => ?_)
        refine wk_st (st' := [.int (r21)]) rfl ?_
        refine wk_top (y := (bI (kwI (ty) (s) (e) (k)))) hw21 ?_
        refine wk_if_eqB (pc := 24) (tgt := 33) S_ d_Tx_kindOf_24 (by decide) (fun h24 => ?_) (fun h24 => ?_)
        · -- taken
          refine wk_iincN (pc := 33) (d := 1) (lv' := [(3, .int (nI (k + 1))), (0, .ref (t 0)), (1, .int (nI (s))), (2, .int (nI (e)))]) S_ 3 d_Tx_kindOf_33 (by decide) rfl (by decide) rfl ?_
          refine wk_goto (pc := 36) (tgt := 2) S_ d_Tx_kindOf_36 (by decide) ?_
          refine wk_lv [1, 2, 3, 0] ?_ (ih2 (q - 1) (k + 1) (by omega) (by omega) (by rw [← hE]; obtain ⟨r, rfl⟩ : ∃ r, q = r + 1 := ⟨q - 1, by omega⟩; rw [kdS, if_neg (fun z => absurd (h24.symm.trans z) (by decide))]; rfl))
          rfl
        · -- on
          refine wk_getsN (pc := 27) S_ (gx_ks S_.2.2.2.1) (gx_n3 S_.2.2.2.1) d_Tx_kindOf_27 ?_
          refine wk_iload_n (pc := 30) S_ 3 d_Tx_kindOf_30 rfl rfl ?_
          refine wk_tq (pc := 31) S_ (gx_kt S_.2.2.2.1) (show k < 9 by omega) (by decide) d_Tx_kindOf_31 ?_
          refine wk_st (st' := [.ref (zA z (k))]) rfl ?_
          exact hQ_ ((k) + 1) () d_Tx_kindOf_32 rfl (by rw [← hE]; obtain ⟨r, rfl⟩ : ∃ r, q = r + 1 := ⟨q - 1, by omega⟩; rw [kdS, if_pos h24])
  refine wk_lv [1, 2, 3, 0] ?_ (hL2 _ (9) (0) (Nat.lt_succ_self _) (by omega) rfl)
  rfl
set_option maxHeartbeats 4000000 in
set_option maxRecDepth 100000 in
theorem c_Tx_numberOf (l : Launch) (D : va_G) (cI : CiT) (z : GzT) (t : Nat → Nat) (ty : (Nat → Nat)) (nu : (Nat → Nat)) (ln : Nat) (gt : Nat) (ok : Nat) (sn : Nat) (s : Nat) (e : Nat) (hse : s < e ∧ e ≤ 1500) (hty : ∀ i, ty i < 256) : wk_C l D (tyK cI) (gX z) y_Tx_numberOf b_Tx_numberOf 6 (some .int) 0 0 0 0 [.ref (t 0), .int (nI (s)), .int (nI (e))] (wTx t cI (zA z) ty nu ln gt ok sn) wk_i (fun (r : Int32) (_ : Unit) => r = (zI (nuN ty s e))) (fun _ => (wTx t cI (zA z) ty nu ln gt ok sn)) := by
  refine wk_methI (own := R_Tx) [(0, .ref (t 0)), (1, .int (nI (s))), (2, .int (nI (e)))] (by decide) rfl (Nat.le_of_ble_eq_true rfl) rfl (gX_ok z) (fun p_ e_ R_ s_ m_ ar_ be_ me_ co_ Q_ A_ hR_ S_ hnm_ hQ_ => ?_)
  refine wk_iload_n (pc := 0) S_ 2 d_Tx_numberOf_0 rfl rfl ?_
  refine wk_iload_n (pc := 1) S_ 1 d_Tx_numberOf_1 rfl rfl ?_
  refine wk_isubN (pc := 2) S_ d_Tx_numberOf_2 (by omega) ?_
  refine wk_bipush (pc := 3) (v := (nI (6))) S_ d_Tx_numberOf_3 (by decide) ?_
  refine wk_icmp_leN (pc := 5) (tgt := 10) S_ d_Tx_numberOf_5 (by decide) (by omega) (by omega) (fun h5 => ?_) (fun h5 => ?_)
  · -- taken
    refine wk_iconst (pc := 10) (v := (nI (0))) S_ d_Tx_numberOf_10 (by decide) ?_
    refine wk_istore_n (pc := 11) (lv' := [(3, .int (nI (0))), (0, .ref (t 0)), (1, .int (nI (s))), (2, .int (nI (e)))]) S_ d_Tx_numberOf_11 rfl (by decide) rfl ?_
    refine wk_iload_n (pc := 12) S_ 2 d_Tx_numberOf_12 rfl rfl ?_
    refine wk_istore (pc := 13) (lv' := [(4, .int (nI (s))), (3, .int (nI (0))), (0, .ref (t 0)), (1, .int (nI (s))), (2, .int (nI (e)))]) S_ d_Tx_numberOf_13 (by decide) rfl ?_
    have hL15 : ∀ (fuel15 : Nat), ∀ (q : Nat) (k : Nat) (v : Nat), q < fuel15 → (k + q = e ∧ q ≤ 6) → (v + 1 ≤ 10 ^ (6 - q)) → (nuS ty q k (v + 1) = nuN ty s e) → wk_G p_ l e_ R_ s_ m_ ar_ be_ me_ co_ Q_ D A_ 6 0 0 (wTx t cI (zA z) ty nu ln gt ok sn) 15 [(0, .ref (t 0)), (1, .int (nI (s))), (2, .int (nI (e))), (3, .int (nI (v))), (4, .int (nI (k)))] [] := by
      intro fuel15
      induction fuel15 with
      | zero => intro q k v hm; exact absurd hm (Nat.not_lt_zero _)
      | succ fuel15 ih15 =>
        intro q k v hm hk hv hE
        refine wk_iload (pc := 15) S_ 4 d_Tx_numberOf_15 rfl ?_
        refine wk_iload_n (pc := 17) S_ 2 d_Tx_numberOf_17 rfl rfl ?_
        refine wk_icmp_geN (pc := 18) (tgt := 61) S_ d_Tx_numberOf_18 (by decide) (by omega) (by omega) (fun h18 => ?_) (fun h18 => ?_)
        · -- taken
          refine wk_iload_n (pc := 61) S_ 3 d_Tx_numberOf_61 rfl rfl ?_
          exact hQ_ (nI (v)) () d_Tx_numberOf_62 rfl (by rw [← hE, show q = 0 by omega, nuS, zI_s])
        · -- on
          refine wk_aload_n (pc := 21) S_ 0 d_Tx_numberOf_21 rfl rfl ?_
          refine wk_get (pc := 22) (v := .ref (t 1)) S_ 1 0 0 in_Tx rfl (by decide) rfl fl_Tx_9 d_Tx_numberOf_22 rfl rfl ?_
          have hp6 : 10 ^ (6 - q) ≤ 10 ^ 6 := Nat.pow_le_pow_right (by decide) (by omega)
          have ht1 := hty k
          refine wk_iload (pc := 25) S_ 4 d_Tx_numberOf_25 rfl ?_
          refine wk_ialdN (pc := 27) (g := ty) S_ 1 0 d_Tx_numberOf_27 rfl rfl (by omega) (by decide) ?_
          refine wk_bipush (pc := 28) (v := (nI (48))) S_ d_Tx_numberOf_28 (by decide) ?_
          refine wk_isub (pc := 30) S_ d_Tx_numberOf_30 ?_
          refine wk_istore (pc := 31) (lv' := [(5, .int ((nI ((ty) (k))) - (nI (48)))), (0, .ref (t 0)), (1, .int (nI (s))), (2, .int (nI (e))), (3, .int (nI (v))), (4, .int (nI (k)))]) S_ d_Tx_numberOf_31 (by decide) rfl ?_
          refine wk_iload (pc := 33) S_ 0 d_Tx_numberOf_33 rfl ?_
          refine wk_if_lt (pc := 35) (tgt := 45) S_ d_Tx_numberOf_35 (by decide) (fun h35 => ?_) (fun h35 => ?_)
          · -- taken
            have h35' := (sub48 ht1).mp h35
            refine wk_iconst (pc := 45) (v := (-1)) S_ d_Tx_numberOf_45 (by decide) ?_
            exact hQ_ (-1) () d_Tx_numberOf_46 rfl (by rw [← hE]; obtain ⟨r, rfl⟩ : ∃ r, q = r + 1 := ⟨q - 1, by omega⟩; rw [nuS, if_neg (by omega), if_neg (fun z => by omega)]; exact zI_0.symm)
          · -- on
            have h35' : 48 ≤ ty k := Nat.le_of_not_lt (fun z => h35 ((sub48 ht1).mpr z))
            refine wk_lveq (lv' := [(5, .int (nI (ty k - 48))), (0, .ref (t 0)), (1, .int (nI (s))), (2, .int (nI (e))), (3, .int (nI (v))), (4, .int (nI (k)))]) (by rw [pk_sub (by omega)]) ?_
            refine wk_iload (pc := 38) S_ 0 d_Tx_numberOf_38 rfl ?_
            refine wk_bipush (pc := 40) (v := (nI (9))) S_ d_Tx_numberOf_40 (by decide) ?_
            refine wk_icmp_leN (pc := 42) (tgt := 47) S_ d_Tx_numberOf_42 (by decide) (by omega) (by omega) (fun h42 => ?_) (fun h42 => ?_)
            · -- taken
              refine wk_bipush (pc := 47) (v := (nI (10))) S_ d_Tx_numberOf_47 (by decide) ?_
              refine wk_iload_n (pc := 49) S_ 4 d_Tx_numberOf_49 rfl rfl ?_
              refine wk_imulN (pc := 50) S_ d_Tx_numberOf_50 ?_
              refine wk_iload (pc := 51) S_ 0 d_Tx_numberOf_51 rfl ?_
              refine wk_iaddN (pc := 53) S_ d_Tx_numberOf_53 ?_
              refine wk_istore_n (pc := 54) (lv' := [(3, .int (nI (((10) * (v)) + (ty k - 48)))), (5, .int (nI (ty k - 48))), (0, .ref (t 0)), (1, .int (nI (s))), (2, .int (nI (e))), (4, .int (nI (k)))]) S_ d_Tx_numberOf_54 rfl (by decide) rfl ?_
              refine wk_iincN (pc := 55) (d := 1) (lv' := [(4, .int (nI (k + 1))), (3, .int (nI (((10) * (v)) + (ty k - 48)))), (5, .int (nI (ty k - 48))), (0, .ref (t 0)), (1, .int (nI (s))), (2, .int (nI (e)))]) S_ 5 d_Tx_numberOf_55 (by decide) rfl (by decide) rfl ?_
              refine wk_goto (pc := 58) (tgt := 15) S_ d_Tx_numberOf_58 (by decide) ?_
              refine wk_lv [3, 4, 5, 1, 0] ?_ (ih15 (q - 1) (k + 1) (((10) * (v)) + (ty k - 48)) (by omega) (by omega) (by have e1 : 10 ^ (6 - (q - 1)) = 10 ^ (6 - q) * 10 := by { rw [← Nat.pow_succ]; congr 1; omega }; rw [e1]; omega) (by rw [← hE]; obtain ⟨r, rfl⟩ : ∃ r, q = r + 1 := ⟨q - 1, by omega⟩; rw [nuS, if_neg (by omega), if_pos ⟨by omega, by omega⟩]; rfl))
              rfl
            · -- on
              refine wk_iconst (pc := 45) (v := (-1)) S_ d_Tx_numberOf_45 (by decide) ?_
              exact hQ_ (-1) () d_Tx_numberOf_46 rfl (by rw [← hE]; obtain ⟨r, rfl⟩ : ∃ r, q = r + 1 := ⟨q - 1, by omega⟩; rw [nuS, if_neg (by omega), if_neg (fun z => by omega)]; exact zI_0.symm)
    refine wk_lv [2, 3, 4, 1, 0] ?_ (hL15 _ (e - s) (s) (0) (Nat.lt_succ_self _) (by omega) (Nat.pow_pos (by decide)) (by rw [nuN, if_pos ⟨by omega, by omega⟩]))
    rfl
  · -- on
    refine wk_iconst (pc := 8) (v := (-1)) S_ d_Tx_numberOf_8 (by decide) ?_
    exact hQ_ (-1) () d_Tx_numberOf_9 rfl (by rw [nuN, if_neg (fun z => by omega)]; exact zI_0.symm)
set_option maxHeartbeats 4000000 in
set_option maxRecDepth 100000 in
theorem c_Tx_canBegin (l : Launch) (D : va_G) (cI : CiT) (z : GzT) (t : Nat → Nat) (r : Nat → Nat) (ty : (Nat → Nat)) (nu : (Nat → Nat)) (ln : Nat) (gt : Nat) (ok : Nat) (sn : Nat) (ap : (Nat → Nat)) (pt : (Nat → Nat)) (rk : (Nat → Nat)) (cd : (Nat → Nat)) (mc : (Nat → Nat)) (mg : (Nat → Nat)) (mz : (Nat → Nat)) (nc : (Nat → Nat)) (nt : (Nat → Nat)) (oc : (Nat → Nat)) (fr : Nat) (x : Nat) (hok : ok = x + 1) (hx : x < 9) (hnc : ∀ c, nc c ≤ 8) : wk_C l D (tyK cI) (gX z) y_Tx_canBegin b_Tx_canBegin 2 (some .boolean) 2 42 0 0 [.ref (t 0), .ref (r 0)] (wTx t cI (zA z) ty nu ln gt ok sn ++ (wRl r cI ap pt rk cd mc mg mz nc nt oc fr)) wk_i (fun (r : Int32) (_ : Unit) => r = (bI (decide (¬ (x = 6 ∧ hrS nc 4 = false))))) (fun _ => (wTx t cI (zA z) ty nu ln gt ok sn ++ (wRl r cI ap pt rk cd mc mg mz nc nt oc fr))) := by
  refine wk_methZ (own := R_Tx) [(0, .ref (t 0)), (1, .ref (r 0))] (by decide) rfl (Nat.le_of_ble_eq_true rfl) rfl (gX_ok z) (fun p_ e_ R_ s_ m_ ar_ be_ me_ co_ Q_ A_ hR_ S_ hnm_ hQ_ => ?_)
  subst hok
  refine wk_aload_n (pc := 0) S_ 0 d_Tx_canBegin_0 rfl rfl ?_
  refine wk_get (pc := 1) (v := (kdV (zA z) (x + 1))) S_ 1 4 0 in_Tx rfl (by decide) rfl fl_Tx_22 d_Tx_canBegin_1 rfl rfl ?_
  refine wk_st (st' := [.ref (zA z (x))]) rfl ?_
  refine wk_gets (pc := 4) S_ (gx_k S_.2.2.2.1 6 (by decide) rfl) fl_Tx_52 d_Tx_canBegin_4 ?_
  refine wk_acmp_ne (pc := 7) (tgt := 17) S_ d_Tx_canBegin_7 (by decide) (fun h7_ => ?_) (fun h7_ => ?_)
  · -- taken
    have h7 : ¬ x = 6 := fun e9 => h7_ (congrArg (zA z) e9)
    refine wk_iconst (pc := 17) (v := (nI (1))) S_ d_Tx_canBegin_17 (by decide) ?_
    refine wk_goto (pc := 18) (tgt := 22) S_ d_Tx_canBegin_18 (by decide) ?_
    exact hQ_ (nI (1)) () d_Tx_canBegin_22 rfl rfl (bI_t (by simp [h7]))
  · -- on
    have h7 : x = 6 := gx_inj S_.2.2.2.1 (show x < 9 by omega) (by decide) h7_
    refine wk_aload_n (pc := 10) S_ 1 d_Tx_canBegin_10 rfl rfl ?_
    refine wk_run (pc := 11) (rest := []) (wr := (wTx t cI (zA z) ty nu ln gt (x + 1) sn)) (wN := fun _ => (wTx t cI (zA z) ty nu ln gt (x + 1) sn ++ (wRl r cI ap pt rk cd mc mg mz nc nt oc fr))) S_ (wk_rV S_ (c_Rl_hasRoomForNotes l D cI z (r) (ap) (pt) (rk) (cd) (mc) (mg) (mz) (nc) (nt) (oc) (fr) hnc) mv_Tx_57 (wk_rcv S_ 0 5 rfl rfl rfl) rfl rfl (Nat.le_of_ble_eq_true rfl) (by rw [hR_]; decide) (by rw [hR_]; decide) d_Tx_canBegin_11) [3, 4, 5, 6, 7, 8, 9, 10, 11, 12, 13] [0, 1, 2] [0, 1, 2, 3, 4, 5, 6, 7, 8, 9, 10, 11, 12, 13] rfl rfl rfl (by decide) (by decide) (by decide) (by decide) (fun _ => rfl) (fun _ => rfl) (fun r11 _ hw11 => ?_)
    refine wk_st (st' := [.int (r11)]) rfl ?_
    refine wk_top (y := (bI (hrS (nc) 4))) hw11 ?_
    refine wk_if_eqB (pc := 14) (tgt := 21) S_ d_Tx_canBegin_14 (by decide) (fun h14 => ?_) (fun h14 => ?_)
    · -- taken
      refine wk_iconst (pc := 21) (v := (nI (0))) S_ d_Tx_canBegin_21 (by decide) ?_
      exact hQ_ (nI (0)) () d_Tx_canBegin_22 rfl rfl (bI_f (by simp [h7, h14]))
    · -- on
      refine wk_iconst (pc := 17) (v := (nI (1))) S_ d_Tx_canBegin_17 (by decide) ?_
      refine wk_goto (pc := 18) (tgt := 22) S_ d_Tx_canBegin_18 (by decide) ?_
      exact hQ_ (nI (1)) () d_Tx_canBegin_22 rfl rfl (bI_t (by simp [h14]))
set_option maxHeartbeats 4000000 in
set_option maxRecDepth 100000 in
theorem c_Tx_canStand (l : Launch) (D : va_G) (cI : CiT) (z : GzT) (t : Nat → Nat) (r : Nat → Nat) (ty : (Nat → Nat)) (nu : (Nat → Nat)) (ln : Nat) (gt : Nat) (ok : Nat) (sn : Nat) (ap : (Nat → Nat)) (pt : (Nat → Nat)) (rk : (Nat → Nat)) (cd : (Nat → Nat)) (mc : (Nat → Nat)) (mg : (Nat → Nat)) (mz : (Nat → Nat)) (nc : (Nat → Nat)) (nt : (Nat → Nat)) (oc : (Nat → Nat)) (fr : Nat) (x : Nat) (v : Nat) (hok : ok = x + 1) (hx : x < 9) (hgt : gt < ptsK x) (hv6 : v ≤ 1000000) (hP : tdP x nc mc mg gt (fun i => nu i + 1)) (hmc : ∀ c, mc c ≤ 6) (hmg : ∀ c, mg c ≤ 999999) (hnc : ∀ c, nc c ≤ 8) : wk_C l D (tyK cI) (gX z) y_Tx_canStand b_Tx_canStand 3 (some .boolean) 2 45 0 0 [.ref (t 0), .int (zI (v)), .ref (r 0)] (wTx t cI (zA z) ty nu ln gt ok sn ++ (wRl r cI ap pt rk cd mc mg mz nc nt oc fr)) wk_i (fun (r : Int32) (_ : Unit) => r = (bI (gdN x gt v (fun i => nu i + 1) nc mc mg))) (fun _ => (wTx t cI (zA z) ty nu ln gt ok sn ++ (wRl r cI ap pt rk cd mc mg mz nc nt oc fr))) := by
  refine wk_methZ (own := R_Tx) [(0, .ref (t 0)), (1, .int (zI (v))), (2, .ref (r 0))] (by decide) rfl (Nat.le_of_ble_eq_true rfl) rfl (gX_ok z) (fun p_ e_ R_ s_ m_ ar_ be_ me_ co_ Q_ A_ hR_ S_ hnm_ hQ_ => ?_)
  subst hok
  have hp3 := ptsK_le x
  have hgk := grK_le x gt
  have hlk := lsK_le x gt
  refine wk_iload_n (pc := 0) S_ 1 d_Tx_canStand_0 rfl rfl ?_
  refine wk_aload_n (pc := 1) S_ 0 d_Tx_canStand_1 rfl rfl ?_
  refine wk_get (pc := 2) (v := (kdV (zA z) (x + 1))) S_ 1 4 0 in_Tx rfl (by decide) rfl fl_Tx_22 d_Tx_canStand_2 rfl rfl ?_
  refine wk_st (st' := [.ref (zA z (x)), .int (zI (v))]) rfl ?_
  refine wk_aload_n (pc := 5) S_ 0 d_Tx_canStand_5 rfl rfl ?_
  refine wk_get (pc := 6) (v := .int (nI (gt))) S_ 1 3 0 in_Tx rfl (by decide) rfl fl_Tx_26 d_Tx_canStand_6 rfl rfl ?_
  refine wk_run (pc := 9) (rest := [.int (zI (v))]) (wr := (wTx t cI (zA z) ty nu ln gt (x + 1) sn ++ (wRl r cI ap pt rk cd mc mg mz nc nt oc fr))) (wN := fun _ => (wTx t cI (zA z) ty nu ln gt (x + 1) sn ++ (wRl r cI ap pt rk cd mc mg mz nc nt oc fr))) S_ (wk_rV S_ (c_Kd_least l D cI z (x) (gt) (by omega) (by omega)) mv_Tx_72 (fun H locs _ hS => va_recvE (S_.2.2.2.1).1 (show x < 9 by omega) hS) rfl rfl (Nat.le_of_ble_eq_true rfl) (by rw [hR_]; decide) (by rw [hR_]; decide) d_Tx_canStand_9) [] [0, 1, 2, 3, 4, 5, 6, 7, 8, 9, 10, 11, 12, 13] [0, 1, 2, 3, 4, 5, 6, 7, 8, 9, 10, 11, 12, 13] rfl rfl rfl (by decide) (by decide) (by decide) (by decide) (fun _ => rfl) (fun _ => rfl) (fun r9 _ hw9 => ?_)
  refine wk_st (st' := [.int (r9), .int (zI (v))]) rfl ?_
  refine wk_top (y := (nI (lsK (x) (gt)))) hw9 ?_
  refine wk_icmp_lt (pc := 12) (tgt := 30) S_ d_Tx_canStand_12 (by decide) (fun h12 => ?_) (fun h12 => ?_)
  · -- taken
    have hl := (zI_ltN (by omega) (by omega)).mp h12
    refine wk_iconst (pc := 30) (v := (nI (0))) S_ d_Tx_canStand_30 (by decide) ?_
    exact hQ_ (nI (0)) () d_Tx_canStand_31 rfl rfl (bI_f (by rw [gdN]; exact decide_eq_false (fun z => by omega)))
  · -- on
    have hl : lsK x gt + 1 ≤ v := Nat.le_of_not_lt (fun z => h12 ((zI_ltN (by omega) (by omega)).mpr z))
    have hv0 : v ≠ 0 := by omega
    refine wk_lveq (lv' := [(0, .ref (t 0)), (1, .int (nI (v - 1))), (2, .ref (r 0))]) (by rw [zI_p hv0]) ?_
    refine wk_iload_n (pc := 15) S_ 1 d_Tx_canStand_15 rfl rfl ?_
    refine wk_aload_n (pc := 16) S_ 0 d_Tx_canStand_16 rfl rfl ?_
    refine wk_get (pc := 17) (v := (kdV (zA z) (x + 1))) S_ 1 4 0 in_Tx rfl (by decide) rfl fl_Tx_22 d_Tx_canStand_17 rfl rfl ?_
    refine wk_st (st' := [.ref (zA z (x)), .int (nI (v - 1))]) rfl ?_
    refine wk_aload_n (pc := 20) S_ 0 d_Tx_canStand_20 rfl rfl ?_
    refine wk_get (pc := 21) (v := .int (nI (gt))) S_ 1 3 0 in_Tx rfl (by decide) rfl fl_Tx_26 d_Tx_canStand_21 rfl rfl ?_
    refine wk_run (pc := 24) (rest := [.int (nI (v - 1))]) (wr := (wTx t cI (zA z) ty nu ln gt (x + 1) sn ++ (wRl r cI ap pt rk cd mc mg mz nc nt oc fr))) (wN := fun _ => (wTx t cI (zA z) ty nu ln gt (x + 1) sn ++ (wRl r cI ap pt rk cd mc mg mz nc nt oc fr))) S_ (wk_rV S_ (c_Kd_most l D cI z (x) (gt) (by omega) (by omega)) mv_Tx_76 (fun H locs _ hS => va_recvE (S_.2.2.2.1).1 (show x < 9 by omega) hS) rfl rfl (Nat.le_of_ble_eq_true rfl) (by rw [hR_]; decide) (by rw [hR_]; decide) d_Tx_canStand_24) [] [0, 1, 2, 3, 4, 5, 6, 7, 8, 9, 10, 11, 12, 13] [0, 1, 2, 3, 4, 5, 6, 7, 8, 9, 10, 11, 12, 13] rfl rfl rfl (by decide) (by decide) (by decide) (by decide) (fun _ => rfl) (fun _ => rfl) (fun r24 _ hw24 => ?_)
    refine wk_st (st' := [.int (r24), .int (nI (v - 1))]) rfl ?_
    refine wk_top (y := (nI (moK (x) (gt)))) hw24 ?_
    refine wk_top (y := (nI (grK x gt))) (congrArg nI (moK_gr x hx gt hgt)) ?_
    refine wk_icmp_leN (pc := 27) (tgt := 32) S_ d_Tx_canStand_27 (by decide) (by omega) (by omega) (fun h27 => ?_) (fun h27 => ?_)
    · -- taken
      refine wk_aload_n (pc := 32) S_ 0 d_Tx_canStand_32 rfl rfl ?_
      refine wk_get (pc := 33) (v := (kdV (zA z) (x + 1))) S_ 1 4 0 in_Tx rfl (by decide) rfl fl_Tx_22 d_Tx_canStand_33 rfl rfl ?_
      refine wk_st (st' := [.ref (zA z (x))]) rfl ?_
      refine wk_gets (pc := 36) S_ (gx_k S_.2.2.2.1 6 (by decide) rfl) fl_Tx_52 d_Tx_canStand_36 ?_
      refine wk_acmp_ne (pc := 39) (tgt := 55) S_ d_Tx_canStand_39 (by decide) (fun h39_ => ?_) (fun h39_ => ?_)
      · -- taken
        have h39 : ¬ x = 6 := fun e9 => h39_ (congrArg (zA z) e9)
        refine wk_aload_n (pc := 55) S_ 0 d_Tx_canStand_55 rfl rfl ?_
        refine wk_get (pc := 56) (v := (kdV (zA z) (x + 1))) S_ 1 4 0 in_Tx rfl (by decide) rfl fl_Tx_22 d_Tx_canStand_56 rfl rfl ?_
        refine wk_st (st' := [.ref (zA z (x))]) rfl ?_
        refine wk_gets (pc := 59) S_ (gx_k S_.2.2.2.1 4 (by decide) rfl) fl_Tx_83 d_Tx_canStand_59 ?_
        refine wk_acmp_ne (pc := 62) (tgt := 85) S_ d_Tx_canStand_62 (by decide) (fun h62_ => ?_) (fun h62_ => ?_)
        · -- taken
          have h62 : ¬ x = 4 := fun e9 => h62_ (congrArg (zA z) e9)
          refine wk_iconst (pc := 85) (v := (nI (1))) S_ d_Tx_canStand_85 (by decide) ?_
          exact hQ_ (nI (1)) () d_Tx_canStand_86 rfl rfl (bI_t (by rw [gdN]; exact decide_eq_true ⟨by omega, by omega, by omega, by omega⟩))
        · -- on
          have h62 : x = 4 := gx_inj S_.2.2.2.1 (show x < 9 by omega) (by decide) h62_
          refine wk_aload_n (pc := 65) S_ 0 d_Tx_canStand_65 rfl rfl ?_
          refine wk_get (pc := 66) (v := .int (nI (gt))) S_ 1 3 0 in_Tx rfl (by decide) rfl fl_Tx_26 d_Tx_canStand_66 rfl rfl ?_
          refine wk_iconst (pc := 69) (v := (nI (1))) S_ d_Tx_canStand_69 (by decide) ?_
          refine wk_icmp_neN (pc := 70) (tgt := 85) S_ d_Tx_canStand_70 (by decide) (by omega) (by omega) (fun h70 => ?_) (fun h70 => ?_)
          · -- taken
            refine wk_iconst (pc := 85) (v := (nI (1))) S_ d_Tx_canStand_85 (by decide) ?_
            exact hQ_ (nI (1)) () d_Tx_canStand_86 rfl rfl (bI_t (by rw [gdN]; exact decide_eq_true ⟨by omega, by omega, by omega, by omega⟩))
          · -- on
            refine wk_aload_n (pc := 73) S_ 2 d_Tx_canStand_73 rfl rfl ?_
            refine wk_aload_n (pc := 74) S_ 0 d_Tx_canStand_74 rfl rfl ?_
            refine wk_get (pc := 75) (v := .ref (t 2)) S_ 1 2 0 in_Tx rfl (by decide) rfl fl_Tx_15 d_Tx_canStand_75 rfl rfl ?_
            refine wk_iconst (pc := 78) (v := (nI (0))) S_ d_Tx_canStand_78 (by decide) ?_
            refine wk_ialdN (pc := 79) (g := nu) S_ 2 0 d_Tx_canStand_79 rfl rfl (by omega) (by decide) ?_
            refine wk_iload_n (pc := 80) S_ 1 d_Tx_canStand_80 rfl rfl ?_
            have ht8 : nu 0 ≤ 8 := by have h := (hP.1 0 (by omega)).2; rw [h62] at h; exact h
            have hm7 := hmc (nu 0)
            have hm6 := (mpS_le (mg := mg) (c := nu 0) (g := v - 1) (mc (nu 0)) 0).2
            refine wk_run (pc := 81) (rest := []) (wr := (wTx t cI (zA z) ty nu ln gt (x + 1) sn)) (wN := fun _ => (wTx t cI (zA z) ty nu ln gt (x + 1) sn ++ (wRl r cI ap pt rk cd mc mg mz nc nt oc fr))) S_ (wk_rV S_ (c_Rl_hasRoomForMark l D cI z (r) (ap) (pt) (rk) (cd) (mc) (mg) (mz) (nc) (nt) (oc) (fr) ((nu) (0)) (v - 1) (by omega) (by omega) hmc hmg) mv_Tx_86 (wk_rcv S_ 0 5 rfl rfl rfl) rfl rfl (Nat.le_of_ble_eq_true rfl) (by rw [hR_]; decide) (by rw [hR_]; decide) d_Tx_canStand_81) [3, 4, 5, 6, 7, 8, 9, 10, 11, 12, 13] [0, 1, 2] [0, 1, 2, 3, 4, 5, 6, 7, 8, 9, 10, 11, 12, 13] rfl rfl rfl (by decide) (by decide) (by decide) (by decide) (fun _ => rfl) (fun _ => rfl) (fun r81 _ hw81 => ?_)
            refine wk_st (st' := [.int (r81)]) rfl ?_
            refine wk_top (y := (bI (decide (mpS (mg) ((nu) (0)) (v - 1) ((mc) ((nu) (0))) 0 < 6)))) hw81 ?_
            exact hQ_ (bI (decide (mpS (mg) ((nu) (0)) (v - 1) ((mc) ((nu) (0))) 0 < 6))) () d_Tx_canStand_84 (bI_z _) rfl (congrArg bI (by rw [gdN, decide_eq_decide]; simp only [Nat.add_sub_cancel]; omega))
      · -- on
        have h39 : x = 6 := gx_inj S_.2.2.2.1 (show x < 9 by omega) (by decide) h39_
        refine wk_aload_n (pc := 42) S_ 0 d_Tx_canStand_42 rfl rfl ?_
        refine wk_get (pc := 43) (v := .int (nI (gt))) S_ 1 3 0 in_Tx rfl (by decide) rfl fl_Tx_26 d_Tx_canStand_43 rfl rfl ?_
        refine wk_if_neN (pc := 46) (tgt := 55) S_ d_Tx_canStand_46 (by decide) (by omega) (fun h46 => ?_) (fun h46 => ?_)
        · -- taken
          refine wk_aload_n (pc := 55) S_ 0 d_Tx_canStand_55 rfl rfl ?_
          refine wk_get (pc := 56) (v := (kdV (zA z) (x + 1))) S_ 1 4 0 in_Tx rfl (by decide) rfl fl_Tx_22 d_Tx_canStand_56 rfl rfl ?_
          refine wk_st (st' := [.ref (zA z (x))]) rfl ?_
          refine wk_gets (pc := 59) S_ (gx_k S_.2.2.2.1 4 (by decide) rfl) fl_Tx_83 d_Tx_canStand_59 ?_
          refine wk_acmp_ne (pc := 62) (tgt := 85) S_ d_Tx_canStand_62 (by decide) (fun h62_ => ?_) (fun h62_ => ?_)
          · -- taken
            have h62 : ¬ x = 4 := fun e9 => h62_ (congrArg (zA z) e9)
            refine wk_iconst (pc := 85) (v := (nI (1))) S_ d_Tx_canStand_85 (by decide) ?_
            exact hQ_ (nI (1)) () d_Tx_canStand_86 rfl rfl (bI_t (by rw [gdN]; exact decide_eq_true ⟨by omega, by omega, by omega, by omega⟩))
          · -- on
            have h62 : x = 4 := gx_inj S_.2.2.2.1 (show x < 9 by omega) (by decide) h62_
            refine wk_aload_n (pc := 65) S_ 0 d_Tx_canStand_65 rfl rfl ?_
            refine wk_get (pc := 66) (v := .int (nI (gt))) S_ 1 3 0 in_Tx rfl (by decide) rfl fl_Tx_26 d_Tx_canStand_66 rfl rfl ?_
            refine wk_iconst (pc := 69) (v := (nI (1))) S_ d_Tx_canStand_69 (by decide) ?_
            refine wk_icmp_neN (pc := 70) (tgt := 85) S_ d_Tx_canStand_70 (by decide) (by omega) (by omega) (fun h70 => ?_) (fun h70 => ?_)
            · -- taken
              refine wk_iconst (pc := 85) (v := (nI (1))) S_ d_Tx_canStand_85 (by decide) ?_
              exact hQ_ (nI (1)) () d_Tx_canStand_86 rfl rfl (bI_t (by rw [gdN]; exact decide_eq_true ⟨by omega, by omega, by omega, by omega⟩))
            · -- on
              refine wk_aload_n (pc := 73) S_ 2 d_Tx_canStand_73 rfl rfl ?_
              refine wk_aload_n (pc := 74) S_ 0 d_Tx_canStand_74 rfl rfl ?_
              refine wk_get (pc := 75) (v := .ref (t 2)) S_ 1 2 0 in_Tx rfl (by decide) rfl fl_Tx_15 d_Tx_canStand_75 rfl rfl ?_
              refine wk_iconst (pc := 78) (v := (nI (0))) S_ d_Tx_canStand_78 (by decide) ?_
              refine wk_ialdN (pc := 79) (g := nu) S_ 2 0 d_Tx_canStand_79 rfl rfl (by omega) (by decide) ?_
              refine wk_iload_n (pc := 80) S_ 1 d_Tx_canStand_80 rfl rfl ?_
              have ht8 : nu 0 ≤ 8 := by have h := (hP.1 0 (by omega)).2; rw [h62] at h; exact h
              have hm7 := hmc (nu 0)
              have hm6 := (mpS_le (mg := mg) (c := nu 0) (g := v - 1) (mc (nu 0)) 0).2
              refine wk_run (pc := 81) (rest := []) (wr := (wTx t cI (zA z) ty nu ln gt (x + 1) sn)) (wN := fun _ => (wTx t cI (zA z) ty nu ln gt (x + 1) sn ++ (wRl r cI ap pt rk cd mc mg mz nc nt oc fr))) S_ (wk_rV S_ (c_Rl_hasRoomForMark l D cI z (r) (ap) (pt) (rk) (cd) (mc) (mg) (mz) (nc) (nt) (oc) (fr) ((nu) (0)) (v - 1) (by omega) (by omega) hmc hmg) mv_Tx_86 (wk_rcv S_ 0 5 rfl rfl rfl) rfl rfl (Nat.le_of_ble_eq_true rfl) (by rw [hR_]; decide) (by rw [hR_]; decide) d_Tx_canStand_81) [3, 4, 5, 6, 7, 8, 9, 10, 11, 12, 13] [0, 1, 2] [0, 1, 2, 3, 4, 5, 6, 7, 8, 9, 10, 11, 12, 13] rfl rfl rfl (by decide) (by decide) (by decide) (by decide) (fun _ => rfl) (fun _ => rfl) (fun r81 _ hw81 => ?_)
              refine wk_st (st' := [.int (r81)]) rfl ?_
              refine wk_top (y := (bI (decide (mpS (mg) ((nu) (0)) (v - 1) ((mc) ((nu) (0))) 0 < 6)))) hw81 ?_
              exact hQ_ (bI (decide (mpS (mg) ((nu) (0)) (v - 1) ((mc) ((nu) (0))) 0 < 6))) () d_Tx_canStand_84 (bI_z _) rfl (congrArg bI (by rw [gdN, decide_eq_decide]; simp only [Nat.add_sub_cancel]; omega))
        · -- on
          refine wk_aload_n (pc := 49) S_ 2 d_Tx_canStand_49 rfl rfl ?_
          refine wk_iload_n (pc := 50) S_ 1 d_Tx_canStand_50 rfl rfl ?_
          have hg3 : v - 1 ≤ 3 := by have h := h27; rw [h39, h46] at h; exact h
          have hn1 := hnc (v - 1)
          refine wk_run (pc := 51) (rest := []) (wr := (wTx t cI (zA z) ty nu ln gt (x + 1) sn)) (wN := fun _ => (wTx t cI (zA z) ty nu ln gt (x + 1) sn ++ (wRl r cI ap pt rk cd mc mg mz nc nt oc fr))) S_ (wk_rV S_ (c_Rl_hasRoomForNote l D cI z (r) (ap) (pt) (rk) (cd) (mc) (mg) (mz) (nc) (nt) (oc) (fr) (v - 1) (by omega) hnc) mv_Tx_79 (wk_rcv S_ 0 5 rfl rfl rfl) rfl rfl (Nat.le_of_ble_eq_true rfl) (by rw [hR_]; decide) (by rw [hR_]; decide) d_Tx_canStand_51) [3, 4, 5, 6, 7, 8, 9, 10, 11, 12, 13] [0, 1, 2] [0, 1, 2, 3, 4, 5, 6, 7, 8, 9, 10, 11, 12, 13] rfl rfl rfl (by decide) (by decide) (by decide) (by decide) (fun _ => rfl) (fun _ => rfl) (fun r51 _ hw51 => ?_)
          refine wk_st (st' := [.int (r51)]) rfl ?_
          refine wk_top (y := (bI (decide ((nc) (v - 1) < 8)))) hw51 ?_
          exact hQ_ (bI (decide ((nc) (v - 1) < 8))) () d_Tx_canStand_54 (bI_z _) rfl (congrArg bI (by rw [gdN, decide_eq_decide]; simp only [Nat.add_sub_cancel]; omega))
    · -- on
      refine wk_iconst (pc := 30) (v := (nI (0))) S_ d_Tx_canStand_30 (by decide) ?_
      exact hQ_ (nI (0)) () d_Tx_canStand_31 rfl rfl (bI_f (by rw [gdN]; exact decide_eq_false (fun z => by omega)))
set_option maxHeartbeats 4000000 in
set_option maxRecDepth 100000 in
theorem c_Tx_takeNumber (l : Launch) (D : va_G) (cI : CiT) (z : GzT) (t : Nat → Nat) (r : Nat → Nat) (ty : (Nat → Nat)) (nu : (Nat → Nat)) (ln : Nat) (gt : Nat) (ok : Nat) (sn : Nat) (ap : (Nat → Nat)) (pt : (Nat → Nat)) (rk : (Nat → Nat)) (cd : (Nat → Nat)) (mc : (Nat → Nat)) (mg : (Nat → Nat)) (mz : (Nat → Nat)) (nc : (Nat → Nat)) (nt : (Nat → Nat)) (oc : (Nat → Nat)) (fr : Nat) (x : Nat) (v : Nat) (hok : ok = x + 1) (hx : x < 9) (hgt : gt < ptsK x) (hv6 : v ≤ 1000000) (hP : tdP x nc mc mg gt (fun i => nu i + 1)) (hmc : ∀ c, mc c ≤ 6) (hmg : ∀ c, mg c ≤ 999999) (hnc : ∀ c, nc c ≤ 8) : wk_C l D (tyK cI) (gX z) y_Tx_takeNumber b_Tx_takeNumber 3 (some .boolean) 3 71 0 0 [.ref (t 0), .int (zI (v)), .ref (r 0)] (wTx t cI (zA z) ty nu ln gt ok sn ++ (wRl r cI ap pt rk cd mc mg mz nc nt oc fr)) wk_i (fun (r : Int32) (u : Nat × Nat × Nat × (Nat → Nat) × (Nat → Nat) × (Nat → Nat) × (Nat → Nat) × (Nat → Nat) × Nat × (Nat → Nat) × (Nat → Nat) × (Nat → Nat) × (Nat → Nat) × (Nat → Nat) × (Nat → Nat)) => r = bI (tnW x v gt sn nu (ap, pt, rk, cd, fr, mc, mg, mz, nc, nt, oc)).1 ∧ u = (tnW x v gt sn nu (ap, pt, rk, cd, fr, mc, mg, mz, nc, nt, oc)).2) (fun u => (wTx t cI (zA z) ty u.2.2.2.1 ln u.2.1 u.1 u.2.2.1 ++ (wRl r cI u.2.2.2.2.1 u.2.2.2.2.2.1 u.2.2.2.2.2.2.1 u.2.2.2.2.2.2.2.1 u.2.2.2.2.2.2.2.2.2.1 u.2.2.2.2.2.2.2.2.2.2.1 u.2.2.2.2.2.2.2.2.2.2.2.1 u.2.2.2.2.2.2.2.2.2.2.2.2.1 u.2.2.2.2.2.2.2.2.2.2.2.2.2.1 u.2.2.2.2.2.2.2.2.2.2.2.2.2.2 u.2.2.2.2.2.2.2.2.1))) := by
  refine wk_methZ (own := R_Tx) [(0, .ref (t 0)), (1, .int (zI (v))), (2, .ref (r 0))] (by decide) rfl (Nat.le_of_ble_eq_true rfl) rfl (gX_ok z) (fun p_ e_ R_ s_ m_ ar_ be_ me_ co_ Q_ A_ hR_ S_ hnm_ hQ_ => ?_)
  subst hok
  have hp3 := ptsK_le x
  refine wk_aload_n (pc := 0) S_ 0 d_Tx_takeNumber_0 rfl rfl ?_
  refine wk_get (pc := 1) (v := .int (nI (gt))) S_ 1 3 0 in_Tx rfl (by decide) rfl fl_Tx_26 d_Tx_takeNumber_1 rfl rfl ?_
  refine wk_iconst (pc := 4) (v := (nI (3))) S_ d_Tx_takeNumber_4 (by decide) ?_
  refine wk_icmp_geN (pc := 5) (tgt := 17) S_ d_Tx_takeNumber_5 (by decide) (by omega) (by omega) (fun h5 => absurd h5 (by omega)) (fun h5 => ?_)
  refine wk_aload_n (pc := 8) S_ 0 d_Tx_takeNumber_8 rfl rfl ?_
  refine wk_iload_n (pc := 9) S_ 1 d_Tx_takeNumber_9 rfl rfl ?_
  refine wk_aload_n (pc := 10) S_ 2 d_Tx_takeNumber_10 rfl rfl ?_
  refine wk_run (pc := 11) (rest := []) (wr := []) (wN := fun _ => (wTx t cI (zA z) ty nu ln gt (x + 1) sn ++ (wRl r cI ap pt rk cd mc mg mz nc nt oc fr))) S_ (wk_rV S_ (c_Tx_canStand l D cI z (t) (r) (ty) (nu) (ln) (gt) (x + 1) (sn) (ap) (pt) (rk) (cd) (mc) (mg) (mz) (nc) (nt) (oc) (fr) (x) (v) rfl (by omega) (by omega) (by omega) hP hmc hmg hnc) mv_Tx_63 (wk_rcv S_ 0 1 rfl rfl rfl) rfl rfl (Nat.le_of_ble_eq_true rfl) (by rw [hR_]; decide) (by rw [hR_]; decide) d_Tx_takeNumber_11) [0, 1, 2, 3, 4, 5, 6, 7, 8, 9, 10, 11, 12, 13] [] [0, 1, 2, 3, 4, 5, 6, 7, 8, 9, 10, 11, 12, 13] rfl rfl rfl (by decide) (by decide) (by decide) (by decide) (fun _ => rfl) (fun _ => rfl) (fun r11 _ hw11 => ?_)
  refine wk_st (st' := [.int (r11)]) rfl ?_
  refine wk_top (y := (bI (gdN (x) (gt) (v) (fun i => (nu) i + 1) (nc) (mc) (mg)))) hw11 ?_
  refine wk_if_neB (pc := 14) (tgt := 19) S_ d_Tx_takeNumber_14 (by decide) (fun h14 => ?_) (fun h14 => ?_)
  · -- taken
    have hgp := h14
    rw [gdN, decide_eq_true_eq] at hgp
    have hv0 : v ≠ 0 := by omega
    have hP2 := tdP_s hnc hmc hP h14
    rw [up_p1 hv0] at hP2
    refine wk_lveq (lv' := [(0, .ref (t 0)), (1, .int (nI (v - 1))), (2, .ref (r 0))]) (by rw [zI_p hv0]) ?_
    refine wk_aload_n (pc := 19) S_ 0 d_Tx_takeNumber_19 rfl rfl ?_
    refine wk_get (pc := 20) (v := .ref (t 2)) S_ 1 2 0 in_Tx rfl (by decide) rfl fl_Tx_15 d_Tx_takeNumber_20 rfl rfl ?_
    refine wk_aload_n (pc := 23) S_ 0 d_Tx_takeNumber_23 rfl rfl ?_
    refine wk_get (pc := 24) (v := .int (nI (gt))) S_ 1 3 0 in_Tx rfl (by decide) rfl fl_Tx_26 d_Tx_takeNumber_24 rfl rfl ?_
    refine wk_iload_n (pc := 27) S_ 1 d_Tx_takeNumber_27 rfl rfl ?_
    refine wk_iastN (pc := 28) (g := nu) (ws' := (wTx t cI (zA z) ty (va_up (nu) (gt) (v - 1)) ln gt (x + 1) sn ++ (wRl r cI ap pt rk cd mc mg mz nc nt oc fr))) S_ 2 0 d_Tx_takeNumber_28 rfl rfl (by omega) (by decide) rfl ?_
    refine wk_aload_n (pc := 29) S_ 0 d_Tx_takeNumber_29 rfl rfl ?_
    refine wk_dup (pc := 30) S_ d_Tx_takeNumber_30 rfl ?_
    refine wk_get (pc := 31) (v := .int (nI (gt))) S_ 1 3 0 in_Tx rfl (by decide) rfl fl_Tx_26 d_Tx_takeNumber_31 rfl rfl ?_
    refine wk_iconst (pc := 34) (v := (nI (1))) S_ d_Tx_takeNumber_34 (by decide) ?_
    refine wk_iaddN (pc := 35) S_ d_Tx_takeNumber_35 ?_
    refine wk_put (pc := 36) (ty := .int) (ws' := (wTx t cI (zA z) ty (va_up (nu) (gt) (v - 1)) ln ((gt) + (1)) (x + 1) sn ++ (wRl r cI ap pt rk cd mc mg mz nc nt oc fr))) S_ 1 3 0 in_Tx t_Tx t_Tx_ok n_Tx rfl (by decide) rfl fl_Tx_26 (by decide +kernel) d_Tx_takeNumber_36 rfl rfl rfl (Nat.le_of_ble_eq_true rfl) rfl ?_
    refine wk_aload_n (pc := 39) S_ 0 d_Tx_takeNumber_39 rfl rfl ?_
    refine wk_get (pc := 40) (v := .int (nI ((gt) + (1)))) S_ 1 3 0 in_Tx rfl (by decide) rfl fl_Tx_26 d_Tx_takeNumber_40 rfl rfl ?_
    refine wk_aload_n (pc := 43) S_ 0 d_Tx_takeNumber_43 rfl rfl ?_
    refine wk_get (pc := 44) (v := (kdV (zA z) (x + 1))) S_ 1 4 0 in_Tx rfl (by decide) rfl fl_Tx_22 d_Tx_takeNumber_44 rfl rfl ?_
    refine wk_st (st' := [.ref (zA z (x)), .int (nI ((gt) + (1)))]) rfl ?_
    refine wk_getO (pc := 47) S_ (gx_nu S_.2.2.2.1 (show x < 9 by omega)) fl_Tx_66 d_Tx_takeNumber_47 ?_
    refine wk_icmp_ltN (pc := 50) (tgt := 94) S_ d_Tx_takeNumber_50 (by decide) (by omega) (by omega) (fun h50 => ?_) (fun h50 => ?_)
    · -- taken
      refine wk_iconst (pc := 94) (v := (nI (1))) S_ d_Tx_takeNumber_94 (by decide) ?_
      exact hQ_ (nI (1)) (x + 1, (gt) + (1), sn, va_up (nu) (gt) (v - 1), ap, pt, rk, cd, fr, mc, mg, mz, nc, nt, oc) d_Tx_takeNumber_95 rfl rfl (by rw [tnW, if_pos ⟨by omega, h14⟩, if_neg (by omega)]; exact ⟨rfl, rfl⟩)
    · -- on
      refine wk_aload_n (pc := 53) S_ 2 d_Tx_takeNumber_53 rfl rfl ?_
      refine wk_aload_n (pc := 54) S_ 0 d_Tx_takeNumber_54 rfl rfl ?_
      refine wk_get (pc := 55) (v := (kdV (zA z) (x + 1))) S_ 1 4 0 in_Tx rfl (by decide) rfl fl_Tx_22 d_Tx_takeNumber_55 rfl rfl ?_
      refine wk_st (st' := [.ref (zA z (x)), .ref (r 0)]) rfl ?_
      refine wk_aload_n (pc := 58) S_ 0 d_Tx_takeNumber_58 rfl rfl ?_
      refine wk_get (pc := 59) (v := .ref (t 2)) S_ 1 2 0 in_Tx rfl (by decide) rfl fl_Tx_15 d_Tx_takeNumber_59 rfl rfl ?_
      refine wk_iconst (pc := 62) (v := (nI (0))) S_ d_Tx_takeNumber_62 (by decide) ?_
      refine wk_ialdN (pc := 63) (g := va_up (nu) (gt) (v - 1)) S_ 2 0 d_Tx_takeNumber_63 rfl rfl (by omega) (by decide) ?_
      refine wk_aload_n (pc := 64) S_ 0 d_Tx_takeNumber_64 rfl rfl ?_
      refine wk_get (pc := 65) (v := .ref (t 2)) S_ 1 2 0 in_Tx rfl (by decide) rfl fl_Tx_15 d_Tx_takeNumber_65 rfl rfl ?_
      refine wk_iconst (pc := 68) (v := (nI (1))) S_ d_Tx_takeNumber_68 (by decide) ?_
      refine wk_ialdN (pc := 69) (g := va_up (nu) (gt) (v - 1)) S_ 2 0 d_Tx_takeNumber_69 rfl rfl (by omega) (by decide) ?_
      refine wk_aload_n (pc := 70) S_ 0 d_Tx_takeNumber_70 rfl rfl ?_
      refine wk_get (pc := 71) (v := .ref (t 2)) S_ 1 2 0 in_Tx rfl (by decide) rfl fl_Tx_15 d_Tx_takeNumber_71 rfl rfl ?_
      refine wk_iconst (pc := 74) (v := (nI (2))) S_ d_Tx_takeNumber_74 (by decide) ?_
      refine wk_ialdN (pc := 75) (g := va_up (nu) (gt) (v - 1)) S_ 2 0 d_Tx_takeNumber_75 rfl rfl (by omega) (by decide) ?_
      have hp1 := ptsK_pos x
      have hp2 : x = 3 ∨ 2 ≤ ptsK x := by unfold ptsK; (repeat' split) <;> omega
      have hp4 : (x ≠ 4 ∧ x < 7) ∨ 3 ≤ ptsK x := by unfold ptsK; (repeat' split) <;> omega
      have hB1 : x = 3 ∨ va_up nu gt (v - 1) 1 ≤ grK x 1 := by rcases hp2 with y | y; exact Or.inl y; exact Or.inr (hP2.1 1 (by omega)).2
      have hC1 : (x ≠ 4 ∧ x < 7) ∨ va_up nu gt (v - 1) 2 ≤ grK x 2 := by rcases hp4 with y | y; exact Or.inl y; exact Or.inr (hP2.1 2 (by omega)).2
      refine wk_run (pc := 76) (rest := []) (wr := (wTx t cI (zA z) ty (va_up (nu) (gt) (v - 1)) ln ((gt) + (1)) (x + 1) sn)) (wN := fun u76 => (wTx t cI (zA z) ty (va_up (nu) (gt) (v - 1)) ln ((gt) + (1)) (x + 1) sn ++ (wRl r cI u76.1 u76.2.1 u76.2.2.1 u76.2.2.2.1 u76.2.2.2.2.2.1 u76.2.2.2.2.2.2.1 u76.2.2.2.2.2.2.2.1 u76.2.2.2.2.2.2.2.2.1 u76.2.2.2.2.2.2.2.2.2.1 u76.2.2.2.2.2.2.2.2.2.2 u76.2.2.2.2.1))) S_ (wk_rV S_ (c_Rl_learn l D cI z (r) (ap) (pt) (rk) (cd) (mc) (mg) (mz) (nc) (nt) (oc) (fr) (x) ((va_up (nu) (gt) (v - 1)) (0)) ((va_up (nu) (gt) (v - 1)) (1)) ((va_up (nu) (gt) (v - 1)) (2)) (by omega) (hP2.1 0 (by omega)).2 hB1 hC1 hmc hmg hnc (fun y => hP2.2.1 y (by omega)) (fun y => hP2.2.2 y (by rcases hp4 with y2 | y2 <;> omega))) mv_Tx_68 (wk_rcv S_ 0 5 rfl rfl rfl) rfl rfl (Nat.le_of_ble_eq_true rfl) (by rw [hR_]; decide) (by rw [hR_]; decide) d_Tx_takeNumber_76) [3, 4, 5, 6, 7, 8, 9, 10, 11, 12, 13] [0, 1, 2] [0, 1, 2, 3, 4, 5, 6, 7, 8, 9, 10, 11, 12, 13] rfl rfl rfl (by decide) (by decide) (by decide) (by decide) (fun _ => rfl) (fun _ => rfl) (fun r76 u76 hw76 => ?_)
      refine wk_st (st' := []) rfl ?_
      refine wk_aload_n (pc := 79) S_ 0 d_Tx_takeNumber_79 rfl rfl ?_
      refine wk_null (pc := 80) S_ d_Tx_takeNumber_80 ?_
      refine wk_put (pc := 81) (ty := .object "PackLists$Kind") (ws' := (wTx t cI (zA z) ty (va_up (nu) (gt) (v - 1)) ln ((gt) + (1)) 0 sn ++ (wRl r cI u76.1 u76.2.1 u76.2.2.1 u76.2.2.2.1 u76.2.2.2.2.2.1 u76.2.2.2.2.2.2.1 u76.2.2.2.2.2.2.2.1 u76.2.2.2.2.2.2.2.2.1 u76.2.2.2.2.2.2.2.2.2.1 u76.2.2.2.2.2.2.2.2.2.2 u76.2.2.2.2.1))) S_ 1 4 0 in_Tx t_Tx t_Tx_ok n_Tx rfl (by decide) rfl fl_Tx_22 (by decide +kernel) d_Tx_takeNumber_81 rfl rfl rfl (Nat.le_of_ble_eq_true rfl) rfl ?_
      refine wk_aload_n (pc := 84) S_ 0 d_Tx_takeNumber_84 rfl rfl ?_
      refine wk_dup (pc := 85) S_ d_Tx_takeNumber_85 rfl ?_
      refine wk_get (pc := 86) (v := .int (nI (sn))) S_ 1 5 0 in_Tx rfl (by decide) rfl fl_Tx_29 d_Tx_takeNumber_86 rfl rfl ?_
      refine wk_iconst (pc := 89) (v := (nI (1))) S_ d_Tx_takeNumber_89 (by decide) ?_
      refine wk_iaddN (pc := 90) S_ d_Tx_takeNumber_90 ?_
      refine wk_put (pc := 91) (ty := .int) (ws' := (wTx t cI (zA z) ty (va_up (nu) (gt) (v - 1)) ln ((gt) + (1)) 0 ((sn) + (1)) ++ (wRl r cI u76.1 u76.2.1 u76.2.2.1 u76.2.2.2.1 u76.2.2.2.2.2.1 u76.2.2.2.2.2.2.1 u76.2.2.2.2.2.2.2.1 u76.2.2.2.2.2.2.2.2.1 u76.2.2.2.2.2.2.2.2.2.1 u76.2.2.2.2.2.2.2.2.2.2 u76.2.2.2.2.1))) S_ 1 5 0 in_Tx t_Tx t_Tx_ok n_Tx rfl (by decide) rfl fl_Tx_29 (by decide +kernel) d_Tx_takeNumber_91 rfl rfl rfl (Nat.le_of_ble_eq_true rfl) rfl ?_
      refine wk_iconst (pc := 94) (v := (nI (1))) S_ d_Tx_takeNumber_94 (by decide) ?_
      exact hQ_ (nI (1)) (0, (gt) + (1), (sn) + (1), va_up (nu) (gt) (v - 1), u76.1, u76.2.1, u76.2.2.1, u76.2.2.2.1, u76.2.2.2.2.1, u76.2.2.2.2.2.1, u76.2.2.2.2.2.2.1, u76.2.2.2.2.2.2.2.1, u76.2.2.2.2.2.2.2.2.1, u76.2.2.2.2.2.2.2.2.2.1, u76.2.2.2.2.2.2.2.2.2.2) d_Tx_takeNumber_95 rfl rfl (by rw [tnW, if_pos ⟨by omega, h14⟩, if_pos (by omega)]; refine ⟨rfl, ?_⟩; rw [← hw76])
  · -- on
    refine wk_iconst (pc := 17) (v := (nI (0))) S_ d_Tx_takeNumber_17 (by decide) ?_
    exact hQ_ (nI (0)) (x + 1, gt, sn, nu, ap, pt, rk, cd, fr, mc, mg, mz, nc, nt, oc) d_Tx_takeNumber_18 rfl rfl (by rw [tnW, if_neg (fun y => absurd (h14.symm.trans y.2) (by decide))]; exact ⟨rfl, rfl⟩)
set_option maxHeartbeats 4000000 in
set_option maxRecDepth 100000 in
theorem c_Tx_takeWord (l : Launch) (D : va_G) (cI : CiT) (z : GzT) (t : Nat → Nat) (r : Nat → Nat) (ty : (Nat → Nat)) (nu : (Nat → Nat)) (ln : Nat) (gt : Nat) (ok : Nat) (sn : Nat) (ap : (Nat → Nat)) (pt : (Nat → Nat)) (rk : (Nat → Nat)) (cd : (Nat → Nat)) (mc : (Nat → Nat)) (mg : (Nat → Nat)) (mz : (Nat → Nat)) (nc : (Nat → Nat)) (nt : (Nat → Nat)) (oc : (Nat → Nat)) (fr : Nat) (s : Nat) (e : Nat) (hse : s < e ∧ e ≤ 1500) (hty : ∀ i, ty i < 256) (hmc : ∀ c, mc c ≤ 6) (hmg : ∀ c, mg c ≤ 999999) (hnc : ∀ c, nc c ≤ 8) (hst : ok = 0 ∨ (ok ≤ 9 ∧ gt < ptsK (ok - 1) ∧ tdP (ok - 1) nc mc mg gt (fun i => nu i + 1))) : wk_C l D (tyK cI) (gX z) y_Tx_takeWord b_Tx_takeWord 4 (some .boolean) 6 132 0 0 [.ref (t 0), .int (nI (s)), .int (nI (e)), .ref (r 0)] (wTx t cI (zA z) ty nu ln gt ok sn ++ (wRl r cI ap pt rk cd mc mg mz nc nt oc fr)) wk_i (fun (r : Int32) (u : Nat × Nat × Nat × (Nat → Nat) × (Nat → Nat) × (Nat → Nat) × (Nat → Nat) × (Nat → Nat) × Nat × (Nat → Nat) × (Nat → Nat) × (Nat → Nat) × (Nat → Nat) × (Nat → Nat) × (Nat → Nat)) => r = bI (twS ty s e ok gt sn nu (ap, pt, rk, cd, fr, mc, mg, mz, nc, nt, oc)).1 ∧ u = (twS ty s e ok gt sn nu (ap, pt, rk, cd, fr, mc, mg, mz, nc, nt, oc)).2) (fun u => (wTx t cI (zA z) ty u.2.2.2.1 ln u.2.1 u.1 u.2.2.1 ++ (wRl r cI u.2.2.2.2.1 u.2.2.2.2.2.1 u.2.2.2.2.2.2.1 u.2.2.2.2.2.2.2.1 u.2.2.2.2.2.2.2.2.2.1 u.2.2.2.2.2.2.2.2.2.2.1 u.2.2.2.2.2.2.2.2.2.2.2.1 u.2.2.2.2.2.2.2.2.2.2.2.2.1 u.2.2.2.2.2.2.2.2.2.2.2.2.2.1 u.2.2.2.2.2.2.2.2.2.2.2.2.2.2 u.2.2.2.2.2.2.2.2.1))) := by
  refine wk_methZ (own := R_Tx) [(0, .ref (t 0)), (1, .int (nI (s))), (2, .int (nI (e))), (3, .ref (r 0))] (by decide) rfl (Nat.le_of_ble_eq_true rfl) rfl (gX_ok z) (fun p_ e_ R_ s_ m_ ar_ be_ me_ co_ Q_ A_ hR_ S_ hnm_ hQ_ => ?_)
  refine wk_aload_n (pc := 0) S_ 0 d_Tx_takeWord_0 rfl rfl ?_
  refine wk_get (pc := 1) (v := (kdV (zA z) (ok))) S_ 1 4 0 in_Tx rfl (by decide) rfl fl_Tx_22 d_Tx_takeWord_1 rfl rfl ?_
  refine wk_ifnonnullK (pc := 4) (tgt := 43) S_ d_Tx_takeWord_4 (by decide) (fun h4 => ?_) (fun h4 => ?_)
  · -- taken
    obtain ⟨x, rfl⟩ : ∃ x, ok = x + 1 := ⟨ok - 1, by omega⟩
    have hst' : x + 1 ≤ 9 ∧ gt < ptsK x ∧ tdP x nc mc mg gt (fun i => nu i + 1) := by rcases hst with y | y; exact absurd y (Nat.succ_ne_zero x); exact y
    refine wk_aload_n (pc := 43) S_ 0 d_Tx_takeWord_43 rfl rfl ?_
    refine wk_aload_n (pc := 44) S_ 0 d_Tx_takeWord_44 rfl rfl ?_
    refine wk_iload_n (pc := 45) S_ 1 d_Tx_takeWord_45 rfl rfl ?_
    refine wk_iload_n (pc := 46) S_ 2 d_Tx_takeWord_46 rfl rfl ?_
    refine wk_run (pc := 47) (rest := [.ref (t 0)]) (wr := (wRl r cI ap pt rk cd mc mg mz nc nt oc fr)) (wN := fun _ => (wTx t cI (zA z) ty nu ln gt (x + 1) sn ++ (wRl r cI ap pt rk cd mc mg mz nc nt oc fr))) S_ (wk_rV S_ (c_Tx_numberOf l D cI z (t) (ty) (nu) (ln) (gt) (x + 1) (sn) (s) (e) hse hty) mv_Tx_44 (wk_rcv S_ 0 1 rfl rfl rfl) rfl rfl (Nat.le_of_ble_eq_true rfl) (by rw [hR_]; decide) (by rw [hR_]; decide) d_Tx_takeWord_47) [0, 1, 2] [3, 4, 5, 6, 7, 8, 9, 10, 11, 12, 13] [11, 12, 13, 0, 1, 2, 3, 4, 5, 6, 7, 8, 9, 10] rfl rfl rfl (by decide) (by decide) (by decide) (by decide) (fun _ => rfl) (fun _ => rfl) (fun r47 _ hw47 => ?_)
    refine wk_st (st' := [.int (r47), .ref (t 0)]) rfl ?_
    refine wk_top (y := (zI (nuN (ty) (s) (e)))) hw47 ?_
    refine wk_aload_n (pc := 50) S_ 3 d_Tx_takeWord_50 rfl rfl ?_
    refine wk_run (pc := 51) (rest := []) (wr := []) (wN := fun u51 => (wTx t cI (zA z) ty u51.2.2.2.1 ln u51.2.1 u51.1 u51.2.2.1 ++ (wRl r cI u51.2.2.2.2.1 u51.2.2.2.2.2.1 u51.2.2.2.2.2.2.1 u51.2.2.2.2.2.2.2.1 u51.2.2.2.2.2.2.2.2.2.1 u51.2.2.2.2.2.2.2.2.2.2.1 u51.2.2.2.2.2.2.2.2.2.2.2.1 u51.2.2.2.2.2.2.2.2.2.2.2.2.1 u51.2.2.2.2.2.2.2.2.2.2.2.2.2.1 u51.2.2.2.2.2.2.2.2.2.2.2.2.2.2 u51.2.2.2.2.2.2.2.2.1))) S_ (wk_rV S_ (c_Tx_takeNumber l D cI z (t) (r) (ty) (nu) (ln) (gt) (x + 1) (sn) (ap) (pt) (rk) (cd) (mc) (mg) (mz) (nc) (nt) (oc) (fr) (x) (nuN (ty) (s) (e)) rfl (by omega) hst'.2.1 (nuN_le _ _ _) hst'.2.2 hmc hmg hnc) mv_Tx_48 (wk_rcv S_ 0 1 rfl rfl rfl) rfl rfl (Nat.le_of_ble_eq_true rfl) (by rw [hR_]; decide) (by rw [hR_]; decide) d_Tx_takeWord_51) [0, 1, 2, 3, 4, 5, 6, 7, 8, 9, 10, 11, 12, 13] [] [0, 1, 2, 3, 4, 5, 6, 7, 8, 9, 10, 11, 12, 13] rfl rfl rfl (by decide) (by decide) (by decide) (by decide) (fun _ => rfl) (fun _ => rfl) (fun r51 u51 hw51 => ?_)
    refine wk_st (st' := [.int (r51)]) rfl ?_
    exact hQ_ (r51) (u51.1, u51.2.1, u51.2.2.1, u51.2.2.2.1, u51.2.2.2.2.1, u51.2.2.2.2.2.1, u51.2.2.2.2.2.2.1, u51.2.2.2.2.2.2.2.1, u51.2.2.2.2.2.2.2.2.1, u51.2.2.2.2.2.2.2.2.2.1, u51.2.2.2.2.2.2.2.2.2.2.1, u51.2.2.2.2.2.2.2.2.2.2.2.1, u51.2.2.2.2.2.2.2.2.2.2.2.2.1, u51.2.2.2.2.2.2.2.2.2.2.2.2.2.1, u51.2.2.2.2.2.2.2.2.2.2.2.2.2.2) d_Tx_takeWord_54 (by rw [hw51.1]; exact bI_z _) rfl (by rw [twS, if_neg (Nat.succ_ne_zero x), Nat.add_sub_cancel]; exact hw51)
  · -- on
    subst h4
    obtain ⟨k1, hk1⟩ : ∃ k, k = kdS ty s e 9 0 := ⟨_, rfl⟩
    have hk9 : k1 ≤ 9 := by rw [hk1]; exact kdS_le 9 0
    refine wk_aload_n (pc := 7) S_ 0 d_Tx_takeWord_7 rfl rfl ?_
    refine wk_aload_n (pc := 8) S_ 0 d_Tx_takeWord_8 rfl rfl ?_
    refine wk_iload_n (pc := 9) S_ 1 d_Tx_takeWord_9 rfl rfl ?_
    refine wk_iload_n (pc := 10) S_ 2 d_Tx_takeWord_10 rfl rfl ?_
    refine wk_run (pc := 11) (rest := [.ref (t 0)]) (wr := (wRl r cI ap pt rk cd mc mg mz nc nt oc fr)) (wN := fun _ => (wTx t cI (zA z) ty nu ln gt 0 sn ++ (wRl r cI ap pt rk cd mc mg mz nc nt oc fr))) S_ (wk_rV S_ (c_Tx_kindOf l D cI z (t) (ty) (nu) (ln) (gt) (0) (sn) (s) (e) ⟨by omega, by omega⟩ hty) mv_Tx_36 (wk_rcv S_ 0 1 rfl rfl rfl) rfl rfl (Nat.le_of_ble_eq_true rfl) (by rw [hR_]; decide) (by rw [hR_]; decide) d_Tx_takeWord_11) [0, 1, 2] [3, 4, 5, 6, 7, 8, 9, 10, 11, 12, 13] [11, 12, 13, 0, 1, 2, 3, 4, 5, 6, 7, 8, 9, 10] rfl rfl rfl (by decide) (by decide) (by decide) (by decide) (fun _ => rfl) (fun _ => rfl) (fun r11 _ hw11 => ?_)
    refine wk_st (st' := [(kdV (zA z) (r11)), .ref (t 0)]) rfl ?_
    refine wk_topk (y := (kdS (ty) (s) (e) 9 0)) hw11 ?_
    refine wk_topk (y := (k1)) hk1.symm ?_
    refine wk_put (pc := 14) (ty := .object "PackLists$Kind") (ws' := (wTx t cI (zA z) ty nu ln gt k1 sn ++ (wRl r cI ap pt rk cd mc mg mz nc nt oc fr))) S_ 1 4 0 in_Tx t_Tx t_Tx_ok n_Tx rfl (by decide) rfl fl_Tx_22 (by decide +kernel) d_Tx_takeWord_14 rfl (kdV_nar _ _ _) (kdV_fit _ _ _) (Nat.le_of_ble_eq_true rfl) rfl ?_
    refine wk_aload_n (pc := 17) S_ 0 d_Tx_takeWord_17 rfl rfl ?_
    refine wk_iconst (pc := 18) (v := (nI (0))) S_ d_Tx_takeWord_18 (by decide) ?_
    refine wk_put (pc := 19) (ty := .int) (ws' := (wTx t cI (zA z) ty nu ln 0 k1 sn ++ (wRl r cI ap pt rk cd mc mg mz nc nt oc fr))) S_ 1 3 0 in_Tx t_Tx t_Tx_ok n_Tx rfl (by decide) rfl fl_Tx_26 (by decide +kernel) d_Tx_takeWord_19 rfl rfl rfl (Nat.le_of_ble_eq_true rfl) rfl ?_
    refine wk_aload_n (pc := 22) S_ 0 d_Tx_takeWord_22 rfl rfl ?_
    refine wk_get (pc := 23) (v := (kdV (zA z) (k1))) S_ 1 4 0 in_Tx rfl (by decide) rfl fl_Tx_22 d_Tx_takeWord_23 rfl rfl ?_
    refine wk_ifnullK (pc := 26) (tgt := 41) S_ d_Tx_takeWord_26 (by decide) (fun h26 => ?_) (fun h26 => ?_)
    · -- taken
      refine wk_iconst (pc := 41) (v := (nI (0))) S_ d_Tx_takeWord_41 (by decide) ?_
      exact hQ_ (nI (0)) (k1, 0, sn, nu, ap, pt, rk, cd, fr, mc, mg, mz, nc, nt, oc) d_Tx_takeWord_42 rfl rfl (by rw [twS, if_pos rfl, ← hk1]; refine ⟨bI_f (by simp [h26]), rfl⟩)
    · -- on
      obtain ⟨x, rfl⟩ : ∃ x, k1 = x + 1 := ⟨k1 - 1, by omega⟩
      refine wk_aload_n (pc := 29) S_ 0 d_Tx_takeWord_29 rfl rfl ?_
      refine wk_aload_n (pc := 30) S_ 3 d_Tx_takeWord_30 rfl rfl ?_
      refine wk_run (pc := 31) (rest := []) (wr := []) (wN := fun _ => (wTx t cI (zA z) ty nu ln 0 (x + 1) sn ++ (wRl r cI ap pt rk cd mc mg mz nc nt oc fr))) S_ (wk_rV S_ (c_Tx_canBegin l D cI z (t) (r) (ty) (nu) (ln) (0) (x + 1) (sn) (ap) (pt) (rk) (cd) (mc) (mg) (mz) (nc) (nt) (oc) (fr) (x) rfl (by omega) hnc) mv_Tx_40 (wk_rcv S_ 0 1 rfl rfl rfl) rfl rfl (Nat.le_of_ble_eq_true rfl) (by rw [hR_]; decide) (by rw [hR_]; decide) d_Tx_takeWord_31) [0, 1, 2, 3, 4, 5, 6, 7, 8, 9, 10, 11, 12, 13] [] [0, 1, 2, 3, 4, 5, 6, 7, 8, 9, 10, 11, 12, 13] rfl rfl rfl (by decide) (by decide) (by decide) (by decide) (fun _ => rfl) (fun _ => rfl) (fun r31 _ hw31 => ?_)
      refine wk_st (st' := [.int (r31)]) rfl ?_
      refine wk_top (y := (bI (decide (¬ ((x) = 6 ∧ hrS (nc) 4 = false))))) hw31 ?_
      refine wk_if_eqB (pc := 34) (tgt := 41) S_ d_Tx_takeWord_34 (by decide) (fun h34 => ?_) (fun h34 => ?_)
      · -- taken
        refine wk_iconst (pc := 41) (v := (nI (0))) S_ d_Tx_takeWord_41 (by decide) ?_
        exact hQ_ (nI (0)) (x + 1, 0, sn, nu, ap, pt, rk, cd, fr, mc, mg, mz, nc, nt, oc) d_Tx_takeWord_42 rfl rfl (by rw [twS, if_pos rfl, ← hk1]; refine ⟨bI_f (decide_eq_false (fun y => (of_decide_eq_false h34) (fun y2 => y.2 ⟨by omega, y2.2⟩))), rfl⟩)
      · -- on
        refine wk_iconst (pc := 37) (v := (nI (1))) S_ d_Tx_takeWord_37 (by decide) ?_
        refine wk_goto (pc := 38) (tgt := 42) S_ d_Tx_takeWord_38 (by decide) ?_
        exact hQ_ (nI (1)) (x + 1, 0, sn, nu, ap, pt, rk, cd, fr, mc, mg, mz, nc, nt, oc) d_Tx_takeWord_42 rfl rfl (by rw [twS, if_pos rfl, ← hk1]; refine ⟨bI_t (decide_eq_true ⟨Nat.succ_ne_zero x, fun y => (of_decide_eq_true h34) ⟨by omega, y.2⟩⟩), rfl⟩)
set_option maxHeartbeats 4000000 in
set_option maxRecDepth 100000 in
theorem c_Tx_read (l : Launch) (D : va_G) (cI : CiT) (z : GzT) (t : Nat → Nat) (r : Nat → Nat) (ty : (Nat → Nat)) (nu : (Nat → Nat)) (ln : Nat) (gt : Nat) (ok : Nat) (sn : Nat) (ap : (Nat → Nat)) (pt : (Nat → Nat)) (rk : (Nat → Nat)) (cd : (Nat → Nat)) (mc : (Nat → Nat)) (mg : (Nat → Nat)) (mz : (Nat → Nat)) (nc : (Nat → Nat)) (nt : (Nat → Nat)) (oc : (Nat → Nat)) (fr : Nat) (hln : ln ≤ 1500) (hty : ∀ i, ty i < 256) (hmc : ∀ c, mc c ≤ 6) (hmg : ∀ c, mg c ≤ 999999) (hnc : ∀ c, nc c ≤ 8) (hok : ok = 0) (hsn : sn = 0) : wk_C l D (tyK cI) (gX z) y_Tx_read b_Tx_read 6 (some .int) 7 155 0 0 [.ref (t 0), .ref (r 0)] (wTx t cI (zA z) ty nu ln gt ok sn ++ (wRl r cI ap pt rk cd mc mg mz nc nt oc fr)) wk_i (fun (r : Int32) (u : Nat × Nat × Nat × (Nat → Nat) × (Nat → Nat) × (Nat → Nat) × (Nat → Nat) × (Nat → Nat) × Nat × (Nat → Nat) × (Nat → Nat) × (Nat → Nat) × (Nat → Nat) × (Nat → Nat) × (Nat → Nat)) => (((rdC ty ln (ln + 1) 0 0 0 (ok, gt, sn, nu, ap, pt, rk, cd, fr, mc, mg, mz, nc, nt, oc)).1 = true ∧ r = nI (rdC ty ln (ln + 1) 0 0 0 (ok, gt, sn, nu, ap, pt, rk, cd, fr, mc, mg, mz, nc, nt, oc)).2.1) ∨ ((rdC ty ln (ln + 1) 0 0 0 (ok, gt, sn, nu, ap, pt, rk, cd, fr, mc, mg, mz, nc, nt, oc)).1 = false ∧ r = -1 - nI (rdC ty ln (ln + 1) 0 0 0 (ok, gt, sn, nu, ap, pt, rk, cd, fr, mc, mg, mz, nc, nt, oc)).2.1)) ∧ (rdC ty ln (ln + 1) 0 0 0 (ok, gt, sn, nu, ap, pt, rk, cd, fr, mc, mg, mz, nc, nt, oc)).2.1 ≤ 1501 ∧ u = (rdC ty ln (ln + 1) 0 0 0 (ok, gt, sn, nu, ap, pt, rk, cd, fr, mc, mg, mz, nc, nt, oc)).2.2 ∧ ctOk (rdC ty ln (ln + 1) 0 0 0 (ok, gt, sn, nu, ap, pt, rk, cd, fr, mc, mg, mz, nc, nt, oc)).2.2.2.2.2.2) (fun u => (wTx t cI (zA z) ty u.2.2.2.1 ln u.2.1 u.1 u.2.2.1 ++ (wRl r cI u.2.2.2.2.1 u.2.2.2.2.2.1 u.2.2.2.2.2.2.1 u.2.2.2.2.2.2.2.1 u.2.2.2.2.2.2.2.2.2.1 u.2.2.2.2.2.2.2.2.2.2.1 u.2.2.2.2.2.2.2.2.2.2.2.1 u.2.2.2.2.2.2.2.2.2.2.2.2.1 u.2.2.2.2.2.2.2.2.2.2.2.2.2.1 u.2.2.2.2.2.2.2.2.2.2.2.2.2.2 u.2.2.2.2.2.2.2.2.1))) := by
  refine wk_methI (own := R_Tx) [(0, .ref (t 0)), (1, .ref (r 0))] (by decide) rfl (Nat.le_of_ble_eq_true rfl) rfl (gX_ok z) (fun p_ e_ R_ s_ m_ ar_ be_ me_ co_ Q_ A_ hR_ S_ hnm_ hQ_ => ?_)
  refine wk_iconst (pc := 0) (v := (nI (0))) S_ d_Tx_read_0 (by decide) ?_
  refine wk_istore_n (pc := 1) (lv' := [(2, .int (nI (0))), (0, .ref (t 0)), (1, .ref (r 0))]) S_ d_Tx_read_1 rfl (by decide) rfl ?_
  refine wk_iconst (pc := 2) (v := (-1)) S_ d_Tx_read_2 (by decide) ?_
  refine wk_top (y := (zI (0))) zI_0.symm ?_
  refine wk_istore_n (pc := 3) (lv' := [(3, .int (zI (0))), (2, .int (nI (0))), (0, .ref (t 0)), (1, .ref (r 0))]) S_ d_Tx_read_3 rfl (by decide) rfl ?_
  refine wk_iconst (pc := 4) (v := (nI (0))) S_ d_Tx_read_4 (by decide) ?_
  refine wk_istore (pc := 5) (lv' := [(4, .int (nI (0))), (3, .int (zI (0))), (2, .int (nI (0))), (0, .ref (t 0)), (1, .ref (r 0))]) S_ d_Tx_read_5 (by decide) rfl ?_
  have hL7 : ∀ (fuel7 : Nat), ∀ (q : Nat) (i : Nat) (w : Nat) (st : Nat) (cs : CS), q < fuel7 → (i + q = ln + 1) → (st ≤ i ∧ w ≤ i) → (rdC ty ln q i w st cs = rdC ty ln (ln + 1) 0 0 0 (ok, gt, sn, nu, ap, pt, rk, cd, fr, mc, mg, mz, nc, nt, oc)) → (csOk w cs) → wk_G p_ l e_ R_ s_ m_ ar_ be_ me_ co_ Q_ D A_ 6 0 0 (wTx t cI (zA z) ty cs.2.2.2.1 ln cs.2.1 cs.1 cs.2.2.1 ++ (wRl r cI cs.2.2.2.2.1 cs.2.2.2.2.2.1 cs.2.2.2.2.2.2.1 cs.2.2.2.2.2.2.2.1 cs.2.2.2.2.2.2.2.2.2.1 cs.2.2.2.2.2.2.2.2.2.2.1 cs.2.2.2.2.2.2.2.2.2.2.2.1 cs.2.2.2.2.2.2.2.2.2.2.2.2.1 cs.2.2.2.2.2.2.2.2.2.2.2.2.2.1 cs.2.2.2.2.2.2.2.2.2.2.2.2.2.2 cs.2.2.2.2.2.2.2.2.1)) 7 [(0, .ref (t 0)), (1, .ref (r 0)), (2, .int (nI (w))), (3, .int (zI (st))), (4, .int (nI (i)))] [] := by
    intro fuel7
    induction fuel7 with
    | zero => intro q i w st cs hm; exact absurd hm (Nat.not_lt_zero _)
    | succ fuel7 ih7 =>
      intro q i w st cs hm hk hst hE hC
      refine wk_iload (pc := 7) S_ 4 d_Tx_read_7 rfl ?_
      refine wk_aload_n (pc := 9) S_ 0 d_Tx_read_9 rfl rfl ?_
      refine wk_get (pc := 10) (v := .int (nI (ln))) S_ 1 1 0 in_Tx rfl (by decide) rfl fl_Tx_18 d_Tx_read_10 rfl rfl ?_
      refine wk_icmp_gtN (pc := 13) (tgt := 105) S_ d_Tx_read_13 (by decide) (by omega) (by omega) (fun h13 => ?_) (fun h13 => ?_)
      · -- taken
        refine wk_aload_n (pc := 105) S_ 0 d_Tx_read_105 rfl rfl ?_
        refine wk_get (pc := 106) (v := (kdV (zA z) (cs.1))) S_ 1 4 0 in_Tx rfl (by decide) rfl fl_Tx_22 d_Tx_read_106 rfl rfl ?_
        refine wk_ifnonnullK (pc := 109) (tgt := 119) S_ d_Tx_read_109 (by decide) (fun h109 => ?_) (fun h109 => ?_)
        · -- taken
          refine wk_iconst (pc := 119) (v := (-1)) S_ d_Tx_read_119 (by decide) ?_
          refine wk_iload_n (pc := 120) S_ 2 d_Tx_read_120 rfl rfl ?_
          refine wk_isub (pc := 121) S_ d_Tx_read_121 ?_
          exact hQ_ ((-1) - (nI (w))) (cs.1, cs.2.1, cs.2.2.1, cs.2.2.2.1, cs.2.2.2.2.1, cs.2.2.2.2.2.1, cs.2.2.2.2.2.2.1, cs.2.2.2.2.2.2.2.1, cs.2.2.2.2.2.2.2.2.1, cs.2.2.2.2.2.2.2.2.2.1, cs.2.2.2.2.2.2.2.2.2.2.1, cs.2.2.2.2.2.2.2.2.2.2.2.1, cs.2.2.2.2.2.2.2.2.2.2.2.2.1, cs.2.2.2.2.2.2.2.2.2.2.2.2.2.1, cs.2.2.2.2.2.2.2.2.2.2.2.2.2.2) d_Tx_read_122 rfl (by rw [← hE, show q = 0 by omega, rdC, endC, if_neg h109]; exact ⟨Or.inr ⟨decide_eq_false h109, rfl⟩, by show w ≤ 1501; omega, rfl, hC.1⟩)
        · -- on
          refine wk_aload_n (pc := 112) S_ 0 d_Tx_read_112 rfl rfl ?_
          refine wk_get (pc := 113) (v := .int (nI (cs.2.2.1))) S_ 1 5 0 in_Tx rfl (by decide) rfl fl_Tx_29 d_Tx_read_113 rfl rfl ?_
          refine wk_goto (pc := 116) (tgt := 122) S_ d_Tx_read_116 (by decide) ?_
          exact hQ_ (nI (cs.2.2.1)) (cs.1, cs.2.1, cs.2.2.1, cs.2.2.2.1, cs.2.2.2.2.1, cs.2.2.2.2.2.1, cs.2.2.2.2.2.2.1, cs.2.2.2.2.2.2.2.1, cs.2.2.2.2.2.2.2.2.1, cs.2.2.2.2.2.2.2.2.2.1, cs.2.2.2.2.2.2.2.2.2.2.1, cs.2.2.2.2.2.2.2.2.2.2.2.1, cs.2.2.2.2.2.2.2.2.2.2.2.2.1, cs.2.2.2.2.2.2.2.2.2.2.2.2.2.1, cs.2.2.2.2.2.2.2.2.2.2.2.2.2.2) d_Tx_read_122 rfl (by rw [← hE, show q = 0 by omega, rdC, endC, if_pos h109]; exact ⟨Or.inl ⟨decide_eq_true h109, rfl⟩, by have h9 := hC.2.2; show cs.2.2.1 ≤ 1501; omega, rfl, hC.1⟩)
      · -- on
        refine wk_iload (pc := 16) S_ 4 d_Tx_read_16 rfl ?_
        refine wk_aload_n (pc := 18) S_ 0 d_Tx_read_18 rfl rfl ?_
        refine wk_get (pc := 19) (v := .int (nI (ln))) S_ 1 1 0 in_Tx rfl (by decide) rfl fl_Tx_18 d_Tx_read_19 rfl rfl ?_
        refine wk_icmp_geN (pc := 22) (tgt := 53) S_ d_Tx_read_22 (by decide) (by omega) (by omega) (fun h22 => ?_) (fun h22 => ?_)
        · -- taken
          have hin : ¬ (i < ln ∧ blk (ty i) = false) := fun y => by omega
          refine wk_iconst (pc := 53) (v := (nI (0))) S_ d_Tx_read_53 (by decide) ?_
          refine wk_istore (pc := 54) (lv' := [(5, .int (nI (0))), (0, .ref (t 0)), (1, .ref (r 0)), (2, .int (nI (w))), (3, .int (zI (st))), (4, .int (nI (i)))]) S_ d_Tx_read_54 (by decide) rfl ?_
          refine wk_iload (pc := 56) S_ 0 d_Tx_read_56 rfl ?_
          refine wk_if_eqN (pc := 58) (tgt := 69) S_ d_Tx_read_58 (by decide) (by omega) (fun h58 => ?_) (fun h58 => absurd h58 (by decide))
          refine wk_iload (pc := 69) S_ 0 d_Tx_read_69 rfl ?_
          refine wk_if_neN (pc := 71) (tgt := 99) S_ d_Tx_read_71 (by decide) (by omega) (fun h71 => absurd h71 (by decide)) (fun h71 => ?_)
          refine wk_iload_n (pc := 74) S_ 4 d_Tx_read_74 rfl rfl ?_
          refine wk_iconst (pc := 75) (v := (-1)) S_ d_Tx_read_75 (by decide) ?_
          refine wk_icmp_eqY (pc := 76) (tgt := 99) S_ d_Tx_read_76 (by decide) (by omega) (fun h76 => ?_) (fun h76 => ?_)
          · -- taken
            refine wk_iincN (pc := 99) (d := 1) (lv' := [(4, .int (nI (i + 1))), (5, .int (nI (0))), (0, .ref (t 0)), (1, .ref (r 0)), (2, .int (nI (w))), (3, .int (zI (st)))]) S_ 5 d_Tx_read_99 (by decide) rfl (by decide) rfl ?_
            refine wk_goto (pc := 102) (tgt := 7) S_ d_Tx_read_102 (by decide) ?_
            refine wk_lv [2, 3, 4, 5, 0] ?_ (ih7 (q - 1) (i + 1) (w) (st) (cs) (by omega) (by omega) (by omega) (by rw [← hE]; obtain ⟨q0, rfl⟩ : ∃ q0, q = q0 + 1 := ⟨q - 1, by omega⟩; rw [rdC, if_neg hin, if_pos h76, h76]; rfl) hC)
            rfl
          · -- on
            refine wk_lveq (lv' := [(5, .int (nI (0))), (0, .ref (t 0)), (1, .ref (r 0)), (2, .int (nI (w))), (3, .int (nI (st - 1))), (4, .int (nI (i)))]) (by rw [zI_p h76]) ?_
            refine wk_aload_n (pc := 79) S_ 1 d_Tx_read_79 rfl rfl ?_
            refine wk_iload_n (pc := 80) S_ 4 d_Tx_read_80 rfl rfl ?_
            refine wk_iload (pc := 81) S_ 5 d_Tx_read_81 rfl ?_
            refine wk_aload_n (pc := 83) S_ 2 d_Tx_read_83 rfl rfl ?_
            refine wk_run (pc := 84) (rest := []) (wr := []) (wN := fun u84 => (wTx t cI (zA z) ty u84.2.2.2.1 ln u84.2.1 u84.1 u84.2.2.1 ++ (wRl r cI u84.2.2.2.2.1 u84.2.2.2.2.2.1 u84.2.2.2.2.2.2.1 u84.2.2.2.2.2.2.2.1 u84.2.2.2.2.2.2.2.2.2.1 u84.2.2.2.2.2.2.2.2.2.2.1 u84.2.2.2.2.2.2.2.2.2.2.2.1 u84.2.2.2.2.2.2.2.2.2.2.2.2.1 u84.2.2.2.2.2.2.2.2.2.2.2.2.2.1 u84.2.2.2.2.2.2.2.2.2.2.2.2.2.2 u84.2.2.2.2.2.2.2.2.1))) S_ (wk_rV S_ (c_Tx_takeWord l D cI z (t) (r) (ty) (cs.2.2.2.1) (ln) (cs.2.1) (cs.1) (cs.2.2.1) (cs.2.2.2.2.1) (cs.2.2.2.2.2.1) (cs.2.2.2.2.2.2.1) (cs.2.2.2.2.2.2.2.1) (cs.2.2.2.2.2.2.2.2.2.1) (cs.2.2.2.2.2.2.2.2.2.2.1) (cs.2.2.2.2.2.2.2.2.2.2.2.1) (cs.2.2.2.2.2.2.2.2.2.2.2.2.1) (cs.2.2.2.2.2.2.2.2.2.2.2.2.2.1) (cs.2.2.2.2.2.2.2.2.2.2.2.2.2.2) (cs.2.2.2.2.2.2.2.2.1) (st - 1) (i) (by omega) hty hC.1.1 hC.1.2.1 hC.1.2.2 hC.2.1) mv_Tx_32 (wk_rcv S_ 0 1 rfl rfl rfl) rfl rfl (Nat.le_of_ble_eq_true rfl) (by rw [hR_]; decide) (by rw [hR_]; decide) d_Tx_read_84) [0, 1, 2, 3, 4, 5, 6, 7, 8, 9, 10, 11, 12, 13] [] [0, 1, 2, 3, 4, 5, 6, 7, 8, 9, 10, 11, 12, 13] rfl rfl rfl (by decide) (by decide) (by decide) (by decide) (fun _ => rfl) (fun _ => rfl) (fun r84 u84 hw84 => ?_)
            refine wk_st (st' := [.int (r84)]) rfl ?_
            refine wk_top (y := (bI ((twS ty (st - 1) i cs.1 cs.2.1 cs.2.2.1 cs.2.2.2.1 cs.2.2.2.2).1))) hw84.1 ?_
            refine wk_if_neB (pc := 87) (tgt := 94) S_ d_Tx_read_87 (by decide) (fun h87 => ?_) (fun h87 => ?_)
            · -- taken
              have htr : (twS ty (st - 1) i cs.1 cs.2.1 cs.2.2.1 cs.2.2.2.1 cs.2.2.2.2).1 = true := h87
              refine wk_iincN (pc := 94) (d := 1) (lv' := [(2, .int (nI (w + 1))), (5, .int (nI (0))), (0, .ref (t 0)), (1, .ref (r 0)), (3, .int (nI (st - 1))), (4, .int (nI (i)))]) S_ 3 d_Tx_read_94 (by decide) rfl (by decide) rfl ?_
              refine wk_iconst (pc := 97) (v := (-1)) S_ d_Tx_read_97 (by decide) ?_
              refine wk_top (y := (zI (0))) zI_0.symm ?_
              refine wk_istore_n (pc := 98) (lv' := [(3, .int (zI (0))), (2, .int (nI (w + 1))), (5, .int (nI (0))), (0, .ref (t 0)), (1, .ref (r 0)), (4, .int (nI (i)))]) S_ d_Tx_read_98 rfl (by decide) rfl ?_
              refine wk_iincN (pc := 99) (d := 1) (lv' := [(4, .int (nI (i + 1))), (3, .int (zI (0))), (2, .int (nI (w + 1))), (5, .int (nI (0))), (0, .ref (t 0)), (1, .ref (r 0))]) S_ 5 d_Tx_read_99 (by decide) rfl (by decide) rfl ?_
              refine wk_goto (pc := 102) (tgt := 7) S_ d_Tx_read_102 (by decide) ?_
              refine wk_lv [4, 5, 2, 1, 0] ?_ (ih7 (q - 1) (i + 1) (w + 1) (0) (u84) (by omega) (by omega) (by omega) (by rw [← hE]; obtain ⟨q0, rfl⟩ : ∃ q0, q = q0 + 1 := ⟨q - 1, by omega⟩; rw [rdC, if_neg hin, if_neg h76, if_pos htr, hw84.2]; rfl) (by rw [hw84.2]; exact tw_ok hC htr))
              rfl
            · -- on
              have htr : ¬ (twS ty (st - 1) i cs.1 cs.2.1 cs.2.2.1 cs.2.2.2.1 cs.2.2.2.2).1 = true := fun y => absurd (h87.symm.trans y) (by decide)
              refine wk_iconst (pc := 90) (v := (-1)) S_ d_Tx_read_90 (by decide) ?_
              refine wk_iload_n (pc := 91) S_ 3 d_Tx_read_91 rfl rfl ?_
              refine wk_isub (pc := 92) S_ d_Tx_read_92 ?_
              exact hQ_ ((-1) - (nI (w))) (u84.1, u84.2.1, u84.2.2.1, u84.2.2.2.1, u84.2.2.2.2.1, u84.2.2.2.2.2.1, u84.2.2.2.2.2.2.1, u84.2.2.2.2.2.2.2.1, u84.2.2.2.2.2.2.2.2.1, u84.2.2.2.2.2.2.2.2.2.1, u84.2.2.2.2.2.2.2.2.2.2.1, u84.2.2.2.2.2.2.2.2.2.2.2.1, u84.2.2.2.2.2.2.2.2.2.2.2.2.1, u84.2.2.2.2.2.2.2.2.2.2.2.2.2.1, u84.2.2.2.2.2.2.2.2.2.2.2.2.2.2) d_Tx_read_93 rfl (by rw [← hE]; obtain ⟨q0, rfl⟩ : ∃ q0, q = q0 + 1 := ⟨q - 1, by omega⟩; rw [rdC, if_neg hin, if_neg h76, if_neg htr]; refine ⟨Or.inr ⟨rfl, rfl⟩, by show w ≤ 1501; omega, hw84.2, ?_⟩; have h9 := tw_f (tx := ty) (s := st - 1) (e := i) (cs := cs) h87; show ctOk (twS ty (st - 1) i cs.1 cs.2.1 cs.2.2.1 cs.2.2.2.1 cs.2.2.2.2).2.2.2.2.2; rw [h9]; exact hC.1)
        · -- on
          have ht1 := hty i
          refine wk_aload_n (pc := 25) S_ 0 d_Tx_read_25 rfl rfl ?_
          refine wk_get (pc := 26) (v := .ref (t 1)) S_ 1 0 0 in_Tx rfl (by decide) rfl fl_Tx_9 d_Tx_read_26 rfl rfl ?_
          refine wk_iload (pc := 29) S_ 4 d_Tx_read_29 rfl ?_
          refine wk_ialdN (pc := 31) (g := ty) S_ 1 0 d_Tx_read_31 rfl rfl (by omega) (by decide) ?_
          refine wk_bipush (pc := 32) (v := (nI (32))) S_ d_Tx_read_32 (by decide) ?_
          refine wk_icmp_eqN (pc := 34) (tgt := 53) S_ d_Tx_read_34 (by decide) (by omega) (by omega) (fun h34 => ?_) (fun h34 => ?_)
          · -- taken
            have hin : ¬ (i < ln ∧ blk (ty i) = false) := fun y => by rw [blk, decide_eq_false_iff_not] at y; exact y.2 (Or.inl h34)
            refine wk_iconst (pc := 53) (v := (nI (0))) S_ d_Tx_read_53 (by decide) ?_
            refine wk_istore (pc := 54) (lv' := [(5, .int (nI (0))), (0, .ref (t 0)), (1, .ref (r 0)), (2, .int (nI (w))), (3, .int (zI (st))), (4, .int (nI (i)))]) S_ d_Tx_read_54 (by decide) rfl ?_
            refine wk_iload (pc := 56) S_ 0 d_Tx_read_56 rfl ?_
            refine wk_if_eqN (pc := 58) (tgt := 69) S_ d_Tx_read_58 (by decide) (by omega) (fun h58 => ?_) (fun h58 => absurd h58 (by decide))
            refine wk_iload (pc := 69) S_ 0 d_Tx_read_69 rfl ?_
            refine wk_if_neN (pc := 71) (tgt := 99) S_ d_Tx_read_71 (by decide) (by omega) (fun h71 => absurd h71 (by decide)) (fun h71 => ?_)
            refine wk_iload_n (pc := 74) S_ 4 d_Tx_read_74 rfl rfl ?_
            refine wk_iconst (pc := 75) (v := (-1)) S_ d_Tx_read_75 (by decide) ?_
            refine wk_icmp_eqY (pc := 76) (tgt := 99) S_ d_Tx_read_76 (by decide) (by omega) (fun h76 => ?_) (fun h76 => ?_)
            · -- taken
              refine wk_iincN (pc := 99) (d := 1) (lv' := [(4, .int (nI (i + 1))), (5, .int (nI (0))), (0, .ref (t 0)), (1, .ref (r 0)), (2, .int (nI (w))), (3, .int (zI (st)))]) S_ 5 d_Tx_read_99 (by decide) rfl (by decide) rfl ?_
              refine wk_goto (pc := 102) (tgt := 7) S_ d_Tx_read_102 (by decide) ?_
              refine wk_lv [2, 3, 4, 5, 0] ?_ (ih7 (q - 1) (i + 1) (w) (st) (cs) (by omega) (by omega) (by omega) (by rw [← hE]; obtain ⟨q0, rfl⟩ : ∃ q0, q = q0 + 1 := ⟨q - 1, by omega⟩; rw [rdC, if_neg hin, if_pos h76, h76]; rfl) hC)
              rfl
            · -- on
              refine wk_lveq (lv' := [(5, .int (nI (0))), (0, .ref (t 0)), (1, .ref (r 0)), (2, .int (nI (w))), (3, .int (nI (st - 1))), (4, .int (nI (i)))]) (by rw [zI_p h76]) ?_
              refine wk_aload_n (pc := 79) S_ 1 d_Tx_read_79 rfl rfl ?_
              refine wk_iload_n (pc := 80) S_ 4 d_Tx_read_80 rfl rfl ?_
              refine wk_iload (pc := 81) S_ 5 d_Tx_read_81 rfl ?_
              refine wk_aload_n (pc := 83) S_ 2 d_Tx_read_83 rfl rfl ?_
              refine wk_run (pc := 84) (rest := []) (wr := []) (wN := fun u84 => (wTx t cI (zA z) ty u84.2.2.2.1 ln u84.2.1 u84.1 u84.2.2.1 ++ (wRl r cI u84.2.2.2.2.1 u84.2.2.2.2.2.1 u84.2.2.2.2.2.2.1 u84.2.2.2.2.2.2.2.1 u84.2.2.2.2.2.2.2.2.2.1 u84.2.2.2.2.2.2.2.2.2.2.1 u84.2.2.2.2.2.2.2.2.2.2.2.1 u84.2.2.2.2.2.2.2.2.2.2.2.2.1 u84.2.2.2.2.2.2.2.2.2.2.2.2.2.1 u84.2.2.2.2.2.2.2.2.2.2.2.2.2.2 u84.2.2.2.2.2.2.2.2.1))) S_ (wk_rV S_ (c_Tx_takeWord l D cI z (t) (r) (ty) (cs.2.2.2.1) (ln) (cs.2.1) (cs.1) (cs.2.2.1) (cs.2.2.2.2.1) (cs.2.2.2.2.2.1) (cs.2.2.2.2.2.2.1) (cs.2.2.2.2.2.2.2.1) (cs.2.2.2.2.2.2.2.2.2.1) (cs.2.2.2.2.2.2.2.2.2.2.1) (cs.2.2.2.2.2.2.2.2.2.2.2.1) (cs.2.2.2.2.2.2.2.2.2.2.2.2.1) (cs.2.2.2.2.2.2.2.2.2.2.2.2.2.1) (cs.2.2.2.2.2.2.2.2.2.2.2.2.2.2) (cs.2.2.2.2.2.2.2.2.1) (st - 1) (i) (by omega) hty hC.1.1 hC.1.2.1 hC.1.2.2 hC.2.1) mv_Tx_32 (wk_rcv S_ 0 1 rfl rfl rfl) rfl rfl (Nat.le_of_ble_eq_true rfl) (by rw [hR_]; decide) (by rw [hR_]; decide) d_Tx_read_84) [0, 1, 2, 3, 4, 5, 6, 7, 8, 9, 10, 11, 12, 13] [] [0, 1, 2, 3, 4, 5, 6, 7, 8, 9, 10, 11, 12, 13] rfl rfl rfl (by decide) (by decide) (by decide) (by decide) (fun _ => rfl) (fun _ => rfl) (fun r84 u84 hw84 => ?_)
              refine wk_st (st' := [.int (r84)]) rfl ?_
              refine wk_top (y := (bI ((twS ty (st - 1) i cs.1 cs.2.1 cs.2.2.1 cs.2.2.2.1 cs.2.2.2.2).1))) hw84.1 ?_
              refine wk_if_neB (pc := 87) (tgt := 94) S_ d_Tx_read_87 (by decide) (fun h87 => ?_) (fun h87 => ?_)
              · -- taken
                have htr : (twS ty (st - 1) i cs.1 cs.2.1 cs.2.2.1 cs.2.2.2.1 cs.2.2.2.2).1 = true := h87
                refine wk_iincN (pc := 94) (d := 1) (lv' := [(2, .int (nI (w + 1))), (5, .int (nI (0))), (0, .ref (t 0)), (1, .ref (r 0)), (3, .int (nI (st - 1))), (4, .int (nI (i)))]) S_ 3 d_Tx_read_94 (by decide) rfl (by decide) rfl ?_
                refine wk_iconst (pc := 97) (v := (-1)) S_ d_Tx_read_97 (by decide) ?_
                refine wk_top (y := (zI (0))) zI_0.symm ?_
                refine wk_istore_n (pc := 98) (lv' := [(3, .int (zI (0))), (2, .int (nI (w + 1))), (5, .int (nI (0))), (0, .ref (t 0)), (1, .ref (r 0)), (4, .int (nI (i)))]) S_ d_Tx_read_98 rfl (by decide) rfl ?_
                refine wk_iincN (pc := 99) (d := 1) (lv' := [(4, .int (nI (i + 1))), (3, .int (zI (0))), (2, .int (nI (w + 1))), (5, .int (nI (0))), (0, .ref (t 0)), (1, .ref (r 0))]) S_ 5 d_Tx_read_99 (by decide) rfl (by decide) rfl ?_
                refine wk_goto (pc := 102) (tgt := 7) S_ d_Tx_read_102 (by decide) ?_
                refine wk_lv [4, 5, 2, 1, 0] ?_ (ih7 (q - 1) (i + 1) (w + 1) (0) (u84) (by omega) (by omega) (by omega) (by rw [← hE]; obtain ⟨q0, rfl⟩ : ∃ q0, q = q0 + 1 := ⟨q - 1, by omega⟩; rw [rdC, if_neg hin, if_neg h76, if_pos htr, hw84.2]; rfl) (by rw [hw84.2]; exact tw_ok hC htr))
                rfl
              · -- on
                have htr : ¬ (twS ty (st - 1) i cs.1 cs.2.1 cs.2.2.1 cs.2.2.2.1 cs.2.2.2.2).1 = true := fun y => absurd (h87.symm.trans y) (by decide)
                refine wk_iconst (pc := 90) (v := (-1)) S_ d_Tx_read_90 (by decide) ?_
                refine wk_iload_n (pc := 91) S_ 3 d_Tx_read_91 rfl rfl ?_
                refine wk_isub (pc := 92) S_ d_Tx_read_92 ?_
                exact hQ_ ((-1) - (nI (w))) (u84.1, u84.2.1, u84.2.2.1, u84.2.2.2.1, u84.2.2.2.2.1, u84.2.2.2.2.2.1, u84.2.2.2.2.2.2.1, u84.2.2.2.2.2.2.2.1, u84.2.2.2.2.2.2.2.2.1, u84.2.2.2.2.2.2.2.2.2.1, u84.2.2.2.2.2.2.2.2.2.2.1, u84.2.2.2.2.2.2.2.2.2.2.2.1, u84.2.2.2.2.2.2.2.2.2.2.2.2.1, u84.2.2.2.2.2.2.2.2.2.2.2.2.2.1, u84.2.2.2.2.2.2.2.2.2.2.2.2.2.2) d_Tx_read_93 rfl (by rw [← hE]; obtain ⟨q0, rfl⟩ : ∃ q0, q = q0 + 1 := ⟨q - 1, by omega⟩; rw [rdC, if_neg hin, if_neg h76, if_neg htr]; refine ⟨Or.inr ⟨rfl, rfl⟩, by show w ≤ 1501; omega, hw84.2, ?_⟩; have h9 := tw_f (tx := ty) (s := st - 1) (e := i) (cs := cs) h87; show ctOk (twS ty (st - 1) i cs.1 cs.2.1 cs.2.2.1 cs.2.2.2.1 cs.2.2.2.2).2.2.2.2.2; rw [h9]; exact hC.1)
          · -- on
            refine wk_aload_n (pc := 37) S_ 0 d_Tx_read_37 rfl rfl ?_
            refine wk_get (pc := 38) (v := .ref (t 1)) S_ 1 0 0 in_Tx rfl (by decide) rfl fl_Tx_9 d_Tx_read_38 rfl rfl ?_
            refine wk_iload (pc := 41) S_ 4 d_Tx_read_41 rfl ?_
            refine wk_ialdN (pc := 43) (g := ty) S_ 1 0 d_Tx_read_43 rfl rfl (by omega) (by decide) ?_
            refine wk_bipush (pc := 44) (v := (nI (10))) S_ d_Tx_read_44 (by decide) ?_
            refine wk_icmp_eqN (pc := 46) (tgt := 53) S_ d_Tx_read_46 (by decide) (by omega) (by omega) (fun h46 => ?_) (fun h46 => ?_)
            · -- taken
              have hin : ¬ (i < ln ∧ blk (ty i) = false) := fun y => by rw [blk, decide_eq_false_iff_not] at y; exact y.2 (Or.inr h46)
              refine wk_iconst (pc := 53) (v := (nI (0))) S_ d_Tx_read_53 (by decide) ?_
              refine wk_istore (pc := 54) (lv' := [(5, .int (nI (0))), (0, .ref (t 0)), (1, .ref (r 0)), (2, .int (nI (w))), (3, .int (zI (st))), (4, .int (nI (i)))]) S_ d_Tx_read_54 (by decide) rfl ?_
              refine wk_iload (pc := 56) S_ 0 d_Tx_read_56 rfl ?_
              refine wk_if_eqN (pc := 58) (tgt := 69) S_ d_Tx_read_58 (by decide) (by omega) (fun h58 => ?_) (fun h58 => absurd h58 (by decide))
              refine wk_iload (pc := 69) S_ 0 d_Tx_read_69 rfl ?_
              refine wk_if_neN (pc := 71) (tgt := 99) S_ d_Tx_read_71 (by decide) (by omega) (fun h71 => absurd h71 (by decide)) (fun h71 => ?_)
              refine wk_iload_n (pc := 74) S_ 4 d_Tx_read_74 rfl rfl ?_
              refine wk_iconst (pc := 75) (v := (-1)) S_ d_Tx_read_75 (by decide) ?_
              refine wk_icmp_eqY (pc := 76) (tgt := 99) S_ d_Tx_read_76 (by decide) (by omega) (fun h76 => ?_) (fun h76 => ?_)
              · -- taken
                refine wk_iincN (pc := 99) (d := 1) (lv' := [(4, .int (nI (i + 1))), (5, .int (nI (0))), (0, .ref (t 0)), (1, .ref (r 0)), (2, .int (nI (w))), (3, .int (zI (st)))]) S_ 5 d_Tx_read_99 (by decide) rfl (by decide) rfl ?_
                refine wk_goto (pc := 102) (tgt := 7) S_ d_Tx_read_102 (by decide) ?_
                refine wk_lv [2, 3, 4, 5, 0] ?_ (ih7 (q - 1) (i + 1) (w) (st) (cs) (by omega) (by omega) (by omega) (by rw [← hE]; obtain ⟨q0, rfl⟩ : ∃ q0, q = q0 + 1 := ⟨q - 1, by omega⟩; rw [rdC, if_neg hin, if_pos h76, h76]; rfl) hC)
                rfl
              · -- on
                refine wk_lveq (lv' := [(5, .int (nI (0))), (0, .ref (t 0)), (1, .ref (r 0)), (2, .int (nI (w))), (3, .int (nI (st - 1))), (4, .int (nI (i)))]) (by rw [zI_p h76]) ?_
                refine wk_aload_n (pc := 79) S_ 1 d_Tx_read_79 rfl rfl ?_
                refine wk_iload_n (pc := 80) S_ 4 d_Tx_read_80 rfl rfl ?_
                refine wk_iload (pc := 81) S_ 5 d_Tx_read_81 rfl ?_
                refine wk_aload_n (pc := 83) S_ 2 d_Tx_read_83 rfl rfl ?_
                refine wk_run (pc := 84) (rest := []) (wr := []) (wN := fun u84 => (wTx t cI (zA z) ty u84.2.2.2.1 ln u84.2.1 u84.1 u84.2.2.1 ++ (wRl r cI u84.2.2.2.2.1 u84.2.2.2.2.2.1 u84.2.2.2.2.2.2.1 u84.2.2.2.2.2.2.2.1 u84.2.2.2.2.2.2.2.2.2.1 u84.2.2.2.2.2.2.2.2.2.2.1 u84.2.2.2.2.2.2.2.2.2.2.2.1 u84.2.2.2.2.2.2.2.2.2.2.2.2.1 u84.2.2.2.2.2.2.2.2.2.2.2.2.2.1 u84.2.2.2.2.2.2.2.2.2.2.2.2.2.2 u84.2.2.2.2.2.2.2.2.1))) S_ (wk_rV S_ (c_Tx_takeWord l D cI z (t) (r) (ty) (cs.2.2.2.1) (ln) (cs.2.1) (cs.1) (cs.2.2.1) (cs.2.2.2.2.1) (cs.2.2.2.2.2.1) (cs.2.2.2.2.2.2.1) (cs.2.2.2.2.2.2.2.1) (cs.2.2.2.2.2.2.2.2.2.1) (cs.2.2.2.2.2.2.2.2.2.2.1) (cs.2.2.2.2.2.2.2.2.2.2.2.1) (cs.2.2.2.2.2.2.2.2.2.2.2.2.1) (cs.2.2.2.2.2.2.2.2.2.2.2.2.2.1) (cs.2.2.2.2.2.2.2.2.2.2.2.2.2.2) (cs.2.2.2.2.2.2.2.2.1) (st - 1) (i) (by omega) hty hC.1.1 hC.1.2.1 hC.1.2.2 hC.2.1) mv_Tx_32 (wk_rcv S_ 0 1 rfl rfl rfl) rfl rfl (Nat.le_of_ble_eq_true rfl) (by rw [hR_]; decide) (by rw [hR_]; decide) d_Tx_read_84) [0, 1, 2, 3, 4, 5, 6, 7, 8, 9, 10, 11, 12, 13] [] [0, 1, 2, 3, 4, 5, 6, 7, 8, 9, 10, 11, 12, 13] rfl rfl rfl (by decide) (by decide) (by decide) (by decide) (fun _ => rfl) (fun _ => rfl) (fun r84 u84 hw84 => ?_)
                refine wk_st (st' := [.int (r84)]) rfl ?_
                refine wk_top (y := (bI ((twS ty (st - 1) i cs.1 cs.2.1 cs.2.2.1 cs.2.2.2.1 cs.2.2.2.2).1))) hw84.1 ?_
                refine wk_if_neB (pc := 87) (tgt := 94) S_ d_Tx_read_87 (by decide) (fun h87 => ?_) (fun h87 => ?_)
                · -- taken
                  have htr : (twS ty (st - 1) i cs.1 cs.2.1 cs.2.2.1 cs.2.2.2.1 cs.2.2.2.2).1 = true := h87
                  refine wk_iincN (pc := 94) (d := 1) (lv' := [(2, .int (nI (w + 1))), (5, .int (nI (0))), (0, .ref (t 0)), (1, .ref (r 0)), (3, .int (nI (st - 1))), (4, .int (nI (i)))]) S_ 3 d_Tx_read_94 (by decide) rfl (by decide) rfl ?_
                  refine wk_iconst (pc := 97) (v := (-1)) S_ d_Tx_read_97 (by decide) ?_
                  refine wk_top (y := (zI (0))) zI_0.symm ?_
                  refine wk_istore_n (pc := 98) (lv' := [(3, .int (zI (0))), (2, .int (nI (w + 1))), (5, .int (nI (0))), (0, .ref (t 0)), (1, .ref (r 0)), (4, .int (nI (i)))]) S_ d_Tx_read_98 rfl (by decide) rfl ?_
                  refine wk_iincN (pc := 99) (d := 1) (lv' := [(4, .int (nI (i + 1))), (3, .int (zI (0))), (2, .int (nI (w + 1))), (5, .int (nI (0))), (0, .ref (t 0)), (1, .ref (r 0))]) S_ 5 d_Tx_read_99 (by decide) rfl (by decide) rfl ?_
                  refine wk_goto (pc := 102) (tgt := 7) S_ d_Tx_read_102 (by decide) ?_
                  refine wk_lv [4, 5, 2, 1, 0] ?_ (ih7 (q - 1) (i + 1) (w + 1) (0) (u84) (by omega) (by omega) (by omega) (by rw [← hE]; obtain ⟨q0, rfl⟩ : ∃ q0, q = q0 + 1 := ⟨q - 1, by omega⟩; rw [rdC, if_neg hin, if_neg h76, if_pos htr, hw84.2]; rfl) (by rw [hw84.2]; exact tw_ok hC htr))
                  rfl
                · -- on
                  have htr : ¬ (twS ty (st - 1) i cs.1 cs.2.1 cs.2.2.1 cs.2.2.2.1 cs.2.2.2.2).1 = true := fun y => absurd (h87.symm.trans y) (by decide)
                  refine wk_iconst (pc := 90) (v := (-1)) S_ d_Tx_read_90 (by decide) ?_
                  refine wk_iload_n (pc := 91) S_ 3 d_Tx_read_91 rfl rfl ?_
                  refine wk_isub (pc := 92) S_ d_Tx_read_92 ?_
                  exact hQ_ ((-1) - (nI (w))) (u84.1, u84.2.1, u84.2.2.1, u84.2.2.2.1, u84.2.2.2.2.1, u84.2.2.2.2.2.1, u84.2.2.2.2.2.2.1, u84.2.2.2.2.2.2.2.1, u84.2.2.2.2.2.2.2.2.1, u84.2.2.2.2.2.2.2.2.2.1, u84.2.2.2.2.2.2.2.2.2.2.1, u84.2.2.2.2.2.2.2.2.2.2.2.1, u84.2.2.2.2.2.2.2.2.2.2.2.2.1, u84.2.2.2.2.2.2.2.2.2.2.2.2.2.1, u84.2.2.2.2.2.2.2.2.2.2.2.2.2.2) d_Tx_read_93 rfl (by rw [← hE]; obtain ⟨q0, rfl⟩ : ∃ q0, q = q0 + 1 := ⟨q - 1, by omega⟩; rw [rdC, if_neg hin, if_neg h76, if_neg htr]; refine ⟨Or.inr ⟨rfl, rfl⟩, by show w ≤ 1501; omega, hw84.2, ?_⟩; have h9 := tw_f (tx := ty) (s := st - 1) (e := i) (cs := cs) h87; show ctOk (twS ty (st - 1) i cs.1 cs.2.1 cs.2.2.1 cs.2.2.2.1 cs.2.2.2.2).2.2.2.2.2; rw [h9]; exact hC.1)
            · -- on
              have hin : blk (ty i) = false := by rw [blk]; exact decide_eq_false (fun y => by rcases y with y | y; exact h34 y; exact h46 y)
              refine wk_iconst (pc := 49) (v := (nI (1))) S_ d_Tx_read_49 (by decide) ?_
              refine wk_goto (pc := 50) (tgt := 54) S_ d_Tx_read_50 (by decide) ?_
              refine wk_istore (pc := 54) (lv' := [(5, .int (nI (1))), (0, .ref (t 0)), (1, .ref (r 0)), (2, .int (nI (w))), (3, .int (zI (st))), (4, .int (nI (i)))]) S_ d_Tx_read_54 (by decide) rfl ?_
              refine wk_iload (pc := 56) S_ 0 d_Tx_read_56 rfl ?_
              refine wk_if_eqN (pc := 58) (tgt := 69) S_ d_Tx_read_58 (by decide) (by omega) (fun h58 => absurd h58 (by decide)) (fun h58 => ?_)
              refine wk_iload_n (pc := 61) S_ 4 d_Tx_read_61 rfl rfl ?_
              refine wk_iconst (pc := 62) (v := (-1)) S_ d_Tx_read_62 (by decide) ?_
              refine wk_icmp_neY (pc := 63) (tgt := 69) S_ d_Tx_read_63 (by decide) (by omega) (fun h63 => ?_) (fun h63 => ?_)
              · -- taken
                refine wk_iload (pc := 69) S_ 0 d_Tx_read_69 rfl ?_
                refine wk_if_neN (pc := 71) (tgt := 99) S_ d_Tx_read_71 (by decide) (by omega) (fun h71 => ?_) (fun h71 => absurd h71 (by decide))
                refine wk_iincN (pc := 99) (d := 1) (lv' := [(4, .int (nI (i + 1))), (5, .int (nI (1))), (0, .ref (t 0)), (1, .ref (r 0)), (2, .int (nI (w))), (3, .int (zI (st)))]) S_ 5 d_Tx_read_99 (by decide) rfl (by decide) rfl ?_
                refine wk_goto (pc := 102) (tgt := 7) S_ d_Tx_read_102 (by decide) ?_
                refine wk_lv [2, 3, 4, 5, 0] ?_ (ih7 (q - 1) (i + 1) (w) (st) (cs) (by omega) (by omega) (by omega) (by rw [← hE]; obtain ⟨q0, rfl⟩ : ∃ q0, q = q0 + 1 := ⟨q - 1, by omega⟩; rw [rdC, if_pos ⟨by omega, hin⟩, if_neg h63]; rfl) hC)
                rfl
              · -- on
                refine wk_iload (pc := 66) S_ 5 d_Tx_read_66 rfl ?_
                refine wk_top (y := (zI (i + 1))) (zI_s _).symm ?_
                refine wk_istore_n (pc := 68) (lv' := [(3, .int (zI (i + 1))), (5, .int (nI (1))), (0, .ref (t 0)), (1, .ref (r 0)), (2, .int (nI (w))), (4, .int (nI (i)))]) S_ d_Tx_read_68 rfl (by decide) rfl ?_
                refine wk_iload (pc := 69) S_ 1 d_Tx_read_69 rfl ?_
                refine wk_if_neN (pc := 71) (tgt := 99) S_ d_Tx_read_71 (by decide) (by omega) (fun h71 => ?_) (fun h71 => absurd h71 (by decide))
                refine wk_iincN (pc := 99) (d := 1) (lv' := [(4, .int (nI (i + 1))), (3, .int (zI (i + 1))), (5, .int (nI (1))), (0, .ref (t 0)), (1, .ref (r 0)), (2, .int (nI (w)))]) S_ 5 d_Tx_read_99 (by decide) rfl (by decide) rfl ?_
                refine wk_goto (pc := 102) (tgt := 7) S_ d_Tx_read_102 (by decide) ?_
                refine wk_lv [3, 4, 5, 1, 0] ?_ (ih7 (q - 1) (i + 1) (w) (i + 1) (cs) (by omega) (by omega) (by omega) (by rw [← hE]; obtain ⟨q0, rfl⟩ : ∃ q0, q = q0 + 1 := ⟨q - 1, by omega⟩; rw [rdC, if_pos ⟨by omega, hin⟩, if_pos h63]; rfl) hC)
                rfl
  refine wk_lv [3, 4, 2, 1, 0] ?_ (hL7 _ (ln + 1) (0) (0) (0) ((ok, gt, sn, nu, ap, pt, rk, cd, fr, mc, mg, mz, nc, nt, oc)) (Nat.lt_succ_self _) (by omega) (by omega) rfl ⟨⟨hmc, hmg, hnc⟩, Or.inl hok, by rw [hsn]; exact Nat.zero_le _⟩)
  rfl
