theorem d_Md_isIn_0 : decode b_Md_isIn 0 = .ok (.lload_n 0, 1) := by decide +kernel
theorem d_Md_isIn_1 : decode b_Md_isIn 1 = .ok (.lload_n 2, 1) := by decide +kernel
theorem d_Md_isIn_2 : decode b_Md_isIn 2 = .ok (.lcmp, 1) := by decide +kernel
theorem d_Md_isIn_3 : decode b_Md_isIn 3 = .ok (.ifCond .lt 14, 3) := by decide +kernel
theorem d_Md_isIn_6 : decode b_Md_isIn 6 = .ok (.lload_n 0, 1) := by decide +kernel
theorem d_Md_isIn_7 : decode b_Md_isIn 7 = .ok (.lload 4, 2) := by decide +kernel
theorem d_Md_isIn_9 : decode b_Md_isIn 9 = .ok (.lcmp, 1) := by decide +kernel
theorem d_Md_isIn_10 : decode b_Md_isIn 10 = .ok (.ifCond .gt 7, 3) := by decide +kernel
theorem d_Md_isIn_13 : decode b_Md_isIn 13 = .ok (.iconst 1, 1) := by decide +kernel
theorem d_Md_isIn_14 : decode b_Md_isIn 14 = .ok (.goto 4, 3) := by decide +kernel
theorem d_Md_isIn_17 : decode b_Md_isIn 17 = .ok (.iconst 0, 1) := by decide +kernel
theorem d_Md_isIn_18 : decode b_Md_isIn 18 = .ok (.ireturn, 1) := by decide +kernel
theorem fl_Md_117 : Cond.fieldLink R_Md 117 R_Md "bottles" "I" ∈ lw_gd := (gd _ (tb2 _ (List.mem_of_getElem? (i := 176) rfl)) rfl)
theorem d_Md_isBottle_0 : decode b_Md_isBottle 0 = .ok (.iload_n 1, 1) := by decide +kernel
theorem d_Md_isBottle_1 : decode b_Md_isBottle 1 = .ok (.ifCond .lt 15, 3) := by decide +kernel
theorem d_Md_isBottle_4 : decode b_Md_isBottle 4 = .ok (.iload_n 1, 1) := by decide +kernel
theorem d_Md_isBottle_5 : decode b_Md_isBottle 5 = .ok (.aload_n 0, 1) := by decide +kernel
theorem d_Md_isBottle_6 : decode b_Md_isBottle 6 = .ok (.getfield 117, 3) := by decide +kernel
theorem d_Md_isBottle_9 : decode b_Md_isBottle 9 = .ok (.if_icmp .ge 7, 3) := by decide +kernel
theorem d_Md_isBottle_12 : decode b_Md_isBottle 12 = .ok (.iconst 1, 1) := by decide +kernel
theorem d_Md_isBottle_13 : decode b_Md_isBottle 13 = .ok (.goto 4, 3) := by decide +kernel
theorem d_Md_isBottle_16 : decode b_Md_isBottle 16 = .ok (.iconst 0, 1) := by decide +kernel
theorem d_Md_isBottle_17 : decode b_Md_isBottle 17 = .ok (.ireturn, 1) := by decide +kernel
theorem fl_Md_84 : Cond.fieldLink R_Md 84 R_Md "out" "[Z" ∈ lw_gd := (gd _ (tb2 _ (List.mem_of_getElem? (i := 180) rfl)) rfl)
theorem fl_Md_74 : Cond.fieldLink R_Md 74 R_Md "classes" "[I" ∈ lw_gd := (gd _ (tb2 _ (List.mem_of_getElem? (i := 177) rfl)) rfl)
theorem d_Md_isToBePacked_0 : decode b_Md_isToBePacked 0 = .ok (.aload_n 0, 1) := by decide +kernel
theorem d_Md_isToBePacked_1 : decode b_Md_isToBePacked 1 = .ok (.getfield 84, 3) := by decide +kernel
theorem d_Md_isToBePacked_4 : decode b_Md_isToBePacked 4 = .ok (.iload_n 1, 1) := by decide +kernel
theorem d_Md_isToBePacked_5 : decode b_Md_isToBePacked 5 = .ok (.baload, 1) := by decide +kernel
theorem d_Md_isToBePacked_6 : decode b_Md_isToBePacked 6 = .ok (.ifCond .ne 16, 3) := by decide +kernel
theorem d_Md_isToBePacked_9 : decode b_Md_isToBePacked 9 = .ok (.aload_n 0, 1) := by decide +kernel
theorem d_Md_isToBePacked_10 : decode b_Md_isToBePacked 10 = .ok (.getfield 74, 3) := by decide +kernel
theorem d_Md_isToBePacked_13 : decode b_Md_isToBePacked 13 = .ok (.iload_n 1, 1) := by decide +kernel
theorem d_Md_isToBePacked_14 : decode b_Md_isToBePacked 14 = .ok (.iaload, 1) := by decide +kernel
theorem d_Md_isToBePacked_15 : decode b_Md_isToBePacked 15 = .ok (.ifCond .lt 7, 3) := by decide +kernel
theorem d_Md_isToBePacked_18 : decode b_Md_isToBePacked 18 = .ok (.iconst 1, 1) := by decide +kernel
theorem d_Md_isToBePacked_19 : decode b_Md_isToBePacked 19 = .ok (.goto 4, 3) := by decide +kernel
theorem d_Md_isToBePacked_22 : decode b_Md_isToBePacked 22 = .ok (.iconst 0, 1) := by decide +kernel
theorem d_Md_isToBePacked_23 : decode b_Md_isToBePacked 23 = .ok (.ireturn, 1) := by decide +kernel
theorem fl_Md_239 : Cond.fieldLink R_Md 239 R_Md "isFound" "Z" ∈ lw_gd := (gd _ (tb2 _ (List.mem_of_getElem? (i := 187) rfl)) rfl)
theorem fl_Md_99 : Cond.fieldLink R_Md 99 R_Md "found" "[I" ∈ lw_gd := (gd _ (tb2 _ (List.mem_of_getElem? (i := 189) rfl)) rfl)
theorem d_Md_isLoaded_0 : decode b_Md_isLoaded 0 = .ok (.aload_n 0, 1) := by decide +kernel
theorem d_Md_isLoaded_1 : decode b_Md_isLoaded 1 = .ok (.getfield 239, 3) := by decide +kernel
theorem d_Md_isLoaded_4 : decode b_Md_isLoaded 4 = .ok (.ifCond .eq 16, 3) := by decide +kernel
theorem d_Md_isLoaded_7 : decode b_Md_isLoaded 7 = .ok (.aload_n 0, 1) := by decide +kernel
theorem d_Md_isLoaded_8 : decode b_Md_isLoaded 8 = .ok (.getfield 99, 3) := by decide +kernel
theorem d_Md_isLoaded_11 : decode b_Md_isLoaded 11 = .ok (.iload_n 1, 1) := by decide +kernel
theorem d_Md_isLoaded_12 : decode b_Md_isLoaded 12 = .ok (.iaload, 1) := by decide +kernel
theorem d_Md_isLoaded_13 : decode b_Md_isLoaded 13 = .ok (.ifCond .lt 7, 3) := by decide +kernel
theorem d_Md_isLoaded_16 : decode b_Md_isLoaded 16 = .ok (.iconst 1, 1) := by decide +kernel
theorem d_Md_isLoaded_17 : decode b_Md_isLoaded 17 = .ok (.goto 4, 3) := by decide +kernel
theorem d_Md_isLoaded_20 : decode b_Md_isLoaded 20 = .ok (.iconst 0, 1) := by decide +kernel
theorem d_Md_isLoaded_21 : decode b_Md_isLoaded 21 = .ok (.ireturn, 1) := by decide +kernel
theorem mv_Md_245 : wk_V R_Md 245 R_Md y_Md_isLoaded b_Md_isLoaded 2 (some .boolean) 1 := ⟨(gd _ (tb3 _ (List.mem_of_getElem? (i := 196) rfl)) rfl), (gd _ (tb0 _ (List.mem_of_getElem? (i := 8) rfl)) rfl), (gd _ (tb3 _ (List.mem_of_getElem? (i := 193) rfl)) rfl), (by decide +kernel), (gd _ (tb3 _ (List.mem_of_getElem? (i := 195) rfl)) rfl), (gd _ (List.mem_append_left _ (by decide +kernel)) rfl)⟩
theorem fl_Md_77 : Cond.fieldLink R_Md 77 R_Md "grams" "[J" ∈ lw_gd := (gd _ (tb2 _ (List.mem_of_getElem? (i := 178) rfl)) rfl)
theorem d_Md_gramsOf_0 : decode b_Md_gramsOf 0 = .ok (.lconst 0, 1) := by decide +kernel
theorem d_Md_gramsOf_1 : decode b_Md_gramsOf 1 = .ok (.lstore_n 2, 1) := by decide +kernel
theorem d_Md_gramsOf_2 : decode b_Md_gramsOf 2 = .ok (.iconst 0, 1) := by decide +kernel
theorem d_Md_gramsOf_3 : decode b_Md_gramsOf 3 = .ok (.istore 4, 2) := by decide +kernel
theorem d_Md_gramsOf_5 : decode b_Md_gramsOf 5 = .ok (.iload 4, 2) := by decide +kernel
theorem d_Md_gramsOf_7 : decode b_Md_gramsOf 7 = .ok (.aload_n 0, 1) := by decide +kernel
theorem d_Md_gramsOf_8 : decode b_Md_gramsOf 8 = .ok (.getfield 117, 3) := by decide +kernel
theorem d_Md_gramsOf_11 : decode b_Md_gramsOf 11 = .ok (.if_icmp .ge 43, 3) := by decide +kernel
theorem d_Md_gramsOf_14 : decode b_Md_gramsOf 14 = .ok (.lload_n 2, 1) := by decide +kernel
theorem d_Md_gramsOf_15 : decode b_Md_gramsOf 15 = .ok (.aload_n 0, 1) := by decide +kernel
theorem d_Md_gramsOf_16 : decode b_Md_gramsOf 16 = .ok (.iload 4, 2) := by decide +kernel
theorem d_Md_gramsOf_18 : decode b_Md_gramsOf 18 = .ok (.invokevirtual 245, 3) := by decide +kernel
theorem d_Md_gramsOf_21 : decode b_Md_gramsOf 21 = .ok (.ifCond .eq 24, 3) := by decide +kernel
theorem d_Md_gramsOf_24 : decode b_Md_gramsOf 24 = .ok (.aload_n 0, 1) := by decide +kernel
theorem d_Md_gramsOf_25 : decode b_Md_gramsOf 25 = .ok (.getfield 74, 3) := by decide +kernel
theorem d_Md_gramsOf_28 : decode b_Md_gramsOf 28 = .ok (.iload 4, 2) := by decide +kernel
theorem d_Md_gramsOf_30 : decode b_Md_gramsOf 30 = .ok (.iaload, 1) := by decide +kernel
theorem d_Md_gramsOf_31 : decode b_Md_gramsOf 31 = .ok (.iload_n 1, 1) := by decide +kernel
theorem d_Md_gramsOf_32 : decode b_Md_gramsOf 32 = .ok (.if_icmp .ne 13, 3) := by decide +kernel
theorem d_Md_gramsOf_35 : decode b_Md_gramsOf 35 = .ok (.aload_n 0, 1) := by decide +kernel
theorem d_Md_gramsOf_36 : decode b_Md_gramsOf 36 = .ok (.getfield 77, 3) := by decide +kernel
theorem d_Md_gramsOf_39 : decode b_Md_gramsOf 39 = .ok (.iload 4, 2) := by decide +kernel
theorem d_Md_gramsOf_41 : decode b_Md_gramsOf 41 = .ok (.laload, 1) := by decide +kernel
theorem d_Md_gramsOf_42 : decode b_Md_gramsOf 42 = .ok (.goto 4, 3) := by decide +kernel
theorem d_Md_gramsOf_45 : decode b_Md_gramsOf 45 = .ok (.lconst 0, 1) := by decide +kernel
theorem d_Md_gramsOf_46 : decode b_Md_gramsOf 46 = .ok (.ladd, 1) := by decide +kernel
theorem d_Md_gramsOf_47 : decode b_Md_gramsOf 47 = .ok (.lstore_n 2, 1) := by decide +kernel
theorem d_Md_gramsOf_48 : decode b_Md_gramsOf 48 = .ok (.iinc 4 1, 3) := by decide +kernel
theorem d_Md_gramsOf_51 : decode b_Md_gramsOf 51 = .ok (.goto (-46), 3) := by decide +kernel
theorem d_Md_gramsOf_54 : decode b_Md_gramsOf 54 = .ok (.lload_n 2, 1) := by decide +kernel
theorem d_Md_gramsOf_55 : decode b_Md_gramsOf 55 = .ok (.lreturn, 1) := by decide +kernel
theorem mv_Md_248 : wk_V R_Md 248 R_Md y_Md_gramsOf b_Md_gramsOf 5 (some .long) 1 := ⟨(gd _ (tb3 _ (List.mem_of_getElem? (i := 192) rfl)) rfl), (gd _ (tb0 _ (List.mem_of_getElem? (i := 8) rfl)) rfl), (gd _ (tb3 _ (List.mem_of_getElem? (i := 189) rfl)) rfl), (by decide +kernel), (gd _ (tb3 _ (List.mem_of_getElem? (i := 191) rfl)) rfl), (gd _ (List.mem_append_left _ (by decide +kernel)) rfl)⟩
theorem kc_Md_252 : Cond.constantLong R_Md 252 (lN 999) ∈ lw_gd := (gd _ (tb3 _ (List.mem_of_getElem? (i := 197) rfl)) rfl)
theorem kc_Md_254 : Cond.constantLong R_Md 254 (lN 1000) ∈ lw_gd := (gd _ (tb3 _ (List.mem_of_getElem? (i := 198) rfl)) rfl)
theorem fl_Md_17 : Cond.fieldLink R_Md 17 R_Md "points" "[I" ∈ lw_gd := (gd _ (tb2 _ (List.mem_of_getElem? (i := 155) rfl)) rfl)
theorem d_Md_pointsOf_0 : decode b_Md_pointsOf 0 = .ok (.aload_n 0, 1) := by decide +kernel
theorem d_Md_pointsOf_1 : decode b_Md_pointsOf 1 = .ok (.iload_n 1, 1) := by decide +kernel
theorem d_Md_pointsOf_2 : decode b_Md_pointsOf 2 = .ok (.invokevirtual 248, 3) := by decide +kernel
theorem d_Md_pointsOf_5 : decode b_Md_pointsOf 5 = .ok (.ldc2_w 252, 3) := by decide +kernel
theorem d_Md_pointsOf_8 : decode b_Md_pointsOf 8 = .ok (.ladd, 1) := by decide +kernel
theorem d_Md_pointsOf_9 : decode b_Md_pointsOf 9 = .ok (.ldc2_w 254, 3) := by decide +kernel
theorem d_Md_pointsOf_12 : decode b_Md_pointsOf 12 = .ok (.ldiv, 1) := by decide +kernel
theorem d_Md_pointsOf_13 : decode b_Md_pointsOf 13 = .ok (.aload_n 0, 1) := by decide +kernel
theorem d_Md_pointsOf_14 : decode b_Md_pointsOf 14 = .ok (.getfield 17, 3) := by decide +kernel
theorem d_Md_pointsOf_17 : decode b_Md_pointsOf 17 = .ok (.iload_n 1, 1) := by decide +kernel
theorem d_Md_pointsOf_18 : decode b_Md_pointsOf 18 = .ok (.iaload, 1) := by decide +kernel
theorem d_Md_pointsOf_19 : decode b_Md_pointsOf 19 = .ok (.i2l, 1) := by decide +kernel
theorem d_Md_pointsOf_20 : decode b_Md_pointsOf 20 = .ok (.lmul, 1) := by decide +kernel
theorem d_Md_pointsOf_21 : decode b_Md_pointsOf 21 = .ok (.lreturn, 1) := by decide +kernel
theorem mv_Md_256 : wk_V R_Md 256 R_Md y_Md_pointsOf b_Md_pointsOf 2 (some .long) 1 := ⟨(gd _ (tb3 _ (List.mem_of_getElem? (i := 188) rfl)) rfl), (gd _ (tb0 _ (List.mem_of_getElem? (i := 8) rfl)) rfl), (gd _ (tb3 _ (List.mem_of_getElem? (i := 185) rfl)) rfl), (by decide +kernel), (gd _ (tb3 _ (List.mem_of_getElem? (i := 187) rfl)) rfl), (gd _ (List.mem_append_left _ (by decide +kernel)) rfl)⟩
theorem d_Md_points_0 : decode b_Md_points 0 = .ok (.lconst 0, 1) := by decide +kernel
theorem d_Md_points_1 : decode b_Md_points 1 = .ok (.lstore_n 1, 1) := by decide +kernel
theorem d_Md_points_2 : decode b_Md_points 2 = .ok (.iconst 0, 1) := by decide +kernel
theorem d_Md_points_3 : decode b_Md_points 3 = .ok (.istore_n 3, 1) := by decide +kernel
theorem d_Md_points_4 : decode b_Md_points 4 = .ok (.iload_n 3, 1) := by decide +kernel
theorem d_Md_points_5 : decode b_Md_points 5 = .ok (.bipush 9, 2) := by decide +kernel
theorem d_Md_points_7 : decode b_Md_points 7 = .ok (.if_icmp .ge 17, 3) := by decide +kernel
theorem d_Md_points_10 : decode b_Md_points 10 = .ok (.lload_n 1, 1) := by decide +kernel
theorem d_Md_points_11 : decode b_Md_points 11 = .ok (.aload_n 0, 1) := by decide +kernel
theorem d_Md_points_12 : decode b_Md_points 12 = .ok (.iload_n 3, 1) := by decide +kernel
theorem d_Md_points_13 : decode b_Md_points 13 = .ok (.invokevirtual 256, 3) := by decide +kernel
theorem d_Md_points_16 : decode b_Md_points 16 = .ok (.ladd, 1) := by decide +kernel
theorem d_Md_points_17 : decode b_Md_points 17 = .ok (.lstore_n 1, 1) := by decide +kernel
theorem d_Md_points_18 : decode b_Md_points 18 = .ok (.iinc 3 1, 3) := by decide +kernel
theorem d_Md_points_21 : decode b_Md_points 21 = .ok (.goto (-17), 3) := by decide +kernel
theorem d_Md_points_24 : decode b_Md_points 24 = .ok (.lload_n 1, 1) := by decide +kernel
theorem d_Md_points_25 : decode b_Md_points 25 = .ok (.lreturn, 1) := by decide +kernel
theorem mv_Md_259 : wk_V R_Md 259 R_Md y_Md_points b_Md_points 4 (some .long) 0 := ⟨(gd _ (tb3 _ (List.mem_of_getElem? (i := 184) rfl)) rfl), (gd _ (tb0 _ (List.mem_of_getElem? (i := 8) rfl)) rfl), (gd _ (tb3 _ (List.mem_of_getElem? (i := 203) rfl)) rfl), (by decide +kernel), (gd _ (tb3 _ (List.mem_of_getElem? (i := 182) rfl)) rfl), (gd _ (tb3 _ (List.mem_of_getElem? (i := 183) rfl)) rfl)⟩
theorem fl_Md_137 : Cond.fieldLink R_Md 137 R_Md "free" "I" ∈ lw_gd := (gd _ (tb2 _ (List.mem_of_getElem? (i := 158) rfl)) rfl)
theorem d_Md_exempt_0 : decode b_Md_exempt 0 = .ok (.aload_n 0, 1) := by decide +kernel
theorem d_Md_exempt_1 : decode b_Md_exempt 1 = .ok (.invokevirtual 259, 3) := by decide +kernel
theorem d_Md_exempt_4 : decode b_Md_exempt 4 = .ok (.aload_n 0, 1) := by decide +kernel
theorem d_Md_exempt_5 : decode b_Md_exempt 5 = .ok (.getfield 137, 3) := by decide +kernel
theorem d_Md_exempt_8 : decode b_Md_exempt 8 = .ok (.i2l, 1) := by decide +kernel
theorem d_Md_exempt_9 : decode b_Md_exempt 9 = .ok (.lcmp, 1) := by decide +kernel
theorem d_Md_exempt_10 : decode b_Md_exempt 10 = .ok (.ifCond .gt 7, 3) := by decide +kernel
theorem d_Md_exempt_13 : decode b_Md_exempt 13 = .ok (.iconst 1, 1) := by decide +kernel
theorem d_Md_exempt_14 : decode b_Md_exempt 14 = .ok (.goto 4, 3) := by decide +kernel
theorem d_Md_exempt_17 : decode b_Md_exempt 17 = .ok (.iconst 0, 1) := by decide +kernel
theorem d_Md_exempt_18 : decode b_Md_exempt 18 = .ok (.ireturn, 1) := by decide +kernel
theorem fl_Md_20 : Cond.fieldLink R_Md 20 R_Md "ranks" "[I" ∈ lw_gd := (gd _ (tb2 _ (List.mem_of_getElem? (i := 156) rfl)) rfl)
theorem d_Md_placeOf_0 : decode b_Md_placeOf 0 = .ok (.iconst 0, 1) := by decide +kernel
theorem d_Md_placeOf_1 : decode b_Md_placeOf 1 = .ok (.istore_n 2, 1) := by decide +kernel
theorem d_Md_placeOf_2 : decode b_Md_placeOf 2 = .ok (.iconst 0, 1) := by decide +kernel
theorem d_Md_placeOf_3 : decode b_Md_placeOf 3 = .ok (.istore_n 3, 1) := by decide +kernel
theorem d_Md_placeOf_4 : decode b_Md_placeOf 4 = .ok (.iload_n 3, 1) := by decide +kernel
theorem d_Md_placeOf_5 : decode b_Md_placeOf 5 = .ok (.bipush 9, 2) := by decide +kernel
theorem d_Md_placeOf_7 : decode b_Md_placeOf 7 = .ok (.if_icmp .ge 74, 3) := by decide +kernel
theorem d_Md_placeOf_10 : decode b_Md_placeOf 10 = .ok (.aload_n 0, 1) := by decide +kernel
theorem d_Md_placeOf_11 : decode b_Md_placeOf 11 = .ok (.getfield 20, 3) := by decide +kernel
theorem d_Md_placeOf_14 : decode b_Md_placeOf 14 = .ok (.iload_n 3, 1) := by decide +kernel
theorem d_Md_placeOf_15 : decode b_Md_placeOf 15 = .ok (.iaload, 1) := by decide +kernel
theorem d_Md_placeOf_16 : decode b_Md_placeOf 16 = .ok (.aload_n 0, 1) := by decide +kernel
theorem d_Md_placeOf_17 : decode b_Md_placeOf 17 = .ok (.getfield 20, 3) := by decide +kernel
theorem d_Md_placeOf_20 : decode b_Md_placeOf 20 = .ok (.iload_n 1, 1) := by decide +kernel
theorem d_Md_placeOf_21 : decode b_Md_placeOf 21 = .ok (.iaload, 1) := by decide +kernel
theorem d_Md_placeOf_22 : decode b_Md_placeOf 22 = .ok (.if_icmp .lt 23, 3) := by decide +kernel
theorem d_Md_placeOf_25 : decode b_Md_placeOf 25 = .ok (.aload_n 0, 1) := by decide +kernel
theorem d_Md_placeOf_26 : decode b_Md_placeOf 26 = .ok (.getfield 20, 3) := by decide +kernel
theorem d_Md_placeOf_29 : decode b_Md_placeOf 29 = .ok (.iload_n 3, 1) := by decide +kernel
theorem d_Md_placeOf_30 : decode b_Md_placeOf 30 = .ok (.iaload, 1) := by decide +kernel
theorem d_Md_placeOf_31 : decode b_Md_placeOf 31 = .ok (.aload_n 0, 1) := by decide +kernel
theorem d_Md_placeOf_32 : decode b_Md_placeOf 32 = .ok (.getfield 20, 3) := by decide +kernel
theorem d_Md_placeOf_35 : decode b_Md_placeOf 35 = .ok (.iload_n 1, 1) := by decide +kernel
theorem d_Md_placeOf_36 : decode b_Md_placeOf 36 = .ok (.iaload, 1) := by decide +kernel
theorem d_Md_placeOf_37 : decode b_Md_placeOf 37 = .ok (.if_icmp .ne 12, 3) := by decide +kernel
theorem d_Md_placeOf_40 : decode b_Md_placeOf 40 = .ok (.iload_n 3, 1) := by decide +kernel
theorem d_Md_placeOf_41 : decode b_Md_placeOf 41 = .ok (.iload_n 1, 1) := by decide +kernel
theorem d_Md_placeOf_42 : decode b_Md_placeOf 42 = .ok (.if_icmp .ge 7, 3) := by decide +kernel
theorem d_Md_placeOf_45 : decode b_Md_placeOf 45 = .ok (.iconst 1, 1) := by decide +kernel
theorem d_Md_placeOf_46 : decode b_Md_placeOf 46 = .ok (.goto 4, 3) := by decide +kernel
theorem d_Md_placeOf_49 : decode b_Md_placeOf 49 = .ok (.iconst 0, 1) := by decide +kernel
theorem d_Md_placeOf_50 : decode b_Md_placeOf 50 = .ok (.istore 4, 2) := by decide +kernel
theorem d_Md_placeOf_52 : decode b_Md_placeOf 52 = .ok (.iload_n 2, 1) := by decide +kernel
theorem d_Md_placeOf_53 : decode b_Md_placeOf 53 = .ok (.iload 4, 2) := by decide +kernel
theorem d_Md_placeOf_55 : decode b_Md_placeOf 55 = .ok (.ifCond .eq 17, 3) := by decide +kernel
theorem d_Md_placeOf_58 : decode b_Md_placeOf 58 = .ok (.aload_n 0, 1) := by decide +kernel
theorem d_Md_placeOf_59 : decode b_Md_placeOf 59 = .ok (.iload_n 3, 1) := by decide +kernel
theorem d_Md_placeOf_60 : decode b_Md_placeOf 60 = .ok (.invokevirtual 248, 3) := by decide +kernel
theorem d_Md_placeOf_63 : decode b_Md_placeOf 63 = .ok (.lconst 0, 1) := by decide +kernel
theorem d_Md_placeOf_64 : decode b_Md_placeOf 64 = .ok (.lcmp, 1) := by decide +kernel
theorem d_Md_placeOf_65 : decode b_Md_placeOf 65 = .ok (.ifCond .le 7, 3) := by decide +kernel
theorem d_Md_placeOf_68 : decode b_Md_placeOf 68 = .ok (.iconst 1, 1) := by decide +kernel
theorem d_Md_placeOf_69 : decode b_Md_placeOf 69 = .ok (.goto 4, 3) := by decide +kernel
theorem d_Md_placeOf_72 : decode b_Md_placeOf 72 = .ok (.iconst 0, 1) := by decide +kernel
theorem d_Md_placeOf_73 : decode b_Md_placeOf 73 = .ok (.iadd, 1) := by decide +kernel
theorem d_Md_placeOf_74 : decode b_Md_placeOf 74 = .ok (.istore_n 2, 1) := by decide +kernel
theorem d_Md_placeOf_75 : decode b_Md_placeOf 75 = .ok (.iinc 3 1, 3) := by decide +kernel
theorem d_Md_placeOf_78 : decode b_Md_placeOf 78 = .ok (.goto (-74), 3) := by decide +kernel
theorem d_Md_placeOf_81 : decode b_Md_placeOf 81 = .ok (.iload_n 2, 1) := by decide +kernel
theorem d_Md_placeOf_82 : decode b_Md_placeOf 82 = .ok (.ireturn, 1) := by decide +kernel
theorem mv_Md_262 : wk_V R_Md 262 R_Md y_Md_placeOf b_Md_placeOf 5 (some .int) 1 := ⟨(gd _ (tb3 _ (List.mem_of_getElem? (i := 211) rfl)) rfl), (gd _ (tb0 _ (List.mem_of_getElem? (i := 8) rfl)) rfl), (gd _ (tb3 _ (List.mem_of_getElem? (i := 208) rfl)) rfl), (by decide +kernel), (gd _ (tb3 _ (List.mem_of_getElem? (i := 210) rfl)) rfl), (gd _ (List.mem_append_left _ (by decide +kernel)) rfl)⟩
theorem d_Md_name_0 : decode b_Md_name 0 = .ok (.iconst 0, 1) := by decide +kernel
theorem d_Md_name_1 : decode b_Md_name 1 = .ok (.istore_n 2, 1) := by decide +kernel
theorem d_Md_name_2 : decode b_Md_name 2 = .ok (.iload_n 2, 1) := by decide +kernel
theorem d_Md_name_3 : decode b_Md_name 3 = .ok (.bipush 9, 2) := by decide +kernel
theorem d_Md_name_5 : decode b_Md_name 5 = .ok (.if_icmp .ge 30, 3) := by decide +kernel
theorem d_Md_name_8 : decode b_Md_name 8 = .ok (.aload_n 0, 1) := by decide +kernel
theorem d_Md_name_9 : decode b_Md_name 9 = .ok (.iload_n 2, 1) := by decide +kernel
theorem d_Md_name_10 : decode b_Md_name 10 = .ok (.invokevirtual 248, 3) := by decide +kernel
theorem d_Md_name_13 : decode b_Md_name 13 = .ok (.lconst 0, 1) := by decide +kernel
theorem d_Md_name_14 : decode b_Md_name 14 = .ok (.lcmp, 1) := by decide +kernel
theorem d_Md_name_15 : decode b_Md_name 15 = .ok (.ifCond .le 14, 3) := by decide +kernel
theorem d_Md_name_18 : decode b_Md_name 18 = .ok (.aload_n 0, 1) := by decide +kernel
theorem d_Md_name_19 : decode b_Md_name 19 = .ok (.iload_n 2, 1) := by decide +kernel
theorem d_Md_name_20 : decode b_Md_name 20 = .ok (.invokevirtual 262, 3) := by decide +kernel
theorem d_Md_name_23 : decode b_Md_name 23 = .ok (.iload_n 1, 1) := by decide +kernel
theorem d_Md_name_24 : decode b_Md_name 24 = .ok (.if_icmp .ne 5, 3) := by decide +kernel
theorem d_Md_name_27 : decode b_Md_name 27 = .ok (.iload_n 2, 1) := by decide +kernel
theorem d_Md_name_28 : decode b_Md_name 28 = .ok (.ireturn, 1) := by decide +kernel
theorem d_Md_name_29 : decode b_Md_name 29 = .ok (.iinc 2 1, 3) := by decide +kernel
theorem d_Md_name_32 : decode b_Md_name 32 = .ok (.goto (-30), 3) := by decide +kernel
theorem d_Md_name_35 : decode b_Md_name 35 = .ok (.iconst (-1), 1) := by decide +kernel
theorem d_Md_name_36 : decode b_Md_name 36 = .ok (.ireturn, 1) := by decide +kernel
set_option maxHeartbeats 4000000 in
set_option maxRecDepth 100000 in
theorem c_Md_isIn (l : Launch) (D : va_G) (cI : CiT) (z : GzT) (v : Int64) (lo : Int64) (hi : Int64) : wk_C l D (tyK cI) (gX z) y_Md_isIn b_Md_isIn 6 (some .boolean) 0 0 0 0 [.long (v), .long (lo), .long (hi)] [] wk_i (fun (r : Int32) (_ : Unit) => r = (bI (lxI v lo hi))) (fun _ => []) := by
  refine wk_methZ (own := R_Md) [(0, .long (v)), (2, .long (lo)), (4, .long (hi))] (by decide) rfl (Nat.le_of_ble_eq_true rfl) rfl (gX_ok z) (fun p_ e_ R_ s_ m_ ar_ be_ me_ co_ Q_ A_ hR_ S_ hnm_ hQ_ => ?_)
  refine wk_lload_n (pc := 0) S_ 0 d_Md_isIn_0 rfl rfl ?_
  refine wk_lload_n (pc := 1) S_ 1 d_Md_isIn_1 rfl rfl ?_
  refine wk_lcmp (pc := 2) S_ d_Md_isIn_2 ?_
  refine wk_cmp_lt (pc := 3) (tgt := 17) S_ d_Md_isIn_3 (by decide) (fun h3 => ?_) (fun h3 => ?_)
  · -- taken
    refine wk_iconst (pc := 17) (v := (nI (0))) S_ d_Md_isIn_17 (by decide) ?_
    exact hQ_ (nI (0)) () d_Md_isIn_18 rfl rfl (bI_f (by simp [lxI, show ¬ lo ≤ v from Int64.not_le.mpr h3]))
  · -- on
    refine wk_lload_n (pc := 6) S_ 0 d_Md_isIn_6 rfl rfl ?_
    refine wk_lload (pc := 7) S_ 2 d_Md_isIn_7 rfl ?_
    refine wk_lcmp (pc := 9) S_ d_Md_isIn_9 ?_
    refine wk_cmp_gt (pc := 10) (tgt := 17) S_ d_Md_isIn_10 (by decide) (fun h10 => ?_) (fun h10 => ?_)
    · -- taken
      refine wk_iconst (pc := 17) (v := (nI (0))) S_ d_Md_isIn_17 (by decide) ?_
      exact hQ_ (nI (0)) () d_Md_isIn_18 rfl rfl (bI_f (by simp [lxI, show ¬ v ≤ hi from Int64.not_le.mpr h10]))
    · -- on
      refine wk_iconst (pc := 13) (v := (nI (1))) S_ d_Md_isIn_13 (by decide) ?_
      refine wk_goto (pc := 14) (tgt := 18) S_ d_Md_isIn_14 (by decide) ?_
      exact hQ_ (nI (1)) () d_Md_isIn_18 rfl rfl (bI_t (by simp [lxI, Int64.not_lt.mp h3, Int64.not_lt.mp h10]))
set_option maxHeartbeats 4000000 in
set_option maxRecDepth 100000 in
theorem c_Md_isBottle (l : Launch) (D : va_G) (cI : CiT) (z : GzT) (m : Nat → Nat) (tx : (Nat → Nat)) (sz : Nat) (ap : (Nat → Bool)) (pt : (Nat → Nat)) (rk : (Nat → Nat)) (cd : (Nat → Nat)) (fr : Nat) (mc : (Nat → Nat)) (mg : (Nat → Nat)) (mz : (Nat → Nat)) (nc : (Nat → Nat)) (nt : (Nat → Nat)) (ld : (Nat → Nat)) (qap : (Nat → Bool)) (qpt : (Nat → Nat)) (qrk : (Nat → Nat)) (qcd : (Nat → Nat)) (qfr : Nat) (qmc : (Nat → Nat)) (qmg : (Nat → Nat)) (qmz : (Nat → Nat)) (qnc : (Nat → Nat)) (qnt : (Nat → Nat)) (qld : (Nat → Nat)) (nb : Nat) (cl : (Nat → Nat)) (gr : (Nat → Nat)) (sp : (Nat → Nat)) (ot : (Nat → Bool)) (na : Nat) (aw : (Nat → Nat)) (nx : Nat) (bg : (Nat → Nat)) (bb : (Nat → Nat)) (ab : (Nat → Nat)) (fd : Bool) (pv : Bool) (bx : (Nat → Nat)) (wy : (Nat → Nat)) (li : (Nat → Nat)) (fm : Nat) (en : Nat) (nu : Nat) (td : (Nat → Nat)) (lf : Int32) (lk : Int32) (b : Int32) : wk_C l D (tyK cI) (gX z) y_Md_isBottle b_Md_isBottle 2 (some .boolean) 0 0 0 0 [.ref (m 0), .int (b)] (wMd m cI tx sz ap pt rk cd fr mc mg mz nc nt ld qap qpt qrk qcd qfr qmc qmg qmz qnc qnt qld nb cl gr sp ot na aw nx bg bb ab fd pv bx wy li fm en nu td lf lk) wk_i (fun (r : Int32) (_ : Unit) => r = (bI (ixI nb b))) (fun _ => (wMd m cI tx sz ap pt rk cd fr mc mg mz nc nt ld qap qpt qrk qcd qfr qmc qmg qmz qnc qnt qld nb cl gr sp ot na aw nx bg bb ab fd pv bx wy li fm en nu td lf lk)) := by
  refine wk_methZ (own := R_Md) [(0, .ref (m 0)), (1, .int (b))] (by decide) rfl (Nat.le_of_ble_eq_true rfl) rfl (gX_ok z) (fun p_ e_ R_ s_ m_ ar_ be_ me_ co_ Q_ A_ hR_ S_ hnm_ hQ_ => ?_)
  refine wk_iload_n (pc := 0) S_ 1 d_Md_isBottle_0 rfl rfl ?_
  refine wk_if_lt (pc := 1) (tgt := 16) S_ d_Md_isBottle_1 (by decide) (fun h1 => ?_) (fun h1 => ?_)
  · -- taken
    refine wk_iconst (pc := 16) (v := (nI (0))) S_ d_Md_isBottle_16 (by decide) ?_
    exact hQ_ (nI (0)) () d_Md_isBottle_17 rfl rfl (bI_f (by simp [ixI, h1]))
  · -- on
    refine wk_iload_n (pc := 4) S_ 1 d_Md_isBottle_4 rfl rfl ?_
    refine wk_aload_n (pc := 5) S_ 0 d_Md_isBottle_5 rfl rfl ?_
    refine wk_get (pc := 6) (v := .int (nI (nb))) S_ 6 24 0 in_Md rfl (by decide) rfl fl_Md_117 d_Md_isBottle_6 rfl rfl ?_
    refine wk_icmp_ge (pc := 9) (tgt := 16) S_ d_Md_isBottle_9 (by decide) (fun h9 => ?_) (fun h9 => ?_)
    · -- taken
      refine wk_iconst (pc := 16) (v := (nI (0))) S_ d_Md_isBottle_16 (by decide) ?_
      exact hQ_ (nI (0)) () d_Md_isBottle_17 rfl rfl (bI_f (by simp [ixI, h1, h9]))
    · -- on
      refine wk_iconst (pc := 12) (v := (nI (1))) S_ d_Md_isBottle_12 (by decide) ?_
      refine wk_goto (pc := 13) (tgt := 17) S_ d_Md_isBottle_13 (by decide) ?_
      exact hQ_ (nI (1)) () d_Md_isBottle_17 rfl rfl (bI_t (by simp [ixI, h1, h9]))
set_option maxHeartbeats 4000000 in
set_option maxRecDepth 100000 in
theorem c_Md_isToBePacked (l : Launch) (D : va_G) (cI : CiT) (z : GzT) (m : Nat → Nat) (tx : (Nat → Nat)) (sz : Nat) (ap : (Nat → Bool)) (pt : (Nat → Nat)) (rk : (Nat → Nat)) (cd : (Nat → Nat)) (fr : Nat) (mc : (Nat → Nat)) (mg : (Nat → Nat)) (mz : (Nat → Nat)) (nc : (Nat → Nat)) (nt : (Nat → Nat)) (ld : (Nat → Nat)) (qap : (Nat → Bool)) (qpt : (Nat → Nat)) (qrk : (Nat → Nat)) (qcd : (Nat → Nat)) (qfr : Nat) (qmc : (Nat → Nat)) (qmg : (Nat → Nat)) (qmz : (Nat → Nat)) (qnc : (Nat → Nat)) (qnt : (Nat → Nat)) (qld : (Nat → Nat)) (nb : Nat) (cl : (Nat → Nat)) (gr : (Nat → Nat)) (sp : (Nat → Nat)) (ot : (Nat → Bool)) (na : Nat) (aw : (Nat → Nat)) (nx : Nat) (bg : (Nat → Nat)) (bb : (Nat → Nat)) (ab : (Nat → Nat)) (fd : Bool) (pv : Bool) (bx : (Nat → Nat)) (wy : (Nat → Nat)) (li : (Nat → Nat)) (fm : Nat) (en : Nat) (nu : Nat) (td : (Nat → Nat)) (lf : Int32) (lk : Int32) (j : Nat) (hj : j < 8) (hc : cl j < 2 ^ 31) : wk_C l D (tyK cI) (gX z) y_Md_isToBePacked b_Md_isToBePacked 2 (some .boolean) 0 0 0 0 [.ref (m 0), .int (nI (j))] (wMd m cI tx sz ap pt rk cd fr mc mg mz nc nt ld qap qpt qrk qcd qfr qmc qmg qmz qnc qnt qld nb cl gr sp ot na aw nx bg bb ab fd pv bx wy li fm en nu td lf lk) wk_i (fun (r : Int32) (_ : Unit) => r = (bI (decide (ot j = false ∧ cl j ≠ 0)))) (fun _ => (wMd m cI tx sz ap pt rk cd fr mc mg mz nc nt ld qap qpt qrk qcd qfr qmc qmg qmz qnc qnt qld nb cl gr sp ot na aw nx bg bb ab fd pv bx wy li fm en nu td lf lk)) := by
  refine wk_methZ (own := R_Md) [(0, .ref (m 0)), (1, .int (nI (j)))] (by decide) rfl (Nat.le_of_ble_eq_true rfl) rfl (gX_ok z) (fun p_ e_ R_ s_ m_ ar_ be_ me_ co_ Q_ A_ hR_ S_ hnm_ hQ_ => ?_)
  refine wk_aload_n (pc := 0) S_ 0 d_Md_isToBePacked_0 rfl rfl ?_
  refine wk_get (pc := 1) (v := .ref (m 25)) S_ 6 28 0 in_Md rfl (by decide) rfl fl_Md_84 d_Md_isToBePacked_1 rfl rfl ?_
  refine wk_iload_n (pc := 4) S_ 1 d_Md_isToBePacked_4 rfl rfl ?_
  refine wk_zald (pc := 5) (g := ot) S_ 25 1 d_Md_isToBePacked_5 rfl rfl (by omega) (by decide) ?_
  refine wk_if_neB (pc := 6) (tgt := 22) S_ d_Md_isToBePacked_6 (by decide) (fun h6 => ?_) (fun h6 => ?_)
  · -- taken
    refine wk_iconst (pc := 22) (v := (nI (0))) S_ d_Md_isToBePacked_22 (by decide) ?_
    exact hQ_ (nI (0)) () d_Md_isToBePacked_23 rfl rfl (bI_f (by (try simp at h6); simp [h6]))
  · -- on
    refine wk_aload_n (pc := 9) S_ 0 d_Md_isToBePacked_9 rfl rfl ?_
    refine wk_get (pc := 10) (v := .ref (m 22)) S_ 6 25 0 in_Md rfl (by decide) rfl fl_Md_74 d_Md_isToBePacked_10 rfl rfl ?_
    refine wk_iload_n (pc := 13) S_ 1 d_Md_isToBePacked_13 rfl rfl ?_
    refine wk_ialdY (pc := 14) (g := cl) S_ 22 0 d_Md_isToBePacked_14 rfl rfl (by omega) (by decide) ?_
    refine wk_if_ltY (pc := 15) (tgt := 22) S_ d_Md_isToBePacked_15 (by decide) (by omega) (fun h15 => ?_) (fun h15 => ?_)
    · -- taken
      refine wk_iconst (pc := 22) (v := (nI (0))) S_ d_Md_isToBePacked_22 (by decide) ?_
      exact hQ_ (nI (0)) () d_Md_isToBePacked_23 rfl rfl (bI_f (by (try simp at h6); (try simp at h15); simp [h6, h15]))
    · -- on
      refine wk_iconst (pc := 18) (v := (nI (1))) S_ d_Md_isToBePacked_18 (by decide) ?_
      refine wk_goto (pc := 19) (tgt := 23) S_ d_Md_isToBePacked_19 (by decide) ?_
      exact hQ_ (nI (1)) () d_Md_isToBePacked_23 rfl rfl (bI_t (by (try simp at h6); (try simp at h15); simp [h6, h15]))
set_option maxHeartbeats 4000000 in
set_option maxRecDepth 100000 in
theorem c_Md_isLoaded (l : Launch) (D : va_G) (cI : CiT) (z : GzT) (m : Nat → Nat) (tx : (Nat → Nat)) (sz : Nat) (ap : (Nat → Bool)) (pt : (Nat → Nat)) (rk : (Nat → Nat)) (cd : (Nat → Nat)) (fr : Nat) (mc : (Nat → Nat)) (mg : (Nat → Nat)) (mz : (Nat → Nat)) (nc : (Nat → Nat)) (nt : (Nat → Nat)) (ld : (Nat → Nat)) (qap : (Nat → Bool)) (qpt : (Nat → Nat)) (qrk : (Nat → Nat)) (qcd : (Nat → Nat)) (qfr : Nat) (qmc : (Nat → Nat)) (qmg : (Nat → Nat)) (qmz : (Nat → Nat)) (qnc : (Nat → Nat)) (qnt : (Nat → Nat)) (qld : (Nat → Nat)) (nb : Nat) (cl : (Nat → Nat)) (gr : (Nat → Nat)) (sp : (Nat → Nat)) (ot : (Nat → Bool)) (na : Nat) (aw : (Nat → Nat)) (nx : Nat) (bg : (Nat → Nat)) (bb : (Nat → Nat)) (ab : (Nat → Nat)) (fd : Bool) (pv : Bool) (bx : (Nat → Nat)) (wy : (Nat → Nat)) (li : (Nat → Nat)) (fm : Nat) (en : Nat) (nu : Nat) (td : (Nat → Nat)) (lf : Int32) (lk : Int32) (j : Nat) (hj : j < 8) (hF : fd = false → ∀ b, bx b = 0) (hb : ∀ b, bx b ≤ 5) : wk_C l D (tyK cI) (gX z) y_Md_isLoaded b_Md_isLoaded 2 (some .boolean) 0 0 0 0 [.ref (m 0), .int (nI (j))] (wMd m cI tx sz ap pt rk cd fr mc mg mz nc nt ld qap qpt qrk qcd qfr qmc qmg qmz qnc qnt qld nb cl gr sp ot na aw nx bg bb ab fd pv bx wy li fm en nu td lf lk) wk_i (fun (r : Int32) (_ : Unit) => r = (bI (decide (bx j ≠ 0)))) (fun _ => (wMd m cI tx sz ap pt rk cd fr mc mg mz nc nt ld qap qpt qrk qcd qfr qmc qmg qmz qnc qnt qld nb cl gr sp ot na aw nx bg bb ab fd pv bx wy li fm en nu td lf lk)) := by
  refine wk_methZ (own := R_Md) [(0, .ref (m 0)), (1, .int (nI (j)))] (by decide) rfl (Nat.le_of_ble_eq_true rfl) rfl (gX_ok z) (fun p_ e_ R_ s_ m_ ar_ be_ me_ co_ Q_ A_ hR_ S_ hnm_ hQ_ => ?_)
  refine wk_aload_n (pc := 0) S_ 0 d_Md_isLoaded_0 rfl rfl ?_
  refine wk_get (pc := 1) (v := .int (bI (fd))) S_ 6 35 0 in_Md rfl (by decide) rfl fl_Md_239 d_Md_isLoaded_1 rfl rfl ?_
  refine wk_if_eqB (pc := 4) (tgt := 20) S_ d_Md_isLoaded_4 (by decide) (fun h4 => ?_) (fun h4 => ?_)
  · -- taken
    refine wk_iconst (pc := 20) (v := (nI (0))) S_ d_Md_isLoaded_20 (by decide) ?_
    exact hQ_ (nI (0)) () d_Md_isLoaded_21 rfl rfl (bI_f (by simp [hF h4]))
  · -- on
    refine wk_aload_n (pc := 7) S_ 0 d_Md_isLoaded_7 rfl rfl ?_
    refine wk_get (pc := 8) (v := .ref (m 30)) S_ 6 37 0 in_Md rfl (by decide) rfl fl_Md_99 d_Md_isLoaded_8 rfl rfl ?_
    refine wk_iload_n (pc := 11) S_ 1 d_Md_isLoaded_11 rfl rfl ?_
    refine wk_ialdY (pc := 12) (g := bx) S_ 30 0 d_Md_isLoaded_12 rfl rfl (by omega) (by decide) ?_
    have hb1 := hb j
    refine wk_if_ltY (pc := 13) (tgt := 20) S_ d_Md_isLoaded_13 (by decide) (by omega) (fun h13 => ?_) (fun h13 => ?_)
    · -- taken
      refine wk_iconst (pc := 20) (v := (nI (0))) S_ d_Md_isLoaded_20 (by decide) ?_
      exact hQ_ (nI (0)) () d_Md_isLoaded_21 rfl rfl (bI_f (by (try simp at h4); (try simp at h13); simp [h4, h13]))
    · -- on
      refine wk_iconst (pc := 16) (v := (nI (1))) S_ d_Md_isLoaded_16 (by decide) ?_
      refine wk_goto (pc := 17) (tgt := 21) S_ d_Md_isLoaded_17 (by decide) ?_
      exact hQ_ (nI (1)) () d_Md_isLoaded_21 rfl rfl (bI_t (by (try simp at h4); (try simp at h13); simp [h4, h13]))
set_option maxHeartbeats 4000000 in
set_option maxRecDepth 100000 in
theorem c_Md_gramsOf (l : Launch) (D : va_G) (cI : CiT) (z : GzT) (m : Nat → Nat) (tx : (Nat → Nat)) (sz : Nat) (ap : (Nat → Bool)) (pt : (Nat → Nat)) (rk : (Nat → Nat)) (cd : (Nat → Nat)) (fr : Nat) (mc : (Nat → Nat)) (mg : (Nat → Nat)) (mz : (Nat → Nat)) (nc : (Nat → Nat)) (nt : (Nat → Nat)) (ld : (Nat → Nat)) (qap : (Nat → Bool)) (qpt : (Nat → Nat)) (qrk : (Nat → Nat)) (qcd : (Nat → Nat)) (qfr : Nat) (qmc : (Nat → Nat)) (qmg : (Nat → Nat)) (qmz : (Nat → Nat)) (qnc : (Nat → Nat)) (qnt : (Nat → Nat)) (qld : (Nat → Nat)) (nb : Nat) (cl : (Nat → Nat)) (gr : (Nat → Nat)) (sp : (Nat → Nat)) (ot : (Nat → Bool)) (na : Nat) (aw : (Nat → Nat)) (nx : Nat) (bg : (Nat → Nat)) (bb : (Nat → Nat)) (ab : (Nat → Nat)) (fd : Bool) (pv : Bool) (bx : (Nat → Nat)) (wy : (Nat → Nat)) (li : (Nat → Nat)) (fm : Nat) (en : Nat) (nu : Nat) (td : (Nat → Nat)) (lf : Int32) (lk : Int32) (c : Nat) (hc : c < 9) (hnb : nb ≤ 8) (hgr : ∀ b, gr b ≤ 100000) (hcl : ∀ b, cl b ≤ 9) (hF : fd = false → ∀ b, bx b = 0) (hb : ∀ b, bx b ≤ 5) : wk_C l D (tyK cI) (gX z) y_Md_gramsOf b_Md_gramsOf 5 (some .long) 1 21 0 0 [.ref (m 0), .int (nI (c))] (wMd m cI tx sz ap pt rk cd fr mc mg mz nc nt ld qap qpt qrk qcd qfr qmc qmg qmz qnc qnt qld nb cl gr sp ot na aw nx bg bb ab fd pv bx wy li fm en nu td lf lk) wk_l (fun (r : Int64) (_ : Unit) => r = (lN (goN cl gr bx c nb))) (fun _ => (wMd m cI tx sz ap pt rk cd fr mc mg mz nc nt ld qap qpt qrk qcd qfr qmc qmg qmz qnc qnt qld nb cl gr sp ot na aw nx bg bb ab fd pv bx wy li fm en nu td lf lk)) := by
  refine wk_methL (own := R_Md) [(0, .ref (m 0)), (1, .int (nI (c)))] (by decide) rfl (Nat.le_of_ble_eq_true rfl) rfl (gX_ok z) (fun p_ e_ R_ s_ m_ ar_ be_ me_ co_ Q_ A_ hR_ S_ hnm_ hQ_ => ?_)
  refine wk_lconst (pc := 0) (v := (lN (0))) S_ d_Md_gramsOf_0 (by decide) ?_
  refine wk_lstore_n (pc := 1) (lv' := [(2, .long (lN (0))), (0, .ref (m 0)), (1, .int (nI (c)))]) S_ d_Md_gramsOf_1 rfl (by decide) rfl ?_
  refine wk_iconst (pc := 2) (v := (nI (0))) S_ d_Md_gramsOf_2 (by decide) ?_
  refine wk_istore (pc := 3) (lv' := [(4, .int (nI (0))), (2, .long (lN (0))), (0, .ref (m 0)), (1, .int (nI (c)))]) S_ d_Md_gramsOf_3 (by decide) rfl ?_
  have hL5 : ∀ (fuel5 : Nat), ∀ (k : Nat), nb - k < fuel5 → (k ≤ nb) → wk_G p_ l e_ R_ s_ m_ ar_ be_ me_ co_ Q_ D A_ 5 0 0 (wMd m cI tx sz ap pt rk cd fr mc mg mz nc nt ld qap qpt qrk qcd qfr qmc qmg qmz qnc qnt qld nb cl gr sp ot na aw nx bg bb ab fd pv bx wy li fm en nu td lf lk) 5 [(0, .ref (m 0)), (1, .int (nI (c))), (2, .long (lN (goN cl gr bx c k))), (4, .int (nI (k)))] [] := by
    intro fuel5
    induction fuel5 with
    | zero => intro k hm; exact absurd hm (Nat.not_lt_zero _)
    | succ fuel5 ih5 =>
      intro k hm hk
      refine wk_iload (pc := 5) S_ 3 d_Md_gramsOf_5 rfl ?_
      refine wk_aload_n (pc := 7) S_ 0 d_Md_gramsOf_7 rfl rfl ?_
      refine wk_get (pc := 8) (v := .int (nI (nb))) S_ 6 24 0 in_Md rfl (by decide) rfl fl_Md_117 d_Md_gramsOf_8 rfl rfl ?_
      refine wk_icmp_geN (pc := 11) (tgt := 54) S_ d_Md_gramsOf_11 (by decide) (by omega) (by omega) (fun h11 => ?_) (fun h11 => ?_)
      · -- taken
        refine wk_lload_n (pc := 54) S_ 2 d_Md_gramsOf_54 rfl rfl ?_
        exact hQ_ (lN (goN cl gr bx c k)) () d_Md_gramsOf_55 rfl (by rw [show k = nb by omega])
      · -- on
        refine wk_lload_n (pc := 14) S_ 2 d_Md_gramsOf_14 rfl rfl ?_
        refine wk_aload_n (pc := 15) S_ 0 d_Md_gramsOf_15 rfl rfl ?_
        refine wk_iload (pc := 16) S_ 3 d_Md_gramsOf_16 rfl ?_
        refine wk_run (pc := 18) (rest := [.long (lN (goN cl gr bx c k))]) (wr := []) (wN := fun _ => (wMd m cI tx sz ap pt rk cd fr mc mg mz nc nt ld qap qpt qrk qcd qfr qmc qmg qmz qnc qnt qld nb cl gr sp ot na aw nx bg bb ab fd pv bx wy li fm en nu td lf lk)) S_ (wk_rV S_ (c_Md_isLoaded l D cI z (m) (tx) (sz) (ap) (pt) (rk) (cd) (fr) (mc) (mg) (mz) (nc) (nt) (ld) (qap) (qpt) (qrk) (qcd) (qfr) (qmc) (qmg) (qmz) (qnc) (qnt) (qld) (nb) (cl) (gr) (sp) (ot) (na) (aw) (nx) (bg) (bb) (ab) (fd) (pv) (bx) (wy) (li) (fm) (en) (nu) (td) (lf) (lk) (k) (by omega) hF hb) mv_Md_245 (wk_rcv S_ 0 6 rfl rfl rfl) rfl rfl (Nat.le_of_ble_eq_true rfl) (by rw [hR_]; decide) (by rw [hR_]; decide) d_Md_gramsOf_18) [0, 1, 2, 3, 4, 5, 6, 7, 8, 9, 10, 11, 12, 13, 14, 15, 16, 17, 18, 19, 20, 21, 22, 23, 24, 25, 26, 27, 28, 29, 30, 31, 32, 33] [] [0, 1, 2, 3, 4, 5, 6, 7, 8, 9, 10, 11, 12, 13, 14, 15, 16, 17, 18, 19, 20, 21, 22, 23, 24, 25, 26, 27, 28, 29, 30, 31, 32, 33] rfl rfl rfl (by decide) (by decide) (by decide) (by decide) (fun _ => rfl) (fun _ => rfl) (fun r18 _ hw18 => ?_)
        refine wk_st (st' := [.int (r18), .long (lN (goN cl gr bx c k))]) rfl ?_
        refine wk_top (y := (bI (decide ((bx) (k) ≠ 0)))) hw18 ?_
        refine wk_if_eqB (pc := 21) (tgt := 45) S_ d_Md_gramsOf_21 (by decide) (fun h21 => ?_) (fun h21 => ?_)
        · -- taken
          refine wk_lconst (pc := 45) (v := (lN (0))) S_ d_Md_gramsOf_45 (by decide) ?_
          refine wk_laddN (pc := 46) S_ d_Md_gramsOf_46 ?_
          refine wk_topl (y := (lN (goN cl gr bx c (k + 1)))) (congrArg lN (by (try simp at h11); (try simp at h21); simp [goN, h21])) ?_
          refine wk_lstore_n (pc := 47) (lv' := [(2, .long (lN (goN cl gr bx c (k + 1)))), (0, .ref (m 0)), (1, .int (nI (c))), (4, .int (nI (k)))]) S_ d_Md_gramsOf_47 rfl (by decide) rfl ?_
          refine wk_iincN (pc := 48) (d := 1) (lv' := [(4, .int (nI (k + 1))), (2, .long (lN (goN cl gr bx c (k + 1)))), (0, .ref (m 0)), (1, .int (nI (c)))]) S_ 3 d_Md_gramsOf_48 (by decide) rfl (by decide) rfl ?_
          refine wk_goto (pc := 51) (tgt := 5) S_ d_Md_gramsOf_51 (by decide) ?_
          refine wk_lv [2, 3, 1, 0] ?_ (ih5 (k + 1) (by omega) (by omega))
          rfl
        · -- on
          refine wk_aload_n (pc := 24) S_ 0 d_Md_gramsOf_24 rfl rfl ?_
          refine wk_get (pc := 25) (v := .ref (m 22)) S_ 6 25 0 in_Md rfl (by decide) rfl fl_Md_74 d_Md_gramsOf_25 rfl rfl ?_
          refine wk_iload (pc := 28) S_ 3 d_Md_gramsOf_28 rfl ?_
          refine wk_ialdY (pc := 30) (g := cl) S_ 22 0 d_Md_gramsOf_30 rfl rfl (by omega) (by decide) ?_
          refine wk_iload_n (pc := 31) S_ 1 d_Md_gramsOf_31 rfl rfl ?_
          have hc1 := hcl k
          refine wk_icmp_neYN (pc := 32) (tgt := 45) S_ d_Md_gramsOf_32 (by decide) (by omega) (by omega) (fun h32 => ?_) (fun h32 => ?_)
          · -- taken
            refine wk_lconst (pc := 45) (v := (lN (0))) S_ d_Md_gramsOf_45 (by decide) ?_
            refine wk_laddN (pc := 46) S_ d_Md_gramsOf_46 ?_
            refine wk_topl (y := (lN (goN cl gr bx c (k + 1)))) (congrArg lN (by (try simp at h11); (try simp at h21); (try simp at h32); simp [goN, h21, h32])) ?_
            refine wk_lstore_n (pc := 47) (lv' := [(2, .long (lN (goN cl gr bx c (k + 1)))), (0, .ref (m 0)), (1, .int (nI (c))), (4, .int (nI (k)))]) S_ d_Md_gramsOf_47 rfl (by decide) rfl ?_
            refine wk_iincN (pc := 48) (d := 1) (lv' := [(4, .int (nI (k + 1))), (2, .long (lN (goN cl gr bx c (k + 1)))), (0, .ref (m 0)), (1, .int (nI (c)))]) S_ 3 d_Md_gramsOf_48 (by decide) rfl (by decide) rfl ?_
            refine wk_goto (pc := 51) (tgt := 5) S_ d_Md_gramsOf_51 (by decide) ?_
            refine wk_lv [2, 3, 1, 0] ?_ (ih5 (k + 1) (by omega) (by omega))
            rfl
          · -- on
            refine wk_aload_n (pc := 35) S_ 0 d_Md_gramsOf_35 rfl rfl ?_
            refine wk_get (pc := 36) (v := .ref (m 23)) S_ 6 26 0 in_Md rfl (by decide) rfl fl_Md_77 d_Md_gramsOf_36 rfl rfl ?_
            refine wk_iload (pc := 39) S_ 3 d_Md_gramsOf_39 rfl ?_
            refine wk_lald (pc := 41) (g := gr) S_ 23 2 d_Md_gramsOf_41 rfl rfl (by omega) (by decide) ?_
            refine wk_goto (pc := 42) (tgt := 46) S_ d_Md_gramsOf_42 (by decide) ?_
            refine wk_laddN (pc := 46) S_ d_Md_gramsOf_46 ?_
            refine wk_topl (y := (lN (goN cl gr bx c (k + 1)))) (congrArg lN (by (try simp at h11); (try simp at h21); (try simp at h32); simp [goN, h21, h32])) ?_
            refine wk_lstore_n (pc := 47) (lv' := [(2, .long (lN (goN cl gr bx c (k + 1)))), (0, .ref (m 0)), (1, .int (nI (c))), (4, .int (nI (k)))]) S_ d_Md_gramsOf_47 rfl (by decide) rfl ?_
            refine wk_iincN (pc := 48) (d := 1) (lv' := [(4, .int (nI (k + 1))), (2, .long (lN (goN cl gr bx c (k + 1)))), (0, .ref (m 0)), (1, .int (nI (c)))]) S_ 3 d_Md_gramsOf_48 (by decide) rfl (by decide) rfl ?_
            refine wk_goto (pc := 51) (tgt := 5) S_ d_Md_gramsOf_51 (by decide) ?_
            refine wk_lv [2, 3, 1, 0] ?_ (ih5 (k + 1) (by omega) (by omega))
            rfl
  refine wk_lv [2, 3, 1, 0] ?_ (hL5 _ (0) (Nat.lt_succ_self _) (by omega))
  rfl
set_option maxHeartbeats 4000000 in
set_option maxRecDepth 100000 in
theorem c_Md_pointsOf (l : Launch) (D : va_G) (cI : CiT) (z : GzT) (m : Nat → Nat) (tx : (Nat → Nat)) (sz : Nat) (ap : (Nat → Bool)) (pt : (Nat → Nat)) (rk : (Nat → Nat)) (cd : (Nat → Nat)) (fr : Nat) (mc : (Nat → Nat)) (mg : (Nat → Nat)) (mz : (Nat → Nat)) (nc : (Nat → Nat)) (nt : (Nat → Nat)) (ld : (Nat → Nat)) (qap : (Nat → Bool)) (qpt : (Nat → Nat)) (qrk : (Nat → Nat)) (qcd : (Nat → Nat)) (qfr : Nat) (qmc : (Nat → Nat)) (qmg : (Nat → Nat)) (qmz : (Nat → Nat)) (qnc : (Nat → Nat)) (qnt : (Nat → Nat)) (qld : (Nat → Nat)) (nb : Nat) (cl : (Nat → Nat)) (gr : (Nat → Nat)) (sp : (Nat → Nat)) (ot : (Nat → Bool)) (na : Nat) (aw : (Nat → Nat)) (nx : Nat) (bg : (Nat → Nat)) (bb : (Nat → Nat)) (ab : (Nat → Nat)) (fd : Bool) (pv : Bool) (bx : (Nat → Nat)) (wy : (Nat → Nat)) (li : (Nat → Nat)) (fm : Nat) (en : Nat) (nu : Nat) (td : (Nat → Nat)) (lf : Int32) (lk : Int32) (c : Nat) (hc : c < 9) (hnb : nb ≤ 8) (hgr : ∀ b, gr b ≤ 100000) (hcl : ∀ b, cl b ≤ 9) (hF : fd = false → ∀ b, bx b = 0) (hb : ∀ b, bx b ≤ 5) (hpt : ∀ c, pt c ≤ 1000) : wk_C l D (tyK cI) (gX z) y_Md_pointsOf b_Md_pointsOf 2 (some .long) 2 45 0 0 [.ref (m 0), .int (nI (c))] (wMd m cI tx sz ap pt rk cd fr mc mg mz nc nt ld qap qpt qrk qcd qfr qmc qmg qmz qnc qnt qld nb cl gr sp ot na aw nx bg bb ab fd pv bx wy li fm en nu td lf lk) wk_l (fun (r : Int64) (_ : Unit) => r = (lN (((goN cl gr bx c nb) + (999)) / (1000) * (pt (c))))) (fun _ => (wMd m cI tx sz ap pt rk cd fr mc mg mz nc nt ld qap qpt qrk qcd qfr qmc qmg qmz qnc qnt qld nb cl gr sp ot na aw nx bg bb ab fd pv bx wy li fm en nu td lf lk)) := by
  refine wk_methL (own := R_Md) [(0, .ref (m 0)), (1, .int (nI (c)))] (by decide) rfl (Nat.le_of_ble_eq_true rfl) rfl (gX_ok z) (fun p_ e_ R_ s_ m_ ar_ be_ me_ co_ Q_ A_ hR_ S_ hnm_ hQ_ => ?_)
  refine wk_aload_n (pc := 0) S_ 0 d_Md_pointsOf_0 rfl rfl ?_
  refine wk_iload_n (pc := 1) S_ 1 d_Md_pointsOf_1 rfl rfl ?_
  refine wk_run (pc := 2) (rest := []) (wr := []) (wN := fun _ => (wMd m cI tx sz ap pt rk cd fr mc mg mz nc nt ld qap qpt qrk qcd qfr qmc qmg qmz qnc qnt qld nb cl gr sp ot na aw nx bg bb ab fd pv bx wy li fm en nu td lf lk)) S_ (wk_rV S_ (c_Md_gramsOf l D cI z (m) (tx) (sz) (ap) (pt) (rk) (cd) (fr) (mc) (mg) (mz) (nc) (nt) (ld) (qap) (qpt) (qrk) (qcd) (qfr) (qmc) (qmg) (qmz) (qnc) (qnt) (qld) (nb) (cl) (gr) (sp) (ot) (na) (aw) (nx) (bg) (bb) (ab) (fd) (pv) (bx) (wy) (li) (fm) (en) (nu) (td) (lf) (lk) (c) (by omega) (by omega) hgr hcl hF hb) mv_Md_248 (wk_rcv S_ 0 6 rfl rfl rfl) rfl rfl (Nat.le_of_ble_eq_true rfl) (by rw [hR_]; decide) (by rw [hR_]; decide) d_Md_pointsOf_2) [0, 1, 2, 3, 4, 5, 6, 7, 8, 9, 10, 11, 12, 13, 14, 15, 16, 17, 18, 19, 20, 21, 22, 23, 24, 25, 26, 27, 28, 29, 30, 31, 32, 33] [] [0, 1, 2, 3, 4, 5, 6, 7, 8, 9, 10, 11, 12, 13, 14, 15, 16, 17, 18, 19, 20, 21, 22, 23, 24, 25, 26, 27, 28, 29, 30, 31, 32, 33] rfl rfl rfl (by decide) (by decide) (by decide) (by decide) (fun _ => rfl) (fun _ => rfl) (fun r2 _ hw2 => ?_)
  refine wk_st (st' := [.long (r2)]) rfl ?_
  refine wk_topl (y := (lN (goN (cl) (gr) (bx) (c) (nb)))) hw2 ?_
  have hg1 := goN_le (cl := cl) (bx := bx) (c := c) hgr nb
  refine wk_ldc2 (pc := 5) (v := (lN (999))) S_ kc_Md_252 d_Md_pointsOf_5 ?_
  refine wk_laddN (pc := 8) S_ d_Md_pointsOf_8 ?_
  refine wk_ldc2 (pc := 9) (v := (lN (1000))) S_ kc_Md_254 d_Md_pointsOf_9 ?_
  refine wk_ldivN (pc := 12) S_ d_Md_pointsOf_12 (by omega) (by omega) (by omega) ?_
  refine wk_aload_n (pc := 13) S_ 0 d_Md_pointsOf_13 rfl rfl ?_
  refine wk_get (pc := 14) (v := .ref (m 3)) S_ 6 3 0 in_Md rfl (by decide) rfl fl_Md_17 d_Md_pointsOf_14 rfl rfl ?_
  refine wk_iload_n (pc := 17) S_ 1 d_Md_pointsOf_17 rfl rfl ?_
  refine wk_ialdN (pc := 18) (g := pt) S_ 3 0 d_Md_pointsOf_18 rfl rfl (by omega) (by decide) ?_
  have hp1 := hpt c
  refine wk_i2lN (pc := 19) S_ d_Md_pointsOf_19 (by omega) ?_
  refine wk_lmulN (pc := 20) S_ d_Md_pointsOf_20 ?_
  exact hQ_ (lN ((((goN (cl) (gr) (bx) (c) (nb)) + (999)) / (1000)) * ((pt) (c)))) () d_Md_pointsOf_21 rfl rfl
set_option maxHeartbeats 4000000 in
set_option maxRecDepth 100000 in
theorem c_Md_points (l : Launch) (D : va_G) (cI : CiT) (z : GzT) (m : Nat → Nat) (tx : (Nat → Nat)) (sz : Nat) (ap : (Nat → Bool)) (pt : (Nat → Nat)) (rk : (Nat → Nat)) (cd : (Nat → Nat)) (fr : Nat) (mc : (Nat → Nat)) (mg : (Nat → Nat)) (mz : (Nat → Nat)) (nc : (Nat → Nat)) (nt : (Nat → Nat)) (ld : (Nat → Nat)) (qap : (Nat → Bool)) (qpt : (Nat → Nat)) (qrk : (Nat → Nat)) (qcd : (Nat → Nat)) (qfr : Nat) (qmc : (Nat → Nat)) (qmg : (Nat → Nat)) (qmz : (Nat → Nat)) (qnc : (Nat → Nat)) (qnt : (Nat → Nat)) (qld : (Nat → Nat)) (nb : Nat) (cl : (Nat → Nat)) (gr : (Nat → Nat)) (sp : (Nat → Nat)) (ot : (Nat → Bool)) (na : Nat) (aw : (Nat → Nat)) (nx : Nat) (bg : (Nat → Nat)) (bb : (Nat → Nat)) (ab : (Nat → Nat)) (fd : Bool) (pv : Bool) (bx : (Nat → Nat)) (wy : (Nat → Nat)) (li : (Nat → Nat)) (fm : Nat) (en : Nat) (nu : Nat) (td : (Nat → Nat)) (lf : Int32) (lk : Int32) (hnb : nb ≤ 8) (hgr : ∀ b, gr b ≤ 100000) (hcl : ∀ b, cl b ≤ 9) (hF : fd = false → ∀ b, bx b = 0) (hb : ∀ b, bx b ≤ 5) (hpt : ∀ c, pt c ≤ 1000) : wk_C l D (tyK cI) (gX z) y_Md_points b_Md_points 4 (some .long) 3 66 0 0 [.ref (m 0)] (wMd m cI tx sz ap pt rk cd fr mc mg mz nc nt ld qap qpt qrk qcd qfr qmc qmg qmz qnc qnt qld nb cl gr sp ot na aw nx bg bb ab fd pv bx wy li fm en nu td lf lk) wk_l (fun (r : Int64) (_ : Unit) => r = (lN (ptN pt (fun c => goN cl gr bx c nb) 9))) (fun _ => (wMd m cI tx sz ap pt rk cd fr mc mg mz nc nt ld qap qpt qrk qcd qfr qmc qmg qmz qnc qnt qld nb cl gr sp ot na aw nx bg bb ab fd pv bx wy li fm en nu td lf lk)) := by
  refine wk_methL (own := R_Md) [(0, .ref (m 0))] (by decide) rfl (Nat.le_of_ble_eq_true rfl) rfl (gX_ok z) (fun p_ e_ R_ s_ m_ ar_ be_ me_ co_ Q_ A_ hR_ S_ hnm_ hQ_ => ?_)
  refine wk_lconst (pc := 0) (v := (lN (0))) S_ d_Md_points_0 (by decide) ?_
  refine wk_lstore_n (pc := 1) (lv' := [(1, .long (lN (0))), (0, .ref (m 0))]) S_ d_Md_points_1 rfl (by decide) rfl ?_
  refine wk_iconst (pc := 2) (v := (nI (0))) S_ d_Md_points_2 (by decide) ?_
  refine wk_istore_n (pc := 3) (lv' := [(3, .int (nI (0))), (1, .long (lN (0))), (0, .ref (m 0))]) S_ d_Md_points_3 rfl (by decide) rfl ?_
  have hL4 : ∀ (fuel4 : Nat), ∀ (k : Nat), 9 - k < fuel4 → (k ≤ 9) → wk_G p_ l e_ R_ s_ m_ ar_ be_ me_ co_ Q_ D A_ 4 0 0 (wMd m cI tx sz ap pt rk cd fr mc mg mz nc nt ld qap qpt qrk qcd qfr qmc qmg qmz qnc qnt qld nb cl gr sp ot na aw nx bg bb ab fd pv bx wy li fm en nu td lf lk) 4 [(0, .ref (m 0)), (1, .long (lN (ptN pt (fun c => goN cl gr bx c nb) k))), (3, .int (nI (k)))] [] := by
    intro fuel4
    induction fuel4 with
    | zero => intro k hm; exact absurd hm (Nat.not_lt_zero _)
    | succ fuel4 ih4 =>
      intro k hm hk
      refine wk_iload_n (pc := 4) S_ 2 d_Md_points_4 rfl rfl ?_
      refine wk_bipush (pc := 5) (v := (nI (9))) S_ d_Md_points_5 (by decide) ?_
      refine wk_icmp_geN (pc := 7) (tgt := 24) S_ d_Md_points_7 (by decide) (by omega) (by omega) (fun h7 => ?_) (fun h7 => ?_)
      · -- taken
        refine wk_lload_n (pc := 24) S_ 1 d_Md_points_24 rfl rfl ?_
        exact hQ_ (lN (ptN pt (fun c => goN cl gr bx c nb) k)) () d_Md_points_25 rfl (by rw [show k = 9 by omega])
      · -- on
        refine wk_lload_n (pc := 10) S_ 1 d_Md_points_10 rfl rfl ?_
        refine wk_aload_n (pc := 11) S_ 0 d_Md_points_11 rfl rfl ?_
        refine wk_iload_n (pc := 12) S_ 2 d_Md_points_12 rfl rfl ?_
        refine wk_run (pc := 13) (rest := [.long (lN (ptN pt (fun c => goN cl gr bx c nb) k))]) (wr := []) (wN := fun _ => (wMd m cI tx sz ap pt rk cd fr mc mg mz nc nt ld qap qpt qrk qcd qfr qmc qmg qmz qnc qnt qld nb cl gr sp ot na aw nx bg bb ab fd pv bx wy li fm en nu td lf lk)) S_ (wk_rV S_ (c_Md_pointsOf l D cI z (m) (tx) (sz) (ap) (pt) (rk) (cd) (fr) (mc) (mg) (mz) (nc) (nt) (ld) (qap) (qpt) (qrk) (qcd) (qfr) (qmc) (qmg) (qmz) (qnc) (qnt) (qld) (nb) (cl) (gr) (sp) (ot) (na) (aw) (nx) (bg) (bb) (ab) (fd) (pv) (bx) (wy) (li) (fm) (en) (nu) (td) (lf) (lk) (k) (by omega) (by omega) hgr hcl hF hb hpt) mv_Md_256 (wk_rcv S_ 0 6 rfl rfl rfl) rfl rfl (Nat.le_of_ble_eq_true rfl) (by rw [hR_]; decide) (by rw [hR_]; decide) d_Md_points_13) [0, 1, 2, 3, 4, 5, 6, 7, 8, 9, 10, 11, 12, 13, 14, 15, 16, 17, 18, 19, 20, 21, 22, 23, 24, 25, 26, 27, 28, 29, 30, 31, 32, 33] [] [0, 1, 2, 3, 4, 5, 6, 7, 8, 9, 10, 11, 12, 13, 14, 15, 16, 17, 18, 19, 20, 21, 22, 23, 24, 25, 26, 27, 28, 29, 30, 31, 32, 33] rfl rfl rfl (by decide) (by decide) (by decide) (by decide) (fun _ => rfl) (fun _ => rfl) (fun r13 _ hw13 => ?_)
        refine wk_st (st' := [.long (r13), .long (lN (ptN pt (fun c => goN cl gr bx c nb) k))]) rfl ?_
        refine wk_topl (y := (lN (((goN (cl) (gr) (bx) (k) (nb)) + (999)) / (1000) * ((pt) ((k)))))) hw13 ?_
        refine wk_laddN (pc := 16) S_ d_Md_points_16 ?_
        refine wk_topl (y := (lN (ptN pt (fun c => goN cl gr bx c nb) (k + 1)))) rfl ?_
        refine wk_lstore_n (pc := 17) (lv' := [(1, .long (lN (ptN pt (fun c => goN cl gr bx c nb) (k + 1)))), (0, .ref (m 0)), (3, .int (nI (k)))]) S_ d_Md_points_17 rfl (by decide) rfl ?_
        refine wk_iincN (pc := 18) (d := 1) (lv' := [(3, .int (nI (k + 1))), (1, .long (lN (ptN pt (fun c => goN cl gr bx c nb) (k + 1)))), (0, .ref (m 0))]) S_ 2 d_Md_points_18 (by decide) rfl (by decide) rfl ?_
        refine wk_goto (pc := 21) (tgt := 4) S_ d_Md_points_21 (by decide) ?_
        refine wk_lv [2, 1, 0] ?_ (ih4 (k + 1) (by omega) (by omega))
        rfl
  refine wk_lv [2, 1, 0] ?_ (hL4 _ (0) (Nat.lt_succ_self _) (by omega))
  rfl
set_option maxHeartbeats 4000000 in
set_option maxRecDepth 100000 in
theorem c_Md_exempt (l : Launch) (D : va_G) (cI : CiT) (z : GzT) (m : Nat → Nat) (tx : (Nat → Nat)) (sz : Nat) (ap : (Nat → Bool)) (pt : (Nat → Nat)) (rk : (Nat → Nat)) (cd : (Nat → Nat)) (fr : Nat) (mc : (Nat → Nat)) (mg : (Nat → Nat)) (mz : (Nat → Nat)) (nc : (Nat → Nat)) (nt : (Nat → Nat)) (ld : (Nat → Nat)) (qap : (Nat → Bool)) (qpt : (Nat → Nat)) (qrk : (Nat → Nat)) (qcd : (Nat → Nat)) (qfr : Nat) (qmc : (Nat → Nat)) (qmg : (Nat → Nat)) (qmz : (Nat → Nat)) (qnc : (Nat → Nat)) (qnt : (Nat → Nat)) (qld : (Nat → Nat)) (nb : Nat) (cl : (Nat → Nat)) (gr : (Nat → Nat)) (sp : (Nat → Nat)) (ot : (Nat → Bool)) (na : Nat) (aw : (Nat → Nat)) (nx : Nat) (bg : (Nat → Nat)) (bb : (Nat → Nat)) (ab : (Nat → Nat)) (fd : Bool) (pv : Bool) (bx : (Nat → Nat)) (wy : (Nat → Nat)) (li : (Nat → Nat)) (fm : Nat) (en : Nat) (nu : Nat) (td : (Nat → Nat)) (lf : Int32) (lk : Int32) (hnb : nb ≤ 8) (hgr : ∀ b, gr b ≤ 100000) (hcl : ∀ b, cl b ≤ 9) (hF : fd = false → ∀ b, bx b = 0) (hb : ∀ b, bx b ≤ 5) (hpt : ∀ c, pt c ≤ 1000) (hfr : fr ≤ 999999) : wk_C l D (tyK cI) (gX z) y_Md_exempt b_Md_exempt 1 (some .boolean) 4 89 0 0 [.ref (m 0)] (wMd m cI tx sz ap pt rk cd fr mc mg mz nc nt ld qap qpt qrk qcd qfr qmc qmg qmz qnc qnt qld nb cl gr sp ot na aw nx bg bb ab fd pv bx wy li fm en nu td lf lk) wk_i (fun (r : Int32) (_ : Unit) => r = (bI (decide (ptN pt (fun c => goN cl gr bx c nb) 9 ≤ fr)))) (fun _ => (wMd m cI tx sz ap pt rk cd fr mc mg mz nc nt ld qap qpt qrk qcd qfr qmc qmg qmz qnc qnt qld nb cl gr sp ot na aw nx bg bb ab fd pv bx wy li fm en nu td lf lk)) := by
  refine wk_methZ (own := R_Md) [(0, .ref (m 0))] (by decide) rfl (Nat.le_of_ble_eq_true rfl) rfl (gX_ok z) (fun p_ e_ R_ s_ m_ ar_ be_ me_ co_ Q_ A_ hR_ S_ hnm_ hQ_ => ?_)
  refine wk_aload_n (pc := 0) S_ 0 d_Md_exempt_0 rfl rfl ?_
  refine wk_run (pc := 1) (rest := []) (wr := []) (wN := fun _ => (wMd m cI tx sz ap pt rk cd fr mc mg mz nc nt ld qap qpt qrk qcd qfr qmc qmg qmz qnc qnt qld nb cl gr sp ot na aw nx bg bb ab fd pv bx wy li fm en nu td lf lk)) S_ (wk_rV S_ (c_Md_points l D cI z (m) (tx) (sz) (ap) (pt) (rk) (cd) (fr) (mc) (mg) (mz) (nc) (nt) (ld) (qap) (qpt) (qrk) (qcd) (qfr) (qmc) (qmg) (qmz) (qnc) (qnt) (qld) (nb) (cl) (gr) (sp) (ot) (na) (aw) (nx) (bg) (bb) (ab) (fd) (pv) (bx) (wy) (li) (fm) (en) (nu) (td) (lf) (lk) (by omega) hgr hcl hF hb hpt) mv_Md_259 (wk_rcv S_ 0 6 rfl rfl rfl) rfl rfl (Nat.le_of_ble_eq_true rfl) (by rw [hR_]; decide) (by rw [hR_]; decide) d_Md_exempt_1) [0, 1, 2, 3, 4, 5, 6, 7, 8, 9, 10, 11, 12, 13, 14, 15, 16, 17, 18, 19, 20, 21, 22, 23, 24, 25, 26, 27, 28, 29, 30, 31, 32, 33] [] [0, 1, 2, 3, 4, 5, 6, 7, 8, 9, 10, 11, 12, 13, 14, 15, 16, 17, 18, 19, 20, 21, 22, 23, 24, 25, 26, 27, 28, 29, 30, 31, 32, 33] rfl rfl rfl (by decide) (by decide) (by decide) (by decide) (fun _ => rfl) (fun _ => rfl) (fun r1 _ hw1 => ?_)
  refine wk_st (st' := [.long (r1)]) rfl ?_
  refine wk_topl (y := (lN (ptN (pt) (fun c => goN (cl) (gr) (bx) c (nb)) 9))) hw1 ?_
  have hp1 := ptN_le (pt := pt) (go := fun c => goN cl gr bx c nb) hpt (fun c => by have := goN_le (cl := cl) (bx := bx) (c := c) hgr nb; omega) 9
  refine wk_aload_n (pc := 4) S_ 0 d_Md_exempt_4 rfl rfl ?_
  refine wk_get (pc := 5) (v := .int (nI (fr))) S_ 6 6 0 in_Md rfl (by decide) rfl fl_Md_137 d_Md_exempt_5 rfl rfl ?_
  refine wk_i2lN (pc := 8) S_ d_Md_exempt_8 (by omega) ?_
  refine wk_lcmp (pc := 9) S_ d_Md_exempt_9 ?_
  refine wk_cmp_gtN (pc := 10) (tgt := 17) S_ d_Md_exempt_10 (by decide) (by omega) (by omega) (fun h10 => ?_) (fun h10 => ?_)
  · -- taken
    refine wk_iconst (pc := 17) (v := (nI (0))) S_ d_Md_exempt_17 (by decide) ?_
    exact hQ_ (nI (0)) () d_Md_exempt_18 rfl rfl (bI_f (by (try simp at h10); simp [h10]))
  · -- on
    refine wk_iconst (pc := 13) (v := (nI (1))) S_ d_Md_exempt_13 (by decide) ?_
    refine wk_goto (pc := 14) (tgt := 18) S_ d_Md_exempt_14 (by decide) ?_
    exact hQ_ (nI (1)) () d_Md_exempt_18 rfl rfl (bI_t (by (try simp at h10); simp [h10]))
set_option maxHeartbeats 4000000 in
set_option maxRecDepth 100000 in
theorem c_Md_placeOf (l : Launch) (D : va_G) (cI : CiT) (z : GzT) (m : Nat → Nat) (tx : (Nat → Nat)) (sz : Nat) (ap : (Nat → Bool)) (pt : (Nat → Nat)) (rk : (Nat → Nat)) (cd : (Nat → Nat)) (fr : Nat) (mc : (Nat → Nat)) (mg : (Nat → Nat)) (mz : (Nat → Nat)) (nc : (Nat → Nat)) (nt : (Nat → Nat)) (ld : (Nat → Nat)) (qap : (Nat → Bool)) (qpt : (Nat → Nat)) (qrk : (Nat → Nat)) (qcd : (Nat → Nat)) (qfr : Nat) (qmc : (Nat → Nat)) (qmg : (Nat → Nat)) (qmz : (Nat → Nat)) (qnc : (Nat → Nat)) (qnt : (Nat → Nat)) (qld : (Nat → Nat)) (nb : Nat) (cl : (Nat → Nat)) (gr : (Nat → Nat)) (sp : (Nat → Nat)) (ot : (Nat → Bool)) (na : Nat) (aw : (Nat → Nat)) (nx : Nat) (bg : (Nat → Nat)) (bb : (Nat → Nat)) (ab : (Nat → Nat)) (fd : Bool) (pv : Bool) (bx : (Nat → Nat)) (wy : (Nat → Nat)) (li : (Nat → Nat)) (fm : Nat) (en : Nat) (nu : Nat) (td : (Nat → Nat)) (lf : Int32) (lk : Int32) (c : Nat) (hc : c < 9) (hnb : nb ≤ 8) (hgr : ∀ b, gr b ≤ 100000) (hcl : ∀ b, cl b ≤ 9) (hF : fd = false → ∀ b, bx b = 0) (hb : ∀ b, bx b ≤ 5) (hrk : ∀ c, rk c ≤ 99) : wk_C l D (tyK cI) (gX z) y_Md_placeOf b_Md_placeOf 5 (some .int) 2 45 0 0 [.ref (m 0), .int (nI (c))] (wMd m cI tx sz ap pt rk cd fr mc mg mz nc nt ld qap qpt qrk qcd qfr qmc qmg qmz qnc qnt qld nb cl gr sp ot na aw nx bg bb ab fd pv bx wy li fm en nu td lf lk) wk_i (fun (r : Int32) (_ : Unit) => r = (nI (plN rk (fun c => goN cl gr bx c nb) c 9))) (fun _ => (wMd m cI tx sz ap pt rk cd fr mc mg mz nc nt ld qap qpt qrk qcd qfr qmc qmg qmz qnc qnt qld nb cl gr sp ot na aw nx bg bb ab fd pv bx wy li fm en nu td lf lk)) := by
  refine wk_methI (own := R_Md) [(0, .ref (m 0)), (1, .int (nI (c)))] (by decide) rfl (Nat.le_of_ble_eq_true rfl) rfl (gX_ok z) (fun p_ e_ R_ s_ m_ ar_ be_ me_ co_ Q_ A_ hR_ S_ hnm_ hQ_ => ?_)
  refine wk_iconst (pc := 0) (v := (nI (0))) S_ d_Md_placeOf_0 (by decide) ?_
  refine wk_istore_n (pc := 1) (lv' := [(2, .int (nI (0))), (0, .ref (m 0)), (1, .int (nI (c)))]) S_ d_Md_placeOf_1 rfl (by decide) rfl ?_
  refine wk_iconst (pc := 2) (v := (nI (0))) S_ d_Md_placeOf_2 (by decide) ?_
  refine wk_istore_n (pc := 3) (lv' := [(3, .int (nI (0))), (2, .int (nI (0))), (0, .ref (m 0)), (1, .int (nI (c)))]) S_ d_Md_placeOf_3 rfl (by decide) rfl ?_
  have hL4 : ∀ (fuel4 : Nat), ∀ (k : Nat), 9 - k < fuel4 → (k ≤ 9) → wk_G p_ l e_ R_ s_ m_ ar_ be_ me_ co_ Q_ D A_ 5 0 0 (wMd m cI tx sz ap pt rk cd fr mc mg mz nc nt ld qap qpt qrk qcd qfr qmc qmg qmz qnc qnt qld nb cl gr sp ot na aw nx bg bb ab fd pv bx wy li fm en nu td lf lk) 4 [(0, .ref (m 0)), (1, .int (nI (c))), (2, .int (nI (plN rk (fun c => goN cl gr bx c nb) c k))), (3, .int (nI (k)))] [] := by
    intro fuel4
    induction fuel4 with
    | zero => intro k hm; exact absurd hm (Nat.not_lt_zero _)
    | succ fuel4 ih4 =>
      intro k hm hk
      refine wk_iload_n (pc := 4) S_ 3 d_Md_placeOf_4 rfl rfl ?_
      refine wk_bipush (pc := 5) (v := (nI (9))) S_ d_Md_placeOf_5 (by decide) ?_
      refine wk_icmp_geN (pc := 7) (tgt := 81) S_ d_Md_placeOf_7 (by decide) (by omega) (by omega) (fun h7 => ?_) (fun h7 => ?_)
      · -- taken
        refine wk_iload_n (pc := 81) S_ 2 d_Md_placeOf_81 rfl rfl ?_
        exact hQ_ (nI (plN rk (fun c => goN cl gr bx c nb) c k)) () d_Md_placeOf_82 rfl (by rw [show k = 9 by omega])
      · -- on
        have hr1 := hrk k
        have hr2 := hrk c
        refine wk_aload_n (pc := 10) S_ 0 d_Md_placeOf_10 rfl rfl ?_
        refine wk_get (pc := 11) (v := .ref (m 4)) S_ 6 4 0 in_Md rfl (by decide) rfl fl_Md_20 d_Md_placeOf_11 rfl rfl ?_
        refine wk_iload_n (pc := 14) S_ 3 d_Md_placeOf_14 rfl rfl ?_
        refine wk_ialdN (pc := 15) (g := rk) S_ 4 0 d_Md_placeOf_15 rfl rfl (by omega) (by decide) ?_
        refine wk_aload_n (pc := 16) S_ 0 d_Md_placeOf_16 rfl rfl ?_
        refine wk_get (pc := 17) (v := .ref (m 4)) S_ 6 4 0 in_Md rfl (by decide) rfl fl_Md_20 d_Md_placeOf_17 rfl rfl ?_
        refine wk_iload_n (pc := 20) S_ 1 d_Md_placeOf_20 rfl rfl ?_
        refine wk_ialdN (pc := 21) (g := rk) S_ 4 0 d_Md_placeOf_21 rfl rfl (by omega) (by decide) ?_
        refine wk_icmp_ltN (pc := 22) (tgt := 45) S_ d_Md_placeOf_22 (by decide) (by omega) (by omega) (fun h22 => ?_) (fun h22 => ?_)
        · -- taken
          refine wk_iconst (pc := 45) (v := (nI (1))) S_ d_Md_placeOf_45 (by decide) ?_
          refine wk_goto (pc := 46) (tgt := 50) S_ d_Md_placeOf_46 (by decide) ?_
          refine wk_istore (pc := 50) (lv' := [(4, .int (nI (1))), (0, .ref (m 0)), (1, .int (nI (c))), (2, .int (nI (plN rk (fun c => goN cl gr bx c nb) c k))), (3, .int (nI (k)))]) S_ d_Md_placeOf_50 (by decide) rfl ?_
          refine wk_iload_n (pc := 52) S_ 3 d_Md_placeOf_52 rfl rfl ?_
          refine wk_iload (pc := 53) S_ 0 d_Md_placeOf_53 rfl ?_
          refine wk_if_eqN (pc := 55) (tgt := 72) S_ d_Md_placeOf_55 (by decide) (by omega) (fun h55 => absurd h55 (by decide)) (fun h55 => ?_)
          refine wk_aload_n (pc := 58) S_ 1 d_Md_placeOf_58 rfl rfl ?_
          refine wk_iload_n (pc := 59) S_ 4 d_Md_placeOf_59 rfl rfl ?_
          refine wk_run (pc := 60) (rest := [.int (nI (plN rk (fun c => goN cl gr bx c nb) c k))]) (wr := []) (wN := fun _ => (wMd m cI tx sz ap pt rk cd fr mc mg mz nc nt ld qap qpt qrk qcd qfr qmc qmg qmz qnc qnt qld nb cl gr sp ot na aw nx bg bb ab fd pv bx wy li fm en nu td lf lk)) S_ (wk_rV S_ (c_Md_gramsOf l D cI z (m) (tx) (sz) (ap) (pt) (rk) (cd) (fr) (mc) (mg) (mz) (nc) (nt) (ld) (qap) (qpt) (qrk) (qcd) (qfr) (qmc) (qmg) (qmz) (qnc) (qnt) (qld) (nb) (cl) (gr) (sp) (ot) (na) (aw) (nx) (bg) (bb) (ab) (fd) (pv) (bx) (wy) (li) (fm) (en) (nu) (td) (lf) (lk) (k) (by omega) (by omega) hgr hcl hF hb) mv_Md_248 (wk_rcv S_ 0 6 rfl rfl rfl) rfl rfl (Nat.le_of_ble_eq_true rfl) (by rw [hR_]; decide) (by rw [hR_]; decide) d_Md_placeOf_60) [0, 1, 2, 3, 4, 5, 6, 7, 8, 9, 10, 11, 12, 13, 14, 15, 16, 17, 18, 19, 20, 21, 22, 23, 24, 25, 26, 27, 28, 29, 30, 31, 32, 33] [] [0, 1, 2, 3, 4, 5, 6, 7, 8, 9, 10, 11, 12, 13, 14, 15, 16, 17, 18, 19, 20, 21, 22, 23, 24, 25, 26, 27, 28, 29, 30, 31, 32, 33] rfl rfl rfl (by decide) (by decide) (by decide) (by decide) (fun _ => rfl) (fun _ => rfl) (fun r60 _ hw60 => ?_)
          refine wk_st (st' := [.long (r60), .int (nI (plN rk (fun c => goN cl gr bx c nb) c k))]) rfl ?_
          refine wk_topl (y := (lN (goN (cl) (gr) (bx) (k) (nb)))) hw60 ?_
          have hg1 := goN_le (cl := cl) (bx := bx) (c := k) hgr nb
          refine wk_lconst (pc := 63) (v := (lN (0))) S_ d_Md_placeOf_63 (by decide) ?_
          refine wk_lcmp (pc := 64) S_ d_Md_placeOf_64 ?_
          refine wk_cmp_leN (pc := 65) (tgt := 72) S_ d_Md_placeOf_65 (by decide) (by omega) (by omega) (fun h65 => ?_) (fun h65 => ?_)
          · -- taken
            refine wk_iconst (pc := 72) (v := (nI (0))) S_ d_Md_placeOf_72 (by decide) ?_
            refine wk_iaddN (pc := 73) S_ d_Md_placeOf_73 ?_
            refine wk_top (y := (nI (plN rk (fun c => goN cl gr bx c nb) c (k + 1)))) (congrArg nI (by rw [plN, if_neg (by omega)])) ?_
            refine wk_istore_n (pc := 74) (lv' := [(2, .int (nI (plN rk (fun c => goN cl gr bx c nb) c (k + 1)))), (4, .int (nI (1))), (0, .ref (m 0)), (1, .int (nI (c))), (3, .int (nI (k)))]) S_ d_Md_placeOf_74 rfl (by decide) rfl ?_
            refine wk_iincN (pc := 75) (d := 1) (lv' := [(3, .int (nI (k + 1))), (2, .int (nI (plN rk (fun c => goN cl gr bx c nb) c (k + 1)))), (4, .int (nI (1))), (0, .ref (m 0)), (1, .int (nI (c)))]) S_ 4 d_Md_placeOf_75 (by decide) rfl (by decide) rfl ?_
            refine wk_goto (pc := 78) (tgt := 4) S_ d_Md_placeOf_78 (by decide) ?_
            refine wk_lv [3, 4, 1, 0] ?_ (ih4 (k + 1) (by omega) (by omega))
            rfl
          · -- on
            refine wk_iconst (pc := 68) (v := (nI (1))) S_ d_Md_placeOf_68 (by decide) ?_
            refine wk_goto (pc := 69) (tgt := 73) S_ d_Md_placeOf_69 (by decide) ?_
            refine wk_iaddN (pc := 73) S_ d_Md_placeOf_73 ?_
            refine wk_top (y := (nI (plN rk (fun c => goN cl gr bx c nb) c (k + 1)))) (congrArg nI (by rw [plN, if_pos (by omega)])) ?_
            refine wk_istore_n (pc := 74) (lv' := [(2, .int (nI (plN rk (fun c => goN cl gr bx c nb) c (k + 1)))), (4, .int (nI (1))), (0, .ref (m 0)), (1, .int (nI (c))), (3, .int (nI (k)))]) S_ d_Md_placeOf_74 rfl (by decide) rfl ?_
            refine wk_iincN (pc := 75) (d := 1) (lv' := [(3, .int (nI (k + 1))), (2, .int (nI (plN rk (fun c => goN cl gr bx c nb) c (k + 1)))), (4, .int (nI (1))), (0, .ref (m 0)), (1, .int (nI (c)))]) S_ 4 d_Md_placeOf_75 (by decide) rfl (by decide) rfl ?_
            refine wk_goto (pc := 78) (tgt := 4) S_ d_Md_placeOf_78 (by decide) ?_
            refine wk_lv [3, 4, 1, 0] ?_ (ih4 (k + 1) (by omega) (by omega))
            rfl
        · -- on
          refine wk_aload_n (pc := 25) S_ 0 d_Md_placeOf_25 rfl rfl ?_
          refine wk_get (pc := 26) (v := .ref (m 4)) S_ 6 4 0 in_Md rfl (by decide) rfl fl_Md_20 d_Md_placeOf_26 rfl rfl ?_
          refine wk_iload_n (pc := 29) S_ 3 d_Md_placeOf_29 rfl rfl ?_
          refine wk_ialdN (pc := 30) (g := rk) S_ 4 0 d_Md_placeOf_30 rfl rfl (by omega) (by decide) ?_
          refine wk_aload_n (pc := 31) S_ 0 d_Md_placeOf_31 rfl rfl ?_
          refine wk_get (pc := 32) (v := .ref (m 4)) S_ 6 4 0 in_Md rfl (by decide) rfl fl_Md_20 d_Md_placeOf_32 rfl rfl ?_
          refine wk_iload_n (pc := 35) S_ 1 d_Md_placeOf_35 rfl rfl ?_
          refine wk_ialdN (pc := 36) (g := rk) S_ 4 0 d_Md_placeOf_36 rfl rfl (by omega) (by decide) ?_
          refine wk_icmp_neN (pc := 37) (tgt := 49) S_ d_Md_placeOf_37 (by decide) (by omega) (by omega) (fun h37 => ?_) (fun h37 => ?_)
          · -- taken
            refine wk_iconst (pc := 49) (v := (nI (0))) S_ d_Md_placeOf_49 (by decide) ?_
            refine wk_istore (pc := 50) (lv' := [(4, .int (nI (0))), (0, .ref (m 0)), (1, .int (nI (c))), (2, .int (nI (plN rk (fun c => goN cl gr bx c nb) c k))), (3, .int (nI (k)))]) S_ d_Md_placeOf_50 (by decide) rfl ?_
            refine wk_iload_n (pc := 52) S_ 3 d_Md_placeOf_52 rfl rfl ?_
            refine wk_iload (pc := 53) S_ 0 d_Md_placeOf_53 rfl ?_
            refine wk_if_eqN (pc := 55) (tgt := 72) S_ d_Md_placeOf_55 (by decide) (by omega) (fun h55 => ?_) (fun h55 => absurd h55 (by decide))
            refine wk_iconst (pc := 72) (v := (nI (0))) S_ d_Md_placeOf_72 (by decide) ?_
            refine wk_iaddN (pc := 73) S_ d_Md_placeOf_73 ?_
            refine wk_top (y := (nI (plN rk (fun c => goN cl gr bx c nb) c (k + 1)))) (congrArg nI (by rw [plN, if_neg (by omega)])) ?_
            refine wk_istore_n (pc := 74) (lv' := [(2, .int (nI (plN rk (fun c => goN cl gr bx c nb) c (k + 1)))), (4, .int (nI (0))), (0, .ref (m 0)), (1, .int (nI (c))), (3, .int (nI (k)))]) S_ d_Md_placeOf_74 rfl (by decide) rfl ?_
            refine wk_iincN (pc := 75) (d := 1) (lv' := [(3, .int (nI (k + 1))), (2, .int (nI (plN rk (fun c => goN cl gr bx c nb) c (k + 1)))), (4, .int (nI (0))), (0, .ref (m 0)), (1, .int (nI (c)))]) S_ 4 d_Md_placeOf_75 (by decide) rfl (by decide) rfl ?_
            refine wk_goto (pc := 78) (tgt := 4) S_ d_Md_placeOf_78 (by decide) ?_
            refine wk_lv [3, 4, 1, 0] ?_ (ih4 (k + 1) (by omega) (by omega))
            rfl
          · -- on
            refine wk_iload_n (pc := 40) S_ 3 d_Md_placeOf_40 rfl rfl ?_
            refine wk_iload_n (pc := 41) S_ 1 d_Md_placeOf_41 rfl rfl ?_
            refine wk_icmp_geN (pc := 42) (tgt := 49) S_ d_Md_placeOf_42 (by decide) (by omega) (by omega) (fun h42 => ?_) (fun h42 => ?_)
            · -- taken
              refine wk_iconst (pc := 49) (v := (nI (0))) S_ d_Md_placeOf_49 (by decide) ?_
              refine wk_istore (pc := 50) (lv' := [(4, .int (nI (0))), (0, .ref (m 0)), (1, .int (nI (c))), (2, .int (nI (plN rk (fun c => goN cl gr bx c nb) c k))), (3, .int (nI (k)))]) S_ d_Md_placeOf_50 (by decide) rfl ?_
              refine wk_iload_n (pc := 52) S_ 3 d_Md_placeOf_52 rfl rfl ?_
              refine wk_iload (pc := 53) S_ 0 d_Md_placeOf_53 rfl ?_
              refine wk_if_eqN (pc := 55) (tgt := 72) S_ d_Md_placeOf_55 (by decide) (by omega) (fun h55 => ?_) (fun h55 => absurd h55 (by decide))
              refine wk_iconst (pc := 72) (v := (nI (0))) S_ d_Md_placeOf_72 (by decide) ?_
              refine wk_iaddN (pc := 73) S_ d_Md_placeOf_73 ?_
              refine wk_top (y := (nI (plN rk (fun c => goN cl gr bx c nb) c (k + 1)))) (congrArg nI (by rw [plN, if_neg (by omega)])) ?_
              refine wk_istore_n (pc := 74) (lv' := [(2, .int (nI (plN rk (fun c => goN cl gr bx c nb) c (k + 1)))), (4, .int (nI (0))), (0, .ref (m 0)), (1, .int (nI (c))), (3, .int (nI (k)))]) S_ d_Md_placeOf_74 rfl (by decide) rfl ?_
              refine wk_iincN (pc := 75) (d := 1) (lv' := [(3, .int (nI (k + 1))), (2, .int (nI (plN rk (fun c => goN cl gr bx c nb) c (k + 1)))), (4, .int (nI (0))), (0, .ref (m 0)), (1, .int (nI (c)))]) S_ 4 d_Md_placeOf_75 (by decide) rfl (by decide) rfl ?_
              refine wk_goto (pc := 78) (tgt := 4) S_ d_Md_placeOf_78 (by decide) ?_
              refine wk_lv [3, 4, 1, 0] ?_ (ih4 (k + 1) (by omega) (by omega))
              rfl
            · -- on
              refine wk_iconst (pc := 45) (v := (nI (1))) S_ d_Md_placeOf_45 (by decide) ?_
              refine wk_goto (pc := 46) (tgt := 50) S_ d_Md_placeOf_46 (by decide) ?_
              refine wk_istore (pc := 50) (lv' := [(4, .int (nI (1))), (0, .ref (m 0)), (1, .int (nI (c))), (2, .int (nI (plN rk (fun c => goN cl gr bx c nb) c k))), (3, .int (nI (k)))]) S_ d_Md_placeOf_50 (by decide) rfl ?_
              refine wk_iload_n (pc := 52) S_ 3 d_Md_placeOf_52 rfl rfl ?_
              refine wk_iload (pc := 53) S_ 0 d_Md_placeOf_53 rfl ?_
              refine wk_if_eqN (pc := 55) (tgt := 72) S_ d_Md_placeOf_55 (by decide) (by omega) (fun h55 => absurd h55 (by decide)) (fun h55 => ?_)
              refine wk_aload_n (pc := 58) S_ 1 d_Md_placeOf_58 rfl rfl ?_
              refine wk_iload_n (pc := 59) S_ 4 d_Md_placeOf_59 rfl rfl ?_
              refine wk_run (pc := 60) (rest := [.int (nI (plN rk (fun c => goN cl gr bx c nb) c k))]) (wr := []) (wN := fun _ => (wMd m cI tx sz ap pt rk cd fr mc mg mz nc nt ld qap qpt qrk qcd qfr qmc qmg qmz qnc qnt qld nb cl gr sp ot na aw nx bg bb ab fd pv bx wy li fm en nu td lf lk)) S_ (wk_rV S_ (c_Md_gramsOf l D cI z (m) (tx) (sz) (ap) (pt) (rk) (cd) (fr) (mc) (mg) (mz) (nc) (nt) (ld) (qap) (qpt) (qrk) (qcd) (qfr) (qmc) (qmg) (qmz) (qnc) (qnt) (qld) (nb) (cl) (gr) (sp) (ot) (na) (aw) (nx) (bg) (bb) (ab) (fd) (pv) (bx) (wy) (li) (fm) (en) (nu) (td) (lf) (lk) (k) (by omega) (by omega) hgr hcl hF hb) mv_Md_248 (wk_rcv S_ 0 6 rfl rfl rfl) rfl rfl (Nat.le_of_ble_eq_true rfl) (by rw [hR_]; decide) (by rw [hR_]; decide) d_Md_placeOf_60) [0, 1, 2, 3, 4, 5, 6, 7, 8, 9, 10, 11, 12, 13, 14, 15, 16, 17, 18, 19, 20, 21, 22, 23, 24, 25, 26, 27, 28, 29, 30, 31, 32, 33] [] [0, 1, 2, 3, 4, 5, 6, 7, 8, 9, 10, 11, 12, 13, 14, 15, 16, 17, 18, 19, 20, 21, 22, 23, 24, 25, 26, 27, 28, 29, 30, 31, 32, 33] rfl rfl rfl (by decide) (by decide) (by decide) (by decide) (fun _ => rfl) (fun _ => rfl) (fun r60 _ hw60 => ?_)
              refine wk_st (st' := [.long (r60), .int (nI (plN rk (fun c => goN cl gr bx c nb) c k))]) rfl ?_
              refine wk_topl (y := (lN (goN (cl) (gr) (bx) (k) (nb)))) hw60 ?_
              have hg1 := goN_le (cl := cl) (bx := bx) (c := k) hgr nb
              refine wk_lconst (pc := 63) (v := (lN (0))) S_ d_Md_placeOf_63 (by decide) ?_
              refine wk_lcmp (pc := 64) S_ d_Md_placeOf_64 ?_
              refine wk_cmp_leN (pc := 65) (tgt := 72) S_ d_Md_placeOf_65 (by decide) (by omega) (by omega) (fun h65 => ?_) (fun h65 => ?_)
              · -- taken
                refine wk_iconst (pc := 72) (v := (nI (0))) S_ d_Md_placeOf_72 (by decide) ?_
                refine wk_iaddN (pc := 73) S_ d_Md_placeOf_73 ?_
                refine wk_top (y := (nI (plN rk (fun c => goN cl gr bx c nb) c (k + 1)))) (congrArg nI (by rw [plN, if_neg (by omega)])) ?_
                refine wk_istore_n (pc := 74) (lv' := [(2, .int (nI (plN rk (fun c => goN cl gr bx c nb) c (k + 1)))), (4, .int (nI (1))), (0, .ref (m 0)), (1, .int (nI (c))), (3, .int (nI (k)))]) S_ d_Md_placeOf_74 rfl (by decide) rfl ?_
                refine wk_iincN (pc := 75) (d := 1) (lv' := [(3, .int (nI (k + 1))), (2, .int (nI (plN rk (fun c => goN cl gr bx c nb) c (k + 1)))), (4, .int (nI (1))), (0, .ref (m 0)), (1, .int (nI (c)))]) S_ 4 d_Md_placeOf_75 (by decide) rfl (by decide) rfl ?_
                refine wk_goto (pc := 78) (tgt := 4) S_ d_Md_placeOf_78 (by decide) ?_
                refine wk_lv [3, 4, 1, 0] ?_ (ih4 (k + 1) (by omega) (by omega))
                rfl
              · -- on
                refine wk_iconst (pc := 68) (v := (nI (1))) S_ d_Md_placeOf_68 (by decide) ?_
                refine wk_goto (pc := 69) (tgt := 73) S_ d_Md_placeOf_69 (by decide) ?_
                refine wk_iaddN (pc := 73) S_ d_Md_placeOf_73 ?_
                refine wk_top (y := (nI (plN rk (fun c => goN cl gr bx c nb) c (k + 1)))) (congrArg nI (by rw [plN, if_pos (by omega)])) ?_
                refine wk_istore_n (pc := 74) (lv' := [(2, .int (nI (plN rk (fun c => goN cl gr bx c nb) c (k + 1)))), (4, .int (nI (1))), (0, .ref (m 0)), (1, .int (nI (c))), (3, .int (nI (k)))]) S_ d_Md_placeOf_74 rfl (by decide) rfl ?_
                refine wk_iincN (pc := 75) (d := 1) (lv' := [(3, .int (nI (k + 1))), (2, .int (nI (plN rk (fun c => goN cl gr bx c nb) c (k + 1)))), (4, .int (nI (1))), (0, .ref (m 0)), (1, .int (nI (c)))]) S_ 4 d_Md_placeOf_75 (by decide) rfl (by decide) rfl ?_
                refine wk_goto (pc := 78) (tgt := 4) S_ d_Md_placeOf_78 (by decide) ?_
                refine wk_lv [3, 4, 1, 0] ?_ (ih4 (k + 1) (by omega) (by omega))
                rfl
  refine wk_lv [2, 3, 1, 0] ?_ (hL4 _ (0) (Nat.lt_succ_self _) (by omega))
  rfl
set_option maxHeartbeats 4000000 in
set_option maxRecDepth 100000 in
theorem c_Md_name (l : Launch) (D : va_G) (cI : CiT) (z : GzT) (m : Nat → Nat) (tx : (Nat → Nat)) (sz : Nat) (ap : (Nat → Bool)) (pt : (Nat → Nat)) (rk : (Nat → Nat)) (cd : (Nat → Nat)) (fr : Nat) (mc : (Nat → Nat)) (mg : (Nat → Nat)) (mz : (Nat → Nat)) (nc : (Nat → Nat)) (nt : (Nat → Nat)) (ld : (Nat → Nat)) (qap : (Nat → Bool)) (qpt : (Nat → Nat)) (qrk : (Nat → Nat)) (qcd : (Nat → Nat)) (qfr : Nat) (qmc : (Nat → Nat)) (qmg : (Nat → Nat)) (qmz : (Nat → Nat)) (qnc : (Nat → Nat)) (qnt : (Nat → Nat)) (qld : (Nat → Nat)) (nb : Nat) (cl : (Nat → Nat)) (gr : (Nat → Nat)) (sp : (Nat → Nat)) (ot : (Nat → Bool)) (na : Nat) (aw : (Nat → Nat)) (nx : Nat) (bg : (Nat → Nat)) (bb : (Nat → Nat)) (ab : (Nat → Nat)) (fd : Bool) (pv : Bool) (bx : (Nat → Nat)) (wy : (Nat → Nat)) (li : (Nat → Nat)) (fm : Nat) (en : Nat) (nu : Nat) (td : (Nat → Nat)) (lf : Int32) (lk : Int32) (k : Int32) (hnb : nb ≤ 8) (hgr : ∀ b, gr b ≤ 100000) (hcl : ∀ b, cl b ≤ 9) (hF : fd = false → ∀ b, bx b = 0) (hb : ∀ b, bx b ≤ 5) (hrk : ∀ c, rk c ≤ 99) : wk_C l D (tyK cI) (gX z) y_Md_name b_Md_name 3 (some .int) 3 69 0 0 [.ref (m 0), .int (k)] (wMd m cI tx sz ap pt rk cd fr mc mg mz nc nt ld qap qpt qrk qcd qfr qmc qmg qmz qnc qnt qld nb cl gr sp ot na aw nx bg bb ab fd pv bx wy li fm en nu td lf lk) wk_i (fun (r : Int32) (_ : Unit) => r = (zI (nmS rk (fun c => goN cl gr bx c nb) k 9 0))) (fun _ => (wMd m cI tx sz ap pt rk cd fr mc mg mz nc nt ld qap qpt qrk qcd qfr qmc qmg qmz qnc qnt qld nb cl gr sp ot na aw nx bg bb ab fd pv bx wy li fm en nu td lf lk)) := by
  refine wk_methI (own := R_Md) [(0, .ref (m 0)), (1, .int (k))] (by decide) rfl (Nat.le_of_ble_eq_true rfl) rfl (gX_ok z) (fun p_ e_ R_ s_ m_ ar_ be_ me_ co_ Q_ A_ hR_ S_ hnm_ hQ_ => ?_)
  refine wk_iconst (pc := 0) (v := (nI (0))) S_ d_Md_name_0 (by decide) ?_
  refine wk_istore_n (pc := 1) (lv' := [(2, .int (nI (0))), (0, .ref (m 0)), (1, .int (k))]) S_ d_Md_name_1 rfl (by decide) rfl ?_
  have hL2 : ∀ (fuel2 : Nat), ∀ (q : Nat) (c : Nat), q < fuel2 → (c + q = 9) → (nmS rk (fun c => goN cl gr bx c nb) k q c = nmS rk (fun c => goN cl gr bx c nb) k 9 0) → wk_G p_ l e_ R_ s_ m_ ar_ be_ me_ co_ Q_ D A_ 3 0 0 (wMd m cI tx sz ap pt rk cd fr mc mg mz nc nt ld qap qpt qrk qcd qfr qmc qmg qmz qnc qnt qld nb cl gr sp ot na aw nx bg bb ab fd pv bx wy li fm en nu td lf lk) 2 [(0, .ref (m 0)), (1, .int (k)), (2, .int (nI (c)))] [] := by
    intro fuel2
    induction fuel2 with
    | zero => intro q c hm; exact absurd hm (Nat.not_lt_zero _)
    | succ fuel2 ih2 =>
      intro q c hm hk hE
      refine wk_iload_n (pc := 2) S_ 2 d_Md_name_2 rfl rfl ?_
      refine wk_bipush (pc := 3) (v := (nI (9))) S_ d_Md_name_3 (by decide) ?_
      refine wk_icmp_geN (pc := 5) (tgt := 35) S_ d_Md_name_5 (by decide) (by omega) (by omega) (fun h5 => ?_) (fun h5 => ?_)
      · -- taken
        refine wk_iconst (pc := 35) (v := (-1)) S_ d_Md_name_35 (by decide) ?_
        exact hQ_ (-1) () d_Md_name_36 rfl (by rw [← hE, show q = 0 by omega]; exact zI_0.symm)
      · -- on
        refine wk_aload_n (pc := 8) S_ 0 d_Md_name_8 rfl rfl ?_
        refine wk_iload_n (pc := 9) S_ 2 d_Md_name_9 rfl rfl ?_
        refine wk_run (pc := 10) (rest := []) (wr := []) (wN := fun _ => (wMd m cI tx sz ap pt rk cd fr mc mg mz nc nt ld qap qpt qrk qcd qfr qmc qmg qmz qnc qnt qld nb cl gr sp ot na aw nx bg bb ab fd pv bx wy li fm en nu td lf lk)) S_ (wk_rV S_ (c_Md_gramsOf l D cI z (m) (tx) (sz) (ap) (pt) (rk) (cd) (fr) (mc) (mg) (mz) (nc) (nt) (ld) (qap) (qpt) (qrk) (qcd) (qfr) (qmc) (qmg) (qmz) (qnc) (qnt) (qld) (nb) (cl) (gr) (sp) (ot) (na) (aw) (nx) (bg) (bb) (ab) (fd) (pv) (bx) (wy) (li) (fm) (en) (nu) (td) (lf) (lk) (c) (by omega) (by omega) hgr hcl hF hb) mv_Md_248 (wk_rcv S_ 0 6 rfl rfl rfl) rfl rfl (Nat.le_of_ble_eq_true rfl) (by rw [hR_]; decide) (by rw [hR_]; decide) d_Md_name_10) [0, 1, 2, 3, 4, 5, 6, 7, 8, 9, 10, 11, 12, 13, 14, 15, 16, 17, 18, 19, 20, 21, 22, 23, 24, 25, 26, 27, 28, 29, 30, 31, 32, 33] [] [0, 1, 2, 3, 4, 5, 6, 7, 8, 9, 10, 11, 12, 13, 14, 15, 16, 17, 18, 19, 20, 21, 22, 23, 24, 25, 26, 27, 28, 29, 30, 31, 32, 33] rfl rfl rfl (by decide) (by decide) (by decide) (by decide) (fun _ => rfl) (fun _ => rfl) (fun r10 _ hw10 => ?_)
        refine wk_st (st' := [.long (r10)]) rfl ?_
        refine wk_topl (y := (lN (goN (cl) (gr) (bx) (c) (nb)))) hw10 ?_
        have hg1 := goN_le (cl := cl) (bx := bx) (c := c) hgr nb
        refine wk_lconst (pc := 13) (v := (lN (0))) S_ d_Md_name_13 (by decide) ?_
        refine wk_lcmp (pc := 14) S_ d_Md_name_14 ?_
        refine wk_cmp_leN (pc := 15) (tgt := 29) S_ d_Md_name_15 (by decide) (by omega) (by omega) (fun h15 => ?_) (fun h15 => ?_)
        · -- taken
          refine wk_iincN (pc := 29) (d := 1) (lv' := [(2, .int (nI (c + 1))), (0, .ref (m 0)), (1, .int (k))]) S_ 2 d_Md_name_29 (by decide) rfl (by decide) rfl ?_
          refine wk_goto (pc := 32) (tgt := 2) S_ d_Md_name_32 (by decide) ?_
          refine wk_lv [1, 2, 0] ?_ (ih2 (q - 1) (c + 1) (by omega) (by omega) (by rw [← hE]; obtain ⟨r, rfl⟩ : ∃ r, q = r + 1 := ⟨q - 1, by omega⟩; rw [nmS, if_neg (by omega)]; rfl))
          rfl
        · -- on
          refine wk_aload_n (pc := 18) S_ 0 d_Md_name_18 rfl rfl ?_
          refine wk_iload_n (pc := 19) S_ 2 d_Md_name_19 rfl rfl ?_
          refine wk_run (pc := 20) (rest := []) (wr := []) (wN := fun _ => (wMd m cI tx sz ap pt rk cd fr mc mg mz nc nt ld qap qpt qrk qcd qfr qmc qmg qmz qnc qnt qld nb cl gr sp ot na aw nx bg bb ab fd pv bx wy li fm en nu td lf lk)) S_ (wk_rV S_ (c_Md_placeOf l D cI z (m) (tx) (sz) (ap) (pt) (rk) (cd) (fr) (mc) (mg) (mz) (nc) (nt) (ld) (qap) (qpt) (qrk) (qcd) (qfr) (qmc) (qmg) (qmz) (qnc) (qnt) (qld) (nb) (cl) (gr) (sp) (ot) (na) (aw) (nx) (bg) (bb) (ab) (fd) (pv) (bx) (wy) (li) (fm) (en) (nu) (td) (lf) (lk) (c) (by omega) (by omega) hgr hcl hF hb hrk) mv_Md_262 (wk_rcv S_ 0 6 rfl rfl rfl) rfl rfl (Nat.le_of_ble_eq_true rfl) (by rw [hR_]; decide) (by rw [hR_]; decide) d_Md_name_20) [0, 1, 2, 3, 4, 5, 6, 7, 8, 9, 10, 11, 12, 13, 14, 15, 16, 17, 18, 19, 20, 21, 22, 23, 24, 25, 26, 27, 28, 29, 30, 31, 32, 33] [] [0, 1, 2, 3, 4, 5, 6, 7, 8, 9, 10, 11, 12, 13, 14, 15, 16, 17, 18, 19, 20, 21, 22, 23, 24, 25, 26, 27, 28, 29, 30, 31, 32, 33] rfl rfl rfl (by decide) (by decide) (by decide) (by decide) (fun _ => rfl) (fun _ => rfl) (fun r20 _ hw20 => ?_)
          refine wk_st (st' := [.int (r20)]) rfl ?_
          refine wk_top (y := (nI (plN (rk) (fun c => goN (cl) (gr) (bx) c (nb)) (c) 9))) hw20 ?_
          refine wk_iload_n (pc := 23) S_ 1 d_Md_name_23 rfl rfl ?_
          refine wk_icmp_ne (pc := 24) (tgt := 29) S_ d_Md_name_24 (by decide) (fun h24 => ?_) (fun h24 => ?_)
          · -- taken
            refine wk_iincN (pc := 29) (d := 1) (lv' := [(2, .int (nI (c + 1))), (0, .ref (m 0)), (1, .int (k))]) S_ 2 d_Md_name_29 (by decide) rfl (by decide) rfl ?_
            refine wk_goto (pc := 32) (tgt := 2) S_ d_Md_name_32 (by decide) ?_
            refine wk_lv [1, 2, 0] ?_ (ih2 (q - 1) (c + 1) (by omega) (by omega) (by rw [← hE]; obtain ⟨r, rfl⟩ : ∃ r, q = r + 1 := ⟨q - 1, by omega⟩; rw [nmS, if_neg (by exact fun z => h24 z.2)]; rfl))
            rfl
          · -- on
            refine wk_iload_n (pc := 27) S_ 2 d_Md_name_27 rfl rfl ?_
            exact hQ_ (nI (c)) () d_Md_name_28 rfl (by rw [← hE]; obtain ⟨r, rfl⟩ : ∃ r, q = r + 1 := ⟨q - 1, by omega⟩; rw [nmS, if_pos ⟨by omega, h24⟩, zI_s])
  refine wk_lv [1, 2, 0] ?_ (hL2 _ (9) (0) (Nat.lt_succ_self _) (by omega) rfl)
  rfl
