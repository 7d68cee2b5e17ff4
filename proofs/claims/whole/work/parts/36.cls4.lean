theorem mv_PL_137 : wk_V R_PL 137 R_Ld y_Ld_write b_Ld_write 3 none 1 := ⟨(gd _ (tb2 _ (List.mem_of_getElem? (i := 79) rfl)) rfl), (gd _ (tb0 _ (List.mem_of_getElem? (i := 6) rfl)) rfl), (gd _ (tb2 _ (List.mem_of_getElem? (i := 76) rfl)) rfl), (by decide +kernel), (gd _ (tb2 _ (List.mem_of_getElem? (i := 77) rfl)) rfl), (gd _ (tb2 _ (List.mem_of_getElem? (i := 78) rfl)) rfl)⟩
theorem fl_PL_140 : Cond.fieldLink R_PL 140 R_Ld "written" "I" ∈ lw_gd := (gd _ (tb0 _ (List.mem_of_getElem? (i := 167) rfl)) rfl)
theorem fl_PL_143 : Cond.fieldLink R_PL 143 R_Ld "sheet" "[I" ∈ lw_gd := (gd _ (tb0 _ (List.mem_of_getElem? (i := 165) rfl)) rfl)
theorem d_PL_paper_0 : decode b_PL_paper 0 = .ok (.aload_n 0, 1) := by decide +kernel
theorem d_PL_paper_1 : decode b_PL_paper 1 = .ok (.getfield 33, 3) := by decide +kernel
theorem d_PL_paper_4 : decode b_PL_paper 4 = .ok (.aload_n 0, 1) := by decide +kernel
theorem d_PL_paper_5 : decode b_PL_paper 5 = .ok (.getfield 19, 3) := by decide +kernel
theorem d_PL_paper_8 : decode b_PL_paper 8 = .ok (.aload_n 0, 1) := by decide +kernel
theorem d_PL_paper_9 : decode b_PL_paper 9 = .ok (.getfield 26, 3) := by decide +kernel
theorem d_PL_paper_12 : decode b_PL_paper 12 = .ok (.getfield 102, 3) := by decide +kernel
theorem d_PL_paper_15 : decode b_PL_paper 15 = .ok (.invokevirtual 111, 3) := by decide +kernel
theorem d_PL_paper_18 : decode b_PL_paper 18 = .ok (.aload_n 0, 1) := by decide +kernel
theorem d_PL_paper_19 : decode b_PL_paper 19 = .ok (.getfield 33, 3) := by decide +kernel
theorem d_PL_paper_22 : decode b_PL_paper 22 = .ok (.aload_n 0, 1) := by decide +kernel
theorem d_PL_paper_23 : decode b_PL_paper 23 = .ok (.getfield 40, 3) := by decide +kernel
theorem d_PL_paper_26 : decode b_PL_paper 26 = .ok (.invokevirtual 123, 3) := by decide +kernel
theorem d_PL_paper_29 : decode b_PL_paper 29 = .ok (.aload_n 0, 1) := by decide +kernel
theorem d_PL_paper_30 : decode b_PL_paper 30 = .ok (.getfield 33, 3) := by decide +kernel
theorem d_PL_paper_33 : decode b_PL_paper 33 = .ok (.aload_n 0, 1) := by decide +kernel
theorem d_PL_paper_34 : decode b_PL_paper 34 = .ok (.getfield 40, 3) := by decide +kernel
theorem d_PL_paper_37 : decode b_PL_paper 37 = .ok (.invokevirtual 137, 3) := by decide +kernel
theorem d_PL_paper_40 : decode b_PL_paper 40 = .ok (.iload_n 1, 1) := by decide +kernel
theorem d_PL_paper_41 : decode b_PL_paper 41 = .ok (.ifCond .lt 26, 3) := by decide +kernel
theorem d_PL_paper_44 : decode b_PL_paper 44 = .ok (.iload_n 1, 1) := by decide +kernel
theorem d_PL_paper_45 : decode b_PL_paper 45 = .ok (.aload_n 0, 1) := by decide +kernel
theorem d_PL_paper_46 : decode b_PL_paper 46 = .ok (.getfield 33, 3) := by decide +kernel
theorem d_PL_paper_49 : decode b_PL_paper 49 = .ok (.getfield 140, 3) := by decide +kernel
theorem d_PL_paper_52 : decode b_PL_paper 52 = .ok (.if_icmp .ge 15, 3) := by decide +kernel
theorem d_PL_paper_55 : decode b_PL_paper 55 = .ok (.aload_n 0, 1) := by decide +kernel
theorem d_PL_paper_56 : decode b_PL_paper 56 = .ok (.getfield 33, 3) := by decide +kernel
theorem d_PL_paper_59 : decode b_PL_paper 59 = .ok (.getfield 143, 3) := by decide +kernel
theorem d_PL_paper_62 : decode b_PL_paper 62 = .ok (.iload_n 1, 1) := by decide +kernel
theorem d_PL_paper_63 : decode b_PL_paper 63 = .ok (.iaload, 1) := by decide +kernel
theorem d_PL_paper_64 : decode b_PL_paper 64 = .ok (.goto 4, 3) := by decide +kernel
theorem d_PL_paper_67 : decode b_PL_paper 67 = .ok (.iconst (-1), 1) := by decide +kernel
theorem d_PL_paper_68 : decode b_PL_paper 68 = .ok (.ireturn, 1) := by decide +kernel
theorem fl_Pk_9 : Cond.fieldLink R_Pk 9 R_Pk "gramsIn" "[I" ∈ lw_gd := (gd _ (tb0 _ (List.mem_of_getElem? (i := 119) rfl)) rfl)
theorem mv_Pk_33 : wk_T R_Pk 33 y_Ar_fill b_Ar_fill 4 none 2 := ⟨(gd _ (tb0 _ (List.mem_of_getElem? (i := 118) rfl)) rfl), (gd _ (tb0 _ (List.mem_of_getElem? (i := 5) rfl)) rfl), (gd _ (tb0 _ (List.mem_of_getElem? (i := 116) rfl)) rfl), (by decide +kernel), (gd _ (tb0 _ (List.mem_of_getElem? (i := 117) rfl)) rfl)⟩
theorem fl_Pk_15 : Cond.fieldLink R_Pk 15 R_Pk "bottlesIn" "[I" ∈ lw_gd := (gd _ (tb0 _ (List.mem_of_getElem? (i := 120) rfl)) rfl)
theorem fl_Pk_18 : Cond.fieldLink R_Pk 18 R_Pk "classesIn" "[I" ∈ lw_gd := (gd _ (tb0 _ (List.mem_of_getElem? (i := 121) rfl)) rfl)
theorem d_Pk_emptyBoxes_0 : decode b_Pk_emptyBoxes 0 = .ok (.aload_n 0, 1) := by decide +kernel
theorem d_Pk_emptyBoxes_1 : decode b_Pk_emptyBoxes 1 = .ok (.getfield 9, 3) := by decide +kernel
theorem d_Pk_emptyBoxes_4 : decode b_Pk_emptyBoxes 4 = .ok (.iconst 0, 1) := by decide +kernel
theorem d_Pk_emptyBoxes_5 : decode b_Pk_emptyBoxes 5 = .ok (.invokestatic 33, 3) := by decide +kernel
theorem d_Pk_emptyBoxes_8 : decode b_Pk_emptyBoxes 8 = .ok (.aload_n 0, 1) := by decide +kernel
theorem d_Pk_emptyBoxes_9 : decode b_Pk_emptyBoxes 9 = .ok (.getfield 15, 3) := by decide +kernel
theorem d_Pk_emptyBoxes_12 : decode b_Pk_emptyBoxes 12 = .ok (.iconst 0, 1) := by decide +kernel
theorem d_Pk_emptyBoxes_13 : decode b_Pk_emptyBoxes 13 = .ok (.invokestatic 33, 3) := by decide +kernel
theorem d_Pk_emptyBoxes_16 : decode b_Pk_emptyBoxes 16 = .ok (.aload_n 0, 1) := by decide +kernel
theorem d_Pk_emptyBoxes_17 : decode b_Pk_emptyBoxes 17 = .ok (.getfield 18, 3) := by decide +kernel
theorem d_Pk_emptyBoxes_20 : decode b_Pk_emptyBoxes 20 = .ok (.iconst 0, 1) := by decide +kernel
theorem d_Pk_emptyBoxes_21 : decode b_Pk_emptyBoxes 21 = .ok (.invokestatic 33, 3) := by decide +kernel
theorem d_Pk_emptyBoxes_24 : decode b_Pk_emptyBoxes 24 = .ok (.return_, 1) := by decide +kernel
theorem fl_Pk_91 : Cond.fieldLink R_Pk 91 R_Pk "waiting" "I" ∈ lw_gd := (gd _ (tb0 _ (List.mem_of_getElem? (i := 123) rfl)) rfl)
theorem d_Pk_countWays_0 : decode b_Pk_countWays 0 = .ok (.lconst 1, 1) := by decide +kernel
theorem d_Pk_countWays_1 : decode b_Pk_countWays 1 = .ok (.lstore_n 2, 1) := by decide +kernel
theorem d_Pk_countWays_2 : decode b_Pk_countWays 2 = .ok (.iconst 0, 1) := by decide +kernel
theorem d_Pk_countWays_3 : decode b_Pk_countWays 3 = .ok (.istore 4, 2) := by decide +kernel
theorem d_Pk_countWays_5 : decode b_Pk_countWays 5 = .ok (.iload 4, 2) := by decide +kernel
theorem d_Pk_countWays_7 : decode b_Pk_countWays 7 = .ok (.aload_n 0, 1) := by decide +kernel
theorem d_Pk_countWays_8 : decode b_Pk_countWays 8 = .ok (.getfield 91, 3) := by decide +kernel
theorem d_Pk_countWays_11 : decode b_Pk_countWays 11 = .ok (.if_icmp .ge 14, 3) := by decide +kernel
theorem d_Pk_countWays_14 : decode b_Pk_countWays 14 = .ok (.lload_n 2, 1) := by decide +kernel
theorem d_Pk_countWays_15 : decode b_Pk_countWays 15 = .ok (.iload_n 1, 1) := by decide +kernel
theorem d_Pk_countWays_16 : decode b_Pk_countWays 16 = .ok (.i2l, 1) := by decide +kernel
theorem d_Pk_countWays_17 : decode b_Pk_countWays 17 = .ok (.lmul, 1) := by decide +kernel
theorem d_Pk_countWays_18 : decode b_Pk_countWays 18 = .ok (.lstore_n 2, 1) := by decide +kernel
theorem d_Pk_countWays_19 : decode b_Pk_countWays 19 = .ok (.iinc 4 1, 3) := by decide +kernel
theorem d_Pk_countWays_22 : decode b_Pk_countWays 22 = .ok (.goto (-17), 3) := by decide +kernel
theorem d_Pk_countWays_25 : decode b_Pk_countWays 25 = .ok (.lload_n 2, 1) := by decide +kernel
theorem d_Pk_countWays_26 : decode b_Pk_countWays 26 = .ok (.lreturn, 1) := by decide +kernel
theorem fl_Pk_98 : Cond.fieldLink R_Pk 98 R_St "absorbers" "[I" ∈ lw_gd := (gd _ (tb0 _ (List.mem_of_getElem? (i := 83) rfl)) rfl)
theorem fl_Pk_101 : Cond.fieldLink R_Pk 101 R_St "grams" "[I" ∈ lw_gd := (gd _ (tb0 _ (List.mem_of_getElem? (i := 64) rfl)) rfl)
theorem fl_Pk_104 : Cond.fieldLink R_Pk 104 R_St "boxBottles" "[I" ∈ lw_gd := (gd _ (tb0 _ (List.mem_of_getElem? (i := 80) rfl)) rfl)
theorem fl_Pk_107 : Cond.fieldLink R_Pk 107 R_St "boxGrams" "[I" ∈ lw_gd := (gd _ (tb0 _ (List.mem_of_getElem? (i := 78) rfl)) rfl)
theorem fl_Pk_110 : Cond.fieldLink R_Pk 110 R_Rl "apart" "[I" ∈ lw_gd := (gd _ (tb0 _ (List.mem_of_getElem? (i := 187) rfl)) rfl)
theorem fl_Pk_115 : Cond.fieldLink R_Pk 115 R_St "classes" "[I" ∈ lw_gd := (gd _ (tb0 _ (List.mem_of_getElem? (i := 60) rfl)) rfl)
theorem d_Pk_fits_0 : decode b_Pk_fits 0 = .ok (.aload_n 1, 1) := by decide +kernel
theorem d_Pk_fits_1 : decode b_Pk_fits 1 = .ok (.getfield 98, 3) := by decide +kernel
theorem d_Pk_fits_4 : decode b_Pk_fits 4 = .ok (.iload 4, 2) := by decide +kernel
theorem d_Pk_fits_6 : decode b_Pk_fits 6 = .ok (.iaload, 1) := by decide +kernel
theorem d_Pk_fits_7 : decode b_Pk_fits 7 = .ok (.aload_n 0, 1) := by decide +kernel
theorem d_Pk_fits_8 : decode b_Pk_fits 8 = .ok (.getfield 9, 3) := by decide +kernel
theorem d_Pk_fits_11 : decode b_Pk_fits 11 = .ok (.iload 4, 2) := by decide +kernel
theorem d_Pk_fits_13 : decode b_Pk_fits 13 = .ok (.iaload, 1) := by decide +kernel
theorem d_Pk_fits_14 : decode b_Pk_fits 14 = .ok (.iadd, 1) := by decide +kernel
theorem d_Pk_fits_15 : decode b_Pk_fits 15 = .ok (.aload_n 1, 1) := by decide +kernel
theorem d_Pk_fits_16 : decode b_Pk_fits 16 = .ok (.getfield 101, 3) := by decide +kernel
theorem d_Pk_fits_19 : decode b_Pk_fits 19 = .ok (.iload_n 3, 1) := by decide +kernel
theorem d_Pk_fits_20 : decode b_Pk_fits 20 = .ok (.iaload, 1) := by decide +kernel
theorem d_Pk_fits_21 : decode b_Pk_fits 21 = .ok (.iadd, 1) := by decide +kernel
theorem d_Pk_fits_22 : decode b_Pk_fits 22 = .ok (.istore 5, 2) := by decide +kernel
theorem d_Pk_fits_24 : decode b_Pk_fits 24 = .ok (.aload_n 0, 1) := by decide +kernel
theorem d_Pk_fits_25 : decode b_Pk_fits 25 = .ok (.getfield 15, 3) := by decide +kernel
theorem d_Pk_fits_28 : decode b_Pk_fits 28 = .ok (.iload 4, 2) := by decide +kernel
theorem d_Pk_fits_30 : decode b_Pk_fits 30 = .ok (.iaload, 1) := by decide +kernel
theorem d_Pk_fits_31 : decode b_Pk_fits 31 = .ok (.aload_n 1, 1) := by decide +kernel
theorem d_Pk_fits_32 : decode b_Pk_fits 32 = .ok (.getfield 104, 3) := by decide +kernel
theorem d_Pk_fits_35 : decode b_Pk_fits 35 = .ok (.iload 4, 2) := by decide +kernel
theorem d_Pk_fits_37 : decode b_Pk_fits 37 = .ok (.iaload, 1) := by decide +kernel
theorem d_Pk_fits_38 : decode b_Pk_fits 38 = .ok (.if_icmp .ge 41, 3) := by decide +kernel
theorem d_Pk_fits_41 : decode b_Pk_fits 41 = .ok (.iload 5, 2) := by decide +kernel
theorem d_Pk_fits_43 : decode b_Pk_fits 43 = .ok (.aload_n 1, 1) := by decide +kernel
theorem d_Pk_fits_44 : decode b_Pk_fits 44 = .ok (.getfield 107, 3) := by decide +kernel
theorem d_Pk_fits_47 : decode b_Pk_fits 47 = .ok (.iload 4, 2) := by decide +kernel
theorem d_Pk_fits_49 : decode b_Pk_fits 49 = .ok (.iaload, 1) := by decide +kernel
theorem d_Pk_fits_50 : decode b_Pk_fits 50 = .ok (.if_icmp .gt 29, 3) := by decide +kernel
theorem d_Pk_fits_53 : decode b_Pk_fits 53 = .ok (.aload_n 0, 1) := by decide +kernel
theorem d_Pk_fits_54 : decode b_Pk_fits 54 = .ok (.getfield 18, 3) := by decide +kernel
theorem d_Pk_fits_57 : decode b_Pk_fits 57 = .ok (.iload 4, 2) := by decide +kernel
theorem d_Pk_fits_59 : decode b_Pk_fits 59 = .ok (.iaload, 1) := by decide +kernel
theorem d_Pk_fits_60 : decode b_Pk_fits 60 = .ok (.aload_n 2, 1) := by decide +kernel
theorem d_Pk_fits_61 : decode b_Pk_fits 61 = .ok (.getfield 110, 3) := by decide +kernel
theorem d_Pk_fits_64 : decode b_Pk_fits 64 = .ok (.aload_n 1, 1) := by decide +kernel
theorem d_Pk_fits_65 : decode b_Pk_fits 65 = .ok (.getfield 115, 3) := by decide +kernel
theorem d_Pk_fits_68 : decode b_Pk_fits 68 = .ok (.iload_n 3, 1) := by decide +kernel
theorem d_Pk_fits_69 : decode b_Pk_fits 69 = .ok (.iaload, 1) := by decide +kernel
theorem d_Pk_fits_70 : decode b_Pk_fits 70 = .ok (.iaload, 1) := by decide +kernel
theorem d_Pk_fits_71 : decode b_Pk_fits 71 = .ok (.iand, 1) := by decide +kernel
theorem d_Pk_fits_72 : decode b_Pk_fits 72 = .ok (.ifCond .ne 7, 3) := by decide +kernel
theorem d_Pk_fits_75 : decode b_Pk_fits 75 = .ok (.iconst 1, 1) := by decide +kernel
theorem d_Pk_fits_76 : decode b_Pk_fits 76 = .ok (.goto 4, 3) := by decide +kernel
theorem d_Pk_fits_79 : decode b_Pk_fits 79 = .ok (.iconst 0, 1) := by decide +kernel
theorem d_Pk_fits_80 : decode b_Pk_fits 80 = .ok (.ireturn, 1) := by decide +kernel
theorem fl_Pk_24 : Cond.fieldLink R_Pk 24 R_Pk "tried" "[I" ∈ lw_gd := (gd _ (tb0 _ (List.mem_of_getElem? (i := 124) rfl)) rfl)
theorem d_Pk_putIn_0 : decode b_Pk_putIn 0 = .ok (.aload_n 0, 1) := by decide +kernel
theorem d_Pk_putIn_1 : decode b_Pk_putIn 1 = .ok (.getfield 9, 3) := by decide +kernel
theorem d_Pk_putIn_4 : decode b_Pk_putIn 4 = .ok (.iload_n 3, 1) := by decide +kernel
theorem d_Pk_putIn_5 : decode b_Pk_putIn 5 = .ok (.dup2, 1) := by decide +kernel
theorem d_Pk_putIn_6 : decode b_Pk_putIn 6 = .ok (.iaload, 1) := by decide +kernel
theorem d_Pk_putIn_7 : decode b_Pk_putIn 7 = .ok (.aload_n 1, 1) := by decide +kernel
theorem d_Pk_putIn_8 : decode b_Pk_putIn 8 = .ok (.getfield 101, 3) := by decide +kernel
theorem d_Pk_putIn_11 : decode b_Pk_putIn 11 = .ok (.iload_n 2, 1) := by decide +kernel
theorem d_Pk_putIn_12 : decode b_Pk_putIn 12 = .ok (.iaload, 1) := by decide +kernel
theorem d_Pk_putIn_13 : decode b_Pk_putIn 13 = .ok (.iadd, 1) := by decide +kernel
theorem d_Pk_putIn_14 : decode b_Pk_putIn 14 = .ok (.iastore, 1) := by decide +kernel
theorem d_Pk_putIn_15 : decode b_Pk_putIn 15 = .ok (.aload_n 0, 1) := by decide +kernel
theorem d_Pk_putIn_16 : decode b_Pk_putIn 16 = .ok (.getfield 15, 3) := by decide +kernel
theorem d_Pk_putIn_19 : decode b_Pk_putIn 19 = .ok (.iload_n 3, 1) := by decide +kernel
theorem d_Pk_putIn_20 : decode b_Pk_putIn 20 = .ok (.dup2, 1) := by decide +kernel
theorem d_Pk_putIn_21 : decode b_Pk_putIn 21 = .ok (.iaload, 1) := by decide +kernel
theorem d_Pk_putIn_22 : decode b_Pk_putIn 22 = .ok (.iconst 1, 1) := by decide +kernel
theorem d_Pk_putIn_23 : decode b_Pk_putIn 23 = .ok (.iadd, 1) := by decide +kernel
theorem d_Pk_putIn_24 : decode b_Pk_putIn 24 = .ok (.iastore, 1) := by decide +kernel
theorem d_Pk_putIn_25 : decode b_Pk_putIn 25 = .ok (.aload_n 0, 1) := by decide +kernel
theorem d_Pk_putIn_26 : decode b_Pk_putIn 26 = .ok (.getfield 18, 3) := by decide +kernel
theorem d_Pk_putIn_29 : decode b_Pk_putIn 29 = .ok (.iload_n 3, 1) := by decide +kernel
theorem d_Pk_putIn_30 : decode b_Pk_putIn 30 = .ok (.dup2, 1) := by decide +kernel
theorem d_Pk_putIn_31 : decode b_Pk_putIn 31 = .ok (.iaload, 1) := by decide +kernel
theorem d_Pk_putIn_32 : decode b_Pk_putIn 32 = .ok (.iconst 1, 1) := by decide +kernel
theorem d_Pk_putIn_33 : decode b_Pk_putIn 33 = .ok (.aload_n 1, 1) := by decide +kernel
theorem d_Pk_putIn_34 : decode b_Pk_putIn 34 = .ok (.getfield 115, 3) := by decide +kernel
theorem d_Pk_putIn_37 : decode b_Pk_putIn 37 = .ok (.iload_n 2, 1) := by decide +kernel
theorem d_Pk_putIn_38 : decode b_Pk_putIn 38 = .ok (.iaload, 1) := by decide +kernel
theorem d_Pk_putIn_39 : decode b_Pk_putIn 39 = .ok (.ishl, 1) := by decide +kernel
theorem d_Pk_putIn_40 : decode b_Pk_putIn 40 = .ok (.ior, 1) := by decide +kernel
theorem d_Pk_putIn_41 : decode b_Pk_putIn 41 = .ok (.iastore, 1) := by decide +kernel
theorem d_Pk_putIn_42 : decode b_Pk_putIn 42 = .ok (.aload_n 0, 1) := by decide +kernel
theorem d_Pk_putIn_43 : decode b_Pk_putIn 43 = .ok (.getfield 24, 3) := by decide +kernel
theorem d_Pk_putIn_46 : decode b_Pk_putIn 46 = .ok (.iload_n 2, 1) := by decide +kernel
theorem d_Pk_putIn_47 : decode b_Pk_putIn 47 = .ok (.iload_n 3, 1) := by decide +kernel
theorem d_Pk_putIn_48 : decode b_Pk_putIn 48 = .ok (.iastore, 1) := by decide +kernel
theorem d_Pk_putIn_49 : decode b_Pk_putIn 49 = .ok (.return_, 1) := by decide +kernel
theorem d_Pk_takeOut_0 : decode b_Pk_takeOut 0 = .ok (.aload_n 0, 1) := by decide +kernel
theorem d_Pk_takeOut_1 : decode b_Pk_takeOut 1 = .ok (.getfield 9, 3) := by decide +kernel
theorem d_Pk_takeOut_4 : decode b_Pk_takeOut 4 = .ok (.iload_n 3, 1) := by decide +kernel
theorem d_Pk_takeOut_5 : decode b_Pk_takeOut 5 = .ok (.dup2, 1) := by decide +kernel
theorem d_Pk_takeOut_6 : decode b_Pk_takeOut 6 = .ok (.iaload, 1) := by decide +kernel
theorem d_Pk_takeOut_7 : decode b_Pk_takeOut 7 = .ok (.aload_n 1, 1) := by decide +kernel
theorem d_Pk_takeOut_8 : decode b_Pk_takeOut 8 = .ok (.getfield 101, 3) := by decide +kernel
theorem d_Pk_takeOut_11 : decode b_Pk_takeOut 11 = .ok (.iload_n 2, 1) := by decide +kernel
theorem d_Pk_takeOut_12 : decode b_Pk_takeOut 12 = .ok (.iaload, 1) := by decide +kernel
theorem d_Pk_takeOut_13 : decode b_Pk_takeOut 13 = .ok (.isub, 1) := by decide +kernel
theorem d_Pk_takeOut_14 : decode b_Pk_takeOut 14 = .ok (.iastore, 1) := by decide +kernel
theorem d_Pk_takeOut_15 : decode b_Pk_takeOut 15 = .ok (.aload_n 0, 1) := by decide +kernel
theorem d_Pk_takeOut_16 : decode b_Pk_takeOut 16 = .ok (.getfield 15, 3) := by decide +kernel
theorem d_Pk_takeOut_19 : decode b_Pk_takeOut 19 = .ok (.iload_n 3, 1) := by decide +kernel
theorem d_Pk_takeOut_20 : decode b_Pk_takeOut 20 = .ok (.dup2, 1) := by decide +kernel
theorem d_Pk_takeOut_21 : decode b_Pk_takeOut 21 = .ok (.iaload, 1) := by decide +kernel
theorem d_Pk_takeOut_22 : decode b_Pk_takeOut 22 = .ok (.iconst 1, 1) := by decide +kernel
theorem d_Pk_takeOut_23 : decode b_Pk_takeOut 23 = .ok (.isub, 1) := by decide +kernel
theorem d_Pk_takeOut_24 : decode b_Pk_takeOut 24 = .ok (.iastore, 1) := by decide +kernel
theorem d_Pk_takeOut_25 : decode b_Pk_takeOut 25 = .ok (.aload_n 0, 1) := by decide +kernel
theorem d_Pk_takeOut_26 : decode b_Pk_takeOut 26 = .ok (.getfield 18, 3) := by decide +kernel
theorem d_Pk_takeOut_29 : decode b_Pk_takeOut 29 = .ok (.iload_n 3, 1) := by decide +kernel
theorem d_Pk_takeOut_30 : decode b_Pk_takeOut 30 = .ok (.iload 4, 2) := by decide +kernel
theorem d_Pk_takeOut_32 : decode b_Pk_takeOut 32 = .ok (.iastore, 1) := by decide +kernel
theorem d_Pk_takeOut_33 : decode b_Pk_takeOut 33 = .ok (.return_, 1) := by decide +kernel
set_option maxHeartbeats 4000000 in
set_option maxRecDepth 100000 in
theorem c_PL_paper (l : Launch) (D : va_G) (cI : CiT) (z : GzT) (o : Nat → Nat) (a : Nat → Nat) (s : Nat → Nat) (k : Nat → Nat) (b : Nat → Nat) (w : Nat → Nat) (t : Nat → Nat) (q : Nat → Nat) (ut : Bool) (go : (Nat → Nat)) (io : (Nat → Nat)) (ct : Nat) (sh : (Nat → Nat)) (wr : Nat) (cl : (Nat → Nat)) (gr : (Nat → Nat)) (sp : (Nat → Nat)) (rs : (Nat → Nat)) (aw : (Nat → Nat)) (nb : Nat) (na : Nat) (bg : (Nat → Nat)) (bb : (Nat → Nat)) (ab : (Nat → Nat)) (nx : Nat) (gi : (Nat → Nat)) (bi : (Nat → Nat)) (ki : (Nat → Nat)) (qu : (Nat → Nat)) (wt : Nat) (tr : (Nat → Nat)) (be : (Nat → Nat)) (fw : Nat) (fd : Bool) (bx : (Nat → Nat)) (ap : (Nat → Nat)) (pt : (Nat → Nat)) (rk : (Nat → Nat)) (cd : (Nat → Nat)) (mc : (Nat → Nat)) (mg : (Nat → Nat)) (mz : (Nat → Nat)) (nc : (Nat → Nat)) (nt : (Nat → Nat)) (oc : (Nat → Nat)) (fr : Nat) (x : Int32) (hnb : nb ≤ 8) (hgr : ∀ b, gr b ≤ 100000) (hcl : ∀ b, cl b ≤ 9) (hb : ∀ b, bx b ≤ 5) (hcv : ∀ b, b < nb → bx b ≠ 0 → cl b ≠ 0) (hrk : ∀ c, rk c ≤ 99) (hpt : ∀ c, pt c ≤ 1000) : wk_C l D (tyK cI) (gX z) y_PL_paper b_PL_paper 2 (some .int) 3 66 0 0 [.ref (o 0), .int (x)] (wPL o cI (t 0) (s 0) (k 0) (a 0) (w 0) (q 0) ut ++ (wLd a cI go io ct sh wr ++ (wSt s cI cl gr sp rs aw nb na bg bb ab nx ++ (wPk k cI (b 0) gi bi ki qu wt tr be fw fd ++ (wBx b cI bx ++ (wRl w cI ap pt rk cd mc mg mz nc nt oc fr)))))) wk_i (fun (r : Int32) (u : (Nat → Nat) × Nat × (Nat → Nat) × Nat) => r = ppN (nmF rk (fun c => goN cl gr bx c nb)) (fun c => goN cl gr bx c nb) pt x) (fun u => (wPL o cI (t 0) (s 0) (k 0) (a 0) (w 0) (q 0) ut ++ (wLd a cI (fun c => goN cl gr bx c nb) u.1 u.2.1 u.2.2.1 u.2.2.2 ++ (wSt s cI cl gr sp rs aw nb na bg bb ab nx ++ (wPk k cI (b 0) gi bi ki qu wt tr be fw fd ++ (wBx b cI bx ++ (wRl w cI ap pt rk cd mc mg mz nc nt oc fr))))))) := by
  refine wk_methI (own := R_PL) [(0, .ref (o 0)), (1, .int (x))] (by decide) rfl (Nat.le_of_ble_eq_true rfl) rfl (gX_ok z) (fun p_ e_ R_ s_ m_ ar_ be_ me_ co_ Q_ A_ hR_ S_ hnm_ hQ_ => ?_)
  refine wk_aload_n (pc := 0) S_ 0 d_PL_paper_0 rfl rfl ?_
  refine wk_get (pc := 1) (v := .ref (a 0)) S_ 0 3 0 in_PL rfl (by decide) rfl fl_PL_33 d_PL_paper_1 rfl rfl ?_
  refine wk_aload_n (pc := 4) S_ 0 d_PL_paper_4 rfl rfl ?_
  refine wk_get (pc := 5) (v := .ref (s 0)) S_ 0 1 0 in_PL rfl (by decide) rfl fl_PL_19 d_PL_paper_5 rfl rfl ?_
  refine wk_aload_n (pc := 8) S_ 0 d_PL_paper_8 rfl rfl ?_
  refine wk_get (pc := 9) (v := .ref (k 0)) S_ 0 2 0 in_PL rfl (by decide) rfl fl_PL_26 d_PL_paper_9 rfl rfl ?_
  refine wk_get (pc := 12) (v := .ref (b 0)) S_ 3 8 14 in_Pk rfl (by decide) rfl fl_PL_102 d_PL_paper_12 rfl rfl ?_
  refine wk_run (pc := 15) (rest := []) (wr := (wPL o cI (t 0) (s 0) (k 0) (a 0) (w 0) (q 0) ut ++ (wPk k cI (b 0) gi bi ki qu wt tr be fw fd ++ (wRl w cI ap pt rk cd mc mg mz nc nt oc fr)))) (wN := fun _ => (wPL o cI (t 0) (s 0) (k 0) (a 0) (w 0) (q 0) ut ++ (wLd a cI (fun c => goN (cl) (gr) (bx) c (nb)) io ct sh wr ++ (wSt s cI cl gr sp rs aw nb na bg bb ab nx ++ (wPk k cI (b 0) gi bi ki qu wt tr be fw fd ++ (wBx b cI bx ++ (wRl w cI ap pt rk cd mc mg mz nc nt oc fr))))))) S_ (wk_rV S_ (c_Ld_gather l D cI z (a) (s) (b) (go) (io) (ct) (sh) (wr) (cl) (gr) (sp) (rs) (aw) (nb) (na) (bg) (bb) (ab) (nx) (bx) (by omega) hgr hcl hb hcv) mv_PL_111 (wk_rcv S_ 0 4 rfl rfl rfl) rfl rfl (Nat.le_of_ble_eq_true rfl) (by rw [hR_]; decide) (by rw [hR_]; decide) d_PL_paper_15) [1, 2, 3, 4, 5, 6, 7, 8, 9, 10, 11, 12, 13, 21] [0, 14, 15, 16, 17, 18, 19, 20, 22, 23, 24, 25, 26, 27, 28, 29, 30, 31, 32] [0, 19, 20, 21, 22, 23, 24, 25, 26, 27, 28, 29, 30, 31, 1, 2, 3, 4, 5, 6, 7, 32, 8, 9, 10, 11, 12, 13, 14, 15, 16, 17, 18] rfl rfl rfl (by decide) (by decide) (by decide) (by decide) (fun _ => rfl) (fun _ => rfl) (fun r15 _ hw15 => ?_)
  refine wk_st (st' := []) rfl ?_
  refine wk_aload_n (pc := 18) S_ 0 d_PL_paper_18 rfl rfl ?_
  refine wk_get (pc := 19) (v := .ref (a 0)) S_ 0 3 0 in_PL rfl (by decide) rfl fl_PL_33 d_PL_paper_19 rfl rfl ?_
  refine wk_aload_n (pc := 22) S_ 0 d_PL_paper_22 rfl rfl ?_
  refine wk_get (pc := 23) (v := .ref (w 0)) S_ 0 4 0 in_PL rfl (by decide) rfl fl_PL_40 d_PL_paper_23 rfl rfl ?_
  refine wk_run (pc := 26) (rest := []) (wr := (wPL o cI (t 0) (s 0) (k 0) (a 0) (w 0) (q 0) ut ++ (wSt s cI cl gr sp rs aw nb na bg bb ab nx ++ (wPk k cI (b 0) gi bi ki qu wt tr be fw fd ++ (wBx b cI bx))))) (wN := fun u26 => (wPL o cI (t 0) (s 0) (k 0) (a 0) (w 0) (q 0) ut ++ (wLd a cI (fun c => goN (cl) (gr) (bx) c (nb)) u26.1 u26.2 sh wr ++ (wSt s cI cl gr sp rs aw nb na bg bb ab nx ++ (wPk k cI (b 0) gi bi ki qu wt tr be fw fd ++ (wBx b cI bx ++ (wRl w cI ap pt rk cd mc mg mz nc nt oc fr))))))) S_ (wk_rV S_ (c_Ld_sort l D cI z (a) (w) (fun c => goN (cl) (gr) (bx) c (nb)) (io) (ct) (sh) (wr) (ap) (pt) (rk) (cd) (mc) (mg) (mz) (nc) (nt) (oc) (fr) hrk (fun c => by have := goN_le (cl := cl) (bx := bx) (c := c) hgr nb; show goN cl gr bx c nb ≤ 800000; omega)) mv_PL_123 (wk_rcv S_ 0 4 rfl rfl rfl) rfl rfl (Nat.le_of_ble_eq_true rfl) (by rw [hR_]; decide) (by rw [hR_]; decide) d_PL_paper_26) [1, 2, 3, 4, 22, 23, 24, 25, 26, 27, 28, 29, 30, 31, 32] [0, 5, 6, 7, 8, 9, 10, 11, 12, 13, 14, 15, 16, 17, 18, 19, 20, 21] [0, 18, 19, 20, 21, 1, 2, 3, 4, 5, 6, 7, 8, 9, 10, 11, 12, 13, 14, 15, 16, 17, 22, 23, 24, 25, 26, 27, 28, 29, 30, 31, 32] rfl rfl rfl (by decide) (by decide) (by decide) (by decide) (fun _ => rfl) (fun _ => rfl) (fun r26 u26 hw26 => ?_)
  refine wk_st (st' := []) rfl ?_
  have hO := hw26
  refine wk_aload_n (pc := 29) S_ 0 d_PL_paper_29 rfl rfl ?_
  refine wk_get (pc := 30) (v := .ref (a 0)) S_ 0 3 0 in_PL rfl (by decide) rfl fl_PL_33 d_PL_paper_30 rfl rfl ?_
  refine wk_aload_n (pc := 33) S_ 0 d_PL_paper_33 rfl rfl ?_
  refine wk_get (pc := 34) (v := .ref (w 0)) S_ 0 4 0 in_PL rfl (by decide) rfl fl_PL_40 d_PL_paper_34 rfl rfl ?_
  refine wk_run (pc := 37) (rest := []) (wr := (wPL o cI (t 0) (s 0) (k 0) (a 0) (w 0) (q 0) ut ++ (wSt s cI cl gr sp rs aw nb na bg bb ab nx ++ (wPk k cI (b 0) gi bi ki qu wt tr be fw fd ++ (wBx b cI bx))))) (wN := fun u37 => (wPL o cI (t 0) (s 0) (k 0) (a 0) (w 0) (q 0) ut ++ (wLd a cI (fun c => goN (cl) (gr) (bx) c (nb)) u26.1 u26.2 u37.1 u37.2 ++ (wSt s cI cl gr sp rs aw nb na bg bb ab nx ++ (wPk k cI (b 0) gi bi ki qu wt tr be fw fd ++ (wBx b cI bx ++ (wRl w cI ap pt rk cd mc mg mz nc nt oc fr))))))) S_ (wk_rV S_ (c_Ld_write l D cI z (a) (w) (fun c => goN (cl) (gr) (bx) c (nb)) (u26.1) (u26.2) (sh) (wr) (ap) (pt) (rk) (cd) (mc) (mg) (mz) (nc) (nt) (oc) (fr) (fun c => by have := goN_le (cl := cl) (bx := bx) (c := c) hgr nb; show goN cl gr bx c nb ≤ 800000; omega) hpt hO) mv_PL_137 (wk_rcv S_ 0 4 rfl rfl rfl) rfl rfl (Nat.le_of_ble_eq_true rfl) (by rw [hR_]; decide) (by rw [hR_]; decide) d_PL_paper_37) [1, 2, 3, 4, 22, 23, 24, 25, 26, 27, 28, 29, 30, 31, 32] [0, 5, 6, 7, 8, 9, 10, 11, 12, 13, 14, 15, 16, 17, 18, 19, 20, 21] [0, 18, 19, 20, 21, 1, 2, 3, 4, 5, 6, 7, 8, 9, 10, 11, 12, 13, 14, 15, 16, 17, 22, 23, 24, 25, 26, 27, 28, 29, 30, 31, 32] rfl rfl rfl (by decide) (by decide) (by decide) (by decide) (fun _ => rfl) (fun _ => rfl) (fun r37 u37 hw37 => ?_)
  refine wk_st (st' := []) rfl ?_
  have hw9 := hw37.2
  have hpp := pp_pick hw37.1 (by omega) x
  refine wk_iload_n (pc := 40) S_ 1 d_PL_paper_40 rfl rfl ?_
  refine wk_if_lt (pc := 41) (tgt := 67) S_ d_PL_paper_41 (by decide) (fun h41 => ?_) (fun h41 => ?_)
  · -- taken
    refine wk_iconst (pc := 67) (v := (-1)) S_ d_PL_paper_67 (by decide) ?_
    exact hQ_ (-1) (u26.1, u26.2, u37.1, u37.2) d_PL_paper_68 rfl (by rw [hpp, pick_a h41]; exact zI_0.symm)
  · -- on
    refine wk_iload_n (pc := 44) S_ 1 d_PL_paper_44 rfl rfl ?_
    refine wk_aload_n (pc := 45) S_ 0 d_PL_paper_45 rfl rfl ?_
    refine wk_get (pc := 46) (v := .ref (a 0)) S_ 0 3 0 in_PL rfl (by decide) rfl fl_PL_33 d_PL_paper_46 rfl rfl ?_
    refine wk_get (pc := 49) (v := .int (nI (u37.2))) S_ 4 4 1 in_Ld rfl (by decide) rfl fl_PL_140 d_PL_paper_49 rfl rfl ?_
    refine wk_icmp_ge (pc := 52) (tgt := 67) S_ d_PL_paper_52 (by decide) (fun h52 => ?_) (fun h52 => ?_)
    · -- taken
      refine wk_iconst (pc := 67) (v := (-1)) S_ d_PL_paper_67 (by decide) ?_
      exact hQ_ (-1) (u26.1, u26.2, u37.1, u37.2) d_PL_paper_68 rfl (by rw [hpp, pick_b h52]; exact zI_0.symm)
    · -- on
      obtain ⟨j, hj, rfl⟩ := ix_of h41 h52 (by omega)
      refine wk_aload_n (pc := 55) S_ 0 d_PL_paper_55 rfl rfl ?_
      refine wk_get (pc := 56) (v := .ref (a 0)) S_ 0 3 0 in_PL rfl (by decide) rfl fl_PL_33 d_PL_paper_56 rfl rfl ?_
      refine wk_get (pc := 59) (v := .ref (a 3)) S_ 4 3 1 in_Ld rfl (by decide) rfl fl_PL_143 d_PL_paper_59 rfl rfl ?_
      refine wk_iload_n (pc := 62) S_ 1 d_PL_paper_62 rfl rfl ?_
      refine wk_ialdN (pc := 63) (g := u37.1) S_ 4 0 d_PL_paper_63 rfl rfl (by omega) (by decide) ?_
      refine wk_goto (pc := 64) (tgt := 68) S_ d_PL_paper_64 (by decide) ?_
      exact hQ_ (nI ((u37.1) (j))) (u26.1, u26.2, u37.1, u37.2) d_PL_paper_68 rfl (by rw [hpp, pick_in hj (by omega), zI_s])
set_option maxHeartbeats 4000000 in
set_option maxRecDepth 100000 in
theorem c_Pk_emptyBoxes (l : Launch) (D : va_G) (cI : CiT) (z : GzT) (k : Nat → Nat) (b : Nat → Nat) (gi : (Nat → Nat)) (bi : (Nat → Nat)) (ki : (Nat → Nat)) (qu : (Nat → Nat)) (wt : Nat) (tr : (Nat → Nat)) (be : (Nat → Nat)) (fw : Nat) (fd : Bool) : wk_C l D (tyK cI) (gX z) y_Pk_emptyBoxes b_Pk_emptyBoxes 1 none 1 23 0 0 [.ref (k 0)] (wPk k cI (b 0) gi bi ki qu wt tr be fw fd) wk_v (fun (_ : Unit) (_ : Unit) => True) (fun _ => (wPk k cI (b 0) (fun _ => 0) (fun _ => 0) (fun _ => 0) qu wt tr be fw fd)) := by
  refine wk_methV (own := R_Pk) [(0, .ref (k 0))] (by decide) rfl (Nat.le_of_ble_eq_true rfl) rfl (gX_ok z) (fun p_ e_ R_ s_ m_ ar_ be_ me_ co_ Q_ A_ hR_ S_ hnm_ hQ_ => ?_)
  refine wk_aload_n (pc := 0) S_ 0 d_Pk_emptyBoxes_0 rfl rfl ?_
  refine wk_get (pc := 1) (v := .ref (k 1)) S_ 3 0 0 in_Pk rfl (by decide) rfl fl_Pk_9 d_Pk_emptyBoxes_1 rfl rfl ?_
  refine wk_iconst (pc := 4) (v := (nI (0))) S_ d_Pk_emptyBoxes_4 (by decide) ?_
  refine wk_run (pc := 5) (rest := []) (wr := [(k 0, .inr (3, [.ref (k 1), .ref (k 2), .ref (k 3), .ref (k 4), .int (nI (wt)), .ref (k 5), .ref (k 6), .int (nI (fw)), .ref (b 0), .int (bI (fd))])), (k 2, .inl (cI.1, 5, .inl (nF (bi)))), (k 3, .inl (cI.1, 5, .inl (nF (ki)))), (k 4, .inl (cI.1, 8, .inl (nF (qu)))), (k 5, .inl (cI.1, 8, .inl (zF (tr)))), (k 6, .inl (cI.1, 8, .inl (zF (be))))]) (wN := fun _ => (wPk k cI (b 0) (fun _ => 0) bi ki qu wt tr be fw fd)) S_ (wk_rS S_ (c_Ar_fill l D cI z (fun _ => k 1) 5 (nF (gi)) (nI (0)) (by decide)) mv_Pk_33 rfl rfl (Nat.le_of_ble_eq_true rfl) (by rw [hR_]; decide) (by rw [hR_]; decide) d_Pk_emptyBoxes_5) [1] [0, 2, 3, 4, 5, 6] [0, 6, 1, 2, 3, 4, 5] rfl rfl rfl (by decide) (by decide) (by decide) (by decide) (fun _ => rfl) (fun _ => rfl) (fun _ _ _ => ?_)
  refine wk_st (st' := []) rfl ?_
  refine wk_aload_n (pc := 8) S_ 0 d_Pk_emptyBoxes_8 rfl rfl ?_
  refine wk_get (pc := 9) (v := .ref (k 2)) S_ 3 1 0 in_Pk rfl (by decide) rfl fl_Pk_15 d_Pk_emptyBoxes_9 rfl rfl ?_
  refine wk_iconst (pc := 12) (v := (nI (0))) S_ d_Pk_emptyBoxes_12 (by decide) ?_
  refine wk_run (pc := 13) (rest := []) (wr := [(k 0, .inr (3, [.ref (k 1), .ref (k 2), .ref (k 3), .ref (k 4), .int (nI (wt)), .ref (k 5), .ref (k 6), .int (nI (fw)), .ref (b 0), .int (bI (fd))])), (k 1, .inl (cI.1, 5, .inl (nF (fun _ => 0)))), (k 3, .inl (cI.1, 5, .inl (nF (ki)))), (k 4, .inl (cI.1, 8, .inl (nF (qu)))), (k 5, .inl (cI.1, 8, .inl (zF (tr)))), (k 6, .inl (cI.1, 8, .inl (zF (be))))]) (wN := fun _ => (wPk k cI (b 0) (fun _ => 0) (fun _ => 0) ki qu wt tr be fw fd)) S_ (wk_rS S_ (c_Ar_fill l D cI z (fun _ => k 2) 5 (nF (bi)) (nI (0)) (by decide)) mv_Pk_33 rfl rfl (Nat.le_of_ble_eq_true rfl) (by rw [hR_]; decide) (by rw [hR_]; decide) d_Pk_emptyBoxes_13) [2] [0, 1, 3, 4, 5, 6] [0, 1, 6, 2, 3, 4, 5] rfl rfl rfl (by decide) (by decide) (by decide) (by decide) (fun _ => rfl) (fun _ => rfl) (fun _ _ _ => ?_)
  refine wk_st (st' := []) rfl ?_
  refine wk_aload_n (pc := 16) S_ 0 d_Pk_emptyBoxes_16 rfl rfl ?_
  refine wk_get (pc := 17) (v := .ref (k 3)) S_ 3 2 0 in_Pk rfl (by decide) rfl fl_Pk_18 d_Pk_emptyBoxes_17 rfl rfl ?_
  refine wk_iconst (pc := 20) (v := (nI (0))) S_ d_Pk_emptyBoxes_20 (by decide) ?_
  refine wk_run (pc := 21) (rest := []) (wr := [(k 0, .inr (3, [.ref (k 1), .ref (k 2), .ref (k 3), .ref (k 4), .int (nI (wt)), .ref (k 5), .ref (k 6), .int (nI (fw)), .ref (b 0), .int (bI (fd))])), (k 1, .inl (cI.1, 5, .inl (nF (fun _ => 0)))), (k 2, .inl (cI.1, 5, .inl (nF (fun _ => 0)))), (k 4, .inl (cI.1, 8, .inl (nF (qu)))), (k 5, .inl (cI.1, 8, .inl (zF (tr)))), (k 6, .inl (cI.1, 8, .inl (zF (be))))]) (wN := fun _ => (wPk k cI (b 0) (fun _ => 0) (fun _ => 0) (fun _ => 0) qu wt tr be fw fd)) S_ (wk_rS S_ (c_Ar_fill l D cI z (fun _ => k 3) 5 (nF (ki)) (nI (0)) (by decide)) mv_Pk_33 rfl rfl (Nat.le_of_ble_eq_true rfl) (by rw [hR_]; decide) (by rw [hR_]; decide) d_Pk_emptyBoxes_21) [3] [0, 1, 2, 4, 5, 6] [0, 1, 2, 6, 3, 4, 5] rfl rfl rfl (by decide) (by decide) (by decide) (by decide) (fun _ => rfl) (fun _ => rfl) (fun _ _ _ => ?_)
  refine wk_st (st' := []) rfl ?_
  exact hQ_ () d_Pk_emptyBoxes_24 rfl trivial
set_option maxHeartbeats 4000000 in
set_option maxRecDepth 100000 in
theorem c_Pk_countWays (l : Launch) (D : va_G) (cI : CiT) (z : GzT) (k : Nat → Nat) (b : Nat → Nat) (gi : (Nat → Nat)) (bi : (Nat → Nat)) (ki : (Nat → Nat)) (qu : (Nat → Nat)) (wt : Nat) (tr : (Nat → Nat)) (be : (Nat → Nat)) (fw : Nat) (fd : Bool) (x : Nat) (hx : x ≤ 5) (hwt : wt ≤ 8) : wk_C l D (tyK cI) (gX z) y_Pk_countWays b_Pk_countWays 5 (some .long) 0 0 0 0 [.ref (k 0), .int (nI (x))] (wPk k cI (b 0) gi bi ki qu wt tr be fw fd) wk_l (fun (r : Int64) (_ : Unit) => r = (lN (x ^ wt))) (fun _ => (wPk k cI (b 0) gi bi ki qu wt tr be fw fd)) := by
  refine wk_methL (own := R_Pk) [(0, .ref (k 0)), (1, .int (nI (x)))] (by decide) rfl (Nat.le_of_ble_eq_true rfl) rfl (gX_ok z) (fun p_ e_ R_ s_ m_ ar_ be_ me_ co_ Q_ A_ hR_ S_ hnm_ hQ_ => ?_)
  refine wk_lconst (pc := 0) (v := (lN (1))) S_ d_Pk_countWays_0 (by decide) ?_
  refine wk_lstore_n (pc := 1) (lv' := [(2, .long (lN (1))), (0, .ref (k 0)), (1, .int (nI (x)))]) S_ d_Pk_countWays_1 rfl (by decide) rfl ?_
  refine wk_iconst (pc := 2) (v := (nI (0))) S_ d_Pk_countWays_2 (by decide) ?_
  refine wk_istore (pc := 3) (lv' := [(4, .int (nI (0))), (2, .long (lN (1))), (0, .ref (k 0)), (1, .int (nI (x)))]) S_ d_Pk_countWays_3 (by decide) rfl ?_
  have hL5 : ∀ (fuel5 : Nat), ∀ (i : Nat), wt - i < fuel5 → (i ≤ wt) → wk_G p_ l e_ R_ s_ m_ ar_ be_ me_ co_ Q_ D A_ 5 0 0 (wPk k cI (b 0) gi bi ki qu wt tr be fw fd) 5 [(0, .ref (k 0)), (1, .int (nI (x))), (2, .long (lN (x ^ i))), (4, .int (nI (i)))] [] := by
    intro fuel5
    induction fuel5 with
    | zero => intro i hm; exact absurd hm (Nat.not_lt_zero _)
    | succ fuel5 ih5 =>
      intro i hm hi
      refine wk_iload (pc := 5) S_ 3 d_Pk_countWays_5 rfl ?_
      refine wk_aload_n (pc := 7) S_ 0 d_Pk_countWays_7 rfl rfl ?_
      refine wk_get (pc := 8) (v := .int (nI (wt))) S_ 3 4 0 in_Pk rfl (by decide) rfl fl_Pk_91 d_Pk_countWays_8 rfl rfl ?_
      refine wk_icmp_geN (pc := 11) (tgt := 25) S_ d_Pk_countWays_11 (by decide) (by omega) (by omega) (fun h11 => ?_) (fun h11 => ?_)
      · -- taken
        refine wk_lload_n (pc := 25) S_ 2 d_Pk_countWays_25 rfl rfl ?_
        exact hQ_ (lN (x ^ i)) () d_Pk_countWays_26 rfl (by rw [show i = wt by omega])
      · -- on
        refine wk_lload_n (pc := 14) S_ 2 d_Pk_countWays_14 rfl rfl ?_
        refine wk_iload_n (pc := 15) S_ 1 d_Pk_countWays_15 rfl rfl ?_
        refine wk_i2lN (pc := 16) S_ d_Pk_countWays_16 (by omega) ?_
        refine wk_lmulN (pc := 17) S_ d_Pk_countWays_17 ?_
        refine wk_topl (y := (lN (x ^ (i + 1)))) (congrArg lN (Nat.pow_succ x i).symm) ?_
        refine wk_lstore_n (pc := 18) (lv' := [(2, .long (lN (x ^ (i + 1)))), (0, .ref (k 0)), (1, .int (nI (x))), (4, .int (nI (i)))]) S_ d_Pk_countWays_18 rfl (by decide) rfl ?_
        refine wk_iincN (pc := 19) (d := 1) (lv' := [(4, .int (nI (i + 1))), (2, .long (lN (x ^ (i + 1)))), (0, .ref (k 0)), (1, .int (nI (x)))]) S_ 3 d_Pk_countWays_19 (by decide) rfl (by decide) rfl ?_
        refine wk_goto (pc := 22) (tgt := 5) S_ d_Pk_countWays_22 (by decide) ?_
        refine wk_lv [2, 3, 1, 0] ?_ (ih5 (i + 1) (by omega) (by omega))
        rfl
  refine wk_lv [2, 3, 1, 0] ?_ (hL5 _ (0) (Nat.lt_succ_self _) (by omega))
  rfl
set_option maxHeartbeats 4000000 in
set_option maxRecDepth 100000 in
theorem c_Pk_fits (l : Launch) (D : va_G) (cI : CiT) (z : GzT) (k : Nat → Nat) (s : Nat → Nat) (w : Nat → Nat) (b : Nat → Nat) (gi : (Nat → Nat)) (bi : (Nat → Nat)) (ki : (Nat → Nat)) (qu : (Nat → Nat)) (wt : Nat) (tr : (Nat → Nat)) (be : (Nat → Nat)) (fw : Nat) (fd : Bool) (cl : (Nat → Nat)) (gr : (Nat → Nat)) (sp : (Nat → Nat)) (rs : (Nat → Nat)) (aw : (Nat → Nat)) (nb : Nat) (na : Nat) (bg : (Nat → Nat)) (bb : (Nat → Nat)) (ab : (Nat → Nat)) (nx : Nat) (ap : (Nat → Nat)) (pt : (Nat → Nat)) (rk : (Nat → Nat)) (cd : (Nat → Nat)) (mc : (Nat → Nat)) (mg : (Nat → Nat)) (mz : (Nat → Nat)) (nc : (Nat → Nat)) (nt : (Nat → Nat)) (oc : (Nat → Nat)) (fr : Nat) (j : Nat) (x : Nat) (hj : j < 8) (hx : x < 5) (hab : ab x ≤ 1000000) (hgi : gi x ≤ 800000) (hgr : gr j ≤ 100000) (hbi : bi x ≤ 8) (hbb : bb x ≤ 8) (hbg : bg x ≤ 1000000) (hc : cl j ≠ 0 ∧ cl j ≤ 9) (hki : ki x < 512) : wk_C l D (tyK cI) (gX z) y_Pk_fits b_Pk_fits 6 (some .boolean) 0 0 0 0 [.ref (k 0), .ref (s 0), .ref (w 0), .int (nI (j)), .int (nI (x))] (wPk k cI (b 0) gi bi ki qu wt tr be fw fd ++ (wSt s cI cl gr sp rs aw nb na bg bb ab nx ++ (wRl w cI ap pt rk cd mc mg mz nc nt oc fr))) wk_i (fun (r : Int32) (_ : Unit) => r = (bI (decide (bi x < bb x ∧ ab x + gi x + gr j ≤ bg x ∧ ki x &&& ap (cl j - 1) = 0)))) (fun _ => (wPk k cI (b 0) gi bi ki qu wt tr be fw fd ++ (wSt s cI cl gr sp rs aw nb na bg bb ab nx ++ (wRl w cI ap pt rk cd mc mg mz nc nt oc fr)))) := by
  refine wk_methZ (own := R_Pk) [(0, .ref (k 0)), (1, .ref (s 0)), (2, .ref (w 0)), (3, .int (nI (j))), (4, .int (nI (x)))] (by decide) rfl (Nat.le_of_ble_eq_true rfl) rfl (gX_ok z) (fun p_ e_ R_ s_ m_ ar_ be_ me_ co_ Q_ A_ hR_ S_ hnm_ hQ_ => ?_)
  refine wk_aload_n (pc := 0) S_ 1 d_Pk_fits_0 rfl rfl ?_
  refine wk_get (pc := 1) (v := .ref (s 8)) S_ 2 9 7 in_St rfl (by decide) rfl fl_Pk_98 d_Pk_fits_1 rfl rfl ?_
  refine wk_iload (pc := 4) S_ 4 d_Pk_fits_4 rfl ?_
  refine wk_ialdN (pc := 6) (g := ab) S_ 15 0 d_Pk_fits_6 rfl rfl (by omega) (by decide) ?_
  refine wk_aload_n (pc := 7) S_ 0 d_Pk_fits_7 rfl rfl ?_
  refine wk_get (pc := 8) (v := .ref (k 1)) S_ 3 0 0 in_Pk rfl (by decide) rfl fl_Pk_9 d_Pk_fits_8 rfl rfl ?_
  refine wk_iload (pc := 11) S_ 4 d_Pk_fits_11 rfl ?_
  refine wk_ialdN (pc := 13) (g := gi) S_ 1 0 d_Pk_fits_13 rfl rfl (by omega) (by decide) ?_
  refine wk_iaddN (pc := 14) S_ d_Pk_fits_14 ?_
  refine wk_aload_n (pc := 15) S_ 1 d_Pk_fits_15 rfl rfl ?_
  refine wk_get (pc := 16) (v := .ref (s 2)) S_ 2 1 7 in_St rfl (by decide) rfl fl_Pk_101 d_Pk_fits_16 rfl rfl ?_
  refine wk_iload_n (pc := 19) S_ 3 d_Pk_fits_19 rfl rfl ?_
  refine wk_ialdN (pc := 20) (g := gr) S_ 9 0 d_Pk_fits_20 rfl rfl (by omega) (by decide) ?_
  refine wk_iaddN (pc := 21) S_ d_Pk_fits_21 ?_
  refine wk_istore (pc := 22) (lv' := [(5, .int (nI ((((ab) (x)) + ((gi) (x))) + ((gr) (j))))), (0, .ref (k 0)), (1, .ref (s 0)), (2, .ref (w 0)), (3, .int (nI (j))), (4, .int (nI (x)))]) S_ d_Pk_fits_22 (by decide) rfl ?_
  refine wk_aload_n (pc := 24) S_ 1 d_Pk_fits_24 rfl rfl ?_
  refine wk_get (pc := 25) (v := .ref (k 2)) S_ 3 1 0 in_Pk rfl (by decide) rfl fl_Pk_15 d_Pk_fits_25 rfl rfl ?_
  refine wk_iload (pc := 28) S_ 5 d_Pk_fits_28 rfl ?_
  refine wk_ialdN (pc := 30) (g := bi) S_ 2 0 d_Pk_fits_30 rfl rfl (by omega) (by decide) ?_
  refine wk_aload_n (pc := 31) S_ 2 d_Pk_fits_31 rfl rfl ?_
  refine wk_get (pc := 32) (v := .ref (s 7)) S_ 2 8 7 in_St rfl (by decide) rfl fl_Pk_104 d_Pk_fits_32 rfl rfl ?_
  refine wk_iload (pc := 35) S_ 5 d_Pk_fits_35 rfl ?_
  refine wk_ialdN (pc := 37) (g := bb) S_ 14 0 d_Pk_fits_37 rfl rfl (by omega) (by decide) ?_
  refine wk_icmp_geN (pc := 38) (tgt := 79) S_ d_Pk_fits_38 (by decide) (by omega) (by omega) (fun h38 => ?_) (fun h38 => ?_)
  · -- taken
    refine wk_iconst (pc := 79) (v := (nI (0))) S_ d_Pk_fits_79 (by decide) ?_
    exact hQ_ (nI (0)) () d_Pk_fits_80 rfl rfl (bI_f (decide_eq_false (fun z => absurd z.1 (by omega))))
  · -- on
    refine wk_iload (pc := 41) S_ 0 d_Pk_fits_41 rfl ?_
    refine wk_aload_n (pc := 43) S_ 2 d_Pk_fits_43 rfl rfl ?_
    refine wk_get (pc := 44) (v := .ref (s 6)) S_ 2 7 7 in_St rfl (by decide) rfl fl_Pk_107 d_Pk_fits_44 rfl rfl ?_
    refine wk_iload (pc := 47) S_ 5 d_Pk_fits_47 rfl ?_
    refine wk_ialdN (pc := 49) (g := bg) S_ 13 0 d_Pk_fits_49 rfl rfl (by omega) (by decide) ?_
    refine wk_icmp_gtN (pc := 50) (tgt := 79) S_ d_Pk_fits_50 (by decide) (by omega) (by omega) (fun h50 => ?_) (fun h50 => ?_)
    · -- taken
      refine wk_iconst (pc := 79) (v := (nI (0))) S_ d_Pk_fits_79 (by decide) ?_
      exact hQ_ (nI (0)) () d_Pk_fits_80 rfl rfl (bI_f (decide_eq_false (fun z => absurd z.2.1 (by omega))))
    · -- on
      refine wk_aload_n (pc := 53) S_ 1 d_Pk_fits_53 rfl rfl ?_
      refine wk_get (pc := 54) (v := .ref (k 3)) S_ 3 2 0 in_Pk rfl (by decide) rfl fl_Pk_18 d_Pk_fits_54 rfl rfl ?_
      refine wk_iload (pc := 57) S_ 5 d_Pk_fits_57 rfl ?_
      refine wk_ialdN (pc := 59) (g := ki) S_ 3 0 d_Pk_fits_59 rfl rfl (by omega) (by decide) ?_
      refine wk_aload_n (pc := 60) S_ 3 d_Pk_fits_60 rfl rfl ?_
      refine wk_get (pc := 61) (v := .ref (w 1)) S_ 5 0 16 in_Rl rfl (by decide) rfl fl_Pk_110 d_Pk_fits_61 rfl rfl ?_
      refine wk_aload_n (pc := 64) S_ 2 d_Pk_fits_64 rfl rfl ?_
      refine wk_get (pc := 65) (v := .ref (s 1)) S_ 2 0 7 in_St rfl (by decide) rfl fl_Pk_115 d_Pk_fits_65 rfl rfl ?_
      refine wk_iload_n (pc := 68) S_ 4 d_Pk_fits_68 rfl rfl ?_
      refine wk_ialdY (pc := 69) (g := cl) S_ 8 0 d_Pk_fits_69 rfl rfl (by omega) (by decide) ?_
      refine wk_top (y := (nI (cl j - 1))) (zI_p hc.1) ?_
      refine wk_ialdN (pc := 70) (g := ap) S_ 17 0 d_Pk_fits_70 rfl rfl (by omega) (by decide) ?_
      refine wk_iandN (pc := 71) S_ d_Pk_fits_71 ?_
      refine wk_if_neN (pc := 72) (tgt := 79) S_ d_Pk_fits_72 (by decide) (Nat.lt_of_le_of_lt Nat.and_le_left (by omega)) (fun h72 => ?_) (fun h72 => ?_)
      · -- taken
        refine wk_iconst (pc := 79) (v := (nI (0))) S_ d_Pk_fits_79 (by decide) ?_
        exact hQ_ (nI (0)) () d_Pk_fits_80 rfl rfl (bI_f (decide_eq_false (fun z => h72 z.2.2)))
      · -- on
        refine wk_iconst (pc := 75) (v := (nI (1))) S_ d_Pk_fits_75 (by decide) ?_
        refine wk_goto (pc := 76) (tgt := 80) S_ d_Pk_fits_76 (by decide) ?_
        exact hQ_ (nI (1)) () d_Pk_fits_80 rfl rfl (bI_t (decide_eq_true ⟨by omega, by omega, h72⟩))
set_option maxHeartbeats 4000000 in
set_option maxRecDepth 100000 in
theorem c_Pk_putIn (l : Launch) (D : va_G) (cI : CiT) (z : GzT) (k : Nat → Nat) (s : Nat → Nat) (b : Nat → Nat) (gi : (Nat → Nat)) (bi : (Nat → Nat)) (ki : (Nat → Nat)) (qu : (Nat → Nat)) (wt : Nat) (tr : (Nat → Nat)) (be : (Nat → Nat)) (fw : Nat) (fd : Bool) (cl : (Nat → Nat)) (gr : (Nat → Nat)) (sp : (Nat → Nat)) (rs : (Nat → Nat)) (aw : (Nat → Nat)) (nb : Nat) (na : Nat) (bg : (Nat → Nat)) (bb : (Nat → Nat)) (ab : (Nat → Nat)) (nx : Nat) (j : Nat) (x : Nat) (hj : j < 8) (hx : x < 5) (hc : cl j ≠ 0 ∧ cl j ≤ 9) : wk_C l D (tyK cI) (gX z) y_Pk_putIn b_Pk_putIn 4 none 0 0 0 0 [.ref (k 0), .ref (s 0), .int (nI (j)), .int (nI (x))] (wPk k cI (b 0) gi bi ki qu wt tr be fw fd ++ (wSt s cI cl gr sp rs aw nb na bg bb ab nx)) wk_v (fun (_ : Unit) (_ : Unit) => True) (fun _ => (wPk k cI (b 0) (va_up gi x (gi x + gr j)) (va_up bi x (bi x + 1)) (va_up ki x (ki x ||| 2 ^ (cl j - 1))) qu wt (va_up tr j (x + 1)) be fw fd ++ (wSt s cI cl gr sp rs aw nb na bg bb ab nx))) := by
  refine wk_methV (own := R_Pk) [(0, .ref (k 0)), (1, .ref (s 0)), (2, .int (nI (j))), (3, .int (nI (x)))] (by decide) rfl (Nat.le_of_ble_eq_true rfl) rfl (gX_ok z) (fun p_ e_ R_ s_ m_ ar_ be_ me_ co_ Q_ A_ hR_ S_ hnm_ hQ_ => ?_)
  refine wk_aload_n (pc := 0) S_ 0 d_Pk_putIn_0 rfl rfl ?_
  refine wk_get (pc := 1) (v := .ref (k 1)) S_ 3 0 0 in_Pk rfl (by decide) rfl fl_Pk_9 d_Pk_putIn_1 rfl rfl ?_
  refine wk_iload_n (pc := 4) S_ 3 d_Pk_putIn_4 rfl rfl ?_
  refine wk_dup2 (pc := 5) S_ d_Pk_putIn_5 rfl rfl ?_
  refine wk_ialdN (pc := 6) (g := gi) S_ 1 0 d_Pk_putIn_6 rfl rfl (by omega) (by decide) ?_
  refine wk_aload_n (pc := 7) S_ 1 d_Pk_putIn_7 rfl rfl ?_
  refine wk_get (pc := 8) (v := .ref (s 2)) S_ 2 1 7 in_St rfl (by decide) rfl fl_Pk_101 d_Pk_putIn_8 rfl rfl ?_
  refine wk_iload_n (pc := 11) S_ 2 d_Pk_putIn_11 rfl rfl ?_
  refine wk_ialdN (pc := 12) (g := gr) S_ 9 0 d_Pk_putIn_12 rfl rfl (by omega) (by decide) ?_
  refine wk_iaddN (pc := 13) S_ d_Pk_putIn_13 ?_
  refine wk_iastN (pc := 14) (g := gi) (ws' := (wPk k cI (b 0) (va_up (gi) (x) (((gi) (x)) + ((gr) (j)))) bi ki qu wt tr be fw fd ++ (wSt s cI cl gr sp rs aw nb na bg bb ab nx))) S_ 1 0 d_Pk_putIn_14 rfl rfl (by omega) (by decide) rfl ?_
  refine wk_aload_n (pc := 15) S_ 0 d_Pk_putIn_15 rfl rfl ?_
  refine wk_get (pc := 16) (v := .ref (k 2)) S_ 3 1 0 in_Pk rfl (by decide) rfl fl_Pk_15 d_Pk_putIn_16 rfl rfl ?_
  refine wk_iload_n (pc := 19) S_ 3 d_Pk_putIn_19 rfl rfl ?_
  refine wk_dup2 (pc := 20) S_ d_Pk_putIn_20 rfl rfl ?_
  refine wk_ialdN (pc := 21) (g := bi) S_ 2 0 d_Pk_putIn_21 rfl rfl (by omega) (by decide) ?_
  refine wk_iconst (pc := 22) (v := (nI (1))) S_ d_Pk_putIn_22 (by decide) ?_
  refine wk_iaddN (pc := 23) S_ d_Pk_putIn_23 ?_
  refine wk_iastN (pc := 24) (g := bi) (ws' := (wPk k cI (b 0) (va_up (gi) (x) (((gi) (x)) + ((gr) (j)))) (va_up (bi) (x) (((bi) (x)) + (1))) ki qu wt tr be fw fd ++ (wSt s cI cl gr sp rs aw nb na bg bb ab nx))) S_ 2 0 d_Pk_putIn_24 rfl rfl (by omega) (by decide) rfl ?_
  refine wk_aload_n (pc := 25) S_ 0 d_Pk_putIn_25 rfl rfl ?_
  refine wk_get (pc := 26) (v := .ref (k 3)) S_ 3 2 0 in_Pk rfl (by decide) rfl fl_Pk_18 d_Pk_putIn_26 rfl rfl ?_
  refine wk_iload_n (pc := 29) S_ 3 d_Pk_putIn_29 rfl rfl ?_
  refine wk_dup2 (pc := 30) S_ d_Pk_putIn_30 rfl rfl ?_
  refine wk_ialdN (pc := 31) (g := ki) S_ 3 0 d_Pk_putIn_31 rfl rfl (by omega) (by decide) ?_
  refine wk_iconst (pc := 32) (v := (nI (1))) S_ d_Pk_putIn_32 (by decide) ?_
  refine wk_aload_n (pc := 33) S_ 1 d_Pk_putIn_33 rfl rfl ?_
  refine wk_get (pc := 34) (v := .ref (s 1)) S_ 2 0 7 in_St rfl (by decide) rfl fl_Pk_115 d_Pk_putIn_34 rfl rfl ?_
  refine wk_iload_n (pc := 37) S_ 2 d_Pk_putIn_37 rfl rfl ?_
  refine wk_ialdY (pc := 38) (g := cl) S_ 8 0 d_Pk_putIn_38 rfl rfl (by omega) (by decide) ?_
  refine wk_top (y := (nI (cl j - 1))) (zI_p hc.1) ?_
  refine wk_ishlN (pc := 39) S_ d_Pk_putIn_39 (by omega) ?_
  refine wk_iorN (pc := 40) S_ d_Pk_putIn_40 ?_
  refine wk_iastN (pc := 41) (g := ki) (ws' := (wPk k cI (b 0) (va_up (gi) (x) (((gi) (x)) + ((gr) (j)))) (va_up (bi) (x) (((bi) (x)) + (1))) (va_up (ki) (x) (((ki) (x)) ||| (2 ^ (cl j - 1)))) qu wt tr be fw fd ++ (wSt s cI cl gr sp rs aw nb na bg bb ab nx))) S_ 3 0 d_Pk_putIn_41 rfl rfl (by omega) (by decide) rfl ?_
  refine wk_aload_n (pc := 42) S_ 0 d_Pk_putIn_42 rfl rfl ?_
  refine wk_get (pc := 43) (v := .ref (k 5)) S_ 3 5 0 in_Pk rfl (by decide) rfl fl_Pk_24 d_Pk_putIn_43 rfl rfl ?_
  refine wk_iload_n (pc := 46) S_ 2 d_Pk_putIn_46 rfl rfl ?_
  refine wk_iload_n (pc := 47) S_ 3 d_Pk_putIn_47 rfl rfl ?_
  refine wk_iastYN (pc := 48) (g := tr) (ws' := (wPk k cI (b 0) (va_up (gi) (x) (((gi) (x)) + ((gr) (j)))) (va_up (bi) (x) (((bi) (x)) + (1))) (va_up (ki) (x) (((ki) (x)) ||| (2 ^ (cl j - 1)))) qu wt (va_up (tr) (j) ((x) + 1)) be fw fd ++ (wSt s cI cl gr sp rs aw nb na bg bb ab nx))) S_ 5 0 d_Pk_putIn_48 rfl rfl (by omega) (by decide) rfl ?_
  exact hQ_ () d_Pk_putIn_49 rfl trivial
set_option maxHeartbeats 4000000 in
set_option maxRecDepth 100000 in
theorem c_Pk_takeOut (l : Launch) (D : va_G) (cI : CiT) (z : GzT) (k : Nat → Nat) (s : Nat → Nat) (b : Nat → Nat) (gi : (Nat → Nat)) (bi : (Nat → Nat)) (ki : (Nat → Nat)) (qu : (Nat → Nat)) (wt : Nat) (tr : (Nat → Nat)) (be : (Nat → Nat)) (fw : Nat) (fd : Bool) (cl : (Nat → Nat)) (gr : (Nat → Nat)) (sp : (Nat → Nat)) (rs : (Nat → Nat)) (aw : (Nat → Nat)) (nb : Nat) (na : Nat) (bg : (Nat → Nat)) (bb : (Nat → Nat)) (ab : (Nat → Nat)) (nx : Nat) (j : Nat) (x : Nat) (y : Nat) (hj : j < 8) (hx : x < 5) (hgi : gr j ≤ gi x) (hbi : 1 ≤ bi x) : wk_C l D (tyK cI) (gX z) y_Pk_takeOut b_Pk_takeOut 5 none 0 0 0 0 [.ref (k 0), .ref (s 0), .int (nI (j)), .int (nI (x)), .int (nI (y))] (wPk k cI (b 0) gi bi ki qu wt tr be fw fd ++ (wSt s cI cl gr sp rs aw nb na bg bb ab nx)) wk_v (fun (_ : Unit) (_ : Unit) => True) (fun _ => (wPk k cI (b 0) (va_up gi x (gi x - gr j)) (va_up bi x (bi x - 1)) (va_up ki x y) qu wt tr be fw fd ++ (wSt s cI cl gr sp rs aw nb na bg bb ab nx))) := by
  refine wk_methV (own := R_Pk) [(0, .ref (k 0)), (1, .ref (s 0)), (2, .int (nI (j))), (3, .int (nI (x))), (4, .int (nI (y)))] (by decide) rfl (Nat.le_of_ble_eq_true rfl) rfl (gX_ok z) (fun p_ e_ R_ s_ m_ ar_ be_ me_ co_ Q_ A_ hR_ S_ hnm_ hQ_ => ?_)
  refine wk_aload_n (pc := 0) S_ 0 d_Pk_takeOut_0 rfl rfl ?_
  refine wk_get (pc := 1) (v := .ref (k 1)) S_ 3 0 0 in_Pk rfl (by decide) rfl fl_Pk_9 d_Pk_takeOut_1 rfl rfl ?_
  refine wk_iload_n (pc := 4) S_ 3 d_Pk_takeOut_4 rfl rfl ?_
  refine wk_dup2 (pc := 5) S_ d_Pk_takeOut_5 rfl rfl ?_
  refine wk_ialdN (pc := 6) (g := gi) S_ 1 0 d_Pk_takeOut_6 rfl rfl (by omega) (by decide) ?_
  refine wk_aload_n (pc := 7) S_ 1 d_Pk_takeOut_7 rfl rfl ?_
  refine wk_get (pc := 8) (v := .ref (s 2)) S_ 2 1 7 in_St rfl (by decide) rfl fl_Pk_101 d_Pk_takeOut_8 rfl rfl ?_
  refine wk_iload_n (pc := 11) S_ 2 d_Pk_takeOut_11 rfl rfl ?_
  refine wk_ialdN (pc := 12) (g := gr) S_ 9 0 d_Pk_takeOut_12 rfl rfl (by omega) (by decide) ?_
  refine wk_isubN (pc := 13) S_ d_Pk_takeOut_13 (by omega) ?_
  refine wk_iastN (pc := 14) (g := gi) (ws' := (wPk k cI (b 0) (va_up (gi) (x) (((gi) (x)) - ((gr) (j)))) bi ki qu wt tr be fw fd ++ (wSt s cI cl gr sp rs aw nb na bg bb ab nx))) S_ 1 0 d_Pk_takeOut_14 rfl rfl (by omega) (by decide) rfl ?_
  refine wk_aload_n (pc := 15) S_ 0 d_Pk_takeOut_15 rfl rfl ?_
  refine wk_get (pc := 16) (v := .ref (k 2)) S_ 3 1 0 in_Pk rfl (by decide) rfl fl_Pk_15 d_Pk_takeOut_16 rfl rfl ?_
  refine wk_iload_n (pc := 19) S_ 3 d_Pk_takeOut_19 rfl rfl ?_
  refine wk_dup2 (pc := 20) S_ d_Pk_takeOut_20 rfl rfl ?_
  refine wk_ialdN (pc := 21) (g := bi) S_ 2 0 d_Pk_takeOut_21 rfl rfl (by omega) (by decide) ?_
  refine wk_iconst (pc := 22) (v := (nI (1))) S_ d_Pk_takeOut_22 (by decide) ?_
  refine wk_isubN (pc := 23) S_ d_Pk_takeOut_23 (by omega) ?_
  refine wk_iastN (pc := 24) (g := bi) (ws' := (wPk k cI (b 0) (va_up (gi) (x) (((gi) (x)) - ((gr) (j)))) (va_up (bi) (x) (((bi) (x)) - (1))) ki qu wt tr be fw fd ++ (wSt s cI cl gr sp rs aw nb na bg bb ab nx))) S_ 2 0 d_Pk_takeOut_24 rfl rfl (by omega) (by decide) rfl ?_
  refine wk_aload_n (pc := 25) S_ 0 d_Pk_takeOut_25 rfl rfl ?_
  refine wk_get (pc := 26) (v := .ref (k 3)) S_ 3 2 0 in_Pk rfl (by decide) rfl fl_Pk_18 d_Pk_takeOut_26 rfl rfl ?_
  refine wk_iload_n (pc := 29) S_ 3 d_Pk_takeOut_29 rfl rfl ?_
  refine wk_iload (pc := 30) S_ 4 d_Pk_takeOut_30 rfl ?_
  refine wk_iastN (pc := 32) (g := ki) (ws' := (wPk k cI (b 0) (va_up (gi) (x) (((gi) (x)) - ((gr) (j)))) (va_up (bi) (x) (((bi) (x)) - (1))) (va_up (ki) (x) (y)) qu wt tr be fw fd ++ (wSt s cI cl gr sp rs aw nb na bg bb ab nx))) S_ 3 0 d_Pk_takeOut_32 rfl rfl (by omega) (by decide) rfl ?_
  exact hQ_ () d_Pk_takeOut_33 rfl trivial
