abbrev b_Lw_law : ByteArray := code
theorem cl_Lw_7 : Cond.classLink R_Lw 7 R_PL ∈ lw_gd := (gd _ (tb0 _ (List.mem_of_getElem? (i := 18) rfl)) rfl)
theorem mv_Lw_9 : wk_N R_Lw 9 y_PL_init b_PL_init 1 0 := ⟨(gd _ (tb0 _ (List.mem_of_getElem? (i := 22) rfl)) rfl), (gd _ (tb0 _ (List.mem_of_getElem? (i := 1) rfl)) rfl), (gd _ (tb0 _ (List.mem_of_getElem? (i := 20) rfl)) rfl), (by decide +kernel), (gd _ (tb0 _ (List.mem_of_getElem? (i := 21) rfl)) rfl), rfl⟩
theorem cl_Lw_10 : Cond.classLink R_Lw 10 R_Md ∈ lw_gd := (gd _ (tb2 _ (List.mem_of_getElem? (i := 138) rfl)) rfl)
theorem mv_Lw_12 : wk_N R_Lw 12 y_Md_init b_Md_init 2 0 := ⟨(gd _ (tb2 _ (List.mem_of_getElem? (i := 142) rfl)) rfl), (gd _ (tb0 _ (List.mem_of_getElem? (i := 8) rfl)) rfl), (gd _ (tb2 _ (List.mem_of_getElem? (i := 140) rfl)) rfl), (by decide +kernel), (gd _ (tb2 _ (List.mem_of_getElem? (i := 141) rfl)) rfl), rfl⟩
theorem mv_Lw_13 : wk_V R_Lw 13 R_PL y_PL_unit b_PL_unit 2 (some .boolean) 1 := ⟨(gd _ (tb1 _ (List.mem_of_getElem? (i := 10) rfl)) rfl), (gd _ (tb0 _ (List.mem_of_getElem? (i := 1) rfl)) rfl), (gd _ (tb1 _ (List.mem_of_getElem? (i := 7) rfl)) rfl), (by decide +kernel), (gd _ (tb1 _ (List.mem_of_getElem? (i := 8) rfl)) rfl), (gd _ (tb1 _ (List.mem_of_getElem? (i := 9) rfl)) rfl)⟩
theorem mv_Lw_17 : wk_V R_Lw 17 R_Md y_Md_unit b_Md_unit 2 (some .boolean) 1 := ⟨(gd _ (tb3 _ (List.mem_of_getElem? (i := 55) rfl)) rfl), (gd _ (tb0 _ (List.mem_of_getElem? (i := 8) rfl)) rfl), (gd _ (tb3 _ (List.mem_of_getElem? (i := 52) rfl)) rfl), (by decide +kernel), (gd _ (tb3 _ (List.mem_of_getElem? (i := 53) rfl)) rfl), (gd _ (tb3 _ (List.mem_of_getElem? (i := 54) rfl)) rfl)⟩
theorem mv_Lw_18 : wk_V R_Lw 18 R_PL y_PL_rules b_PL_rules 3 (some .int) 0 := ⟨(gd _ (tb1 _ (List.mem_of_getElem? (i := 18) rfl)) rfl), (gd _ (tb0 _ (List.mem_of_getElem? (i := 1) rfl)) rfl), (gd _ (tb1 _ (List.mem_of_getElem? (i := 15) rfl)) rfl), (by decide +kernel), (gd _ (tb1 _ (List.mem_of_getElem? (i := 16) rfl)) rfl), (gd _ (tb1 _ (List.mem_of_getElem? (i := 17) rfl)) rfl)⟩
theorem mv_Lw_22 : wk_V R_Lw 22 R_Md y_Md_rules b_Md_rules 8 (some .int) 0 := ⟨(gd _ (tb3 _ (List.mem_of_getElem? (i := 63) rfl)) rfl), (gd _ (tb0 _ (List.mem_of_getElem? (i := 8) rfl)) rfl), (gd _ (tb3 _ (List.mem_of_getElem? (i := 60) rfl)) rfl), (by decide +kernel), (gd _ (tb3 _ (List.mem_of_getElem? (i := 61) rfl)) rfl), (gd _ (tb3 _ (List.mem_of_getElem? (i := 62) rfl)) rfl)⟩
theorem kc_Lw_23 : Cond.constantLong R_Lw 23 (lN 4294967295) ∈ lw_gd := (gd _ (tb4 _ (List.mem_of_getElem? (i := 4) rfl)) rfl)
theorem mv_Lw_25 : wk_V R_Lw 25 R_PL y_PL_bottle b_PL_bottle 5 (some .int) 2 := ⟨(gd _ (tb1 _ (List.mem_of_getElem? (i := 167) rfl)) rfl), (gd _ (tb0 _ (List.mem_of_getElem? (i := 1) rfl)) rfl), (gd _ (tb1 _ (List.mem_of_getElem? (i := 164) rfl)) rfl), (by decide +kernel), (gd _ (tb1 _ (List.mem_of_getElem? (i := 165) rfl)) rfl), (gd _ (tb1 _ (List.mem_of_getElem? (i := 166) rfl)) rfl)⟩
theorem mv_Lw_29 : wk_V R_Lw 29 R_Md y_Md_bottle b_Md_bottle 4 (some .int) 2 := ⟨(gd _ (tb3 _ (List.mem_of_getElem? (i := 118) rfl)) rfl), (gd _ (tb0 _ (List.mem_of_getElem? (i := 8) rfl)) rfl), (gd _ (tb3 _ (List.mem_of_getElem? (i := 115) rfl)) rfl), (by decide +kernel), (gd _ (tb3 _ (List.mem_of_getElem? (i := 116) rfl)) rfl), (gd _ (tb3 _ (List.mem_of_getElem? (i := 117) rfl)) rfl)⟩
theorem mv_Lw_30 : wk_V R_Lw 30 R_PL y_PL_box b_PL_box 6 (some .int) 3 := ⟨(gd _ (tb1 _ (List.mem_of_getElem? (i := 179) rfl)) rfl), (gd _ (tb0 _ (List.mem_of_getElem? (i := 1) rfl)) rfl), (gd _ (tb1 _ (List.mem_of_getElem? (i := 176) rfl)) rfl), (by decide +kernel), (gd _ (tb1 _ (List.mem_of_getElem? (i := 177) rfl)) rfl), (gd _ (tb1 _ (List.mem_of_getElem? (i := 178) rfl)) rfl)⟩
theorem mv_Lw_34 : wk_V R_Lw 34 R_Md y_Md_box b_Md_box 5 (some .int) 3 := ⟨(gd _ (tb3 _ (List.mem_of_getElem? (i := 125) rfl)) rfl), (gd _ (tb0 _ (List.mem_of_getElem? (i := 8) rfl)) rfl), (gd _ (tb3 _ (List.mem_of_getElem? (i := 122) rfl)) rfl), (by decide +kernel), (gd _ (tb3 _ (List.mem_of_getElem? (i := 123) rfl)) rfl), (gd _ (tb3 _ (List.mem_of_getElem? (i := 124) rfl)) rfl)⟩
theorem mv_Lw_35 : wk_V R_Lw 35 R_PL y_PL_absorber b_PL_absorber 4 (some .boolean) 2 := ⟨(gd _ (tb1 _ (List.mem_of_getElem? (i := 191) rfl)) rfl), (gd _ (tb0 _ (List.mem_of_getElem? (i := 1) rfl)) rfl), (gd _ (tb1 _ (List.mem_of_getElem? (i := 188) rfl)) rfl), (by decide +kernel), (gd _ (tb1 _ (List.mem_of_getElem? (i := 189) rfl)) rfl), (gd _ (tb1 _ (List.mem_of_getElem? (i := 190) rfl)) rfl)⟩
theorem mv_Lw_39 : wk_V R_Lw 39 R_Md y_Md_absorber b_Md_absorber 4 (some .boolean) 2 := ⟨(gd _ (tb3 _ (List.mem_of_getElem? (i := 131) rfl)) rfl), (gd _ (tb0 _ (List.mem_of_getElem? (i := 8) rfl)) rfl), (gd _ (tb3 _ (List.mem_of_getElem? (i := 128) rfl)) rfl), (by decide +kernel), (gd _ (tb3 _ (List.mem_of_getElem? (i := 129) rfl)) rfl), (gd _ (tb3 _ (List.mem_of_getElem? (i := 130) rfl)) rfl)⟩
theorem mv_Lw_40 : wk_V R_Lw 40 R_PL y_PL_pack b_PL_pack 4 (some .int) 1 := ⟨(gd _ (tb1 _ (List.mem_of_getElem? (i := 199) rfl)) rfl), (gd _ (tb0 _ (List.mem_of_getElem? (i := 1) rfl)) rfl), (gd _ (tb1 _ (List.mem_of_getElem? (i := 196) rfl)) rfl), (by decide +kernel), (gd _ (tb1 _ (List.mem_of_getElem? (i := 197) rfl)) rfl), (gd _ (tb1 _ (List.mem_of_getElem? (i := 198) rfl)) rfl)⟩
theorem mv_Lw_44 : wk_V R_Lw 44 R_Md y_Md_pack b_Md_pack 9 (some .int) 1 := ⟨(gd _ (tb3 _ (List.mem_of_getElem? (i := 152) rfl)) rfl), (gd _ (tb0 _ (List.mem_of_getElem? (i := 8) rfl)) rfl), (gd _ (tb3 _ (List.mem_of_getElem? (i := 149) rfl)) rfl), (by decide +kernel), (gd _ (tb3 _ (List.mem_of_getElem? (i := 150) rfl)) rfl), (gd _ (tb3 _ (List.mem_of_getElem? (i := 151) rfl)) rfl)⟩
theorem mv_Lw_45 : wk_V R_Lw 45 R_PL y_PL_boxOf b_PL_boxOf 2 (some .int) 1 := ⟨(gd _ (tb2 _ (List.mem_of_getElem? (i := 9) rfl)) rfl), (gd _ (tb0 _ (List.mem_of_getElem? (i := 1) rfl)) rfl), (gd _ (tb2 _ (List.mem_of_getElem? (i := 6) rfl)) rfl), (by decide +kernel), (gd _ (tb2 _ (List.mem_of_getElem? (i := 7) rfl)) rfl), (gd _ (tb2 _ (List.mem_of_getElem? (i := 8) rfl)) rfl)⟩
theorem mv_Lw_49 : wk_V R_Lw 49 R_Md y_Md_boxOf b_Md_boxOf 2 (some .int) 1 := ⟨(gd _ (tb3 _ (List.mem_of_getElem? (i := 172) rfl)) rfl), (gd _ (tb0 _ (List.mem_of_getElem? (i := 8) rfl)) rfl), (gd _ (tb3 _ (List.mem_of_getElem? (i := 169) rfl)) rfl), (by decide +kernel), (gd _ (tb3 _ (List.mem_of_getElem? (i := 170) rfl)) rfl), (gd _ (tb3 _ (List.mem_of_getElem? (i := 171) rfl)) rfl)⟩
theorem mv_Lw_50 : wk_V R_Lw 50 R_PL y_PL_proved b_PL_proved 1 (some .boolean) 0 := ⟨(gd _ (tb2 _ (List.mem_of_getElem? (i := 17) rfl)) rfl), (gd _ (tb0 _ (List.mem_of_getElem? (i := 1) rfl)) rfl), (gd _ (tb2 _ (List.mem_of_getElem? (i := 14) rfl)) rfl), (by decide +kernel), (gd _ (tb2 _ (List.mem_of_getElem? (i := 15) rfl)) rfl), (gd _ (tb2 _ (List.mem_of_getElem? (i := 16) rfl)) rfl)⟩
theorem mv_Lw_54 : wk_V R_Lw 54 R_Md y_Md_proved b_Md_proved 1 (some .boolean) 0 := ⟨(gd _ (tb3 _ (List.mem_of_getElem? (i := 176) rfl)) rfl), (gd _ (tb0 _ (List.mem_of_getElem? (i := 8) rfl)) rfl), (gd _ (tb3 _ (List.mem_of_getElem? (i := 173) rfl)) rfl), (by decide +kernel), (gd _ (tb3 _ (List.mem_of_getElem? (i := 174) rfl)) rfl), (gd _ (tb3 _ (List.mem_of_getElem? (i := 175) rfl)) rfl)⟩
theorem mv_Lw_55 : wk_V R_Lw 55 R_PL y_PL_kept b_PL_kept 1 (some .boolean) 0 := ⟨(gd _ (tb2 _ (List.mem_of_getElem? (i := 21) rfl)) rfl), (gd _ (tb0 _ (List.mem_of_getElem? (i := 1) rfl)) rfl), (gd _ (tb2 _ (List.mem_of_getElem? (i := 18) rfl)) rfl), (by decide +kernel), (gd _ (tb2 _ (List.mem_of_getElem? (i := 19) rfl)) rfl), (gd _ (tb2 _ (List.mem_of_getElem? (i := 20) rfl)) rfl)⟩
theorem mv_Lw_58 : wk_V R_Lw 58 R_Md y_Md_kept b_Md_kept 3 (some .boolean) 0 := ⟨(gd _ (tb3 _ (List.mem_of_getElem? (i := 180) rfl)) rfl), (gd _ (tb0 _ (List.mem_of_getElem? (i := 8) rfl)) rfl), (gd _ (tb3 _ (List.mem_of_getElem? (i := 177) rfl)) rfl), (by decide +kernel), (gd _ (tb3 _ (List.mem_of_getElem? (i := 178) rfl)) rfl), (gd _ (tb3 _ (List.mem_of_getElem? (i := 179) rfl)) rfl)⟩
theorem mv_Lw_59 : wk_V R_Lw 59 R_PL y_PL_points b_PL_points 1 (some .long) 0 := ⟨(gd _ (tb2 _ (List.mem_of_getElem? (i := 29) rfl)) rfl), (gd _ (tb0 _ (List.mem_of_getElem? (i := 1) rfl)) rfl), (gd _ (tb2 _ (List.mem_of_getElem? (i := 26) rfl)) rfl), (by decide +kernel), (gd _ (tb2 _ (List.mem_of_getElem? (i := 27) rfl)) rfl), (gd _ (tb2 _ (List.mem_of_getElem? (i := 28) rfl)) rfl)⟩
theorem mv_Lw_63 : wk_V R_Lw 63 R_Md y_Md_points b_Md_points 4 (some .long) 0 := ⟨(gd _ (tb3 _ (List.mem_of_getElem? (i := 184) rfl)) rfl), (gd _ (tb0 _ (List.mem_of_getElem? (i := 8) rfl)) rfl), (gd _ (tb3 _ (List.mem_of_getElem? (i := 181) rfl)) rfl), (by decide +kernel), (gd _ (tb3 _ (List.mem_of_getElem? (i := 182) rfl)) rfl), (gd _ (tb3 _ (List.mem_of_getElem? (i := 183) rfl)) rfl)⟩
theorem mv_Lw_64 : wk_V R_Lw 64 R_PL y_PL_exempt b_PL_exempt 1 (some .boolean) 0 := ⟨(gd _ (tb2 _ (List.mem_of_getElem? (i := 46) rfl)) rfl), (gd _ (tb0 _ (List.mem_of_getElem? (i := 1) rfl)) rfl), (gd _ (tb2 _ (List.mem_of_getElem? (i := 43) rfl)) rfl), (by decide +kernel), (gd _ (tb2 _ (List.mem_of_getElem? (i := 44) rfl)) rfl), (gd _ (tb2 _ (List.mem_of_getElem? (i := 45) rfl)) rfl)⟩
theorem mv_Lw_67 : wk_V R_Lw 67 R_Md y_Md_exempt b_Md_exempt 1 (some .boolean) 0 := ⟨(gd _ (tb3 _ (List.mem_of_getElem? (i := 202) rfl)) rfl), (gd _ (tb0 _ (List.mem_of_getElem? (i := 8) rfl)) rfl), (gd _ (tb3 _ (List.mem_of_getElem? (i := 199) rfl)) rfl), (by decide +kernel), (gd _ (tb3 _ (List.mem_of_getElem? (i := 200) rfl)) rfl), (gd _ (tb3 _ (List.mem_of_getElem? (i := 201) rfl)) rfl)⟩
theorem mv_Lw_68 : wk_V R_Lw 68 R_PL y_PL_name b_PL_name 2 (some .int) 1 := ⟨(gd _ (tb2 _ (List.mem_of_getElem? (i := 55) rfl)) rfl), (gd _ (tb0 _ (List.mem_of_getElem? (i := 1) rfl)) rfl), (gd _ (tb2 _ (List.mem_of_getElem? (i := 52) rfl)) rfl), (by decide +kernel), (gd _ (tb2 _ (List.mem_of_getElem? (i := 53) rfl)) rfl), (gd _ (tb2 _ (List.mem_of_getElem? (i := 54) rfl)) rfl)⟩
theorem mv_Lw_71 : wk_V R_Lw 71 R_Md y_Md_name b_Md_name 3 (some .int) 1 := ⟨(gd _ (tb3 _ (List.mem_of_getElem? (i := 207) rfl)) rfl), (gd _ (tb0 _ (List.mem_of_getElem? (i := 8) rfl)) rfl), (gd _ (tb3 _ (List.mem_of_getElem? (i := 204) rfl)) rfl), (by decide +kernel), (gd _ (tb3 _ (List.mem_of_getElem? (i := 205) rfl)) rfl), (gd _ (tb3 _ (List.mem_of_getElem? (i := 206) rfl)) rfl)⟩
theorem mv_Lw_72 : wk_V R_Lw 72 R_PL y_PL_order b_PL_order 2 (some .int) 1 := ⟨(gd _ (tb2 _ (List.mem_of_getElem? (i := 67) rfl)) rfl), (gd _ (tb0 _ (List.mem_of_getElem? (i := 1) rfl)) rfl), (gd _ (tb2 _ (List.mem_of_getElem? (i := 64) rfl)) rfl), (by decide +kernel), (gd _ (tb2 _ (List.mem_of_getElem? (i := 65) rfl)) rfl), (gd _ (tb2 _ (List.mem_of_getElem? (i := 66) rfl)) rfl)⟩
theorem mv_Lw_75 : wk_V R_Lw 75 R_Md y_Md_order b_Md_order 5 (some .int) 1 := ⟨(gd _ (tb3 _ (List.mem_of_getElem? (i := 215) rfl)) rfl), (gd _ (tb0 _ (List.mem_of_getElem? (i := 8) rfl)) rfl), (gd _ (tb3 _ (List.mem_of_getElem? (i := 212) rfl)) rfl), (by decide +kernel), (gd _ (tb3 _ (List.mem_of_getElem? (i := 213) rfl)) rfl), (gd _ (tb3 _ (List.mem_of_getElem? (i := 214) rfl)) rfl)⟩
theorem mv_Lw_76 : wk_V R_Lw 76 R_PL y_PL_paper b_PL_paper 2 (some .int) 1 := ⟨(gd _ (tb2 _ (List.mem_of_getElem? (i := 75) rfl)) rfl), (gd _ (tb0 _ (List.mem_of_getElem? (i := 1) rfl)) rfl), (gd _ (tb2 _ (List.mem_of_getElem? (i := 72) rfl)) rfl), (by decide +kernel), (gd _ (tb2 _ (List.mem_of_getElem? (i := 73) rfl)) rfl), (gd _ (tb2 _ (List.mem_of_getElem? (i := 74) rfl)) rfl)⟩
theorem mv_Lw_79 : wk_V R_Lw 79 R_Md y_Md_paper b_Md_paper 4 (some .int) 1 := ⟨(gd _ (tb3 _ (List.mem_of_getElem? (i := 220) rfl)) rfl), (gd _ (tb0 _ (List.mem_of_getElem? (i := 8) rfl)) rfl), (gd _ (tb3 _ (List.mem_of_getElem? (i := 217) rfl)) rfl), (by decide +kernel), (gd _ (tb3 _ (List.mem_of_getElem? (i := 218) rfl)) rfl), (gd _ (tb3 _ (List.mem_of_getElem? (i := 219) rfl)) rfl)⟩
theorem mv_Lw_80 : wk_V R_Lw 80 R_PL y_PL_mark b_PL_mark 3 (some .int) 1 := ⟨(gd _ (tb2 _ (List.mem_of_getElem? (i := 91) rfl)) rfl), (gd _ (tb0 _ (List.mem_of_getElem? (i := 1) rfl)) rfl), (gd _ (tb2 _ (List.mem_of_getElem? (i := 88) rfl)) rfl), (by decide +kernel), (gd _ (tb2 _ (List.mem_of_getElem? (i := 89) rfl)) rfl), (gd _ (tb2 _ (List.mem_of_getElem? (i := 90) rfl)) rfl)⟩
theorem mv_Lw_83 : wk_V R_Lw 83 R_Md y_Md_mark b_Md_mark 6 (some .int) 1 := ⟨(gd _ (tb3 _ (List.mem_of_getElem? (i := 234) rfl)) rfl), (gd _ (tb0 _ (List.mem_of_getElem? (i := 8) rfl)) rfl), (gd _ (tb3 _ (List.mem_of_getElem? (i := 231) rfl)) rfl), (by decide +kernel), (gd _ (tb3 _ (List.mem_of_getElem? (i := 232) rfl)) rfl), (gd _ (tb3 _ (List.mem_of_getElem? (i := 233) rfl)) rfl)⟩
theorem mv_Lw_84 : wk_V R_Lw 84 R_PL y_PL_tunnel b_PL_tunnel 1 (some .int) 0 := ⟨(gd _ (tb2 _ (List.mem_of_getElem? (i := 99) rfl)) rfl), (gd _ (tb0 _ (List.mem_of_getElem? (i := 1) rfl)) rfl), (gd _ (tb2 _ (List.mem_of_getElem? (i := 96) rfl)) rfl), (by decide +kernel), (gd _ (tb2 _ (List.mem_of_getElem? (i := 97) rfl)) rfl), (gd _ (tb2 _ (List.mem_of_getElem? (i := 98) rfl)) rfl)⟩
theorem mv_Lw_87 : wk_V R_Lw 87 R_Md y_Md_tunnel b_Md_tunnel 3 (some .int) 0 := ⟨(gd _ (tb3 _ (List.mem_of_getElem? (i := 238) rfl)) rfl), (gd _ (tb0 _ (List.mem_of_getElem? (i := 8) rfl)) rfl), (gd _ (tb3 _ (List.mem_of_getElem? (i := 235) rfl)) rfl), (by decide +kernel), (gd _ (tb3 _ (List.mem_of_getElem? (i := 236) rfl)) rfl), (gd _ (tb3 _ (List.mem_of_getElem? (i := 237) rfl)) rfl)⟩
theorem mv_Lw_88 : wk_V R_Lw 88 R_PL y_PL_note b_PL_note 3 (some .int) 2 := ⟨(gd _ (tb2 _ (List.mem_of_getElem? (i := 108) rfl)) rfl), (gd _ (tb0 _ (List.mem_of_getElem? (i := 1) rfl)) rfl), (gd _ (tb2 _ (List.mem_of_getElem? (i := 105) rfl)) rfl), (by decide +kernel), (gd _ (tb2 _ (List.mem_of_getElem? (i := 106) rfl)) rfl), (gd _ (tb2 _ (List.mem_of_getElem? (i := 107) rfl)) rfl)⟩
theorem mv_Lw_92 : wk_V R_Lw 92 R_Md y_Md_note b_Md_note 3 (some .int) 2 := ⟨(gd _ (tb4 _ (List.mem_of_getElem? (i := 3) rfl)) rfl), (gd _ (tb0 _ (List.mem_of_getElem? (i := 8) rfl)) rfl), (gd _ (tb4 _ (List.mem_of_getElem? (i := 0) rfl)) rfl), (by decide +kernel), (gd _ (tb4 _ (List.mem_of_getElem? (i := 1) rfl)) rfl), (gd _ (tb4 _ (List.mem_of_getElem? (i := 2) rfl)) rfl)⟩
theorem mv_Lw_93 : wk_V R_Lw 93 R_PL y_PL_refuse b_PL_refuse 4 (some .int) 2 := ⟨(gd _ (tb2 _ (List.mem_of_getElem? (i := 116) rfl)) rfl), (gd _ (tb0 _ (List.mem_of_getElem? (i := 1) rfl)) rfl), (gd _ (tb2 _ (List.mem_of_getElem? (i := 113) rfl)) rfl), (by decide +kernel), (gd _ (tb2 _ (List.mem_of_getElem? (i := 114) rfl)) rfl), (gd _ (tb2 _ (List.mem_of_getElem? (i := 115) rfl)) rfl)⟩
theorem mv_Lw_96 : wk_V R_Lw 96 R_Md y_Md_refuse b_Md_refuse 3 (some .int) 2 := ⟨(gd _ (tb3 _ (List.mem_of_getElem? (i := 135) rfl)) rfl), (gd _ (tb0 _ (List.mem_of_getElem? (i := 8) rfl)) rfl), (gd _ (tb3 _ (List.mem_of_getElem? (i := 132) rfl)) rfl), (by decide +kernel), (gd _ (tb3 _ (List.mem_of_getElem? (i := 133) rfl)) rfl), (gd _ (tb3 _ (List.mem_of_getElem? (i := 134) rfl)) rfl)⟩
theorem mv_Lw_97 : wk_V R_Lw 97 R_PL y_PL_refused b_PL_refused 3 (some .int) 1 := ⟨(gd _ (tb2 _ (List.mem_of_getElem? (i := 125) rfl)) rfl), (gd _ (tb0 _ (List.mem_of_getElem? (i := 1) rfl)) rfl), (gd _ (tb2 _ (List.mem_of_getElem? (i := 122) rfl)) rfl), (by decide +kernel), (gd _ (tb2 _ (List.mem_of_getElem? (i := 123) rfl)) rfl), (gd _ (tb2 _ (List.mem_of_getElem? (i := 124) rfl)) rfl)⟩
theorem mv_Lw_100 : wk_V R_Lw 100 R_Md y_Md_refused b_Md_refused 2 (some .int) 1 := ⟨(gd _ (tb3 _ (List.mem_of_getElem? (i := 144) rfl)) rfl), (gd _ (tb0 _ (List.mem_of_getElem? (i := 8) rfl)) rfl), (gd _ (tb3 _ (List.mem_of_getElem? (i := 141) rfl)) rfl), (by decide +kernel), (gd _ (tb3 _ (List.mem_of_getElem? (i := 142) rfl)) rfl), (gd _ (tb3 _ (List.mem_of_getElem? (i := 143) rfl)) rfl)⟩
theorem mv_Lw_101 : wk_V R_Lw 101 R_PL y_PL_test b_PL_test 5 (some .int) 3 := ⟨(gd _ (tb2 _ (List.mem_of_getElem? (i := 129) rfl)) rfl), (gd _ (tb0 _ (List.mem_of_getElem? (i := 1) rfl)) rfl), (gd _ (tb2 _ (List.mem_of_getElem? (i := 126) rfl)) rfl), (by decide +kernel), (gd _ (tb2 _ (List.mem_of_getElem? (i := 127) rfl)) rfl), (gd _ (tb2 _ (List.mem_of_getElem? (i := 128) rfl)) rfl)⟩
theorem mv_Lw_105 : wk_V R_Lw 105 R_Md y_Md_test b_Md_test 5 (some .int) 3 := ⟨(gd _ (tb3 _ (List.mem_of_getElem? (i := 148) rfl)) rfl), (gd _ (tb0 _ (List.mem_of_getElem? (i := 8) rfl)) rfl), (gd _ (tb3 _ (List.mem_of_getElem? (i := 145) rfl)) rfl), (by decide +kernel), (gd _ (tb3 _ (List.mem_of_getElem? (i := 146) rfl)) rfl), (gd _ (tb3 _ (List.mem_of_getElem? (i := 147) rfl)) rfl)⟩
theorem d_Lw_law_0 : decode b_Lw_law 0 = .ok (.new 7, 3) := by decide +kernel
theorem d_Lw_law_3 : decode b_Lw_law 3 = .ok (.dup, 1) := by decide +kernel
theorem d_Lw_law_4 : decode b_Lw_law 4 = .ok (.invokespecial 9, 3) := by decide +kernel
theorem d_Lw_law_7 : decode b_Lw_law 7 = .ok (.astore_n 1, 1) := by decide +kernel
theorem d_Lw_law_8 : decode b_Lw_law 8 = .ok (.new 10, 3) := by decide +kernel
theorem d_Lw_law_11 : decode b_Lw_law 11 = .ok (.dup, 1) := by decide +kernel
theorem d_Lw_law_12 : decode b_Lw_law 12 = .ok (.invokespecial 12, 3) := by decide +kernel
theorem d_Lw_law_15 : decode b_Lw_law 15 = .ok (.astore_n 2, 1) := by decide +kernel
theorem d_Lw_law_16 : decode b_Lw_law 16 = .ok (.iconst 0, 1) := by decide +kernel
theorem d_Lw_law_17 : decode b_Lw_law 17 = .ok (.istore_n 3, 1) := by decide +kernel
theorem d_Lw_law_18 : decode b_Lw_law 18 = .ok (.iload_n 3, 1) := by decide +kernel
theorem d_Lw_law_19 : decode b_Lw_law 19 = .ok (.aload_n 0, 1) := by decide +kernel
theorem d_Lw_law_20 : decode b_Lw_law 20 = .ok (.arraylength, 1) := by decide +kernel
theorem d_Lw_law_21 : decode b_Lw_law 21 = .ok (.iconst 5, 1) := by decide +kernel
theorem d_Lw_law_22 : decode b_Lw_law 22 = .ok (.isub, 1) := by decide +kernel
theorem d_Lw_law_23 : decode b_Lw_law 23 = .ok (.if_icmp .gt 712, 3) := by decide +kernel
theorem d_Lw_law_26 : decode b_Lw_law 26 = .ok (.aload_n 0, 1) := by decide +kernel
theorem d_Lw_law_27 : decode b_Lw_law 27 = .ok (.iload_n 3, 1) := by decide +kernel
theorem d_Lw_law_28 : decode b_Lw_law 28 = .ok (.iaload, 1) := by decide +kernel
theorem d_Lw_law_29 : decode b_Lw_law 29 = .ok (.bipush 31, 2) := by decide +kernel
theorem d_Lw_law_31 : decode b_Lw_law 31 = .ok (.iand, 1) := by decide +kernel
theorem d_Lw_law_32 : decode b_Lw_law 32 = .ok (.tableswitch 697 0 19 #[96, 119, 132, 195, 268, 331, 384, 407, 420, 433, 447, 460, 483, 506, 529, 552, 565, 598, 631, 654], 96) := by decide +kernel
theorem d_Lw_law_128 : decode b_Lw_law 128 = .ok (.aload_n 1, 1) := by decide +kernel
theorem d_Lw_law_129 : decode b_Lw_law 129 = .ok (.aload_n 0, 1) := by decide +kernel
theorem d_Lw_law_130 : decode b_Lw_law 130 = .ok (.iload_n 3, 1) := by decide +kernel
theorem d_Lw_law_131 : decode b_Lw_law 131 = .ok (.iconst 1, 1) := by decide +kernel
theorem d_Lw_law_132 : decode b_Lw_law 132 = .ok (.iadd, 1) := by decide +kernel
theorem d_Lw_law_133 : decode b_Lw_law 133 = .ok (.iaload, 1) := by decide +kernel
theorem d_Lw_law_134 : decode b_Lw_law 134 = .ok (.invokevirtual 13, 3) := by decide +kernel
theorem d_Lw_law_137 : decode b_Lw_law 137 = .ok (.aload_n 2, 1) := by decide +kernel
theorem d_Lw_law_138 : decode b_Lw_law 138 = .ok (.aload_n 0, 1) := by decide +kernel
theorem d_Lw_law_139 : decode b_Lw_law 139 = .ok (.iload_n 3, 1) := by decide +kernel
theorem d_Lw_law_140 : decode b_Lw_law 140 = .ok (.iconst 1, 1) := by decide +kernel
theorem d_Lw_law_141 : decode b_Lw_law 141 = .ok (.iadd, 1) := by decide +kernel
theorem d_Lw_law_142 : decode b_Lw_law 142 = .ok (.iaload, 1) := by decide +kernel
theorem d_Lw_law_143 : decode b_Lw_law 143 = .ok (.invokevirtual 17, 3) := by decide +kernel
theorem d_Lw_law_146 : decode b_Lw_law 146 = .ok (.if_icmp .eq 583, 3) := by decide +kernel
theorem d_Lw_law_149 : decode b_Lw_law 149 = .ok (.iconst 0, 1) := by decide +kernel
theorem d_Lw_law_150 : decode b_Lw_law 150 = .ok (.ireturn, 1) := by decide +kernel
theorem d_Lw_law_151 : decode b_Lw_law 151 = .ok (.aload_n 1, 1) := by decide +kernel
theorem d_Lw_law_152 : decode b_Lw_law 152 = .ok (.invokevirtual 18, 3) := by decide +kernel
theorem d_Lw_law_155 : decode b_Lw_law 155 = .ok (.aload_n 2, 1) := by decide +kernel
theorem d_Lw_law_156 : decode b_Lw_law 156 = .ok (.invokevirtual 22, 3) := by decide +kernel
theorem d_Lw_law_159 : decode b_Lw_law 159 = .ok (.if_icmp .eq 570, 3) := by decide +kernel
theorem d_Lw_law_162 : decode b_Lw_law 162 = .ok (.iconst 0, 1) := by decide +kernel
theorem d_Lw_law_163 : decode b_Lw_law 163 = .ok (.ireturn, 1) := by decide +kernel
theorem d_Lw_law_164 : decode b_Lw_law 164 = .ok (.aload_n 1, 1) := by decide +kernel
theorem d_Lw_law_165 : decode b_Lw_law 165 = .ok (.aload_n 0, 1) := by decide +kernel
theorem d_Lw_law_166 : decode b_Lw_law 166 = .ok (.iload_n 3, 1) := by decide +kernel
theorem d_Lw_law_167 : decode b_Lw_law 167 = .ok (.iconst 1, 1) := by decide +kernel
theorem d_Lw_law_168 : decode b_Lw_law 168 = .ok (.iadd, 1) := by decide +kernel
theorem d_Lw_law_169 : decode b_Lw_law 169 = .ok (.iaload, 1) := by decide +kernel
theorem d_Lw_law_170 : decode b_Lw_law 170 = .ok (.aload_n 0, 1) := by decide +kernel
theorem d_Lw_law_171 : decode b_Lw_law 171 = .ok (.iload_n 3, 1) := by decide +kernel
theorem d_Lw_law_172 : decode b_Lw_law 172 = .ok (.iconst 2, 1) := by decide +kernel
theorem d_Lw_law_173 : decode b_Lw_law 173 = .ok (.iadd, 1) := by decide +kernel
theorem d_Lw_law_174 : decode b_Lw_law 174 = .ok (.iaload, 1) := by decide +kernel
theorem d_Lw_law_175 : decode b_Lw_law 175 = .ok (.i2l, 1) := by decide +kernel
theorem d_Lw_law_176 : decode b_Lw_law 176 = .ok (.bipush 32, 2) := by decide +kernel
theorem d_Lw_law_178 : decode b_Lw_law 178 = .ok (.lshl, 1) := by decide +kernel
theorem d_Lw_law_179 : decode b_Lw_law 179 = .ok (.aload_n 0, 1) := by decide +kernel
theorem d_Lw_law_180 : decode b_Lw_law 180 = .ok (.iload_n 3, 1) := by decide +kernel
theorem d_Lw_law_181 : decode b_Lw_law 181 = .ok (.iconst 3, 1) := by decide +kernel
theorem d_Lw_law_182 : decode b_Lw_law 182 = .ok (.iadd, 1) := by decide +kernel
theorem d_Lw_law_183 : decode b_Lw_law 183 = .ok (.iaload, 1) := by decide +kernel
theorem d_Lw_law_184 : decode b_Lw_law 184 = .ok (.i2l, 1) := by decide +kernel
theorem d_Lw_law_185 : decode b_Lw_law 185 = .ok (.ldc2_w 23, 3) := by decide +kernel
theorem d_Lw_law_188 : decode b_Lw_law 188 = .ok (.land, 1) := by decide +kernel
theorem d_Lw_law_189 : decode b_Lw_law 189 = .ok (.lor, 1) := by decide +kernel
theorem d_Lw_law_190 : decode b_Lw_law 190 = .ok (.invokevirtual 25, 3) := by decide +kernel
theorem d_Lw_law_193 : decode b_Lw_law 193 = .ok (.aload_n 2, 1) := by decide +kernel
theorem d_Lw_law_194 : decode b_Lw_law 194 = .ok (.aload_n 0, 1) := by decide +kernel
theorem d_Lw_law_195 : decode b_Lw_law 195 = .ok (.iload_n 3, 1) := by decide +kernel
theorem d_Lw_law_196 : decode b_Lw_law 196 = .ok (.iconst 1, 1) := by decide +kernel
theorem d_Lw_law_197 : decode b_Lw_law 197 = .ok (.iadd, 1) := by decide +kernel
theorem d_Lw_law_198 : decode b_Lw_law 198 = .ok (.iaload, 1) := by decide +kernel
theorem d_Lw_law_199 : decode b_Lw_law 199 = .ok (.aload_n 0, 1) := by decide +kernel
theorem d_Lw_law_200 : decode b_Lw_law 200 = .ok (.iload_n 3, 1) := by decide +kernel
theorem d_Lw_law_201 : decode b_Lw_law 201 = .ok (.iconst 2, 1) := by decide +kernel
theorem d_Lw_law_202 : decode b_Lw_law 202 = .ok (.iadd, 1) := by decide +kernel
theorem d_Lw_law_203 : decode b_Lw_law 203 = .ok (.iaload, 1) := by decide +kernel
theorem d_Lw_law_204 : decode b_Lw_law 204 = .ok (.i2l, 1) := by decide +kernel
theorem d_Lw_law_205 : decode b_Lw_law 205 = .ok (.bipush 32, 2) := by decide +kernel
theorem d_Lw_law_207 : decode b_Lw_law 207 = .ok (.lshl, 1) := by decide +kernel
theorem d_Lw_law_208 : decode b_Lw_law 208 = .ok (.aload_n 0, 1) := by decide +kernel
theorem d_Lw_law_209 : decode b_Lw_law 209 = .ok (.iload_n 3, 1) := by decide +kernel
theorem d_Lw_law_210 : decode b_Lw_law 210 = .ok (.iconst 3, 1) := by decide +kernel
theorem d_Lw_law_211 : decode b_Lw_law 211 = .ok (.iadd, 1) := by decide +kernel
theorem d_Lw_law_212 : decode b_Lw_law 212 = .ok (.iaload, 1) := by decide +kernel
theorem d_Lw_law_213 : decode b_Lw_law 213 = .ok (.i2l, 1) := by decide +kernel
theorem d_Lw_law_214 : decode b_Lw_law 214 = .ok (.ldc2_w 23, 3) := by decide +kernel
theorem d_Lw_law_217 : decode b_Lw_law 217 = .ok (.land, 1) := by decide +kernel
theorem d_Lw_law_218 : decode b_Lw_law 218 = .ok (.lor, 1) := by decide +kernel
theorem d_Lw_law_219 : decode b_Lw_law 219 = .ok (.invokevirtual 29, 3) := by decide +kernel
theorem d_Lw_law_222 : decode b_Lw_law 222 = .ok (.if_icmp .eq 507, 3) := by decide +kernel
theorem d_Lw_law_225 : decode b_Lw_law 225 = .ok (.iconst 0, 1) := by decide +kernel
theorem d_Lw_law_226 : decode b_Lw_law 226 = .ok (.ireturn, 1) := by decide +kernel
theorem d_Lw_law_227 : decode b_Lw_law 227 = .ok (.aload_n 1, 1) := by decide +kernel
theorem d_Lw_law_228 : decode b_Lw_law 228 = .ok (.aload_n 0, 1) := by decide +kernel
theorem d_Lw_law_229 : decode b_Lw_law 229 = .ok (.iload_n 3, 1) := by decide +kernel
theorem d_Lw_law_230 : decode b_Lw_law 230 = .ok (.iconst 1, 1) := by decide +kernel
theorem d_Lw_law_231 : decode b_Lw_law 231 = .ok (.iadd, 1) := by decide +kernel
theorem d_Lw_law_232 : decode b_Lw_law 232 = .ok (.iaload, 1) := by decide +kernel
theorem d_Lw_law_233 : decode b_Lw_law 233 = .ok (.aload_n 0, 1) := by decide +kernel
theorem d_Lw_law_234 : decode b_Lw_law 234 = .ok (.iload_n 3, 1) := by decide +kernel
theorem d_Lw_law_235 : decode b_Lw_law 235 = .ok (.iconst 2, 1) := by decide +kernel
theorem d_Lw_law_236 : decode b_Lw_law 236 = .ok (.iadd, 1) := by decide +kernel
theorem d_Lw_law_237 : decode b_Lw_law 237 = .ok (.iaload, 1) := by decide +kernel
theorem d_Lw_law_238 : decode b_Lw_law 238 = .ok (.i2l, 1) := by decide +kernel
theorem d_Lw_law_239 : decode b_Lw_law 239 = .ok (.bipush 32, 2) := by decide +kernel
theorem d_Lw_law_241 : decode b_Lw_law 241 = .ok (.lshl, 1) := by decide +kernel
theorem d_Lw_law_242 : decode b_Lw_law 242 = .ok (.aload_n 0, 1) := by decide +kernel
theorem d_Lw_law_243 : decode b_Lw_law 243 = .ok (.iload_n 3, 1) := by decide +kernel
theorem d_Lw_law_244 : decode b_Lw_law 244 = .ok (.iconst 3, 1) := by decide +kernel
theorem d_Lw_law_245 : decode b_Lw_law 245 = .ok (.iadd, 1) := by decide +kernel
theorem d_Lw_law_246 : decode b_Lw_law 246 = .ok (.iaload, 1) := by decide +kernel
theorem d_Lw_law_247 : decode b_Lw_law 247 = .ok (.i2l, 1) := by decide +kernel
theorem d_Lw_law_248 : decode b_Lw_law 248 = .ok (.ldc2_w 23, 3) := by decide +kernel
theorem d_Lw_law_251 : decode b_Lw_law 251 = .ok (.land, 1) := by decide +kernel
theorem d_Lw_law_252 : decode b_Lw_law 252 = .ok (.lor, 1) := by decide +kernel
theorem d_Lw_law_253 : decode b_Lw_law 253 = .ok (.aload_n 0, 1) := by decide +kernel
theorem d_Lw_law_254 : decode b_Lw_law 254 = .ok (.iload_n 3, 1) := by decide +kernel
theorem d_Lw_law_255 : decode b_Lw_law 255 = .ok (.iconst 4, 1) := by decide +kernel
theorem d_Lw_law_256 : decode b_Lw_law 256 = .ok (.iadd, 1) := by decide +kernel
theorem d_Lw_law_257 : decode b_Lw_law 257 = .ok (.iaload, 1) := by decide +kernel
theorem d_Lw_law_258 : decode b_Lw_law 258 = .ok (.invokevirtual 30, 3) := by decide +kernel
theorem d_Lw_law_261 : decode b_Lw_law 261 = .ok (.aload_n 2, 1) := by decide +kernel
theorem d_Lw_law_262 : decode b_Lw_law 262 = .ok (.aload_n 0, 1) := by decide +kernel
theorem d_Lw_law_263 : decode b_Lw_law 263 = .ok (.iload_n 3, 1) := by decide +kernel
theorem d_Lw_law_264 : decode b_Lw_law 264 = .ok (.iconst 1, 1) := by decide +kernel
theorem d_Lw_law_265 : decode b_Lw_law 265 = .ok (.iadd, 1) := by decide +kernel
theorem d_Lw_law_266 : decode b_Lw_law 266 = .ok (.iaload, 1) := by decide +kernel
theorem d_Lw_law_267 : decode b_Lw_law 267 = .ok (.aload_n 0, 1) := by decide +kernel
theorem d_Lw_law_268 : decode b_Lw_law 268 = .ok (.iload_n 3, 1) := by decide +kernel
theorem d_Lw_law_269 : decode b_Lw_law 269 = .ok (.iconst 2, 1) := by decide +kernel
theorem d_Lw_law_270 : decode b_Lw_law 270 = .ok (.iadd, 1) := by decide +kernel
theorem d_Lw_law_271 : decode b_Lw_law 271 = .ok (.iaload, 1) := by decide +kernel
theorem d_Lw_law_272 : decode b_Lw_law 272 = .ok (.i2l, 1) := by decide +kernel
theorem d_Lw_law_273 : decode b_Lw_law 273 = .ok (.bipush 32, 2) := by decide +kernel
theorem d_Lw_law_275 : decode b_Lw_law 275 = .ok (.lshl, 1) := by decide +kernel
theorem d_Lw_law_276 : decode b_Lw_law 276 = .ok (.aload_n 0, 1) := by decide +kernel
theorem d_Lw_law_277 : decode b_Lw_law 277 = .ok (.iload_n 3, 1) := by decide +kernel
theorem d_Lw_law_278 : decode b_Lw_law 278 = .ok (.iconst 3, 1) := by decide +kernel
theorem d_Lw_law_279 : decode b_Lw_law 279 = .ok (.iadd, 1) := by decide +kernel
theorem d_Lw_law_280 : decode b_Lw_law 280 = .ok (.iaload, 1) := by decide +kernel
theorem d_Lw_law_281 : decode b_Lw_law 281 = .ok (.i2l, 1) := by decide +kernel
theorem d_Lw_law_282 : decode b_Lw_law 282 = .ok (.ldc2_w 23, 3) := by decide +kernel
theorem d_Lw_law_285 : decode b_Lw_law 285 = .ok (.land, 1) := by decide +kernel
theorem d_Lw_law_286 : decode b_Lw_law 286 = .ok (.lor, 1) := by decide +kernel
theorem d_Lw_law_287 : decode b_Lw_law 287 = .ok (.aload_n 0, 1) := by decide +kernel
theorem d_Lw_law_288 : decode b_Lw_law 288 = .ok (.iload_n 3, 1) := by decide +kernel
theorem d_Lw_law_289 : decode b_Lw_law 289 = .ok (.iconst 4, 1) := by decide +kernel
theorem d_Lw_law_290 : decode b_Lw_law 290 = .ok (.iadd, 1) := by decide +kernel
theorem d_Lw_law_291 : decode b_Lw_law 291 = .ok (.iaload, 1) := by decide +kernel
theorem d_Lw_law_292 : decode b_Lw_law 292 = .ok (.invokevirtual 34, 3) := by decide +kernel
theorem d_Lw_law_295 : decode b_Lw_law 295 = .ok (.if_icmp .eq 434, 3) := by decide +kernel
theorem d_Lw_law_298 : decode b_Lw_law 298 = .ok (.iconst 0, 1) := by decide +kernel
theorem d_Lw_law_299 : decode b_Lw_law 299 = .ok (.ireturn, 1) := by decide +kernel
theorem d_Lw_law_300 : decode b_Lw_law 300 = .ok (.aload_n 1, 1) := by decide +kernel
theorem d_Lw_law_301 : decode b_Lw_law 301 = .ok (.aload_n 0, 1) := by decide +kernel
theorem d_Lw_law_302 : decode b_Lw_law 302 = .ok (.iload_n 3, 1) := by decide +kernel
theorem d_Lw_law_303 : decode b_Lw_law 303 = .ok (.iconst 1, 1) := by decide +kernel
theorem d_Lw_law_304 : decode b_Lw_law 304 = .ok (.iadd, 1) := by decide +kernel
theorem d_Lw_law_305 : decode b_Lw_law 305 = .ok (.iaload, 1) := by decide +kernel
theorem d_Lw_law_306 : decode b_Lw_law 306 = .ok (.aload_n 0, 1) := by decide +kernel
theorem d_Lw_law_307 : decode b_Lw_law 307 = .ok (.iload_n 3, 1) := by decide +kernel
theorem d_Lw_law_308 : decode b_Lw_law 308 = .ok (.iconst 2, 1) := by decide +kernel
theorem d_Lw_law_309 : decode b_Lw_law 309 = .ok (.iadd, 1) := by decide +kernel
theorem d_Lw_law_310 : decode b_Lw_law 310 = .ok (.iaload, 1) := by decide +kernel
theorem d_Lw_law_311 : decode b_Lw_law 311 = .ok (.i2l, 1) := by decide +kernel
theorem d_Lw_law_312 : decode b_Lw_law 312 = .ok (.bipush 32, 2) := by decide +kernel
theorem d_Lw_law_314 : decode b_Lw_law 314 = .ok (.lshl, 1) := by decide +kernel
theorem d_Lw_law_315 : decode b_Lw_law 315 = .ok (.aload_n 0, 1) := by decide +kernel
theorem d_Lw_law_316 : decode b_Lw_law 316 = .ok (.iload_n 3, 1) := by decide +kernel
theorem d_Lw_law_317 : decode b_Lw_law 317 = .ok (.iconst 3, 1) := by decide +kernel
theorem d_Lw_law_318 : decode b_Lw_law 318 = .ok (.iadd, 1) := by decide +kernel
theorem d_Lw_law_319 : decode b_Lw_law 319 = .ok (.iaload, 1) := by decide +kernel
theorem d_Lw_law_320 : decode b_Lw_law 320 = .ok (.i2l, 1) := by decide +kernel
theorem d_Lw_law_321 : decode b_Lw_law 321 = .ok (.ldc2_w 23, 3) := by decide +kernel
theorem d_Lw_law_324 : decode b_Lw_law 324 = .ok (.land, 1) := by decide +kernel
theorem d_Lw_law_325 : decode b_Lw_law 325 = .ok (.lor, 1) := by decide +kernel
theorem d_Lw_law_326 : decode b_Lw_law 326 = .ok (.invokevirtual 35, 3) := by decide +kernel
theorem d_Lw_law_329 : decode b_Lw_law 329 = .ok (.aload_n 2, 1) := by decide +kernel
theorem d_Lw_law_330 : decode b_Lw_law 330 = .ok (.aload_n 0, 1) := by decide +kernel
theorem d_Lw_law_331 : decode b_Lw_law 331 = .ok (.iload_n 3, 1) := by decide +kernel
theorem d_Lw_law_332 : decode b_Lw_law 332 = .ok (.iconst 1, 1) := by decide +kernel
theorem d_Lw_law_333 : decode b_Lw_law 333 = .ok (.iadd, 1) := by decide +kernel
theorem d_Lw_law_334 : decode b_Lw_law 334 = .ok (.iaload, 1) := by decide +kernel
theorem d_Lw_law_335 : decode b_Lw_law 335 = .ok (.aload_n 0, 1) := by decide +kernel
theorem d_Lw_law_336 : decode b_Lw_law 336 = .ok (.iload_n 3, 1) := by decide +kernel
theorem d_Lw_law_337 : decode b_Lw_law 337 = .ok (.iconst 2, 1) := by decide +kernel
theorem d_Lw_law_338 : decode b_Lw_law 338 = .ok (.iadd, 1) := by decide +kernel
theorem d_Lw_law_339 : decode b_Lw_law 339 = .ok (.iaload, 1) := by decide +kernel
theorem d_Lw_law_340 : decode b_Lw_law 340 = .ok (.i2l, 1) := by decide +kernel
theorem d_Lw_law_341 : decode b_Lw_law 341 = .ok (.bipush 32, 2) := by decide +kernel
theorem d_Lw_law_343 : decode b_Lw_law 343 = .ok (.lshl, 1) := by decide +kernel
theorem d_Lw_law_344 : decode b_Lw_law 344 = .ok (.aload_n 0, 1) := by decide +kernel
theorem d_Lw_law_345 : decode b_Lw_law 345 = .ok (.iload_n 3, 1) := by decide +kernel
theorem d_Lw_law_346 : decode b_Lw_law 346 = .ok (.iconst 3, 1) := by decide +kernel
theorem d_Lw_law_347 : decode b_Lw_law 347 = .ok (.iadd, 1) := by decide +kernel
theorem d_Lw_law_348 : decode b_Lw_law 348 = .ok (.iaload, 1) := by decide +kernel
theorem d_Lw_law_349 : decode b_Lw_law 349 = .ok (.i2l, 1) := by decide +kernel
theorem d_Lw_law_350 : decode b_Lw_law 350 = .ok (.ldc2_w 23, 3) := by decide +kernel
theorem d_Lw_law_353 : decode b_Lw_law 353 = .ok (.land, 1) := by decide +kernel
theorem d_Lw_law_354 : decode b_Lw_law 354 = .ok (.lor, 1) := by decide +kernel
theorem d_Lw_law_355 : decode b_Lw_law 355 = .ok (.invokevirtual 39, 3) := by decide +kernel
theorem d_Lw_law_358 : decode b_Lw_law 358 = .ok (.if_icmp .eq 371, 3) := by decide +kernel
theorem d_Lw_law_361 : decode b_Lw_law 361 = .ok (.iconst 0, 1) := by decide +kernel
theorem d_Lw_law_362 : decode b_Lw_law 362 = .ok (.ireturn, 1) := by decide +kernel
theorem d_Lw_law_363 : decode b_Lw_law 363 = .ok (.aload_n 1, 1) := by decide +kernel
theorem d_Lw_law_364 : decode b_Lw_law 364 = .ok (.aload_n 0, 1) := by decide +kernel
theorem d_Lw_law_365 : decode b_Lw_law 365 = .ok (.iload_n 3, 1) := by decide +kernel
theorem d_Lw_law_366 : decode b_Lw_law 366 = .ok (.iconst 1, 1) := by decide +kernel
theorem d_Lw_law_367 : decode b_Lw_law 367 = .ok (.iadd, 1) := by decide +kernel
theorem d_Lw_law_368 : decode b_Lw_law 368 = .ok (.iaload, 1) := by decide +kernel
theorem d_Lw_law_369 : decode b_Lw_law 369 = .ok (.i2l, 1) := by decide +kernel
theorem d_Lw_law_370 : decode b_Lw_law 370 = .ok (.bipush 32, 2) := by decide +kernel
theorem d_Lw_law_372 : decode b_Lw_law 372 = .ok (.lshl, 1) := by decide +kernel
theorem d_Lw_law_373 : decode b_Lw_law 373 = .ok (.aload_n 0, 1) := by decide +kernel
theorem d_Lw_law_374 : decode b_Lw_law 374 = .ok (.iload_n 3, 1) := by decide +kernel
theorem d_Lw_law_375 : decode b_Lw_law 375 = .ok (.iconst 2, 1) := by decide +kernel
theorem d_Lw_law_376 : decode b_Lw_law 376 = .ok (.iadd, 1) := by decide +kernel
theorem d_Lw_law_377 : decode b_Lw_law 377 = .ok (.iaload, 1) := by decide +kernel
theorem d_Lw_law_378 : decode b_Lw_law 378 = .ok (.i2l, 1) := by decide +kernel
theorem d_Lw_law_379 : decode b_Lw_law 379 = .ok (.ldc2_w 23, 3) := by decide +kernel
theorem d_Lw_law_382 : decode b_Lw_law 382 = .ok (.land, 1) := by decide +kernel
theorem d_Lw_law_383 : decode b_Lw_law 383 = .ok (.lor, 1) := by decide +kernel
theorem d_Lw_law_384 : decode b_Lw_law 384 = .ok (.invokevirtual 40, 3) := by decide +kernel
theorem d_Lw_law_387 : decode b_Lw_law 387 = .ok (.aload_n 2, 1) := by decide +kernel
theorem d_Lw_law_388 : decode b_Lw_law 388 = .ok (.aload_n 0, 1) := by decide +kernel
theorem d_Lw_law_389 : decode b_Lw_law 389 = .ok (.iload_n 3, 1) := by decide +kernel
theorem d_Lw_law_390 : decode b_Lw_law 390 = .ok (.iconst 1, 1) := by decide +kernel
theorem d_Lw_law_391 : decode b_Lw_law 391 = .ok (.iadd, 1) := by decide +kernel
theorem d_Lw_law_392 : decode b_Lw_law 392 = .ok (.iaload, 1) := by decide +kernel
theorem d_Lw_law_393 : decode b_Lw_law 393 = .ok (.i2l, 1) := by decide +kernel
theorem d_Lw_law_394 : decode b_Lw_law 394 = .ok (.bipush 32, 2) := by decide +kernel
theorem d_Lw_law_396 : decode b_Lw_law 396 = .ok (.lshl, 1) := by decide +kernel
theorem d_Lw_law_397 : decode b_Lw_law 397 = .ok (.aload_n 0, 1) := by decide +kernel
theorem d_Lw_law_398 : decode b_Lw_law 398 = .ok (.iload_n 3, 1) := by decide +kernel
theorem d_Lw_law_399 : decode b_Lw_law 399 = .ok (.iconst 2, 1) := by decide +kernel
theorem d_Lw_law_400 : decode b_Lw_law 400 = .ok (.iadd, 1) := by decide +kernel
theorem d_Lw_law_401 : decode b_Lw_law 401 = .ok (.iaload, 1) := by decide +kernel
theorem d_Lw_law_402 : decode b_Lw_law 402 = .ok (.i2l, 1) := by decide +kernel
theorem d_Lw_law_403 : decode b_Lw_law 403 = .ok (.ldc2_w 23, 3) := by decide +kernel
theorem d_Lw_law_406 : decode b_Lw_law 406 = .ok (.land, 1) := by decide +kernel
theorem d_Lw_law_407 : decode b_Lw_law 407 = .ok (.lor, 1) := by decide +kernel
theorem d_Lw_law_408 : decode b_Lw_law 408 = .ok (.invokevirtual 44, 3) := by decide +kernel
theorem d_Lw_law_411 : decode b_Lw_law 411 = .ok (.if_icmp .eq 318, 3) := by decide +kernel
theorem d_Lw_law_414 : decode b_Lw_law 414 = .ok (.iconst 0, 1) := by decide +kernel
theorem d_Lw_law_415 : decode b_Lw_law 415 = .ok (.ireturn, 1) := by decide +kernel
theorem d_Lw_law_416 : decode b_Lw_law 416 = .ok (.aload_n 1, 1) := by decide +kernel
theorem d_Lw_law_417 : decode b_Lw_law 417 = .ok (.aload_n 0, 1) := by decide +kernel
theorem d_Lw_law_418 : decode b_Lw_law 418 = .ok (.iload_n 3, 1) := by decide +kernel
theorem d_Lw_law_419 : decode b_Lw_law 419 = .ok (.iconst 1, 1) := by decide +kernel
theorem d_Lw_law_420 : decode b_Lw_law 420 = .ok (.iadd, 1) := by decide +kernel
theorem d_Lw_law_421 : decode b_Lw_law 421 = .ok (.iaload, 1) := by decide +kernel
theorem d_Lw_law_422 : decode b_Lw_law 422 = .ok (.invokevirtual 45, 3) := by decide +kernel
theorem d_Lw_law_425 : decode b_Lw_law 425 = .ok (.aload_n 2, 1) := by decide +kernel
theorem d_Lw_law_426 : decode b_Lw_law 426 = .ok (.aload_n 0, 1) := by decide +kernel
theorem d_Lw_law_427 : decode b_Lw_law 427 = .ok (.iload_n 3, 1) := by decide +kernel
theorem d_Lw_law_428 : decode b_Lw_law 428 = .ok (.iconst 1, 1) := by decide +kernel
theorem d_Lw_law_429 : decode b_Lw_law 429 = .ok (.iadd, 1) := by decide +kernel
theorem d_Lw_law_430 : decode b_Lw_law 430 = .ok (.iaload, 1) := by decide +kernel
theorem d_Lw_law_431 : decode b_Lw_law 431 = .ok (.invokevirtual 49, 3) := by decide +kernel
theorem d_Lw_law_434 : decode b_Lw_law 434 = .ok (.if_icmp .eq 295, 3) := by decide +kernel
theorem d_Lw_law_437 : decode b_Lw_law 437 = .ok (.iconst 0, 1) := by decide +kernel
theorem d_Lw_law_438 : decode b_Lw_law 438 = .ok (.ireturn, 1) := by decide +kernel
theorem d_Lw_law_439 : decode b_Lw_law 439 = .ok (.aload_n 1, 1) := by decide +kernel
theorem d_Lw_law_440 : decode b_Lw_law 440 = .ok (.invokevirtual 50, 3) := by decide +kernel
theorem d_Lw_law_443 : decode b_Lw_law 443 = .ok (.aload_n 2, 1) := by decide +kernel
theorem d_Lw_law_444 : decode b_Lw_law 444 = .ok (.invokevirtual 54, 3) := by decide +kernel
theorem d_Lw_law_447 : decode b_Lw_law 447 = .ok (.if_icmp .eq 282, 3) := by decide +kernel
theorem d_Lw_law_450 : decode b_Lw_law 450 = .ok (.iconst 0, 1) := by decide +kernel
theorem d_Lw_law_451 : decode b_Lw_law 451 = .ok (.ireturn, 1) := by decide +kernel
theorem d_Lw_law_452 : decode b_Lw_law 452 = .ok (.aload_n 1, 1) := by decide +kernel
theorem d_Lw_law_453 : decode b_Lw_law 453 = .ok (.invokevirtual 55, 3) := by decide +kernel
theorem d_Lw_law_456 : decode b_Lw_law 456 = .ok (.aload_n 2, 1) := by decide +kernel
theorem d_Lw_law_457 : decode b_Lw_law 457 = .ok (.invokevirtual 58, 3) := by decide +kernel
theorem d_Lw_law_460 : decode b_Lw_law 460 = .ok (.if_icmp .eq 269, 3) := by decide +kernel
theorem d_Lw_law_463 : decode b_Lw_law 463 = .ok (.iconst 0, 1) := by decide +kernel
theorem d_Lw_law_464 : decode b_Lw_law 464 = .ok (.ireturn, 1) := by decide +kernel
theorem d_Lw_law_465 : decode b_Lw_law 465 = .ok (.aload_n 1, 1) := by decide +kernel
theorem d_Lw_law_466 : decode b_Lw_law 466 = .ok (.invokevirtual 59, 3) := by decide +kernel
theorem d_Lw_law_469 : decode b_Lw_law 469 = .ok (.aload_n 2, 1) := by decide +kernel
theorem d_Lw_law_470 : decode b_Lw_law 470 = .ok (.invokevirtual 63, 3) := by decide +kernel
theorem d_Lw_law_473 : decode b_Lw_law 473 = .ok (.lcmp, 1) := by decide +kernel
theorem d_Lw_law_474 : decode b_Lw_law 474 = .ok (.ifCond .eq 255, 3) := by decide +kernel
theorem d_Lw_law_477 : decode b_Lw_law 477 = .ok (.iconst 0, 1) := by decide +kernel
theorem d_Lw_law_478 : decode b_Lw_law 478 = .ok (.ireturn, 1) := by decide +kernel
theorem d_Lw_law_479 : decode b_Lw_law 479 = .ok (.aload_n 1, 1) := by decide +kernel
theorem d_Lw_law_480 : decode b_Lw_law 480 = .ok (.invokevirtual 64, 3) := by decide +kernel
theorem d_Lw_law_483 : decode b_Lw_law 483 = .ok (.aload_n 2, 1) := by decide +kernel
theorem d_Lw_law_484 : decode b_Lw_law 484 = .ok (.invokevirtual 67, 3) := by decide +kernel
theorem d_Lw_law_487 : decode b_Lw_law 487 = .ok (.if_icmp .eq 242, 3) := by decide +kernel
theorem d_Lw_law_490 : decode b_Lw_law 490 = .ok (.iconst 0, 1) := by decide +kernel
theorem d_Lw_law_491 : decode b_Lw_law 491 = .ok (.ireturn, 1) := by decide +kernel
theorem d_Lw_law_492 : decode b_Lw_law 492 = .ok (.aload_n 1, 1) := by decide +kernel
theorem d_Lw_law_493 : decode b_Lw_law 493 = .ok (.aload_n 0, 1) := by decide +kernel
theorem d_Lw_law_494 : decode b_Lw_law 494 = .ok (.iload_n 3, 1) := by decide +kernel
theorem d_Lw_law_495 : decode b_Lw_law 495 = .ok (.iconst 1, 1) := by decide +kernel
theorem d_Lw_law_496 : decode b_Lw_law 496 = .ok (.iadd, 1) := by decide +kernel
theorem d_Lw_law_497 : decode b_Lw_law 497 = .ok (.iaload, 1) := by decide +kernel
theorem d_Lw_law_498 : decode b_Lw_law 498 = .ok (.invokevirtual 68, 3) := by decide +kernel
theorem d_Lw_law_501 : decode b_Lw_law 501 = .ok (.aload_n 2, 1) := by decide +kernel
theorem d_Lw_law_502 : decode b_Lw_law 502 = .ok (.aload_n 0, 1) := by decide +kernel
theorem d_Lw_law_503 : decode b_Lw_law 503 = .ok (.iload_n 3, 1) := by decide +kernel
theorem d_Lw_law_504 : decode b_Lw_law 504 = .ok (.iconst 1, 1) := by decide +kernel
theorem d_Lw_law_505 : decode b_Lw_law 505 = .ok (.iadd, 1) := by decide +kernel
theorem d_Lw_law_506 : decode b_Lw_law 506 = .ok (.iaload, 1) := by decide +kernel
theorem d_Lw_law_507 : decode b_Lw_law 507 = .ok (.invokevirtual 71, 3) := by decide +kernel
theorem d_Lw_law_510 : decode b_Lw_law 510 = .ok (.if_icmp .eq 219, 3) := by decide +kernel
theorem d_Lw_law_513 : decode b_Lw_law 513 = .ok (.iconst 0, 1) := by decide +kernel
theorem d_Lw_law_514 : decode b_Lw_law 514 = .ok (.ireturn, 1) := by decide +kernel
theorem d_Lw_law_515 : decode b_Lw_law 515 = .ok (.aload_n 1, 1) := by decide +kernel
theorem d_Lw_law_516 : decode b_Lw_law 516 = .ok (.aload_n 0, 1) := by decide +kernel
theorem d_Lw_law_517 : decode b_Lw_law 517 = .ok (.iload_n 3, 1) := by decide +kernel
theorem d_Lw_law_518 : decode b_Lw_law 518 = .ok (.iconst 1, 1) := by decide +kernel
theorem d_Lw_law_519 : decode b_Lw_law 519 = .ok (.iadd, 1) := by decide +kernel
theorem d_Lw_law_520 : decode b_Lw_law 520 = .ok (.iaload, 1) := by decide +kernel
theorem d_Lw_law_521 : decode b_Lw_law 521 = .ok (.invokevirtual 72, 3) := by decide +kernel
theorem d_Lw_law_524 : decode b_Lw_law 524 = .ok (.aload_n 2, 1) := by decide +kernel
theorem d_Lw_law_525 : decode b_Lw_law 525 = .ok (.aload_n 0, 1) := by decide +kernel
theorem d_Lw_law_526 : decode b_Lw_law 526 = .ok (.iload_n 3, 1) := by decide +kernel
theorem d_Lw_law_527 : decode b_Lw_law 527 = .ok (.iconst 1, 1) := by decide +kernel
theorem d_Lw_law_528 : decode b_Lw_law 528 = .ok (.iadd, 1) := by decide +kernel
theorem d_Lw_law_529 : decode b_Lw_law 529 = .ok (.iaload, 1) := by decide +kernel
theorem d_Lw_law_530 : decode b_Lw_law 530 = .ok (.invokevirtual 75, 3) := by decide +kernel
theorem d_Lw_law_533 : decode b_Lw_law 533 = .ok (.if_icmp .eq 196, 3) := by decide +kernel
theorem d_Lw_law_536 : decode b_Lw_law 536 = .ok (.iconst 0, 1) := by decide +kernel
theorem d_Lw_law_537 : decode b_Lw_law 537 = .ok (.ireturn, 1) := by decide +kernel
theorem d_Lw_law_538 : decode b_Lw_law 538 = .ok (.aload_n 1, 1) := by decide +kernel
theorem d_Lw_law_539 : decode b_Lw_law 539 = .ok (.aload_n 0, 1) := by decide +kernel
theorem d_Lw_law_540 : decode b_Lw_law 540 = .ok (.iload_n 3, 1) := by decide +kernel
theorem d_Lw_law_541 : decode b_Lw_law 541 = .ok (.iconst 1, 1) := by decide +kernel
theorem d_Lw_law_542 : decode b_Lw_law 542 = .ok (.iadd, 1) := by decide +kernel
theorem d_Lw_law_543 : decode b_Lw_law 543 = .ok (.iaload, 1) := by decide +kernel
theorem d_Lw_law_544 : decode b_Lw_law 544 = .ok (.invokevirtual 76, 3) := by decide +kernel
theorem d_Lw_law_547 : decode b_Lw_law 547 = .ok (.aload_n 2, 1) := by decide +kernel
theorem d_Lw_law_548 : decode b_Lw_law 548 = .ok (.aload_n 0, 1) := by decide +kernel
theorem d_Lw_law_549 : decode b_Lw_law 549 = .ok (.iload_n 3, 1) := by decide +kernel
theorem d_Lw_law_550 : decode b_Lw_law 550 = .ok (.iconst 1, 1) := by decide +kernel
theorem d_Lw_law_551 : decode b_Lw_law 551 = .ok (.iadd, 1) := by decide +kernel
theorem d_Lw_law_552 : decode b_Lw_law 552 = .ok (.iaload, 1) := by decide +kernel
theorem d_Lw_law_553 : decode b_Lw_law 553 = .ok (.invokevirtual 79, 3) := by decide +kernel
theorem d_Lw_law_556 : decode b_Lw_law 556 = .ok (.if_icmp .eq 173, 3) := by decide +kernel
theorem d_Lw_law_559 : decode b_Lw_law 559 = .ok (.iconst 0, 1) := by decide +kernel
theorem d_Lw_law_560 : decode b_Lw_law 560 = .ok (.ireturn, 1) := by decide +kernel
theorem d_Lw_law_561 : decode b_Lw_law 561 = .ok (.aload_n 1, 1) := by decide +kernel
theorem d_Lw_law_562 : decode b_Lw_law 562 = .ok (.aload_n 0, 1) := by decide +kernel
theorem d_Lw_law_563 : decode b_Lw_law 563 = .ok (.iload_n 3, 1) := by decide +kernel
theorem d_Lw_law_564 : decode b_Lw_law 564 = .ok (.iconst 1, 1) := by decide +kernel
theorem d_Lw_law_565 : decode b_Lw_law 565 = .ok (.iadd, 1) := by decide +kernel
theorem d_Lw_law_566 : decode b_Lw_law 566 = .ok (.iaload, 1) := by decide +kernel
theorem d_Lw_law_567 : decode b_Lw_law 567 = .ok (.invokevirtual 80, 3) := by decide +kernel
theorem d_Lw_law_570 : decode b_Lw_law 570 = .ok (.aload_n 2, 1) := by decide +kernel
theorem d_Lw_law_571 : decode b_Lw_law 571 = .ok (.aload_n 0, 1) := by decide +kernel
theorem d_Lw_law_572 : decode b_Lw_law 572 = .ok (.iload_n 3, 1) := by decide +kernel
theorem d_Lw_law_573 : decode b_Lw_law 573 = .ok (.iconst 1, 1) := by decide +kernel
theorem d_Lw_law_574 : decode b_Lw_law 574 = .ok (.iadd, 1) := by decide +kernel
theorem d_Lw_law_575 : decode b_Lw_law 575 = .ok (.iaload, 1) := by decide +kernel
theorem d_Lw_law_576 : decode b_Lw_law 576 = .ok (.invokevirtual 83, 3) := by decide +kernel
theorem d_Lw_law_579 : decode b_Lw_law 579 = .ok (.if_icmp .eq 150, 3) := by decide +kernel
theorem d_Lw_law_582 : decode b_Lw_law 582 = .ok (.iconst 0, 1) := by decide +kernel
theorem d_Lw_law_583 : decode b_Lw_law 583 = .ok (.ireturn, 1) := by decide +kernel
theorem d_Lw_law_584 : decode b_Lw_law 584 = .ok (.aload_n 1, 1) := by decide +kernel
theorem d_Lw_law_585 : decode b_Lw_law 585 = .ok (.invokevirtual 84, 3) := by decide +kernel
theorem d_Lw_law_588 : decode b_Lw_law 588 = .ok (.aload_n 2, 1) := by decide +kernel
theorem d_Lw_law_589 : decode b_Lw_law 589 = .ok (.invokevirtual 87, 3) := by decide +kernel
theorem d_Lw_law_592 : decode b_Lw_law 592 = .ok (.if_icmp .eq 137, 3) := by decide +kernel
theorem d_Lw_law_595 : decode b_Lw_law 595 = .ok (.iconst 0, 1) := by decide +kernel
theorem d_Lw_law_596 : decode b_Lw_law 596 = .ok (.ireturn, 1) := by decide +kernel
theorem d_Lw_law_597 : decode b_Lw_law 597 = .ok (.aload_n 1, 1) := by decide +kernel
theorem d_Lw_law_598 : decode b_Lw_law 598 = .ok (.aload_n 0, 1) := by decide +kernel
theorem d_Lw_law_599 : decode b_Lw_law 599 = .ok (.iload_n 3, 1) := by decide +kernel
theorem d_Lw_law_600 : decode b_Lw_law 600 = .ok (.iconst 1, 1) := by decide +kernel
theorem d_Lw_law_601 : decode b_Lw_law 601 = .ok (.iadd, 1) := by decide +kernel
theorem d_Lw_law_602 : decode b_Lw_law 602 = .ok (.iaload, 1) := by decide +kernel
theorem d_Lw_law_603 : decode b_Lw_law 603 = .ok (.aload_n 0, 1) := by decide +kernel
theorem d_Lw_law_604 : decode b_Lw_law 604 = .ok (.iload_n 3, 1) := by decide +kernel
theorem d_Lw_law_605 : decode b_Lw_law 605 = .ok (.iconst 2, 1) := by decide +kernel
theorem d_Lw_law_606 : decode b_Lw_law 606 = .ok (.iadd, 1) := by decide +kernel
theorem d_Lw_law_607 : decode b_Lw_law 607 = .ok (.iaload, 1) := by decide +kernel
theorem d_Lw_law_608 : decode b_Lw_law 608 = .ok (.invokevirtual 88, 3) := by decide +kernel
theorem d_Lw_law_611 : decode b_Lw_law 611 = .ok (.aload_n 2, 1) := by decide +kernel
theorem d_Lw_law_612 : decode b_Lw_law 612 = .ok (.aload_n 0, 1) := by decide +kernel
theorem d_Lw_law_613 : decode b_Lw_law 613 = .ok (.iload_n 3, 1) := by decide +kernel
theorem d_Lw_law_614 : decode b_Lw_law 614 = .ok (.iconst 1, 1) := by decide +kernel
theorem d_Lw_law_615 : decode b_Lw_law 615 = .ok (.iadd, 1) := by decide +kernel
theorem d_Lw_law_616 : decode b_Lw_law 616 = .ok (.iaload, 1) := by decide +kernel
theorem d_Lw_law_617 : decode b_Lw_law 617 = .ok (.aload_n 0, 1) := by decide +kernel
theorem d_Lw_law_618 : decode b_Lw_law 618 = .ok (.iload_n 3, 1) := by decide +kernel
theorem d_Lw_law_619 : decode b_Lw_law 619 = .ok (.iconst 2, 1) := by decide +kernel
theorem d_Lw_law_620 : decode b_Lw_law 620 = .ok (.iadd, 1) := by decide +kernel
theorem d_Lw_law_621 : decode b_Lw_law 621 = .ok (.iaload, 1) := by decide +kernel
theorem d_Lw_law_622 : decode b_Lw_law 622 = .ok (.invokevirtual 92, 3) := by decide +kernel
theorem d_Lw_law_625 : decode b_Lw_law 625 = .ok (.if_icmp .eq 104, 3) := by decide +kernel
theorem d_Lw_law_628 : decode b_Lw_law 628 = .ok (.iconst 0, 1) := by decide +kernel
theorem d_Lw_law_629 : decode b_Lw_law 629 = .ok (.ireturn, 1) := by decide +kernel
theorem d_Lw_law_630 : decode b_Lw_law 630 = .ok (.aload_n 1, 1) := by decide +kernel
theorem d_Lw_law_631 : decode b_Lw_law 631 = .ok (.aload_n 0, 1) := by decide +kernel
theorem d_Lw_law_632 : decode b_Lw_law 632 = .ok (.iload_n 3, 1) := by decide +kernel
theorem d_Lw_law_633 : decode b_Lw_law 633 = .ok (.iconst 1, 1) := by decide +kernel
theorem d_Lw_law_634 : decode b_Lw_law 634 = .ok (.iadd, 1) := by decide +kernel
theorem d_Lw_law_635 : decode b_Lw_law 635 = .ok (.iaload, 1) := by decide +kernel
theorem d_Lw_law_636 : decode b_Lw_law 636 = .ok (.aload_n 0, 1) := by decide +kernel
theorem d_Lw_law_637 : decode b_Lw_law 637 = .ok (.iload_n 3, 1) := by decide +kernel
theorem d_Lw_law_638 : decode b_Lw_law 638 = .ok (.iconst 2, 1) := by decide +kernel
theorem d_Lw_law_639 : decode b_Lw_law 639 = .ok (.iadd, 1) := by decide +kernel
theorem d_Lw_law_640 : decode b_Lw_law 640 = .ok (.iaload, 1) := by decide +kernel
theorem d_Lw_law_641 : decode b_Lw_law 641 = .ok (.invokevirtual 93, 3) := by decide +kernel
theorem d_Lw_law_644 : decode b_Lw_law 644 = .ok (.aload_n 2, 1) := by decide +kernel
theorem d_Lw_law_645 : decode b_Lw_law 645 = .ok (.aload_n 0, 1) := by decide +kernel
theorem d_Lw_law_646 : decode b_Lw_law 646 = .ok (.iload_n 3, 1) := by decide +kernel
theorem d_Lw_law_647 : decode b_Lw_law 647 = .ok (.iconst 1, 1) := by decide +kernel
theorem d_Lw_law_648 : decode b_Lw_law 648 = .ok (.iadd, 1) := by decide +kernel
theorem d_Lw_law_649 : decode b_Lw_law 649 = .ok (.iaload, 1) := by decide +kernel
theorem d_Lw_law_650 : decode b_Lw_law 650 = .ok (.aload_n 0, 1) := by decide +kernel
theorem d_Lw_law_651 : decode b_Lw_law 651 = .ok (.iload_n 3, 1) := by decide +kernel
theorem d_Lw_law_652 : decode b_Lw_law 652 = .ok (.iconst 2, 1) := by decide +kernel
theorem d_Lw_law_653 : decode b_Lw_law 653 = .ok (.iadd, 1) := by decide +kernel
theorem d_Lw_law_654 : decode b_Lw_law 654 = .ok (.iaload, 1) := by decide +kernel
theorem d_Lw_law_655 : decode b_Lw_law 655 = .ok (.invokevirtual 96, 3) := by decide +kernel
theorem d_Lw_law_658 : decode b_Lw_law 658 = .ok (.if_icmp .eq 71, 3) := by decide +kernel
theorem d_Lw_law_661 : decode b_Lw_law 661 = .ok (.iconst 0, 1) := by decide +kernel
theorem d_Lw_law_662 : decode b_Lw_law 662 = .ok (.ireturn, 1) := by decide +kernel
theorem d_Lw_law_663 : decode b_Lw_law 663 = .ok (.aload_n 1, 1) := by decide +kernel
theorem d_Lw_law_664 : decode b_Lw_law 664 = .ok (.aload_n 0, 1) := by decide +kernel
theorem d_Lw_law_665 : decode b_Lw_law 665 = .ok (.iload_n 3, 1) := by decide +kernel
theorem d_Lw_law_666 : decode b_Lw_law 666 = .ok (.iconst 1, 1) := by decide +kernel
theorem d_Lw_law_667 : decode b_Lw_law 667 = .ok (.iadd, 1) := by decide +kernel
theorem d_Lw_law_668 : decode b_Lw_law 668 = .ok (.iaload, 1) := by decide +kernel
theorem d_Lw_law_669 : decode b_Lw_law 669 = .ok (.invokevirtual 97, 3) := by decide +kernel
theorem d_Lw_law_672 : decode b_Lw_law 672 = .ok (.aload_n 2, 1) := by decide +kernel
theorem d_Lw_law_673 : decode b_Lw_law 673 = .ok (.aload_n 0, 1) := by decide +kernel
theorem d_Lw_law_674 : decode b_Lw_law 674 = .ok (.iload_n 3, 1) := by decide +kernel
theorem d_Lw_law_675 : decode b_Lw_law 675 = .ok (.iconst 1, 1) := by decide +kernel
theorem d_Lw_law_676 : decode b_Lw_law 676 = .ok (.iadd, 1) := by decide +kernel
theorem d_Lw_law_677 : decode b_Lw_law 677 = .ok (.iaload, 1) := by decide +kernel
theorem d_Lw_law_678 : decode b_Lw_law 678 = .ok (.invokevirtual 100, 3) := by decide +kernel
theorem d_Lw_law_681 : decode b_Lw_law 681 = .ok (.if_icmp .eq 48, 3) := by decide +kernel
theorem d_Lw_law_684 : decode b_Lw_law 684 = .ok (.iconst 0, 1) := by decide +kernel
theorem d_Lw_law_685 : decode b_Lw_law 685 = .ok (.ireturn, 1) := by decide +kernel
theorem d_Lw_law_686 : decode b_Lw_law 686 = .ok (.aload_n 1, 1) := by decide +kernel
theorem d_Lw_law_687 : decode b_Lw_law 687 = .ok (.aload_n 0, 1) := by decide +kernel
theorem d_Lw_law_688 : decode b_Lw_law 688 = .ok (.iload_n 3, 1) := by decide +kernel
theorem d_Lw_law_689 : decode b_Lw_law 689 = .ok (.iconst 1, 1) := by decide +kernel
theorem d_Lw_law_690 : decode b_Lw_law 690 = .ok (.iadd, 1) := by decide +kernel
theorem d_Lw_law_691 : decode b_Lw_law 691 = .ok (.iaload, 1) := by decide +kernel
theorem d_Lw_law_692 : decode b_Lw_law 692 = .ok (.aload_n 0, 1) := by decide +kernel
theorem d_Lw_law_693 : decode b_Lw_law 693 = .ok (.iload_n 3, 1) := by decide +kernel
theorem d_Lw_law_694 : decode b_Lw_law 694 = .ok (.iconst 2, 1) := by decide +kernel
theorem d_Lw_law_695 : decode b_Lw_law 695 = .ok (.iadd, 1) := by decide +kernel
theorem d_Lw_law_696 : decode b_Lw_law 696 = .ok (.iaload, 1) := by decide +kernel
theorem d_Lw_law_697 : decode b_Lw_law 697 = .ok (.aload_n 0, 1) := by decide +kernel
theorem d_Lw_law_698 : decode b_Lw_law 698 = .ok (.iload_n 3, 1) := by decide +kernel
theorem d_Lw_law_699 : decode b_Lw_law 699 = .ok (.iconst 3, 1) := by decide +kernel
theorem d_Lw_law_700 : decode b_Lw_law 700 = .ok (.iadd, 1) := by decide +kernel
theorem d_Lw_law_701 : decode b_Lw_law 701 = .ok (.iaload, 1) := by decide +kernel
theorem d_Lw_law_702 : decode b_Lw_law 702 = .ok (.invokevirtual 101, 3) := by decide +kernel
theorem d_Lw_law_705 : decode b_Lw_law 705 = .ok (.aload_n 2, 1) := by decide +kernel
theorem d_Lw_law_706 : decode b_Lw_law 706 = .ok (.aload_n 0, 1) := by decide +kernel
theorem d_Lw_law_707 : decode b_Lw_law 707 = .ok (.iload_n 3, 1) := by decide +kernel
theorem d_Lw_law_708 : decode b_Lw_law 708 = .ok (.iconst 1, 1) := by decide +kernel
theorem d_Lw_law_709 : decode b_Lw_law 709 = .ok (.iadd, 1) := by decide +kernel
theorem d_Lw_law_710 : decode b_Lw_law 710 = .ok (.iaload, 1) := by decide +kernel
theorem d_Lw_law_711 : decode b_Lw_law 711 = .ok (.aload_n 0, 1) := by decide +kernel
theorem d_Lw_law_712 : decode b_Lw_law 712 = .ok (.iload_n 3, 1) := by decide +kernel
theorem d_Lw_law_713 : decode b_Lw_law 713 = .ok (.iconst 2, 1) := by decide +kernel
theorem d_Lw_law_714 : decode b_Lw_law 714 = .ok (.iadd, 1) := by decide +kernel
theorem d_Lw_law_715 : decode b_Lw_law 715 = .ok (.iaload, 1) := by decide +kernel
theorem d_Lw_law_716 : decode b_Lw_law 716 = .ok (.aload_n 0, 1) := by decide +kernel
theorem d_Lw_law_717 : decode b_Lw_law 717 = .ok (.iload_n 3, 1) := by decide +kernel
theorem d_Lw_law_718 : decode b_Lw_law 718 = .ok (.iconst 3, 1) := by decide +kernel
theorem d_Lw_law_719 : decode b_Lw_law 719 = .ok (.iadd, 1) := by decide +kernel
theorem d_Lw_law_720 : decode b_Lw_law 720 = .ok (.iaload, 1) := by decide +kernel
theorem d_Lw_law_721 : decode b_Lw_law 721 = .ok (.invokevirtual 105, 3) := by decide +kernel
theorem d_Lw_law_724 : decode b_Lw_law 724 = .ok (.if_icmp .eq 5, 3) := by decide +kernel
theorem d_Lw_law_727 : decode b_Lw_law 727 = .ok (.iconst 0, 1) := by decide +kernel
theorem d_Lw_law_728 : decode b_Lw_law 728 = .ok (.ireturn, 1) := by decide +kernel
theorem d_Lw_law_729 : decode b_Lw_law 729 = .ok (.iinc 3 5, 3) := by decide +kernel
theorem d_Lw_law_732 : decode b_Lw_law 732 = .ok (.goto (-714), 3) := by decide +kernel
theorem d_Lw_law_735 : decode b_Lw_law 735 = .ok (.iconst 1, 1) := by decide +kernel
theorem d_Lw_law_736 : decode b_Lw_law 736 = .ok (.ireturn, 1) := by decide +kernel
