theorem fl_Md_44 : Cond.fieldLink R_Md 44 R_Md "newApart" "[Z" ∈ lw_gd := (gd _ (tb2 _ (List.mem_of_getElem? (i := 165) rfl)) rfl)
theorem fl_Md_47 : Cond.fieldLink R_Md 47 R_Md "newPoints" "[I" ∈ lw_gd := (gd _ (tb2 _ (List.mem_of_getElem? (i := 166) rfl)) rfl)
theorem fl_Md_50 : Cond.fieldLink R_Md 50 R_Md "newRanks" "[I" ∈ lw_gd := (gd _ (tb2 _ (List.mem_of_getElem? (i := 167) rfl)) rfl)
theorem fl_Md_53 : Cond.fieldLink R_Md 53 R_Md "newCodes" "[I" ∈ lw_gd := (gd _ (tb2 _ (List.mem_of_getElem? (i := 168) rfl)) rfl)
theorem fl_Md_56 : Cond.fieldLink R_Md 56 R_Md "newMarkCounts" "[I" ∈ lw_gd := (gd _ (tb2 _ (List.mem_of_getElem? (i := 170) rfl)) rfl)
theorem fl_Md_134 : Cond.fieldLink R_Md 134 R_Md "newFree" "I" ∈ lw_gd := (gd _ (tb2 _ (List.mem_of_getElem? (i := 169) rfl)) rfl)
theorem fl_Md_65 : Cond.fieldLink R_Md 65 R_Md "newNoteCounts" "[I" ∈ lw_gd := (gd _ (tb2 _ (List.mem_of_getElem? (i := 173) rfl)) rfl)
theorem fl_Md_71 : Cond.fieldLink R_Md 71 R_Md "newLeads" "[I" ∈ lw_gd := (gd _ (tb2 _ (List.mem_of_getElem? (i := 175) rfl)) rfl)
theorem d_Md_clearNew_0 : decode b_Md_clearNew 0 = .ok (.iconst 0, 1) := by decide +kernel
theorem d_Md_clearNew_1 : decode b_Md_clearNew 1 = .ok (.istore_n 1, 1) := by decide +kernel
theorem d_Md_clearNew_2 : decode b_Md_clearNew 2 = .ok (.iload_n 1, 1) := by decide +kernel
theorem d_Md_clearNew_3 : decode b_Md_clearNew 3 = .ok (.bipush 81, 2) := by decide +kernel
theorem d_Md_clearNew_5 : decode b_Md_clearNew 5 = .ok (.if_icmp .ge 16, 3) := by decide +kernel
theorem d_Md_clearNew_8 : decode b_Md_clearNew 8 = .ok (.aload_n 0, 1) := by decide +kernel
theorem d_Md_clearNew_9 : decode b_Md_clearNew 9 = .ok (.getfield 44, 3) := by decide +kernel
theorem d_Md_clearNew_12 : decode b_Md_clearNew 12 = .ok (.iload_n 1, 1) := by decide +kernel
theorem d_Md_clearNew_13 : decode b_Md_clearNew 13 = .ok (.iconst 0, 1) := by decide +kernel
theorem d_Md_clearNew_14 : decode b_Md_clearNew 14 = .ok (.bastore, 1) := by decide +kernel
theorem d_Md_clearNew_15 : decode b_Md_clearNew 15 = .ok (.iinc 1 1, 3) := by decide +kernel
theorem d_Md_clearNew_18 : decode b_Md_clearNew 18 = .ok (.goto (-16), 3) := by decide +kernel
theorem d_Md_clearNew_21 : decode b_Md_clearNew 21 = .ok (.iconst 0, 1) := by decide +kernel
theorem d_Md_clearNew_22 : decode b_Md_clearNew 22 = .ok (.istore_n 1, 1) := by decide +kernel
theorem d_Md_clearNew_23 : decode b_Md_clearNew 23 = .ok (.iload_n 1, 1) := by decide +kernel
theorem d_Md_clearNew_24 : decode b_Md_clearNew 24 = .ok (.bipush 9, 2) := by decide +kernel
theorem d_Md_clearNew_26 : decode b_Md_clearNew 26 = .ok (.if_icmp .ge 37, 3) := by decide +kernel
theorem d_Md_clearNew_29 : decode b_Md_clearNew 29 = .ok (.aload_n 0, 1) := by decide +kernel
theorem d_Md_clearNew_30 : decode b_Md_clearNew 30 = .ok (.getfield 47, 3) := by decide +kernel
theorem d_Md_clearNew_33 : decode b_Md_clearNew 33 = .ok (.iload_n 1, 1) := by decide +kernel
theorem d_Md_clearNew_34 : decode b_Md_clearNew 34 = .ok (.iconst 0, 1) := by decide +kernel
theorem d_Md_clearNew_35 : decode b_Md_clearNew 35 = .ok (.iastore, 1) := by decide +kernel
theorem d_Md_clearNew_36 : decode b_Md_clearNew 36 = .ok (.aload_n 0, 1) := by decide +kernel
theorem d_Md_clearNew_37 : decode b_Md_clearNew 37 = .ok (.getfield 50, 3) := by decide +kernel
theorem d_Md_clearNew_40 : decode b_Md_clearNew 40 = .ok (.iload_n 1, 1) := by decide +kernel
theorem d_Md_clearNew_41 : decode b_Md_clearNew 41 = .ok (.iconst 0, 1) := by decide +kernel
theorem d_Md_clearNew_42 : decode b_Md_clearNew 42 = .ok (.iastore, 1) := by decide +kernel
theorem d_Md_clearNew_43 : decode b_Md_clearNew 43 = .ok (.aload_n 0, 1) := by decide +kernel
theorem d_Md_clearNew_44 : decode b_Md_clearNew 44 = .ok (.getfield 53, 3) := by decide +kernel
theorem d_Md_clearNew_47 : decode b_Md_clearNew 47 = .ok (.iload_n 1, 1) := by decide +kernel
theorem d_Md_clearNew_48 : decode b_Md_clearNew 48 = .ok (.iconst 0, 1) := by decide +kernel
theorem d_Md_clearNew_49 : decode b_Md_clearNew 49 = .ok (.iastore, 1) := by decide +kernel
theorem d_Md_clearNew_50 : decode b_Md_clearNew 50 = .ok (.aload_n 0, 1) := by decide +kernel
theorem d_Md_clearNew_51 : decode b_Md_clearNew 51 = .ok (.getfield 56, 3) := by decide +kernel
theorem d_Md_clearNew_54 : decode b_Md_clearNew 54 = .ok (.iload_n 1, 1) := by decide +kernel
theorem d_Md_clearNew_55 : decode b_Md_clearNew 55 = .ok (.iconst 0, 1) := by decide +kernel
theorem d_Md_clearNew_56 : decode b_Md_clearNew 56 = .ok (.iastore, 1) := by decide +kernel
theorem d_Md_clearNew_57 : decode b_Md_clearNew 57 = .ok (.iinc 1 1, 3) := by decide +kernel
theorem d_Md_clearNew_60 : decode b_Md_clearNew 60 = .ok (.goto (-37), 3) := by decide +kernel
theorem d_Md_clearNew_63 : decode b_Md_clearNew 63 = .ok (.aload_n 0, 1) := by decide +kernel
theorem d_Md_clearNew_64 : decode b_Md_clearNew 64 = .ok (.iconst 0, 1) := by decide +kernel
theorem d_Md_clearNew_65 : decode b_Md_clearNew 65 = .ok (.putfield 134, 3) := by decide +kernel
theorem d_Md_clearNew_68 : decode b_Md_clearNew 68 = .ok (.iconst 0, 1) := by decide +kernel
theorem d_Md_clearNew_69 : decode b_Md_clearNew 69 = .ok (.istore_n 1, 1) := by decide +kernel
theorem d_Md_clearNew_70 : decode b_Md_clearNew 70 = .ok (.iload_n 1, 1) := by decide +kernel
theorem d_Md_clearNew_71 : decode b_Md_clearNew 71 = .ok (.iconst 4, 1) := by decide +kernel
theorem d_Md_clearNew_72 : decode b_Md_clearNew 72 = .ok (.if_icmp .ge 16, 3) := by decide +kernel
theorem d_Md_clearNew_75 : decode b_Md_clearNew 75 = .ok (.aload_n 0, 1) := by decide +kernel
theorem d_Md_clearNew_76 : decode b_Md_clearNew 76 = .ok (.getfield 65, 3) := by decide +kernel
theorem d_Md_clearNew_79 : decode b_Md_clearNew 79 = .ok (.iload_n 1, 1) := by decide +kernel
theorem d_Md_clearNew_80 : decode b_Md_clearNew 80 = .ok (.iconst 0, 1) := by decide +kernel
theorem d_Md_clearNew_81 : decode b_Md_clearNew 81 = .ok (.iastore, 1) := by decide +kernel
theorem d_Md_clearNew_82 : decode b_Md_clearNew 82 = .ok (.iinc 1 1, 3) := by decide +kernel
theorem d_Md_clearNew_85 : decode b_Md_clearNew 85 = .ok (.goto (-15), 3) := by decide +kernel
theorem d_Md_clearNew_88 : decode b_Md_clearNew 88 = .ok (.iconst 0, 1) := by decide +kernel
theorem d_Md_clearNew_89 : decode b_Md_clearNew 89 = .ok (.istore_n 1, 1) := by decide +kernel
theorem d_Md_clearNew_90 : decode b_Md_clearNew 90 = .ok (.iload_n 1, 1) := by decide +kernel
theorem d_Md_clearNew_91 : decode b_Md_clearNew 91 = .ok (.bipush 40, 2) := by decide +kernel
theorem d_Md_clearNew_93 : decode b_Md_clearNew 93 = .ok (.if_icmp .ge 17, 3) := by decide +kernel
theorem d_Md_clearNew_96 : decode b_Md_clearNew 96 = .ok (.aload_n 0, 1) := by decide +kernel
theorem d_Md_clearNew_97 : decode b_Md_clearNew 97 = .ok (.getfield 71, 3) := by decide +kernel
theorem d_Md_clearNew_100 : decode b_Md_clearNew 100 = .ok (.iload_n 1, 1) := by decide +kernel
theorem d_Md_clearNew_101 : decode b_Md_clearNew 101 = .ok (.bipush (-100), 2) := by decide +kernel
theorem d_Md_clearNew_103 : decode b_Md_clearNew 103 = .ok (.iastore, 1) := by decide +kernel
theorem d_Md_clearNew_104 : decode b_Md_clearNew 104 = .ok (.iinc 1 1, 3) := by decide +kernel
theorem d_Md_clearNew_107 : decode b_Md_clearNew 107 = .ok (.goto (-17), 3) := by decide +kernel
theorem d_Md_clearNew_110 : decode b_Md_clearNew 110 = .ok (.return_, 1) := by decide +kernel
theorem fl_Md_13 : Cond.fieldLink R_Md 13 R_Md "apart" "[Z" ∈ lw_gd := (gd _ (tb2 _ (List.mem_of_getElem? (i := 154) rfl)) rfl)
theorem fl_Md_59 : Cond.fieldLink R_Md 59 R_Md "newMarkGrams" "[I" ∈ lw_gd := (gd _ (tb2 _ (List.mem_of_getElem? (i := 171) rfl)) rfl)
theorem fl_Md_62 : Cond.fieldLink R_Md 62 R_Md "newMarkSizes" "[I" ∈ lw_gd := (gd _ (tb2 _ (List.mem_of_getElem? (i := 172) rfl)) rfl)
theorem fl_Md_68 : Cond.fieldLink R_Md 68 R_Md "newNotes" "[I" ∈ lw_gd := (gd _ (tb2 _ (List.mem_of_getElem? (i := 174) rfl)) rfl)
theorem d_Md_take_0 : decode b_Md_take 0 = .ok (.iconst 0, 1) := by decide +kernel
theorem d_Md_take_1 : decode b_Md_take 1 = .ok (.istore_n 1, 1) := by decide +kernel
theorem d_Md_take_2 : decode b_Md_take 2 = .ok (.iload_n 1, 1) := by decide +kernel
theorem d_Md_take_3 : decode b_Md_take 3 = .ok (.bipush 81, 2) := by decide +kernel
theorem d_Md_take_5 : decode b_Md_take 5 = .ok (.if_icmp .ge 21, 3) := by decide +kernel
theorem d_Md_take_8 : decode b_Md_take 8 = .ok (.aload_n 0, 1) := by decide +kernel
theorem d_Md_take_9 : decode b_Md_take 9 = .ok (.getfield 13, 3) := by decide +kernel
theorem d_Md_take_12 : decode b_Md_take 12 = .ok (.iload_n 1, 1) := by decide +kernel
theorem d_Md_take_13 : decode b_Md_take 13 = .ok (.aload_n 0, 1) := by decide +kernel
theorem d_Md_take_14 : decode b_Md_take 14 = .ok (.getfield 44, 3) := by decide +kernel
theorem d_Md_take_17 : decode b_Md_take 17 = .ok (.iload_n 1, 1) := by decide +kernel
theorem d_Md_take_18 : decode b_Md_take 18 = .ok (.baload, 1) := by decide +kernel
theorem d_Md_take_19 : decode b_Md_take 19 = .ok (.bastore, 1) := by decide +kernel
theorem d_Md_take_20 : decode b_Md_take 20 = .ok (.iinc 1 1, 3) := by decide +kernel
theorem d_Md_take_23 : decode b_Md_take 23 = .ok (.goto (-21), 3) := by decide +kernel
theorem d_Md_take_26 : decode b_Md_take 26 = .ok (.iconst 0, 1) := by decide +kernel
theorem d_Md_take_27 : decode b_Md_take 27 = .ok (.istore_n 1, 1) := by decide +kernel
theorem d_Md_take_28 : decode b_Md_take 28 = .ok (.iload_n 1, 1) := by decide +kernel
theorem d_Md_take_29 : decode b_Md_take 29 = .ok (.bipush 9, 2) := by decide +kernel
theorem d_Md_take_31 : decode b_Md_take 31 = .ok (.if_icmp .ge 57, 3) := by decide +kernel
theorem d_Md_take_34 : decode b_Md_take 34 = .ok (.aload_n 0, 1) := by decide +kernel
theorem d_Md_take_35 : decode b_Md_take 35 = .ok (.getfield 17, 3) := by decide +kernel
theorem d_Md_take_38 : decode b_Md_take 38 = .ok (.iload_n 1, 1) := by decide +kernel
theorem d_Md_take_39 : decode b_Md_take 39 = .ok (.aload_n 0, 1) := by decide +kernel
theorem d_Md_take_40 : decode b_Md_take 40 = .ok (.getfield 47, 3) := by decide +kernel
theorem d_Md_take_43 : decode b_Md_take 43 = .ok (.iload_n 1, 1) := by decide +kernel
theorem d_Md_take_44 : decode b_Md_take 44 = .ok (.iaload, 1) := by decide +kernel
theorem d_Md_take_45 : decode b_Md_take 45 = .ok (.iastore, 1) := by decide +kernel
theorem d_Md_take_46 : decode b_Md_take 46 = .ok (.aload_n 0, 1) := by decide +kernel
theorem d_Md_take_47 : decode b_Md_take 47 = .ok (.getfield 20, 3) := by decide +kernel
theorem d_Md_take_50 : decode b_Md_take 50 = .ok (.iload_n 1, 1) := by decide +kernel
theorem d_Md_take_51 : decode b_Md_take 51 = .ok (.aload_n 0, 1) := by decide +kernel
theorem d_Md_take_52 : decode b_Md_take 52 = .ok (.getfield 50, 3) := by decide +kernel
theorem d_Md_take_55 : decode b_Md_take 55 = .ok (.iload_n 1, 1) := by decide +kernel
theorem d_Md_take_56 : decode b_Md_take 56 = .ok (.iaload, 1) := by decide +kernel
theorem d_Md_take_57 : decode b_Md_take 57 = .ok (.iastore, 1) := by decide +kernel
theorem d_Md_take_58 : decode b_Md_take 58 = .ok (.aload_n 0, 1) := by decide +kernel
theorem d_Md_take_59 : decode b_Md_take 59 = .ok (.getfield 23, 3) := by decide +kernel
theorem d_Md_take_62 : decode b_Md_take 62 = .ok (.iload_n 1, 1) := by decide +kernel
theorem d_Md_take_63 : decode b_Md_take 63 = .ok (.aload_n 0, 1) := by decide +kernel
theorem d_Md_take_64 : decode b_Md_take 64 = .ok (.getfield 53, 3) := by decide +kernel
theorem d_Md_take_67 : decode b_Md_take 67 = .ok (.iload_n 1, 1) := by decide +kernel
theorem d_Md_take_68 : decode b_Md_take 68 = .ok (.iaload, 1) := by decide +kernel
theorem d_Md_take_69 : decode b_Md_take 69 = .ok (.iastore, 1) := by decide +kernel
theorem d_Md_take_70 : decode b_Md_take 70 = .ok (.aload_n 0, 1) := by decide +kernel
theorem d_Md_take_71 : decode b_Md_take 71 = .ok (.getfield 26, 3) := by decide +kernel
theorem d_Md_take_74 : decode b_Md_take 74 = .ok (.iload_n 1, 1) := by decide +kernel
theorem d_Md_take_75 : decode b_Md_take 75 = .ok (.aload_n 0, 1) := by decide +kernel
theorem d_Md_take_76 : decode b_Md_take 76 = .ok (.getfield 56, 3) := by decide +kernel
theorem d_Md_take_79 : decode b_Md_take 79 = .ok (.iload_n 1, 1) := by decide +kernel
theorem d_Md_take_80 : decode b_Md_take 80 = .ok (.iaload, 1) := by decide +kernel
theorem d_Md_take_81 : decode b_Md_take 81 = .ok (.iastore, 1) := by decide +kernel
theorem d_Md_take_82 : decode b_Md_take 82 = .ok (.iinc 1 1, 3) := by decide +kernel
theorem d_Md_take_85 : decode b_Md_take 85 = .ok (.goto (-57), 3) := by decide +kernel
theorem d_Md_take_88 : decode b_Md_take 88 = .ok (.aload_n 0, 1) := by decide +kernel
theorem d_Md_take_89 : decode b_Md_take 89 = .ok (.aload_n 0, 1) := by decide +kernel
theorem d_Md_take_90 : decode b_Md_take 90 = .ok (.getfield 134, 3) := by decide +kernel
theorem d_Md_take_93 : decode b_Md_take 93 = .ok (.putfield 137, 3) := by decide +kernel
theorem d_Md_take_96 : decode b_Md_take 96 = .ok (.iconst 0, 1) := by decide +kernel
theorem d_Md_take_97 : decode b_Md_take 97 = .ok (.istore_n 1, 1) := by decide +kernel
theorem d_Md_take_98 : decode b_Md_take 98 = .ok (.iload_n 1, 1) := by decide +kernel
theorem d_Md_take_99 : decode b_Md_take 99 = .ok (.bipush 54, 2) := by decide +kernel
theorem d_Md_take_101 : decode b_Md_take 101 = .ok (.if_icmp .ge 33, 3) := by decide +kernel
theorem d_Md_take_104 : decode b_Md_take 104 = .ok (.aload_n 0, 1) := by decide +kernel
theorem d_Md_take_105 : decode b_Md_take 105 = .ok (.getfield 29, 3) := by decide +kernel
theorem d_Md_take_108 : decode b_Md_take 108 = .ok (.iload_n 1, 1) := by decide +kernel
theorem d_Md_take_109 : decode b_Md_take 109 = .ok (.aload_n 0, 1) := by decide +kernel
theorem d_Md_take_110 : decode b_Md_take 110 = .ok (.getfield 59, 3) := by decide +kernel
theorem d_Md_take_113 : decode b_Md_take 113 = .ok (.iload_n 1, 1) := by decide +kernel
theorem d_Md_take_114 : decode b_Md_take 114 = .ok (.iaload, 1) := by decide +kernel
theorem d_Md_take_115 : decode b_Md_take 115 = .ok (.iastore, 1) := by decide +kernel
theorem d_Md_take_116 : decode b_Md_take 116 = .ok (.aload_n 0, 1) := by decide +kernel
theorem d_Md_take_117 : decode b_Md_take 117 = .ok (.getfield 32, 3) := by decide +kernel
theorem d_Md_take_120 : decode b_Md_take 120 = .ok (.iload_n 1, 1) := by decide +kernel
theorem d_Md_take_121 : decode b_Md_take 121 = .ok (.aload_n 0, 1) := by decide +kernel
theorem d_Md_take_122 : decode b_Md_take 122 = .ok (.getfield 62, 3) := by decide +kernel
theorem d_Md_take_125 : decode b_Md_take 125 = .ok (.iload_n 1, 1) := by decide +kernel
theorem d_Md_take_126 : decode b_Md_take 126 = .ok (.iaload, 1) := by decide +kernel
theorem d_Md_take_127 : decode b_Md_take 127 = .ok (.iastore, 1) := by decide +kernel
theorem d_Md_take_128 : decode b_Md_take 128 = .ok (.iinc 1 1, 3) := by decide +kernel
theorem d_Md_take_131 : decode b_Md_take 131 = .ok (.goto (-33), 3) := by decide +kernel
theorem d_Md_take_134 : decode b_Md_take 134 = .ok (.iconst 0, 1) := by decide +kernel
theorem d_Md_take_135 : decode b_Md_take 135 = .ok (.istore_n 1, 1) := by decide +kernel
theorem d_Md_take_136 : decode b_Md_take 136 = .ok (.iload_n 1, 1) := by decide +kernel
theorem d_Md_take_137 : decode b_Md_take 137 = .ok (.iconst 4, 1) := by decide +kernel
theorem d_Md_take_138 : decode b_Md_take 138 = .ok (.if_icmp .ge 21, 3) := by decide +kernel
theorem d_Md_take_141 : decode b_Md_take 141 = .ok (.aload_n 0, 1) := by decide +kernel
theorem d_Md_take_142 : decode b_Md_take 142 = .ok (.getfield 35, 3) := by decide +kernel
theorem d_Md_take_145 : decode b_Md_take 145 = .ok (.iload_n 1, 1) := by decide +kernel
theorem d_Md_take_146 : decode b_Md_take 146 = .ok (.aload_n 0, 1) := by decide +kernel
theorem d_Md_take_147 : decode b_Md_take 147 = .ok (.getfield 65, 3) := by decide +kernel
theorem d_Md_take_150 : decode b_Md_take 150 = .ok (.iload_n 1, 1) := by decide +kernel
theorem d_Md_take_151 : decode b_Md_take 151 = .ok (.iaload, 1) := by decide +kernel
theorem d_Md_take_152 : decode b_Md_take 152 = .ok (.iastore, 1) := by decide +kernel
theorem d_Md_take_153 : decode b_Md_take 153 = .ok (.iinc 1 1, 3) := by decide +kernel
theorem d_Md_take_156 : decode b_Md_take 156 = .ok (.goto (-20), 3) := by decide +kernel
theorem d_Md_take_159 : decode b_Md_take 159 = .ok (.iconst 0, 1) := by decide +kernel
theorem d_Md_take_160 : decode b_Md_take 160 = .ok (.istore_n 1, 1) := by decide +kernel
theorem d_Md_take_161 : decode b_Md_take 161 = .ok (.iload_n 1, 1) := by decide +kernel
theorem d_Md_take_162 : decode b_Md_take 162 = .ok (.bipush 32, 2) := by decide +kernel
theorem d_Md_take_164 : decode b_Md_take 164 = .ok (.if_icmp .ge 21, 3) := by decide +kernel
theorem d_Md_take_167 : decode b_Md_take 167 = .ok (.aload_n 0, 1) := by decide +kernel
theorem d_Md_take_168 : decode b_Md_take 168 = .ok (.getfield 38, 3) := by decide +kernel
theorem d_Md_take_171 : decode b_Md_take 171 = .ok (.iload_n 1, 1) := by decide +kernel
theorem d_Md_take_172 : decode b_Md_take 172 = .ok (.aload_n 0, 1) := by decide +kernel
theorem d_Md_take_173 : decode b_Md_take 173 = .ok (.getfield 68, 3) := by decide +kernel
theorem d_Md_take_176 : decode b_Md_take 176 = .ok (.iload_n 1, 1) := by decide +kernel
theorem d_Md_take_177 : decode b_Md_take 177 = .ok (.iaload, 1) := by decide +kernel
theorem d_Md_take_178 : decode b_Md_take 178 = .ok (.iastore, 1) := by decide +kernel
theorem d_Md_take_179 : decode b_Md_take 179 = .ok (.iinc 1 1, 3) := by decide +kernel
theorem d_Md_take_182 : decode b_Md_take 182 = .ok (.goto (-21), 3) := by decide +kernel
theorem d_Md_take_185 : decode b_Md_take 185 = .ok (.iconst 0, 1) := by decide +kernel
theorem d_Md_take_186 : decode b_Md_take 186 = .ok (.istore_n 1, 1) := by decide +kernel
theorem d_Md_take_187 : decode b_Md_take 187 = .ok (.iload_n 1, 1) := by decide +kernel
theorem d_Md_take_188 : decode b_Md_take 188 = .ok (.bipush 40, 2) := by decide +kernel
theorem d_Md_take_190 : decode b_Md_take 190 = .ok (.if_icmp .ge 21, 3) := by decide +kernel
theorem d_Md_take_193 : decode b_Md_take 193 = .ok (.aload_n 0, 1) := by decide +kernel
theorem d_Md_take_194 : decode b_Md_take 194 = .ok (.getfield 41, 3) := by decide +kernel
theorem d_Md_take_197 : decode b_Md_take 197 = .ok (.iload_n 1, 1) := by decide +kernel
theorem d_Md_take_198 : decode b_Md_take 198 = .ok (.aload_n 0, 1) := by decide +kernel
theorem d_Md_take_199 : decode b_Md_take 199 = .ok (.getfield 71, 3) := by decide +kernel
theorem d_Md_take_202 : decode b_Md_take 202 = .ok (.iload_n 1, 1) := by decide +kernel
theorem d_Md_take_203 : decode b_Md_take 203 = .ok (.iaload, 1) := by decide +kernel
theorem d_Md_take_204 : decode b_Md_take 204 = .ok (.iastore, 1) := by decide +kernel
theorem d_Md_take_205 : decode b_Md_take 205 = .ok (.iinc 1 1, 3) := by decide +kernel
theorem d_Md_take_208 : decode b_Md_take 208 = .ok (.goto (-21), 3) := by decide +kernel
theorem d_Md_take_211 : decode b_Md_take 211 = .ok (.return_, 1) := by decide +kernel
theorem mv_Md_265 : wk_V R_Md 265 R_Md y_Md_name b_Md_name 3 (some .int) 1 := ⟨(gd _ (tb3 _ (List.mem_of_getElem? (i := 207) rfl)) rfl), (gd _ (tb0 _ (List.mem_of_getElem? (i := 8) rfl)) rfl), (gd _ (tb3 _ (List.mem_of_getElem? (i := 216) rfl)) rfl), (by decide +kernel), (gd _ (tb3 _ (List.mem_of_getElem? (i := 205) rfl)) rfl), (gd _ (tb3 _ (List.mem_of_getElem? (i := 206) rfl)) rfl)⟩
theorem d_Md_order_0 : decode b_Md_order 0 = .ok (.iconst 0, 1) := by decide +kernel
theorem d_Md_order_1 : decode b_Md_order 1 = .ok (.istore_n 2, 1) := by decide +kernel
theorem d_Md_order_2 : decode b_Md_order 2 = .ok (.iconst 0, 1) := by decide +kernel
theorem d_Md_order_3 : decode b_Md_order 3 = .ok (.istore_n 3, 1) := by decide +kernel
theorem d_Md_order_4 : decode b_Md_order 4 = .ok (.iload_n 3, 1) := by decide +kernel
theorem d_Md_order_5 : decode b_Md_order 5 = .ok (.bipush 9, 2) := by decide +kernel
theorem d_Md_order_7 : decode b_Md_order 7 = .ok (.if_icmp .ge 62, 3) := by decide +kernel
theorem d_Md_order_10 : decode b_Md_order 10 = .ok (.iconst 0, 1) := by decide +kernel
theorem d_Md_order_11 : decode b_Md_order 11 = .ok (.istore 4, 2) := by decide +kernel
theorem d_Md_order_13 : decode b_Md_order 13 = .ok (.iload 4, 2) := by decide +kernel
theorem d_Md_order_15 : decode b_Md_order 15 = .ok (.aload_n 0, 1) := by decide +kernel
theorem d_Md_order_16 : decode b_Md_order 16 = .ok (.getfield 117, 3) := by decide +kernel
theorem d_Md_order_19 : decode b_Md_order 19 = .ok (.if_icmp .ge 44, 3) := by decide +kernel
theorem d_Md_order_22 : decode b_Md_order 22 = .ok (.aload_n 0, 1) := by decide +kernel
theorem d_Md_order_23 : decode b_Md_order 23 = .ok (.iload 4, 2) := by decide +kernel
theorem d_Md_order_25 : decode b_Md_order 25 = .ok (.invokevirtual 245, 3) := by decide +kernel
theorem d_Md_order_28 : decode b_Md_order 28 = .ok (.ifCond .eq 29, 3) := by decide +kernel
theorem d_Md_order_31 : decode b_Md_order 31 = .ok (.aload_n 0, 1) := by decide +kernel
theorem d_Md_order_32 : decode b_Md_order 32 = .ok (.getfield 74, 3) := by decide +kernel
theorem d_Md_order_35 : decode b_Md_order 35 = .ok (.iload 4, 2) := by decide +kernel
theorem d_Md_order_37 : decode b_Md_order 37 = .ok (.iaload, 1) := by decide +kernel
theorem d_Md_order_38 : decode b_Md_order 38 = .ok (.aload_n 0, 1) := by decide +kernel
theorem d_Md_order_39 : decode b_Md_order 39 = .ok (.iload_n 3, 1) := by decide +kernel
theorem d_Md_order_40 : decode b_Md_order 40 = .ok (.invokevirtual 265, 3) := by decide +kernel
theorem d_Md_order_43 : decode b_Md_order 43 = .ok (.if_icmp .ne 14, 3) := by decide +kernel
theorem d_Md_order_46 : decode b_Md_order 46 = .ok (.iload_n 2, 1) := by decide +kernel
theorem d_Md_order_47 : decode b_Md_order 47 = .ok (.iload_n 1, 1) := by decide +kernel
theorem d_Md_order_48 : decode b_Md_order 48 = .ok (.if_icmp .ne 6, 3) := by decide +kernel
theorem d_Md_order_51 : decode b_Md_order 51 = .ok (.iload 4, 2) := by decide +kernel
theorem d_Md_order_53 : decode b_Md_order 53 = .ok (.ireturn, 1) := by decide +kernel
theorem d_Md_order_54 : decode b_Md_order 54 = .ok (.iinc 2 1, 3) := by decide +kernel
theorem d_Md_order_57 : decode b_Md_order 57 = .ok (.iinc 4 1, 3) := by decide +kernel
theorem d_Md_order_60 : decode b_Md_order 60 = .ok (.goto (-47), 3) := by decide +kernel
theorem d_Md_order_63 : decode b_Md_order 63 = .ok (.iinc 3 1, 3) := by decide +kernel
theorem d_Md_order_66 : decode b_Md_order 66 = .ok (.goto (-62), 3) := by decide +kernel
theorem d_Md_order_69 : decode b_Md_order 69 = .ok (.iconst (-1), 1) := by decide +kernel
theorem d_Md_order_70 : decode b_Md_order 70 = .ok (.ireturn, 1) := by decide +kernel
theorem kc_Md_274 : Cond.constantLong R_Md 274 (lN 10) ∈ lw_gd := (gd _ (tb3 _ (List.mem_of_getElem? (i := 225) rfl)) rfl)
theorem kc_Md_276 : Cond.constantLong R_Md 276 (lN 48) ∈ lw_gd := (gd _ (tb3 _ (List.mem_of_getElem? (i := 226) rfl)) rfl)
theorem mv_Md_278 : wk_V R_Md 278 R_Md y_Md_put b_Md_put 2 none 1 := ⟨(gd _ (tb3 _ (List.mem_of_getElem? (i := 230) rfl)) rfl), (gd _ (tb0 _ (List.mem_of_getElem? (i := 8) rfl)) rfl), (gd _ (tb3 _ (List.mem_of_getElem? (i := 227) rfl)) rfl), (by decide +kernel), (gd _ (tb3 _ (List.mem_of_getElem? (i := 229) rfl)) rfl), (gd _ (List.mem_append_left _ (by decide +kernel)) rfl)⟩
theorem d_Md_putNumber_0 : decode b_Md_putNumber 0 = .ok (.lconst 1, 1) := by decide +kernel
theorem d_Md_putNumber_1 : decode b_Md_putNumber 1 = .ok (.lstore_n 3, 1) := by decide +kernel
theorem d_Md_putNumber_2 : decode b_Md_putNumber 2 = .ok (.lload_n 1, 1) := by decide +kernel
theorem d_Md_putNumber_3 : decode b_Md_putNumber 3 = .ok (.lload_n 3, 1) := by decide +kernel
theorem d_Md_putNumber_4 : decode b_Md_putNumber 4 = .ok (.ldiv, 1) := by decide +kernel
theorem d_Md_putNumber_5 : decode b_Md_putNumber 5 = .ok (.ldc2_w 223, 3) := by decide +kernel
theorem d_Md_putNumber_8 : decode b_Md_putNumber 8 = .ok (.lcmp, 1) := by decide +kernel
theorem d_Md_putNumber_9 : decode b_Md_putNumber 9 = .ok (.ifCond .le 12, 3) := by decide +kernel
theorem d_Md_putNumber_12 : decode b_Md_putNumber 12 = .ok (.lload_n 3, 1) := by decide +kernel
theorem d_Md_putNumber_13 : decode b_Md_putNumber 13 = .ok (.ldc2_w 274, 3) := by decide +kernel
theorem d_Md_putNumber_16 : decode b_Md_putNumber 16 = .ok (.lmul, 1) := by decide +kernel
theorem d_Md_putNumber_17 : decode b_Md_putNumber 17 = .ok (.lstore_n 3, 1) := by decide +kernel
theorem d_Md_putNumber_18 : decode b_Md_putNumber 18 = .ok (.goto (-16), 3) := by decide +kernel
theorem d_Md_putNumber_21 : decode b_Md_putNumber 21 = .ok (.lload_n 3, 1) := by decide +kernel
theorem d_Md_putNumber_22 : decode b_Md_putNumber 22 = .ok (.lconst 0, 1) := by decide +kernel
theorem d_Md_putNumber_23 : decode b_Md_putNumber 23 = .ok (.lcmp, 1) := by decide +kernel
theorem d_Md_putNumber_24 : decode b_Md_putNumber 24 = .ok (.ifCond .le 28, 3) := by decide +kernel
theorem d_Md_putNumber_27 : decode b_Md_putNumber 27 = .ok (.aload_n 0, 1) := by decide +kernel
theorem d_Md_putNumber_28 : decode b_Md_putNumber 28 = .ok (.ldc2_w 276, 3) := by decide +kernel
theorem d_Md_putNumber_31 : decode b_Md_putNumber 31 = .ok (.lload_n 1, 1) := by decide +kernel
theorem d_Md_putNumber_32 : decode b_Md_putNumber 32 = .ok (.lload_n 3, 1) := by decide +kernel
theorem d_Md_putNumber_33 : decode b_Md_putNumber 33 = .ok (.ldiv, 1) := by decide +kernel
theorem d_Md_putNumber_34 : decode b_Md_putNumber 34 = .ok (.ldc2_w 274, 3) := by decide +kernel
theorem d_Md_putNumber_37 : decode b_Md_putNumber 37 = .ok (.lrem, 1) := by decide +kernel
theorem d_Md_putNumber_38 : decode b_Md_putNumber 38 = .ok (.ladd, 1) := by decide +kernel
theorem d_Md_putNumber_39 : decode b_Md_putNumber 39 = .ok (.l2i, 1) := by decide +kernel
theorem d_Md_putNumber_40 : decode b_Md_putNumber 40 = .ok (.invokevirtual 278, 3) := by decide +kernel
theorem d_Md_putNumber_43 : decode b_Md_putNumber 43 = .ok (.lload_n 3, 1) := by decide +kernel
theorem d_Md_putNumber_44 : decode b_Md_putNumber 44 = .ok (.ldc2_w 274, 3) := by decide +kernel
theorem d_Md_putNumber_47 : decode b_Md_putNumber 47 = .ok (.ldiv, 1) := by decide +kernel
theorem d_Md_putNumber_48 : decode b_Md_putNumber 48 = .ok (.lstore_n 3, 1) := by decide +kernel
theorem d_Md_putNumber_49 : decode b_Md_putNumber 49 = .ok (.goto (-28), 3) := by decide +kernel
theorem d_Md_putNumber_52 : decode b_Md_putNumber 52 = .ok (.return_, 1) := by decide +kernel
set_option maxHeartbeats 4000000 in
set_option maxRecDepth 100000 in
theorem c_Md_clearNew (l : Launch) (D : va_G) (cI : CiT) (z : GzT) (m : Nat → Nat) (tx : (Nat → Nat)) (sz : Nat) (ap : (Nat → Bool)) (pt : (Nat → Nat)) (rk : (Nat → Nat)) (cd : (Nat → Nat)) (fr : Nat) (mc : (Nat → Nat)) (mg : (Nat → Nat)) (mz : (Nat → Nat)) (nc : (Nat → Nat)) (nt : (Nat → Nat)) (ld : (Nat → Nat)) (qap : (Nat → Bool)) (qpt : (Nat → Nat)) (qrk : (Nat → Nat)) (qcd : (Nat → Nat)) (qfr : Nat) (qmc : (Nat → Nat)) (qmg : (Nat → Nat)) (qmz : (Nat → Nat)) (qnc : (Nat → Nat)) (qnt : (Nat → Nat)) (qld : (Nat → Nat)) (nb : Nat) (cl : (Nat → Nat)) (gr : (Nat → Nat)) (sp : (Nat → Nat)) (ot : (Nat → Bool)) (na : Nat) (aw : (Nat → Nat)) (nx : Nat) (bg : (Nat → Nat)) (bb : (Nat → Nat)) (ab : (Nat → Nat)) (fd : Bool) (pv : Bool) (bx : (Nat → Nat)) (wy : (Nat → Nat)) (li : (Nat → Nat)) (fm : Nat) (en : Nat) (nu : Nat) (td : (Nat → Nat)) (lf : Int32) (lk : Int32) : wk_C l D (tyK cI) (gX z) y_Md_clearNew b_Md_clearNew 2 none 0 0 0 0 [.ref (m 0)] (wMd m cI tx sz ap pt rk cd fr mc mg mz nc nt ld qap qpt qrk qcd qfr qmc qmg qmz qnc qnt qld nb cl gr sp ot na aw nx bg bb ab fd pv bx wy li fm en nu td lf lk) wk_v (fun (_ : Unit) (_ : Unit) => True) (fun _ => (wMd m cI tx sz ap pt rk cd fr mc mg mz nc nt ld (fun _ => false) (fun _ => 0) (fun _ => 0) (fun _ => 0) 0 (fun _ => 0) qmg qmz (fun _ => 0) qnt (fun _ => 0) nb cl gr sp ot na aw nx bg bb ab fd pv bx wy li fm en nu td lf lk)) := by
  refine wk_methV (own := R_Md) [(0, .ref (m 0))] (by decide) rfl (Nat.le_of_ble_eq_true rfl) rfl (gX_ok z) (fun p_ e_ R_ s_ m_ ar_ be_ me_ co_ Q_ A_ hR_ S_ hnm_ hQ_ => ?_)
  refine wk_iconst (pc := 0) (v := (nI (0))) S_ d_Md_clearNew_0 (by decide) ?_
  refine wk_istore_n (pc := 1) (lv' := [(1, .int (nI (0))), (0, .ref (m 0))]) S_ d_Md_clearNew_1 rfl (by decide) rfl ?_
  have hL2 : ∀ (fuel2 : Nat), ∀ (k : Nat), 81 - k < fuel2 → (k ≤ 81) → wk_G p_ l e_ R_ s_ m_ ar_ be_ me_ co_ Q_ D A_ 2 0 0 (wMd m cI tx sz ap pt rk cd fr mc mg mz nc nt ld (fillN k false qap) qpt qrk qcd qfr qmc qmg qmz qnc qnt qld nb cl gr sp ot na aw nx bg bb ab fd pv bx wy li fm en nu td lf lk) 2 [(0, .ref (m 0)), (1, .int (nI (k)))] [] := by
    intro fuel2
    induction fuel2 with
    | zero => intro k hm; exact absurd hm (Nat.not_lt_zero _)
    | succ fuel2 ih2 =>
      intro k hm hk
      refine wk_iload_n (pc := 2) S_ 1 d_Md_clearNew_2 rfl rfl ?_
      refine wk_bipush (pc := 3) (v := (nI (81))) S_ d_Md_clearNew_3 (by decide) ?_
      refine wk_icmp_geN (pc := 5) (tgt := 21) S_ d_Md_clearNew_5 (by decide) (by omega) (by omega) (fun h5 => ?_) (fun h5 => ?_)
      · -- taken
        refine wk_ext (f := bF (fillN k false qap)) (g := bF (fun _ => false)) (ws' := (wMd m cI tx sz ap pt rk cd fr mc mg mz nc nt ld (fun _ => false) qpt qrk qcd qfr qmc qmg qmz qnc qnt qld nb cl gr sp ot na aw nx bg bb ab fd pv bx wy li fm en nu td lf lk)) 12 rfl (fun j hj => by unfold bF; rw [fill_in (by omega)]) rfl ?_
        refine wk_iconst (pc := 21) (v := (nI (0))) S_ d_Md_clearNew_21 (by decide) ?_
        refine wk_istore_n (pc := 22) (lv' := [(1, .int (nI (0))), (0, .ref (m 0))]) S_ d_Md_clearNew_22 rfl (by decide) rfl ?_
        have hL23 : ∀ (fuel23 : Nat), ∀ (k : Nat), 9 - k < fuel23 → (k ≤ 9) → wk_G p_ l e_ R_ s_ m_ ar_ be_ me_ co_ Q_ D A_ 2 0 0 (wMd m cI tx sz ap pt rk cd fr mc mg mz nc nt ld (fun _ => false) (fillN k 0 qpt) (fillN k 0 qrk) (fillN k 0 qcd) qfr (fillN k 0 qmc) qmg qmz qnc qnt qld nb cl gr sp ot na aw nx bg bb ab fd pv bx wy li fm en nu td lf lk) 23 [(0, .ref (m 0)), (1, .int (nI (k)))] [] := by
          intro fuel23
          induction fuel23 with
          | zero => intro k hm; exact absurd hm (Nat.not_lt_zero _)
          | succ fuel23 ih23 =>
            intro k hm hk
            refine wk_iload_n (pc := 23) S_ 1 d_Md_clearNew_23 rfl rfl ?_
            refine wk_bipush (pc := 24) (v := (nI (9))) S_ d_Md_clearNew_24 (by decide) ?_
            refine wk_icmp_geN (pc := 26) (tgt := 63) S_ d_Md_clearNew_26 (by decide) (by omega) (by omega) (fun h26 => ?_) (fun h26 => ?_)
            · -- taken
              refine wk_ext (f := nF (fillN k 0 qpt)) (g := nF (fun _ => 0)) (ws' := (wMd m cI tx sz ap pt rk cd fr mc mg mz nc nt ld (fun _ => false) (fun _ => 0) (fillN k 0 qrk) (fillN k 0 qcd) qfr (fillN k 0 qmc) qmg qmz qnc qnt qld nb cl gr sp ot na aw nx bg bb ab fd pv bx wy li fm en nu td lf lk)) 13 rfl (fun j hj => by unfold nF; rw [fill_in (by omega)]) rfl ?_
              refine wk_ext (f := nF (fillN k 0 qrk)) (g := nF (fun _ => 0)) (ws' := (wMd m cI tx sz ap pt rk cd fr mc mg mz nc nt ld (fun _ => false) (fun _ => 0) (fun _ => 0) (fillN k 0 qcd) qfr (fillN k 0 qmc) qmg qmz qnc qnt qld nb cl gr sp ot na aw nx bg bb ab fd pv bx wy li fm en nu td lf lk)) 14 rfl (fun j hj => by unfold nF; rw [fill_in (by omega)]) rfl ?_
              refine wk_ext (f := nF (fillN k 0 qcd)) (g := nF (fun _ => 0)) (ws' := (wMd m cI tx sz ap pt rk cd fr mc mg mz nc nt ld (fun _ => false) (fun _ => 0) (fun _ => 0) (fun _ => 0) qfr (fillN k 0 qmc) qmg qmz qnc qnt qld nb cl gr sp ot na aw nx bg bb ab fd pv bx wy li fm en nu td lf lk)) 15 rfl (fun j hj => by unfold nF; rw [fill_in (by omega)]) rfl ?_
              refine wk_ext (f := nF (fillN k 0 qmc)) (g := nF (fun _ => 0)) (ws' := (wMd m cI tx sz ap pt rk cd fr mc mg mz nc nt ld (fun _ => false) (fun _ => 0) (fun _ => 0) (fun _ => 0) qfr (fun _ => 0) qmg qmz qnc qnt qld nb cl gr sp ot na aw nx bg bb ab fd pv bx wy li fm en nu td lf lk)) 16 rfl (fun j hj => by unfold nF; rw [fill_in (by omega)]) rfl ?_
              refine wk_aload_n (pc := 63) S_ 0 d_Md_clearNew_63 rfl rfl ?_
              refine wk_iconst (pc := 64) (v := (nI (0))) S_ d_Md_clearNew_64 (by decide) ?_
              refine wk_put (pc := 65) (ty := .int) (ws' := (wMd m cI tx sz ap pt rk cd fr mc mg mz nc nt ld (fun _ => false) (fun _ => 0) (fun _ => 0) (fun _ => 0) 0 (fun _ => 0) qmg qmz qnc qnt qld nb cl gr sp ot na aw nx bg bb ab fd pv bx wy li fm en nu td lf lk)) S_ 6 17 0 in_Md t_Md t_Md_ok n_Md rfl (by decide) rfl fl_Md_134 (by decide +kernel) d_Md_clearNew_65 rfl rfl rfl (Nat.le_of_ble_eq_true rfl) rfl ?_
              refine wk_iconst (pc := 68) (v := (nI (0))) S_ d_Md_clearNew_68 (by decide) ?_
              refine wk_istore_n (pc := 69) (lv' := [(1, .int (nI (0))), (0, .ref (m 0))]) S_ d_Md_clearNew_69 rfl (by decide) rfl ?_
              have hL70 : ∀ (fuel70 : Nat), ∀ (k : Nat), 4 - k < fuel70 → (k ≤ 4) → wk_G p_ l e_ R_ s_ m_ ar_ be_ me_ co_ Q_ D A_ 2 0 0 (wMd m cI tx sz ap pt rk cd fr mc mg mz nc nt ld (fun _ => false) (fun _ => 0) (fun _ => 0) (fun _ => 0) 0 (fun _ => 0) qmg qmz (fillN k 0 qnc) qnt qld nb cl gr sp ot na aw nx bg bb ab fd pv bx wy li fm en nu td lf lk) 70 [(0, .ref (m 0)), (1, .int (nI (k)))] [] := by
                intro fuel70
                induction fuel70 with
                | zero => intro k hm; exact absurd hm (Nat.not_lt_zero _)
                | succ fuel70 ih70 =>
                  intro k hm hk
                  refine wk_iload_n (pc := 70) S_ 1 d_Md_clearNew_70 rfl rfl ?_
                  refine wk_iconst (pc := 71) (v := (nI (4))) S_ d_Md_clearNew_71 (by decide) ?_
                  refine wk_icmp_geN (pc := 72) (tgt := 88) S_ d_Md_clearNew_72 (by decide) (by omega) (by omega) (fun h72 => ?_) (fun h72 => ?_)
                  · -- taken
                    refine wk_ext (f := nF (fillN k 0 qnc)) (g := nF (fun _ => 0)) (ws' := (wMd m cI tx sz ap pt rk cd fr mc mg mz nc nt ld (fun _ => false) (fun _ => 0) (fun _ => 0) (fun _ => 0) 0 (fun _ => 0) qmg qmz (fun _ => 0) qnt qld nb cl gr sp ot na aw nx bg bb ab fd pv bx wy li fm en nu td lf lk)) 19 rfl (fun j hj => by unfold nF; rw [fill_in (by omega)]) rfl ?_
                    refine wk_iconst (pc := 88) (v := (nI (0))) S_ d_Md_clearNew_88 (by decide) ?_
                    refine wk_istore_n (pc := 89) (lv' := [(1, .int (nI (0))), (0, .ref (m 0))]) S_ d_Md_clearNew_89 rfl (by decide) rfl ?_
                    have hL90 : ∀ (fuel90 : Nat), ∀ (k : Nat), 40 - k < fuel90 → (k ≤ 40) → wk_G p_ l e_ R_ s_ m_ ar_ be_ me_ co_ Q_ D A_ 2 0 0 (wMd m cI tx sz ap pt rk cd fr mc mg mz nc nt ld (fun _ => false) (fun _ => 0) (fun _ => 0) (fun _ => 0) 0 (fun _ => 0) qmg qmz (fun _ => 0) qnt (fillN k 0 qld) nb cl gr sp ot na aw nx bg bb ab fd pv bx wy li fm en nu td lf lk) 90 [(0, .ref (m 0)), (1, .int (nI (k)))] [] := by
                      intro fuel90
                      induction fuel90 with
                      | zero => intro k hm; exact absurd hm (Nat.not_lt_zero _)
                      | succ fuel90 ih90 =>
                        intro k hm hk
                        refine wk_iload_n (pc := 90) S_ 1 d_Md_clearNew_90 rfl rfl ?_
                        refine wk_bipush (pc := 91) (v := (nI (40))) S_ d_Md_clearNew_91 (by decide) ?_
                        refine wk_icmp_geN (pc := 93) (tgt := 110) S_ d_Md_clearNew_93 (by decide) (by omega) (by omega) (fun h93 => ?_) (fun h93 => ?_)
                        · -- taken
                          refine wk_ext (f := lI_F (fillN k 0 qld)) (g := lI_F (fun _ => 0)) (ws' := (wMd m cI tx sz ap pt rk cd fr mc mg mz nc nt ld (fun _ => false) (fun _ => 0) (fun _ => 0) (fun _ => 0) 0 (fun _ => 0) qmg qmz (fun _ => 0) qnt (fun _ => 0) nb cl gr sp ot na aw nx bg bb ab fd pv bx wy li fm en nu td lf lk)) 21 rfl (fun j hj => by unfold lI_F; rw [fill_in (by omega)]) rfl ?_
                          exact hQ_ () d_Md_clearNew_110 rfl trivial
                        · -- on
                          refine wk_aload_n (pc := 96) S_ 0 d_Md_clearNew_96 rfl rfl ?_
                          refine wk_get (pc := 97) (v := .ref (m 21)) S_ 6 23 0 in_Md rfl (by decide) rfl fl_Md_71 d_Md_clearNew_97 rfl rfl ?_
                          refine wk_iload_n (pc := 100) S_ 1 d_Md_clearNew_100 rfl rfl ?_
                          refine wk_bipush (pc := 101) (v := (-100)) S_ d_Md_clearNew_101 (by decide) ?_
                          refine wk_top (y := (lI (0))) rfl ?_
                          refine wk_iastD (pc := 103) (g := fillN k 0 qld) (ws' := (wMd m cI tx sz ap pt rk cd fr mc mg mz nc nt ld (fun _ => false) (fun _ => 0) (fun _ => 0) (fun _ => 0) 0 (fun _ => 0) qmg qmz (fun _ => 0) qnt (va_up (fillN k 0 qld) (k) (0)) nb cl gr sp ot na aw nx bg bb ab fd pv bx wy li fm en nu td lf lk)) S_ 21 0 d_Md_clearNew_103 rfl rfl (by omega) (by decide) rfl ?_
                          refine wk_iincN (pc := 104) (d := 1) (lv' := [(1, .int (nI (k + 1))), (0, .ref (m 0))]) S_ 1 d_Md_clearNew_104 (by decide) rfl (by decide) rfl ?_
                          refine wk_goto (pc := 107) (tgt := 90) S_ d_Md_clearNew_107 (by decide) ?_
                          refine wk_weq (ws' := (wMd m cI tx sz ap pt rk cd fr mc mg mz nc nt ld (fun _ => false) (fun _ => 0) (fun _ => 0) (fun _ => 0) 0 (fun _ => 0) qmg qmz (fun _ => 0) qnt (fillN (k + 1) 0 qld) nb cl gr sp ot na aw nx bg bb ab fd pv bx wy li fm en nu td lf lk)) (by rw [fill_up k 0 qld]) ?_
                          refine wk_lv [1, 0] ?_ (ih90 (k + 1) (by omega) (by omega))
                          rfl
                    refine wk_weq (ws' := (wMd m cI tx sz ap pt rk cd fr mc mg mz nc nt ld (fun _ => false) (fun _ => 0) (fun _ => 0) (fun _ => 0) 0 (fun _ => 0) qmg qmz (fun _ => 0) qnt (fillN 0 0 qld) nb cl gr sp ot na aw nx bg bb ab fd pv bx wy li fm en nu td lf lk)) (by rw [← fill_0 0 qld]) ?_
                    refine wk_lv [1, 0] ?_ (hL90 _ (0) (Nat.lt_succ_self _) (by omega))
                    rfl
                  · -- on
                    refine wk_aload_n (pc := 75) S_ 0 d_Md_clearNew_75 rfl rfl ?_
                    refine wk_get (pc := 76) (v := .ref (m 19)) S_ 6 21 0 in_Md rfl (by decide) rfl fl_Md_65 d_Md_clearNew_76 rfl rfl ?_
                    refine wk_iload_n (pc := 79) S_ 1 d_Md_clearNew_79 rfl rfl ?_
                    refine wk_iconst (pc := 80) (v := (nI (0))) S_ d_Md_clearNew_80 (by decide) ?_
                    refine wk_iastN (pc := 81) (g := fillN k 0 qnc) (ws' := (wMd m cI tx sz ap pt rk cd fr mc mg mz nc nt ld (fun _ => false) (fun _ => 0) (fun _ => 0) (fun _ => 0) 0 (fun _ => 0) qmg qmz (va_up (fillN k 0 qnc) (k) (0)) qnt qld nb cl gr sp ot na aw nx bg bb ab fd pv bx wy li fm en nu td lf lk)) S_ 19 0 d_Md_clearNew_81 rfl rfl (by omega) (by decide) rfl ?_
                    refine wk_iincN (pc := 82) (d := 1) (lv' := [(1, .int (nI (k + 1))), (0, .ref (m 0))]) S_ 1 d_Md_clearNew_82 (by decide) rfl (by decide) rfl ?_
                    refine wk_goto (pc := 85) (tgt := 70) S_ d_Md_clearNew_85 (by decide) ?_
                    refine wk_weq (ws' := (wMd m cI tx sz ap pt rk cd fr mc mg mz nc nt ld (fun _ => false) (fun _ => 0) (fun _ => 0) (fun _ => 0) 0 (fun _ => 0) qmg qmz (fillN (k + 1) 0 qnc) qnt qld nb cl gr sp ot na aw nx bg bb ab fd pv bx wy li fm en nu td lf lk)) (by rw [fill_up k 0 qnc]) ?_
                    refine wk_lv [1, 0] ?_ (ih70 (k + 1) (by omega) (by omega))
                    rfl
              refine wk_weq (ws' := (wMd m cI tx sz ap pt rk cd fr mc mg mz nc nt ld (fun _ => false) (fun _ => 0) (fun _ => 0) (fun _ => 0) 0 (fun _ => 0) qmg qmz (fillN 0 0 qnc) qnt qld nb cl gr sp ot na aw nx bg bb ab fd pv bx wy li fm en nu td lf lk)) (by rw [← fill_0 0 qnc]) ?_
              refine wk_lv [1, 0] ?_ (hL70 _ (0) (Nat.lt_succ_self _) (by omega))
              rfl
            · -- on
              refine wk_aload_n (pc := 29) S_ 0 d_Md_clearNew_29 rfl rfl ?_
              refine wk_get (pc := 30) (v := .ref (m 13)) S_ 6 14 0 in_Md rfl (by decide) rfl fl_Md_47 d_Md_clearNew_30 rfl rfl ?_
              refine wk_iload_n (pc := 33) S_ 1 d_Md_clearNew_33 rfl rfl ?_
              refine wk_iconst (pc := 34) (v := (nI (0))) S_ d_Md_clearNew_34 (by decide) ?_
              refine wk_iastN (pc := 35) (g := fillN k 0 qpt) (ws' := (wMd m cI tx sz ap pt rk cd fr mc mg mz nc nt ld (fun _ => false) (va_up (fillN k 0 qpt) (k) (0)) (fillN k 0 qrk) (fillN k 0 qcd) qfr (fillN k 0 qmc) qmg qmz qnc qnt qld nb cl gr sp ot na aw nx bg bb ab fd pv bx wy li fm en nu td lf lk)) S_ 13 0 d_Md_clearNew_35 rfl rfl (by omega) (by decide) rfl ?_
              refine wk_aload_n (pc := 36) S_ 0 d_Md_clearNew_36 rfl rfl ?_
              refine wk_get (pc := 37) (v := .ref (m 14)) S_ 6 15 0 in_Md rfl (by decide) rfl fl_Md_50 d_Md_clearNew_37 rfl rfl ?_
              refine wk_iload_n (pc := 40) S_ 1 d_Md_clearNew_40 rfl rfl ?_
              refine wk_iconst (pc := 41) (v := (nI (0))) S_ d_Md_clearNew_41 (by decide) ?_
              refine wk_iastN (pc := 42) (g := fillN k 0 qrk) (ws' := (wMd m cI tx sz ap pt rk cd fr mc mg mz nc nt ld (fun _ => false) (va_up (fillN k 0 qpt) (k) (0)) (va_up (fillN k 0 qrk) (k) (0)) (fillN k 0 qcd) qfr (fillN k 0 qmc) qmg qmz qnc qnt qld nb cl gr sp ot na aw nx bg bb ab fd pv bx wy li fm en nu td lf lk)) S_ 14 0 d_Md_clearNew_42 rfl rfl (by omega) (by decide) rfl ?_
              refine wk_aload_n (pc := 43) S_ 0 d_Md_clearNew_43 rfl rfl ?_
              refine wk_get (pc := 44) (v := .ref (m 15)) S_ 6 16 0 in_Md rfl (by decide) rfl fl_Md_53 d_Md_clearNew_44 rfl rfl ?_
              refine wk_iload_n (pc := 47) S_ 1 d_Md_clearNew_47 rfl rfl ?_
              refine wk_iconst (pc := 48) (v := (nI (0))) S_ d_Md_clearNew_48 (by decide) ?_
              refine wk_iastN (pc := 49) (g := fillN k 0 qcd) (ws' := (wMd m cI tx sz ap pt rk cd fr mc mg mz nc nt ld (fun _ => false) (va_up (fillN k 0 qpt) (k) (0)) (va_up (fillN k 0 qrk) (k) (0)) (va_up (fillN k 0 qcd) (k) (0)) qfr (fillN k 0 qmc) qmg qmz qnc qnt qld nb cl gr sp ot na aw nx bg bb ab fd pv bx wy li fm en nu td lf lk)) S_ 15 0 d_Md_clearNew_49 rfl rfl (by omega) (by decide) rfl ?_
              refine wk_aload_n (pc := 50) S_ 0 d_Md_clearNew_50 rfl rfl ?_
              refine wk_get (pc := 51) (v := .ref (m 16)) S_ 6 18 0 in_Md rfl (by decide) rfl fl_Md_56 d_Md_clearNew_51 rfl rfl ?_
              refine wk_iload_n (pc := 54) S_ 1 d_Md_clearNew_54 rfl rfl ?_
              refine wk_iconst (pc := 55) (v := (nI (0))) S_ d_Md_clearNew_55 (by decide) ?_
              refine wk_iastN (pc := 56) (g := fillN k 0 qmc) (ws' := (wMd m cI tx sz ap pt rk cd fr mc mg mz nc nt ld (fun _ => false) (va_up (fillN k 0 qpt) (k) (0)) (va_up (fillN k 0 qrk) (k) (0)) (va_up (fillN k 0 qcd) (k) (0)) qfr (va_up (fillN k 0 qmc) (k) (0)) qmg qmz qnc qnt qld nb cl gr sp ot na aw nx bg bb ab fd pv bx wy li fm en nu td lf lk)) S_ 16 0 d_Md_clearNew_56 rfl rfl (by omega) (by decide) rfl ?_
              refine wk_iincN (pc := 57) (d := 1) (lv' := [(1, .int (nI (k + 1))), (0, .ref (m 0))]) S_ 1 d_Md_clearNew_57 (by decide) rfl (by decide) rfl ?_
              refine wk_goto (pc := 60) (tgt := 23) S_ d_Md_clearNew_60 (by decide) ?_
              refine wk_weq (ws' := (wMd m cI tx sz ap pt rk cd fr mc mg mz nc nt ld (fun _ => false) (fillN (k + 1) 0 qpt) (va_up (fillN k 0 qrk) (k) (0)) (va_up (fillN k 0 qcd) (k) (0)) qfr (va_up (fillN k 0 qmc) (k) (0)) qmg qmz qnc qnt qld nb cl gr sp ot na aw nx bg bb ab fd pv bx wy li fm en nu td lf lk)) (by rw [fill_up k 0 qpt]) ?_
              refine wk_weq (ws' := (wMd m cI tx sz ap pt rk cd fr mc mg mz nc nt ld (fun _ => false) (fillN (k + 1) 0 qpt) (fillN (k + 1) 0 qrk) (va_up (fillN k 0 qcd) (k) (0)) qfr (va_up (fillN k 0 qmc) (k) (0)) qmg qmz qnc qnt qld nb cl gr sp ot na aw nx bg bb ab fd pv bx wy li fm en nu td lf lk)) (by rw [fill_up k 0 qrk]) ?_
              refine wk_weq (ws' := (wMd m cI tx sz ap pt rk cd fr mc mg mz nc nt ld (fun _ => false) (fillN (k + 1) 0 qpt) (fillN (k + 1) 0 qrk) (fillN (k + 1) 0 qcd) qfr (va_up (fillN k 0 qmc) (k) (0)) qmg qmz qnc qnt qld nb cl gr sp ot na aw nx bg bb ab fd pv bx wy li fm en nu td lf lk)) (by rw [fill_up k 0 qcd]) ?_
              refine wk_weq (ws' := (wMd m cI tx sz ap pt rk cd fr mc mg mz nc nt ld (fun _ => false) (fillN (k + 1) 0 qpt) (fillN (k + 1) 0 qrk) (fillN (k + 1) 0 qcd) qfr (fillN (k + 1) 0 qmc) qmg qmz qnc qnt qld nb cl gr sp ot na aw nx bg bb ab fd pv bx wy li fm en nu td lf lk)) (by rw [fill_up k 0 qmc]) ?_
              refine wk_lv [1, 0] ?_ (ih23 (k + 1) (by omega) (by omega))
              rfl
        refine wk_weq (ws' := (wMd m cI tx sz ap pt rk cd fr mc mg mz nc nt ld (fun _ => false) (fillN 0 0 qpt) qrk qcd qfr qmc qmg qmz qnc qnt qld nb cl gr sp ot na aw nx bg bb ab fd pv bx wy li fm en nu td lf lk)) (by rw [← fill_0 0 qpt]) ?_
        refine wk_weq (ws' := (wMd m cI tx sz ap pt rk cd fr mc mg mz nc nt ld (fun _ => false) (fillN 0 0 qpt) (fillN 0 0 qrk) qcd qfr qmc qmg qmz qnc qnt qld nb cl gr sp ot na aw nx bg bb ab fd pv bx wy li fm en nu td lf lk)) (by rw [← fill_0 0 qrk]) ?_
        refine wk_weq (ws' := (wMd m cI tx sz ap pt rk cd fr mc mg mz nc nt ld (fun _ => false) (fillN 0 0 qpt) (fillN 0 0 qrk) (fillN 0 0 qcd) qfr qmc qmg qmz qnc qnt qld nb cl gr sp ot na aw nx bg bb ab fd pv bx wy li fm en nu td lf lk)) (by rw [← fill_0 0 qcd]) ?_
        refine wk_weq (ws' := (wMd m cI tx sz ap pt rk cd fr mc mg mz nc nt ld (fun _ => false) (fillN 0 0 qpt) (fillN 0 0 qrk) (fillN 0 0 qcd) qfr (fillN 0 0 qmc) qmg qmz qnc qnt qld nb cl gr sp ot na aw nx bg bb ab fd pv bx wy li fm en nu td lf lk)) (by rw [← fill_0 0 qmc]) ?_
        refine wk_lv [1, 0] ?_ (hL23 _ (0) (Nat.lt_succ_self _) (by omega))
        rfl
      · -- on
        refine wk_aload_n (pc := 8) S_ 0 d_Md_clearNew_8 rfl rfl ?_
        refine wk_get (pc := 9) (v := .ref (m 12)) S_ 6 13 0 in_Md rfl (by decide) rfl fl_Md_44 d_Md_clearNew_9 rfl rfl ?_
        refine wk_iload_n (pc := 12) S_ 1 d_Md_clearNew_12 rfl rfl ?_
        refine wk_iconst (pc := 13) (v := (nI (0))) S_ d_Md_clearNew_13 (by decide) ?_
        refine wk_top (y := bI false) rfl ?_
        refine wk_zast (pc := 14) (g := fillN k false qap) (ws' := (wMd m cI tx sz ap pt rk cd fr mc mg mz nc nt ld (va_up (fillN k false qap) (k) (false)) qpt qrk qcd qfr qmc qmg qmz qnc qnt qld nb cl gr sp ot na aw nx bg bb ab fd pv bx wy li fm en nu td lf lk)) S_ 12 1 d_Md_clearNew_14 rfl rfl (by omega) (by decide) rfl ?_
        refine wk_iincN (pc := 15) (d := 1) (lv' := [(1, .int (nI (k + 1))), (0, .ref (m 0))]) S_ 1 d_Md_clearNew_15 (by decide) rfl (by decide) rfl ?_
        refine wk_goto (pc := 18) (tgt := 2) S_ d_Md_clearNew_18 (by decide) ?_
        refine wk_weq (ws' := (wMd m cI tx sz ap pt rk cd fr mc mg mz nc nt ld (fillN (k + 1) false qap) qpt qrk qcd qfr qmc qmg qmz qnc qnt qld nb cl gr sp ot na aw nx bg bb ab fd pv bx wy li fm en nu td lf lk)) (by rw [fill_up k false qap]) ?_
        refine wk_lv [1, 0] ?_ (ih2 (k + 1) (by omega) (by omega))
        rfl
  refine wk_weq (ws' := (wMd m cI tx sz ap pt rk cd fr mc mg mz nc nt ld (fillN 0 false qap) qpt qrk qcd qfr qmc qmg qmz qnc qnt qld nb cl gr sp ot na aw nx bg bb ab fd pv bx wy li fm en nu td lf lk)) (by rw [← fill_0 false qap]) ?_
  refine wk_lv [1, 0] ?_ (hL2 _ (0) (Nat.lt_succ_self _) (by omega))
  rfl
set_option maxHeartbeats 4000000 in
set_option maxRecDepth 100000 in
theorem c_Md_take (l : Launch) (D : va_G) (cI : CiT) (z : GzT) (m : Nat → Nat) (tx : (Nat → Nat)) (sz : Nat) (ap : (Nat → Bool)) (pt : (Nat → Nat)) (rk : (Nat → Nat)) (cd : (Nat → Nat)) (fr : Nat) (mc : (Nat → Nat)) (mg : (Nat → Nat)) (mz : (Nat → Nat)) (nc : (Nat → Nat)) (nt : (Nat → Nat)) (ld : (Nat → Nat)) (qap : (Nat → Bool)) (qpt : (Nat → Nat)) (qrk : (Nat → Nat)) (qcd : (Nat → Nat)) (qfr : Nat) (qmc : (Nat → Nat)) (qmg : (Nat → Nat)) (qmz : (Nat → Nat)) (qnc : (Nat → Nat)) (qnt : (Nat → Nat)) (qld : (Nat → Nat)) (nb : Nat) (cl : (Nat → Nat)) (gr : (Nat → Nat)) (sp : (Nat → Nat)) (ot : (Nat → Bool)) (na : Nat) (aw : (Nat → Nat)) (nx : Nat) (bg : (Nat → Nat)) (bb : (Nat → Nat)) (ab : (Nat → Nat)) (fd : Bool) (pv : Bool) (bx : (Nat → Nat)) (wy : (Nat → Nat)) (li : (Nat → Nat)) (fm : Nat) (en : Nat) (nu : Nat) (td : (Nat → Nat)) (lf : Int32) (lk : Int32) : wk_C l D (tyK cI) (gX z) y_Md_take b_Md_take 2 none 0 0 0 0 [.ref (m 0)] (wMd m cI tx sz ap pt rk cd fr mc mg mz nc nt ld qap qpt qrk qcd qfr qmc qmg qmz qnc qnt qld nb cl gr sp ot na aw nx bg bb ab fd pv bx wy li fm en nu td lf lk) wk_v (fun (_ : Unit) (_ : Unit) => True) (fun _ => (wMd m cI tx sz qap qpt qrk qcd qfr qmc qmg qmz qnc qnt qld qap qpt qrk qcd qfr qmc qmg qmz qnc qnt qld nb cl gr sp ot na aw nx bg bb ab fd pv bx wy li fm en nu td lf lk)) := by
  refine wk_methV (own := R_Md) [(0, .ref (m 0))] (by decide) rfl (Nat.le_of_ble_eq_true rfl) rfl (gX_ok z) (fun p_ e_ R_ s_ m_ ar_ be_ me_ co_ Q_ A_ hR_ S_ hnm_ hQ_ => ?_)
  refine wk_iconst (pc := 0) (v := (nI (0))) S_ d_Md_take_0 (by decide) ?_
  refine wk_istore_n (pc := 1) (lv' := [(1, .int (nI (0))), (0, .ref (m 0))]) S_ d_Md_take_1 rfl (by decide) rfl ?_
  have hL2 : ∀ (fuel2 : Nat), ∀ (k : Nat), 81 - k < fuel2 → (k ≤ 81) → wk_G p_ l e_ R_ s_ m_ ar_ be_ me_ co_ Q_ D A_ 2 0 0 (wMd m cI tx sz (cpN k qap ap) pt rk cd fr mc mg mz nc nt ld qap qpt qrk qcd qfr qmc qmg qmz qnc qnt qld nb cl gr sp ot na aw nx bg bb ab fd pv bx wy li fm en nu td lf lk) 2 [(0, .ref (m 0)), (1, .int (nI (k)))] [] := by
    intro fuel2
    induction fuel2 with
    | zero => intro k hm; exact absurd hm (Nat.not_lt_zero _)
    | succ fuel2 ih2 =>
      intro k hm hk
      refine wk_iload_n (pc := 2) S_ 1 d_Md_take_2 rfl rfl ?_
      refine wk_bipush (pc := 3) (v := (nI (81))) S_ d_Md_take_3 (by decide) ?_
      refine wk_icmp_geN (pc := 5) (tgt := 26) S_ d_Md_take_5 (by decide) (by omega) (by omega) (fun h5 => ?_) (fun h5 => ?_)
      · -- taken
        refine wk_ext (f := bF (cpN k qap ap)) (g := bF (qap)) (ws' := (wMd m cI tx sz qap pt rk cd fr mc mg mz nc nt ld qap qpt qrk qcd qfr qmc qmg qmz qnc qnt qld nb cl gr sp ot na aw nx bg bb ab fd pv bx wy li fm en nu td lf lk)) 2 rfl (fun j hj => by unfold bF; rw [cp_in (by omega)]) rfl ?_
        refine wk_iconst (pc := 26) (v := (nI (0))) S_ d_Md_take_26 (by decide) ?_
        refine wk_istore_n (pc := 27) (lv' := [(1, .int (nI (0))), (0, .ref (m 0))]) S_ d_Md_take_27 rfl (by decide) rfl ?_
        have hL28 : ∀ (fuel28 : Nat), ∀ (k : Nat), 9 - k < fuel28 → (k ≤ 9) → wk_G p_ l e_ R_ s_ m_ ar_ be_ me_ co_ Q_ D A_ 2 0 0 (wMd m cI tx sz qap (cpN k qpt pt) (cpN k qrk rk) (cpN k qcd cd) fr (cpN k qmc mc) mg mz nc nt ld qap qpt qrk qcd qfr qmc qmg qmz qnc qnt qld nb cl gr sp ot na aw nx bg bb ab fd pv bx wy li fm en nu td lf lk) 28 [(0, .ref (m 0)), (1, .int (nI (k)))] [] := by
          intro fuel28
          induction fuel28 with
          | zero => intro k hm; exact absurd hm (Nat.not_lt_zero _)
          | succ fuel28 ih28 =>
            intro k hm hk
            refine wk_iload_n (pc := 28) S_ 1 d_Md_take_28 rfl rfl ?_
            refine wk_bipush (pc := 29) (v := (nI (9))) S_ d_Md_take_29 (by decide) ?_
            refine wk_icmp_geN (pc := 31) (tgt := 88) S_ d_Md_take_31 (by decide) (by omega) (by omega) (fun h31 => ?_) (fun h31 => ?_)
            · -- taken
              refine wk_ext (f := nF (cpN k qpt pt)) (g := nF (qpt)) (ws' := (wMd m cI tx sz qap qpt (cpN k qrk rk) (cpN k qcd cd) fr (cpN k qmc mc) mg mz nc nt ld qap qpt qrk qcd qfr qmc qmg qmz qnc qnt qld nb cl gr sp ot na aw nx bg bb ab fd pv bx wy li fm en nu td lf lk)) 3 rfl (fun j hj => by unfold nF; rw [cp_in (by omega)]) rfl ?_
              refine wk_ext (f := nF (cpN k qrk rk)) (g := nF (qrk)) (ws' := (wMd m cI tx sz qap qpt qrk (cpN k qcd cd) fr (cpN k qmc mc) mg mz nc nt ld qap qpt qrk qcd qfr qmc qmg qmz qnc qnt qld nb cl gr sp ot na aw nx bg bb ab fd pv bx wy li fm en nu td lf lk)) 4 rfl (fun j hj => by unfold nF; rw [cp_in (by omega)]) rfl ?_
              refine wk_ext (f := nF (cpN k qcd cd)) (g := nF (qcd)) (ws' := (wMd m cI tx sz qap qpt qrk qcd fr (cpN k qmc mc) mg mz nc nt ld qap qpt qrk qcd qfr qmc qmg qmz qnc qnt qld nb cl gr sp ot na aw nx bg bb ab fd pv bx wy li fm en nu td lf lk)) 5 rfl (fun j hj => by unfold nF; rw [cp_in (by omega)]) rfl ?_
              refine wk_ext (f := nF (cpN k qmc mc)) (g := nF (qmc)) (ws' := (wMd m cI tx sz qap qpt qrk qcd fr qmc mg mz nc nt ld qap qpt qrk qcd qfr qmc qmg qmz qnc qnt qld nb cl gr sp ot na aw nx bg bb ab fd pv bx wy li fm en nu td lf lk)) 6 rfl (fun j hj => by unfold nF; rw [cp_in (by omega)]) rfl ?_
              refine wk_aload_n (pc := 88) S_ 0 d_Md_take_88 rfl rfl ?_
              refine wk_aload_n (pc := 89) S_ 0 d_Md_take_89 rfl rfl ?_
              refine wk_get (pc := 90) (v := .int (nI (qfr))) S_ 6 17 0 in_Md rfl (by decide) rfl fl_Md_134 d_Md_take_90 rfl rfl ?_
              refine wk_put (pc := 93) (ty := .int) (ws' := (wMd m cI tx sz qap qpt qrk qcd qfr qmc mg mz nc nt ld qap qpt qrk qcd qfr qmc qmg qmz qnc qnt qld nb cl gr sp ot na aw nx bg bb ab fd pv bx wy li fm en nu td lf lk)) S_ 6 6 0 in_Md t_Md t_Md_ok n_Md rfl (by decide) rfl fl_Md_137 (by decide +kernel) d_Md_take_93 rfl rfl rfl (Nat.le_of_ble_eq_true rfl) rfl ?_
              refine wk_iconst (pc := 96) (v := (nI (0))) S_ d_Md_take_96 (by decide) ?_
              refine wk_istore_n (pc := 97) (lv' := [(1, .int (nI (0))), (0, .ref (m 0))]) S_ d_Md_take_97 rfl (by decide) rfl ?_
              have hL98 : ∀ (fuel98 : Nat), ∀ (k : Nat), 54 - k < fuel98 → (k ≤ 54) → wk_G p_ l e_ R_ s_ m_ ar_ be_ me_ co_ Q_ D A_ 2 0 0 (wMd m cI tx sz qap qpt qrk qcd qfr qmc (cpN k qmg mg) (cpN k qmz mz) nc nt ld qap qpt qrk qcd qfr qmc qmg qmz qnc qnt qld nb cl gr sp ot na aw nx bg bb ab fd pv bx wy li fm en nu td lf lk) 98 [(0, .ref (m 0)), (1, .int (nI (k)))] [] := by
                intro fuel98
                induction fuel98 with
                | zero => intro k hm; exact absurd hm (Nat.not_lt_zero _)
                | succ fuel98 ih98 =>
                  intro k hm hk
                  refine wk_iload_n (pc := 98) S_ 1 d_Md_take_98 rfl rfl ?_
                  refine wk_bipush (pc := 99) (v := (nI (54))) S_ d_Md_take_99 (by decide) ?_
                  refine wk_icmp_geN (pc := 101) (tgt := 134) S_ d_Md_take_101 (by decide) (by omega) (by omega) (fun h101 => ?_) (fun h101 => ?_)
                  · -- taken
                    refine wk_ext (f := nF (cpN k qmg mg)) (g := nF (qmg)) (ws' := (wMd m cI tx sz qap qpt qrk qcd qfr qmc qmg (cpN k qmz mz) nc nt ld qap qpt qrk qcd qfr qmc qmg qmz qnc qnt qld nb cl gr sp ot na aw nx bg bb ab fd pv bx wy li fm en nu td lf lk)) 7 rfl (fun j hj => by unfold nF; rw [cp_in (by omega)]) rfl ?_
                    refine wk_ext (f := nF (cpN k qmz mz)) (g := nF (qmz)) (ws' := (wMd m cI tx sz qap qpt qrk qcd qfr qmc qmg qmz nc nt ld qap qpt qrk qcd qfr qmc qmg qmz qnc qnt qld nb cl gr sp ot na aw nx bg bb ab fd pv bx wy li fm en nu td lf lk)) 8 rfl (fun j hj => by unfold nF; rw [cp_in (by omega)]) rfl ?_
                    refine wk_iconst (pc := 134) (v := (nI (0))) S_ d_Md_take_134 (by decide) ?_
                    refine wk_istore_n (pc := 135) (lv' := [(1, .int (nI (0))), (0, .ref (m 0))]) S_ d_Md_take_135 rfl (by decide) rfl ?_
                    have hL136 : ∀ (fuel136 : Nat), ∀ (k : Nat), 4 - k < fuel136 → (k ≤ 4) → wk_G p_ l e_ R_ s_ m_ ar_ be_ me_ co_ Q_ D A_ 2 0 0 (wMd m cI tx sz qap qpt qrk qcd qfr qmc qmg qmz (cpN k qnc nc) nt ld qap qpt qrk qcd qfr qmc qmg qmz qnc qnt qld nb cl gr sp ot na aw nx bg bb ab fd pv bx wy li fm en nu td lf lk) 136 [(0, .ref (m 0)), (1, .int (nI (k)))] [] := by
                      intro fuel136
                      induction fuel136 with
                      | zero => intro k hm; exact absurd hm (Nat.not_lt_zero _)
                      | succ fuel136 ih136 =>
                        intro k hm hk
                        refine wk_iload_n (pc := 136) S_ 1 d_Md_take_136 rfl rfl ?_
                        refine wk_iconst (pc := 137) (v := (nI (4))) S_ d_Md_take_137 (by decide) ?_
                        refine wk_icmp_geN (pc := 138) (tgt := 159) S_ d_Md_take_138 (by decide) (by omega) (by omega) (fun h138 => ?_) (fun h138 => ?_)
                        · -- taken
                          refine wk_ext (f := nF (cpN k qnc nc)) (g := nF (qnc)) (ws' := (wMd m cI tx sz qap qpt qrk qcd qfr qmc qmg qmz qnc nt ld qap qpt qrk qcd qfr qmc qmg qmz qnc qnt qld nb cl gr sp ot na aw nx bg bb ab fd pv bx wy li fm en nu td lf lk)) 9 rfl (fun j hj => by unfold nF; rw [cp_in (by omega)]) rfl ?_
                          refine wk_iconst (pc := 159) (v := (nI (0))) S_ d_Md_take_159 (by decide) ?_
                          refine wk_istore_n (pc := 160) (lv' := [(1, .int (nI (0))), (0, .ref (m 0))]) S_ d_Md_take_160 rfl (by decide) rfl ?_
                          have hL161 : ∀ (fuel161 : Nat), ∀ (k : Nat), 32 - k < fuel161 → (k ≤ 32) → wk_G p_ l e_ R_ s_ m_ ar_ be_ me_ co_ Q_ D A_ 2 0 0 (wMd m cI tx sz qap qpt qrk qcd qfr qmc qmg qmz qnc (cpN k qnt nt) ld qap qpt qrk qcd qfr qmc qmg qmz qnc qnt qld nb cl gr sp ot na aw nx bg bb ab fd pv bx wy li fm en nu td lf lk) 161 [(0, .ref (m 0)), (1, .int (nI (k)))] [] := by
                            intro fuel161
                            induction fuel161 with
                            | zero => intro k hm; exact absurd hm (Nat.not_lt_zero _)
                            | succ fuel161 ih161 =>
                              intro k hm hk
                              refine wk_iload_n (pc := 161) S_ 1 d_Md_take_161 rfl rfl ?_
                              refine wk_bipush (pc := 162) (v := (nI (32))) S_ d_Md_take_162 (by decide) ?_
                              refine wk_icmp_geN (pc := 164) (tgt := 185) S_ d_Md_take_164 (by decide) (by omega) (by omega) (fun h164 => ?_) (fun h164 => ?_)
                              · -- taken
                                refine wk_ext (f := nF (cpN k qnt nt)) (g := nF (qnt)) (ws' := (wMd m cI tx sz qap qpt qrk qcd qfr qmc qmg qmz qnc qnt ld qap qpt qrk qcd qfr qmc qmg qmz qnc qnt qld nb cl gr sp ot na aw nx bg bb ab fd pv bx wy li fm en nu td lf lk)) 10 rfl (fun j hj => by unfold nF; rw [cp_in (by omega)]) rfl ?_
                                refine wk_iconst (pc := 185) (v := (nI (0))) S_ d_Md_take_185 (by decide) ?_
                                refine wk_istore_n (pc := 186) (lv' := [(1, .int (nI (0))), (0, .ref (m 0))]) S_ d_Md_take_186 rfl (by decide) rfl ?_
                                have hL187 : ∀ (fuel187 : Nat), ∀ (k : Nat), 40 - k < fuel187 → (k ≤ 40) → wk_G p_ l e_ R_ s_ m_ ar_ be_ me_ co_ Q_ D A_ 2 0 0 (wMd m cI tx sz qap qpt qrk qcd qfr qmc qmg qmz qnc qnt (cpN k qld ld) qap qpt qrk qcd qfr qmc qmg qmz qnc qnt qld nb cl gr sp ot na aw nx bg bb ab fd pv bx wy li fm en nu td lf lk) 187 [(0, .ref (m 0)), (1, .int (nI (k)))] [] := by
                                  intro fuel187
                                  induction fuel187 with
                                  | zero => intro k hm; exact absurd hm (Nat.not_lt_zero _)
                                  | succ fuel187 ih187 =>
                                    intro k hm hk
                                    refine wk_iload_n (pc := 187) S_ 1 d_Md_take_187 rfl rfl ?_
                                    refine wk_bipush (pc := 188) (v := (nI (40))) S_ d_Md_take_188 (by decide) ?_
                                    refine wk_icmp_geN (pc := 190) (tgt := 211) S_ d_Md_take_190 (by decide) (by omega) (by omega) (fun h190 => ?_) (fun h190 => ?_)
                                    · -- taken
                                      refine wk_ext (f := lI_F (cpN k qld ld)) (g := lI_F (qld)) (ws' := (wMd m cI tx sz qap qpt qrk qcd qfr qmc qmg qmz qnc qnt qld qap qpt qrk qcd qfr qmc qmg qmz qnc qnt qld nb cl gr sp ot na aw nx bg bb ab fd pv bx wy li fm en nu td lf lk)) 11 rfl (fun j hj => by unfold lI_F; rw [cp_in (by omega)]) rfl ?_
                                      exact hQ_ () d_Md_take_211 rfl trivial
                                    · -- on
                                      refine wk_aload_n (pc := 193) S_ 0 d_Md_take_193 rfl rfl ?_
                                      refine wk_get (pc := 194) (v := .ref (m 11)) S_ 6 12 0 in_Md rfl (by decide) rfl fl_Md_41 d_Md_take_194 rfl rfl ?_
                                      refine wk_iload_n (pc := 197) S_ 1 d_Md_take_197 rfl rfl ?_
                                      refine wk_aload_n (pc := 198) S_ 0 d_Md_take_198 rfl rfl ?_
                                      refine wk_get (pc := 199) (v := .ref (m 21)) S_ 6 23 0 in_Md rfl (by decide) rfl fl_Md_71 d_Md_take_199 rfl rfl ?_
                                      refine wk_iload_n (pc := 202) S_ 1 d_Md_take_202 rfl rfl ?_
                                      refine wk_ialdD (pc := 203) (g := qld) S_ 21 0 d_Md_take_203 rfl rfl (by omega) (by decide) ?_
                                      refine wk_iastD (pc := 204) (g := cpN k qld ld) (ws' := (wMd m cI tx sz qap qpt qrk qcd qfr qmc qmg qmz qnc qnt (va_up (cpN k qld ld) (k) ((qld) (k))) qap qpt qrk qcd qfr qmc qmg qmz qnc qnt qld nb cl gr sp ot na aw nx bg bb ab fd pv bx wy li fm en nu td lf lk)) S_ 11 0 d_Md_take_204 rfl rfl (by omega) (by decide) rfl ?_
                                      refine wk_iincN (pc := 205) (d := 1) (lv' := [(1, .int (nI (k + 1))), (0, .ref (m 0))]) S_ 1 d_Md_take_205 (by decide) rfl (by decide) rfl ?_
                                      refine wk_goto (pc := 208) (tgt := 187) S_ d_Md_take_208 (by decide) ?_
                                      refine wk_weq (ws' := (wMd m cI tx sz qap qpt qrk qcd qfr qmc qmg qmz qnc qnt (cpN (k + 1) qld ld) qap qpt qrk qcd qfr qmc qmg qmz qnc qnt qld nb cl gr sp ot na aw nx bg bb ab fd pv bx wy li fm en nu td lf lk)) (by rw [cp_up k qld ld]) ?_
                                      refine wk_lv [1, 0] ?_ (ih187 (k + 1) (by omega) (by omega))
                                      rfl
                                refine wk_weq (ws' := (wMd m cI tx sz qap qpt qrk qcd qfr qmc qmg qmz qnc qnt (cpN 0 qld ld) qap qpt qrk qcd qfr qmc qmg qmz qnc qnt qld nb cl gr sp ot na aw nx bg bb ab fd pv bx wy li fm en nu td lf lk)) (by rw [← cp_0 qld ld]) ?_
                                refine wk_lv [1, 0] ?_ (hL187 _ (0) (Nat.lt_succ_self _) (by omega))
                                rfl
                              · -- on
                                refine wk_aload_n (pc := 167) S_ 0 d_Md_take_167 rfl rfl ?_
                                refine wk_get (pc := 168) (v := .ref (m 10)) S_ 6 11 0 in_Md rfl (by decide) rfl fl_Md_38 d_Md_take_168 rfl rfl ?_
                                refine wk_iload_n (pc := 171) S_ 1 d_Md_take_171 rfl rfl ?_
                                refine wk_aload_n (pc := 172) S_ 0 d_Md_take_172 rfl rfl ?_
                                refine wk_get (pc := 173) (v := .ref (m 20)) S_ 6 22 0 in_Md rfl (by decide) rfl fl_Md_68 d_Md_take_173 rfl rfl ?_
                                refine wk_iload_n (pc := 176) S_ 1 d_Md_take_176 rfl rfl ?_
                                refine wk_ialdN (pc := 177) (g := qnt) S_ 20 0 d_Md_take_177 rfl rfl (by omega) (by decide) ?_
                                refine wk_iastN (pc := 178) (g := cpN k qnt nt) (ws' := (wMd m cI tx sz qap qpt qrk qcd qfr qmc qmg qmz qnc (va_up (cpN k qnt nt) (k) ((qnt) (k))) ld qap qpt qrk qcd qfr qmc qmg qmz qnc qnt qld nb cl gr sp ot na aw nx bg bb ab fd pv bx wy li fm en nu td lf lk)) S_ 10 0 d_Md_take_178 rfl rfl (by omega) (by decide) rfl ?_
                                refine wk_iincN (pc := 179) (d := 1) (lv' := [(1, .int (nI (k + 1))), (0, .ref (m 0))]) S_ 1 d_Md_take_179 (by decide) rfl (by decide) rfl ?_
                                refine wk_goto (pc := 182) (tgt := 161) S_ d_Md_take_182 (by decide) ?_
                                refine wk_weq (ws' := (wMd m cI tx sz qap qpt qrk qcd qfr qmc qmg qmz qnc (cpN (k + 1) qnt nt) ld qap qpt qrk qcd qfr qmc qmg qmz qnc qnt qld nb cl gr sp ot na aw nx bg bb ab fd pv bx wy li fm en nu td lf lk)) (by rw [cp_up k qnt nt]) ?_
                                refine wk_lv [1, 0] ?_ (ih161 (k + 1) (by omega) (by omega))
                                rfl
                          refine wk_weq (ws' := (wMd m cI tx sz qap qpt qrk qcd qfr qmc qmg qmz qnc (cpN 0 qnt nt) ld qap qpt qrk qcd qfr qmc qmg qmz qnc qnt qld nb cl gr sp ot na aw nx bg bb ab fd pv bx wy li fm en nu td lf lk)) (by rw [← cp_0 qnt nt]) ?_
                          refine wk_lv [1, 0] ?_ (hL161 _ (0) (Nat.lt_succ_self _) (by omega))
                          rfl
                        · -- on
                          refine wk_aload_n (pc := 141) S_ 0 d_Md_take_141 rfl rfl ?_
                          refine wk_get (pc := 142) (v := .ref (m 9)) S_ 6 10 0 in_Md rfl (by decide) rfl fl_Md_35 d_Md_take_142 rfl rfl ?_
                          refine wk_iload_n (pc := 145) S_ 1 d_Md_take_145 rfl rfl ?_
                          refine wk_aload_n (pc := 146) S_ 0 d_Md_take_146 rfl rfl ?_
                          refine wk_get (pc := 147) (v := .ref (m 19)) S_ 6 21 0 in_Md rfl (by decide) rfl fl_Md_65 d_Md_take_147 rfl rfl ?_
                          refine wk_iload_n (pc := 150) S_ 1 d_Md_take_150 rfl rfl ?_
                          refine wk_ialdN (pc := 151) (g := qnc) S_ 19 0 d_Md_take_151 rfl rfl (by omega) (by decide) ?_
                          refine wk_iastN (pc := 152) (g := cpN k qnc nc) (ws' := (wMd m cI tx sz qap qpt qrk qcd qfr qmc qmg qmz (va_up (cpN k qnc nc) (k) ((qnc) (k))) nt ld qap qpt qrk qcd qfr qmc qmg qmz qnc qnt qld nb cl gr sp ot na aw nx bg bb ab fd pv bx wy li fm en nu td lf lk)) S_ 9 0 d_Md_take_152 rfl rfl (by omega) (by decide) rfl ?_
                          refine wk_iincN (pc := 153) (d := 1) (lv' := [(1, .int (nI (k + 1))), (0, .ref (m 0))]) S_ 1 d_Md_take_153 (by decide) rfl (by decide) rfl ?_
                          refine wk_goto (pc := 156) (tgt := 136) S_ d_Md_take_156 (by decide) ?_
                          refine wk_weq (ws' := (wMd m cI tx sz qap qpt qrk qcd qfr qmc qmg qmz (cpN (k + 1) qnc nc) nt ld qap qpt qrk qcd qfr qmc qmg qmz qnc qnt qld nb cl gr sp ot na aw nx bg bb ab fd pv bx wy li fm en nu td lf lk)) (by rw [cp_up k qnc nc]) ?_
                          refine wk_lv [1, 0] ?_ (ih136 (k + 1) (by omega) (by omega))
                          rfl
                    refine wk_weq (ws' := (wMd m cI tx sz qap qpt qrk qcd qfr qmc qmg qmz (cpN 0 qnc nc) nt ld qap qpt qrk qcd qfr qmc qmg qmz qnc qnt qld nb cl gr sp ot na aw nx bg bb ab fd pv bx wy li fm en nu td lf lk)) (by rw [← cp_0 qnc nc]) ?_
                    refine wk_lv [1, 0] ?_ (hL136 _ (0) (Nat.lt_succ_self _) (by omega))
                    rfl
                  · -- on
                    refine wk_aload_n (pc := 104) S_ 0 d_Md_take_104 rfl rfl ?_
                    refine wk_get (pc := 105) (v := .ref (m 7)) S_ 6 8 0 in_Md rfl (by decide) rfl fl_Md_29 d_Md_take_105 rfl rfl ?_
                    refine wk_iload_n (pc := 108) S_ 1 d_Md_take_108 rfl rfl ?_
                    refine wk_aload_n (pc := 109) S_ 0 d_Md_take_109 rfl rfl ?_
                    refine wk_get (pc := 110) (v := .ref (m 17)) S_ 6 19 0 in_Md rfl (by decide) rfl fl_Md_59 d_Md_take_110 rfl rfl ?_
                    refine wk_iload_n (pc := 113) S_ 1 d_Md_take_113 rfl rfl ?_
                    refine wk_ialdN (pc := 114) (g := qmg) S_ 17 0 d_Md_take_114 rfl rfl (by omega) (by decide) ?_
                    refine wk_iastN (pc := 115) (g := cpN k qmg mg) (ws' := (wMd m cI tx sz qap qpt qrk qcd qfr qmc (va_up (cpN k qmg mg) (k) ((qmg) (k))) (cpN k qmz mz) nc nt ld qap qpt qrk qcd qfr qmc qmg qmz qnc qnt qld nb cl gr sp ot na aw nx bg bb ab fd pv bx wy li fm en nu td lf lk)) S_ 7 0 d_Md_take_115 rfl rfl (by omega) (by decide) rfl ?_
                    refine wk_aload_n (pc := 116) S_ 0 d_Md_take_116 rfl rfl ?_
                    refine wk_get (pc := 117) (v := .ref (m 8)) S_ 6 9 0 in_Md rfl (by decide) rfl fl_Md_32 d_Md_take_117 rfl rfl ?_
                    refine wk_iload_n (pc := 120) S_ 1 d_Md_take_120 rfl rfl ?_
                    refine wk_aload_n (pc := 121) S_ 0 d_Md_take_121 rfl rfl ?_
                    refine wk_get (pc := 122) (v := .ref (m 18)) S_ 6 20 0 in_Md rfl (by decide) rfl fl_Md_62 d_Md_take_122 rfl rfl ?_
                    refine wk_iload_n (pc := 125) S_ 1 d_Md_take_125 rfl rfl ?_
                    refine wk_ialdN (pc := 126) (g := qmz) S_ 18 0 d_Md_take_126 rfl rfl (by omega) (by decide) ?_
                    refine wk_iastN (pc := 127) (g := cpN k qmz mz) (ws' := (wMd m cI tx sz qap qpt qrk qcd qfr qmc (va_up (cpN k qmg mg) (k) ((qmg) (k))) (va_up (cpN k qmz mz) (k) ((qmz) (k))) nc nt ld qap qpt qrk qcd qfr qmc qmg qmz qnc qnt qld nb cl gr sp ot na aw nx bg bb ab fd pv bx wy li fm en nu td lf lk)) S_ 8 0 d_Md_take_127 rfl rfl (by omega) (by decide) rfl ?_
                    refine wk_iincN (pc := 128) (d := 1) (lv' := [(1, .int (nI (k + 1))), (0, .ref (m 0))]) S_ 1 d_Md_take_128 (by decide) rfl (by decide) rfl ?_
                    refine wk_goto (pc := 131) (tgt := 98) S_ d_Md_take_131 (by decide) ?_
                    refine wk_weq (ws' := (wMd m cI tx sz qap qpt qrk qcd qfr qmc (cpN (k + 1) qmg mg) (va_up (cpN k qmz mz) (k) ((qmz) (k))) nc nt ld qap qpt qrk qcd qfr qmc qmg qmz qnc qnt qld nb cl gr sp ot na aw nx bg bb ab fd pv bx wy li fm en nu td lf lk)) (by rw [cp_up k qmg mg]) ?_
                    refine wk_weq (ws' := (wMd m cI tx sz qap qpt qrk qcd qfr qmc (cpN (k + 1) qmg mg) (cpN (k + 1) qmz mz) nc nt ld qap qpt qrk qcd qfr qmc qmg qmz qnc qnt qld nb cl gr sp ot na aw nx bg bb ab fd pv bx wy li fm en nu td lf lk)) (by rw [cp_up k qmz mz]) ?_
                    refine wk_lv [1, 0] ?_ (ih98 (k + 1) (by omega) (by omega))
                    rfl
              refine wk_weq (ws' := (wMd m cI tx sz qap qpt qrk qcd qfr qmc (cpN 0 qmg mg) mz nc nt ld qap qpt qrk qcd qfr qmc qmg qmz qnc qnt qld nb cl gr sp ot na aw nx bg bb ab fd pv bx wy li fm en nu td lf lk)) (by rw [← cp_0 qmg mg]) ?_
              refine wk_weq (ws' := (wMd m cI tx sz qap qpt qrk qcd qfr qmc (cpN 0 qmg mg) (cpN 0 qmz mz) nc nt ld qap qpt qrk qcd qfr qmc qmg qmz qnc qnt qld nb cl gr sp ot na aw nx bg bb ab fd pv bx wy li fm en nu td lf lk)) (by rw [← cp_0 qmz mz]) ?_
              refine wk_lv [1, 0] ?_ (hL98 _ (0) (Nat.lt_succ_self _) (by omega))
              rfl
            · -- on
              refine wk_aload_n (pc := 34) S_ 0 d_Md_take_34 rfl rfl ?_
              refine wk_get (pc := 35) (v := .ref (m 3)) S_ 6 3 0 in_Md rfl (by decide) rfl fl_Md_17 d_Md_take_35 rfl rfl ?_
              refine wk_iload_n (pc := 38) S_ 1 d_Md_take_38 rfl rfl ?_
              refine wk_aload_n (pc := 39) S_ 0 d_Md_take_39 rfl rfl ?_
              refine wk_get (pc := 40) (v := .ref (m 13)) S_ 6 14 0 in_Md rfl (by decide) rfl fl_Md_47 d_Md_take_40 rfl rfl ?_
              refine wk_iload_n (pc := 43) S_ 1 d_Md_take_43 rfl rfl ?_
              refine wk_ialdN (pc := 44) (g := qpt) S_ 13 0 d_Md_take_44 rfl rfl (by omega) (by decide) ?_
              refine wk_iastN (pc := 45) (g := cpN k qpt pt) (ws' := (wMd m cI tx sz qap (va_up (cpN k qpt pt) (k) ((qpt) (k))) (cpN k qrk rk) (cpN k qcd cd) fr (cpN k qmc mc) mg mz nc nt ld qap qpt qrk qcd qfr qmc qmg qmz qnc qnt qld nb cl gr sp ot na aw nx bg bb ab fd pv bx wy li fm en nu td lf lk)) S_ 3 0 d_Md_take_45 rfl rfl (by omega) (by decide) rfl ?_
              refine wk_aload_n (pc := 46) S_ 0 d_Md_take_46 rfl rfl ?_
              refine wk_get (pc := 47) (v := .ref (m 4)) S_ 6 4 0 in_Md rfl (by decide) rfl fl_Md_20 d_Md_take_47 rfl rfl ?_
              refine wk_iload_n (pc := 50) S_ 1 d_Md_take_50 rfl rfl ?_
              refine wk_aload_n (pc := 51) S_ 0 d_Md_take_51 rfl rfl ?_
              refine wk_get (pc := 52) (v := .ref (m 14)) S_ 6 15 0 in_Md rfl (by decide) rfl fl_Md_50 d_Md_take_52 rfl rfl ?_
              refine wk_iload_n (pc := 55) S_ 1 d_Md_take_55 rfl rfl ?_
              refine wk_ialdN (pc := 56) (g := qrk) S_ 14 0 d_Md_take_56 rfl rfl (by omega) (by decide) ?_
              refine wk_iastN (pc := 57) (g := cpN k qrk rk) (ws' := (wMd m cI tx sz qap (va_up (cpN k qpt pt) (k) ((qpt) (k))) (va_up (cpN k qrk rk) (k) ((qrk) (k))) (cpN k qcd cd) fr (cpN k qmc mc) mg mz nc nt ld qap qpt qrk qcd qfr qmc qmg qmz qnc qnt qld nb cl gr sp ot na aw nx bg bb ab fd pv bx wy li fm en nu td lf lk)) S_ 4 0 d_Md_take_57 rfl rfl (by omega) (by decide) rfl ?_
              refine wk_aload_n (pc := 58) S_ 0 d_Md_take_58 rfl rfl ?_
              refine wk_get (pc := 59) (v := .ref (m 5)) S_ 6 5 0 in_Md rfl (by decide) rfl fl_Md_23 d_Md_take_59 rfl rfl ?_
              refine wk_iload_n (pc := 62) S_ 1 d_Md_take_62 rfl rfl ?_
              refine wk_aload_n (pc := 63) S_ 0 d_Md_take_63 rfl rfl ?_
              refine wk_get (pc := 64) (v := .ref (m 15)) S_ 6 16 0 in_Md rfl (by decide) rfl fl_Md_53 d_Md_take_64 rfl rfl ?_
              refine wk_iload_n (pc := 67) S_ 1 d_Md_take_67 rfl rfl ?_
              refine wk_ialdN (pc := 68) (g := qcd) S_ 15 0 d_Md_take_68 rfl rfl (by omega) (by decide) ?_
              refine wk_iastN (pc := 69) (g := cpN k qcd cd) (ws' := (wMd m cI tx sz qap (va_up (cpN k qpt pt) (k) ((qpt) (k))) (va_up (cpN k qrk rk) (k) ((qrk) (k))) (va_up (cpN k qcd cd) (k) ((qcd) (k))) fr (cpN k qmc mc) mg mz nc nt ld qap qpt qrk qcd qfr qmc qmg qmz qnc qnt qld nb cl gr sp ot na aw nx bg bb ab fd pv bx wy li fm en nu td lf lk)) S_ 5 0 d_Md_take_69 rfl rfl (by omega) (by decide) rfl ?_
              refine wk_aload_n (pc := 70) S_ 0 d_Md_take_70 rfl rfl ?_
              refine wk_get (pc := 71) (v := .ref (m 6)) S_ 6 7 0 in_Md rfl (by decide) rfl fl_Md_26 d_Md_take_71 rfl rfl ?_
              refine wk_iload_n (pc := 74) S_ 1 d_Md_take_74 rfl rfl ?_
              refine wk_aload_n (pc := 75) S_ 0 d_Md_take_75 rfl rfl ?_
              refine wk_get (pc := 76) (v := .ref (m 16)) S_ 6 18 0 in_Md rfl (by decide) rfl fl_Md_56 d_Md_take_76 rfl rfl ?_
              refine wk_iload_n (pc := 79) S_ 1 d_Md_take_79 rfl rfl ?_
              refine wk_ialdN (pc := 80) (g := qmc) S_ 16 0 d_Md_take_80 rfl rfl (by omega) (by decide) ?_
              refine wk_iastN (pc := 81) (g := cpN k qmc mc) (ws' := (wMd m cI tx sz qap (va_up (cpN k qpt pt) (k) ((qpt) (k))) (va_up (cpN k qrk rk) (k) ((qrk) (k))) (va_up (cpN k qcd cd) (k) ((qcd) (k))) fr (va_up (cpN k qmc mc) (k) ((qmc) (k))) mg mz nc nt ld qap qpt qrk qcd qfr qmc qmg qmz qnc qnt qld nb cl gr sp ot na aw nx bg bb ab fd pv bx wy li fm en nu td lf lk)) S_ 6 0 d_Md_take_81 rfl rfl (by omega) (by decide) rfl ?_
              refine wk_iincN (pc := 82) (d := 1) (lv' := [(1, .int (nI (k + 1))), (0, .ref (m 0))]) S_ 1 d_Md_take_82 (by decide) rfl (by decide) rfl ?_
              refine wk_goto (pc := 85) (tgt := 28) S_ d_Md_take_85 (by decide) ?_
              refine wk_weq (ws' := (wMd m cI tx sz qap (cpN (k + 1) qpt pt) (va_up (cpN k qrk rk) (k) ((qrk) (k))) (va_up (cpN k qcd cd) (k) ((qcd) (k))) fr (va_up (cpN k qmc mc) (k) ((qmc) (k))) mg mz nc nt ld qap qpt qrk qcd qfr qmc qmg qmz qnc qnt qld nb cl gr sp ot na aw nx bg bb ab fd pv bx wy li fm en nu td lf lk)) (by rw [cp_up k qpt pt]) ?_
              refine wk_weq (ws' := (wMd m cI tx sz qap (cpN (k + 1) qpt pt) (cpN (k + 1) qrk rk) (va_up (cpN k qcd cd) (k) ((qcd) (k))) fr (va_up (cpN k qmc mc) (k) ((qmc) (k))) mg mz nc nt ld qap qpt qrk qcd qfr qmc qmg qmz qnc qnt qld nb cl gr sp ot na aw nx bg bb ab fd pv bx wy li fm en nu td lf lk)) (by rw [cp_up k qrk rk]) ?_
              refine wk_weq (ws' := (wMd m cI tx sz qap (cpN (k + 1) qpt pt) (cpN (k + 1) qrk rk) (cpN (k + 1) qcd cd) fr (va_up (cpN k qmc mc) (k) ((qmc) (k))) mg mz nc nt ld qap qpt qrk qcd qfr qmc qmg qmz qnc qnt qld nb cl gr sp ot na aw nx bg bb ab fd pv bx wy li fm en nu td lf lk)) (by rw [cp_up k qcd cd]) ?_
              refine wk_weq (ws' := (wMd m cI tx sz qap (cpN (k + 1) qpt pt) (cpN (k + 1) qrk rk) (cpN (k + 1) qcd cd) fr (cpN (k + 1) qmc mc) mg mz nc nt ld qap qpt qrk qcd qfr qmc qmg qmz qnc qnt qld nb cl gr sp ot na aw nx bg bb ab fd pv bx wy li fm en nu td lf lk)) (by rw [cp_up k qmc mc]) ?_
              refine wk_lv [1, 0] ?_ (ih28 (k + 1) (by omega) (by omega))
              rfl
        refine wk_weq (ws' := (wMd m cI tx sz qap (cpN 0 qpt pt) rk cd fr mc mg mz nc nt ld qap qpt qrk qcd qfr qmc qmg qmz qnc qnt qld nb cl gr sp ot na aw nx bg bb ab fd pv bx wy li fm en nu td lf lk)) (by rw [← cp_0 qpt pt]) ?_
        refine wk_weq (ws' := (wMd m cI tx sz qap (cpN 0 qpt pt) (cpN 0 qrk rk) cd fr mc mg mz nc nt ld qap qpt qrk qcd qfr qmc qmg qmz qnc qnt qld nb cl gr sp ot na aw nx bg bb ab fd pv bx wy li fm en nu td lf lk)) (by rw [← cp_0 qrk rk]) ?_
        refine wk_weq (ws' := (wMd m cI tx sz qap (cpN 0 qpt pt) (cpN 0 qrk rk) (cpN 0 qcd cd) fr mc mg mz nc nt ld qap qpt qrk qcd qfr qmc qmg qmz qnc qnt qld nb cl gr sp ot na aw nx bg bb ab fd pv bx wy li fm en nu td lf lk)) (by rw [← cp_0 qcd cd]) ?_
        refine wk_weq (ws' := (wMd m cI tx sz qap (cpN 0 qpt pt) (cpN 0 qrk rk) (cpN 0 qcd cd) fr (cpN 0 qmc mc) mg mz nc nt ld qap qpt qrk qcd qfr qmc qmg qmz qnc qnt qld nb cl gr sp ot na aw nx bg bb ab fd pv bx wy li fm en nu td lf lk)) (by rw [← cp_0 qmc mc]) ?_
        refine wk_lv [1, 0] ?_ (hL28 _ (0) (Nat.lt_succ_self _) (by omega))
        rfl
      · -- on
        refine wk_aload_n (pc := 8) S_ 0 d_Md_take_8 rfl rfl ?_
        refine wk_get (pc := 9) (v := .ref (m 2)) S_ 6 2 0 in_Md rfl (by decide) rfl fl_Md_13 d_Md_take_9 rfl rfl ?_
        refine wk_iload_n (pc := 12) S_ 1 d_Md_take_12 rfl rfl ?_
        refine wk_aload_n (pc := 13) S_ 0 d_Md_take_13 rfl rfl ?_
        refine wk_get (pc := 14) (v := .ref (m 12)) S_ 6 13 0 in_Md rfl (by decide) rfl fl_Md_44 d_Md_take_14 rfl rfl ?_
        refine wk_iload_n (pc := 17) S_ 1 d_Md_take_17 rfl rfl ?_
        refine wk_zald (pc := 18) (g := qap) S_ 12 1 d_Md_take_18 rfl rfl (by omega) (by decide) ?_
        refine wk_zast (pc := 19) (g := cpN k qap ap) (ws' := (wMd m cI tx sz (va_up (cpN k qap ap) (k) ((qap) (k))) pt rk cd fr mc mg mz nc nt ld qap qpt qrk qcd qfr qmc qmg qmz qnc qnt qld nb cl gr sp ot na aw nx bg bb ab fd pv bx wy li fm en nu td lf lk)) S_ 2 1 d_Md_take_19 rfl rfl (by omega) (by decide) rfl ?_
        refine wk_iincN (pc := 20) (d := 1) (lv' := [(1, .int (nI (k + 1))), (0, .ref (m 0))]) S_ 1 d_Md_take_20 (by decide) rfl (by decide) rfl ?_
        refine wk_goto (pc := 23) (tgt := 2) S_ d_Md_take_23 (by decide) ?_
        refine wk_weq (ws' := (wMd m cI tx sz (cpN (k + 1) qap ap) pt rk cd fr mc mg mz nc nt ld qap qpt qrk qcd qfr qmc qmg qmz qnc qnt qld nb cl gr sp ot na aw nx bg bb ab fd pv bx wy li fm en nu td lf lk)) (by rw [cp_up k qap ap]) ?_
        refine wk_lv [1, 0] ?_ (ih2 (k + 1) (by omega) (by omega))
        rfl
  refine wk_weq (ws' := (wMd m cI tx sz (cpN 0 qap ap) pt rk cd fr mc mg mz nc nt ld qap qpt qrk qcd qfr qmc qmg qmz qnc qnt qld nb cl gr sp ot na aw nx bg bb ab fd pv bx wy li fm en nu td lf lk)) (by rw [← cp_0 qap ap]) ?_
  refine wk_lv [1, 0] ?_ (hL2 _ (0) (Nat.lt_succ_self _) (by omega))
  rfl
set_option maxHeartbeats 4000000 in
set_option maxRecDepth 100000 in
theorem c_Md_order (l : Launch) (D : va_G) (cI : CiT) (z : GzT) (m : Nat → Nat) (tx : (Nat → Nat)) (sz : Nat) (ap : (Nat → Bool)) (pt : (Nat → Nat)) (rk : (Nat → Nat)) (cd : (Nat → Nat)) (fr : Nat) (mc : (Nat → Nat)) (mg : (Nat → Nat)) (mz : (Nat → Nat)) (nc : (Nat → Nat)) (nt : (Nat → Nat)) (ld : (Nat → Nat)) (qap : (Nat → Bool)) (qpt : (Nat → Nat)) (qrk : (Nat → Nat)) (qcd : (Nat → Nat)) (qfr : Nat) (qmc : (Nat → Nat)) (qmg : (Nat → Nat)) (qmz : (Nat → Nat)) (qnc : (Nat → Nat)) (qnt : (Nat → Nat)) (qld : (Nat → Nat)) (nb : Nat) (cl : (Nat → Nat)) (gr : (Nat → Nat)) (sp : (Nat → Nat)) (ot : (Nat → Bool)) (na : Nat) (aw : (Nat → Nat)) (nx : Nat) (bg : (Nat → Nat)) (bb : (Nat → Nat)) (ab : (Nat → Nat)) (fd : Bool) (pv : Bool) (bx : (Nat → Nat)) (wy : (Nat → Nat)) (li : (Nat → Nat)) (fm : Nat) (en : Nat) (nu : Nat) (td : (Nat → Nat)) (lf : Int32) (lk : Int32) (k : Int32) (hnb : nb ≤ 8) (hgr : ∀ b, gr b ≤ 100000) (hcl : ∀ b, cl b ≤ 9) (hF : fd = false → ∀ b, bx b = 0) (hb : ∀ b, bx b ≤ 5) (hrk : ∀ c, rk c ≤ 99) : wk_C l D (tyK cI) (gX z) y_Md_order b_Md_order 5 (some .int) 4 91 0 0 [.ref (m 0), .int (k)] (wMd m cI tx sz ap pt rk cd fr mc mg mz nc nt ld qap qpt qrk qcd qfr qmc qmg qmz qnc qnt qld nb cl gr sp ot na aw nx bg bb ab fd pv bx wy li fm en nu td lf lk) wk_i (fun (r : Int32) (_ : Unit) => r = (zI (odS cl bx nb (nmF rk (fun c => goN cl gr bx c nb)) k 9 0 0))) (fun _ => (wMd m cI tx sz ap pt rk cd fr mc mg mz nc nt ld qap qpt qrk qcd qfr qmc qmg qmz qnc qnt qld nb cl gr sp ot na aw nx bg bb ab fd pv bx wy li fm en nu td lf lk)) := by
  refine wk_methI (own := R_Md) [(0, .ref (m 0)), (1, .int (k))] (by decide) rfl (Nat.le_of_ble_eq_true rfl) rfl (gX_ok z) (fun p_ e_ R_ s_ m_ ar_ be_ me_ co_ Q_ A_ hR_ S_ hnm_ hQ_ => ?_)
  refine wk_iconst (pc := 0) (v := (nI (0))) S_ d_Md_order_0 (by decide) ?_
  refine wk_istore_n (pc := 1) (lv' := [(2, .int (nI (0))), (0, .ref (m 0)), (1, .int (k))]) S_ d_Md_order_1 rfl (by decide) rfl ?_
  refine wk_iconst (pc := 2) (v := (nI (0))) S_ d_Md_order_2 (by decide) ?_
  refine wk_istore_n (pc := 3) (lv' := [(3, .int (nI (0))), (2, .int (nI (0))), (0, .ref (m 0)), (1, .int (k))]) S_ d_Md_order_3 rfl (by decide) rfl ?_
  have hL4 : ∀ (fuel4 : Nat), ∀ (q : Nat) (i : Nat) (t : Nat), q < fuel4 → (i + q = 9) → (t ≤ 8 * i) → (odS cl bx nb (nmF rk (fun c => goN cl gr bx c nb)) k q i t = odS cl bx nb (nmF rk (fun c => goN cl gr bx c nb)) k 9 0 0) → wk_G p_ l e_ R_ s_ m_ ar_ be_ me_ co_ Q_ D A_ 5 0 0 (wMd m cI tx sz ap pt rk cd fr mc mg mz nc nt ld qap qpt qrk qcd qfr qmc qmg qmz qnc qnt qld nb cl gr sp ot na aw nx bg bb ab fd pv bx wy li fm en nu td lf lk) 4 [(0, .ref (m 0)), (1, .int (k)), (2, .int (nI (t))), (3, .int (nI (i)))] [] := by
    intro fuel4
    induction fuel4 with
    | zero => intro q i t hm; exact absurd hm (Nat.not_lt_zero _)
    | succ fuel4 ih4 =>
      intro q i t hm hk ht hE
      refine wk_iload_n (pc := 4) S_ 3 d_Md_order_4 rfl rfl ?_
      refine wk_bipush (pc := 5) (v := (nI (9))) S_ d_Md_order_5 (by decide) ?_
      refine wk_icmp_geN (pc := 7) (tgt := 69) S_ d_Md_order_7 (by decide) (by omega) (by omega) (fun h7 => ?_) (fun h7 => ?_)
      · -- taken
        refine wk_iconst (pc := 69) (v := (-1)) S_ d_Md_order_69 (by decide) ?_
        exact hQ_ (-1) () d_Md_order_70 rfl (by rw [← hE, show q = 0 by omega]; exact zI_0.symm)
      · -- on
        refine wk_iconst (pc := 10) (v := (nI (0))) S_ d_Md_order_10 (by decide) ?_
        refine wk_istore (pc := 11) (lv' := [(4, .int (nI (0))), (0, .ref (m 0)), (1, .int (k)), (2, .int (nI (t))), (3, .int (nI (i)))]) S_ d_Md_order_11 (by decide) rfl ?_
        have hL13 : ∀ (fuel13 : Nat), ∀ (q2 : Nat) (b : Nat) (y : Nat), q2 < fuel13 → (b + q2 = nb) → (y ≤ t + b) → (obS cl bx ((nmF rk (fun c => goN cl gr bx c nb)) i) k q2 b y = obS cl bx ((nmF rk (fun c => goN cl gr bx c nb)) i) k nb 0 t) → wk_G p_ l e_ R_ s_ m_ ar_ be_ me_ co_ Q_ D A_ 5 0 0 (wMd m cI tx sz ap pt rk cd fr mc mg mz nc nt ld qap qpt qrk qcd qfr qmc qmg qmz qnc qnt qld nb cl gr sp ot na aw nx bg bb ab fd pv bx wy li fm en nu td lf lk) 13 [(0, .ref (m 0)), (1, .int (k)), (2, .int (nI (y))), (3, .int (nI (i))), (4, .int (nI (b)))] [] := by
          intro fuel13
          induction fuel13 with
          | zero => intro q2 b y hm; exact absurd hm (Nat.not_lt_zero _)
          | succ fuel13 ih13 =>
            intro q2 b y hm hk2 hy hE2
            refine wk_iload (pc := 13) S_ 4 d_Md_order_13 rfl ?_
            refine wk_aload_n (pc := 15) S_ 0 d_Md_order_15 rfl rfl ?_
            refine wk_get (pc := 16) (v := .int (nI (nb))) S_ 6 24 0 in_Md rfl (by decide) rfl fl_Md_117 d_Md_order_16 rfl rfl ?_
            refine wk_icmp_geN (pc := 19) (tgt := 63) S_ d_Md_order_19 (by decide) (by omega) (by omega) (fun h19 => ?_) (fun h19 => ?_)
            · -- taken
              refine wk_iincN (pc := 63) (d := 1) (lv' := [(3, .int (nI (i + 1))), (0, .ref (m 0)), (1, .int (k)), (2, .int (nI (y))), (4, .int (nI (b)))]) S_ 3 d_Md_order_63 (by decide) rfl (by decide) rfl ?_
              refine wk_goto (pc := 66) (tgt := 4) S_ d_Md_order_66 (by decide) ?_
              refine wk_lv [1, 2, 3, 0] ?_ (ih4 (q - 1) (i + 1) (y) (by omega) (by omega) (by omega) (by rw [← hE]; obtain ⟨r, rfl⟩ : ∃ r, q = r + 1 := ⟨q - 1, by omega⟩; rw [odS, ← hE2, show q2 = 0 by omega, obS]; rfl))
              rfl
            · -- on
              refine wk_aload_n (pc := 22) S_ 0 d_Md_order_22 rfl rfl ?_
              refine wk_iload (pc := 23) S_ 4 d_Md_order_23 rfl ?_
              refine wk_run (pc := 25) (rest := []) (wr := []) (wN := fun _ => (wMd m cI tx sz ap pt rk cd fr mc mg mz nc nt ld qap qpt qrk qcd qfr qmc qmg qmz qnc qnt qld nb cl gr sp ot na aw nx bg bb ab fd pv bx wy li fm en nu td lf lk)) S_ (wk_rV S_ (c_Md_isLoaded l D cI z (m) (tx) (sz) (ap) (pt) (rk) (cd) (fr) (mc) (mg) (mz) (nc) (nt) (ld) (qap) (qpt) (qrk) (qcd) (qfr) (qmc) (qmg) (qmz) (qnc) (qnt) (qld) (nb) (cl) (gr) (sp) (ot) (na) (aw) (nx) (bg) (bb) (ab) (fd) (pv) (bx) (wy) (li) (fm) (en) (nu) (td) (lf) (lk) (b) (by omega) hF hb) mv_Md_245 (wk_rcv S_ 0 6 rfl rfl rfl) rfl rfl (Nat.le_of_ble_eq_true rfl) (by rw [hR_]; decide) (by rw [hR_]; decide) d_Md_order_25) [0, 1, 2, 3, 4, 5, 6, 7, 8, 9, 10, 11, 12, 13, 14, 15, 16, 17, 18, 19, 20, 21, 22, 23, 24, 25, 26, 27, 28, 29, 30, 31, 32, 33] [] [0, 1, 2, 3, 4, 5, 6, 7, 8, 9, 10, 11, 12, 13, 14, 15, 16, 17, 18, 19, 20, 21, 22, 23, 24, 25, 26, 27, 28, 29, 30, 31, 32, 33] rfl rfl rfl (by decide) (by decide) (by decide) (by decide) (fun _ => rfl) (fun _ => rfl) (fun r25 _ hw25 => ?_)
              refine wk_st (st' := [.int (r25)]) rfl ?_
              refine wk_top (y := (bI (decide ((bx) (b) ≠ 0)))) hw25 ?_
              refine wk_if_eqB (pc := 28) (tgt := 57) S_ d_Md_order_28 (by decide) (fun h28 => ?_) (fun h28 => ?_)
              · -- taken
                refine wk_iincN (pc := 57) (d := 1) (lv' := [(4, .int (nI (b + 1))), (0, .ref (m 0)), (1, .int (k)), (2, .int (nI (y))), (3, .int (nI (i)))]) S_ 4 d_Md_order_57 (by decide) rfl (by decide) rfl ?_
                refine wk_goto (pc := 60) (tgt := 13) S_ d_Md_order_60 (by decide) ?_
                refine wk_lv [1, 2, 3, 4, 0] ?_ (ih13 (q2 - 1) (b + 1) (y) (by omega) (by omega) (by omega) (by rw [← hE2]; obtain ⟨r, rfl⟩ : ∃ r, q2 = r + 1 := ⟨q2 - 1, by omega⟩; rw [obS, if_neg (fun z => by simp [z.1] at h28)]; rfl))
                rfl
              · -- on
                refine wk_aload_n (pc := 31) S_ 0 d_Md_order_31 rfl rfl ?_
                refine wk_get (pc := 32) (v := .ref (m 22)) S_ 6 25 0 in_Md rfl (by decide) rfl fl_Md_74 d_Md_order_32 rfl rfl ?_
                refine wk_iload (pc := 35) S_ 4 d_Md_order_35 rfl ?_
                refine wk_ialdY (pc := 37) (g := cl) S_ 22 0 d_Md_order_37 rfl rfl (by omega) (by decide) ?_
                refine wk_aload_n (pc := 38) S_ 0 d_Md_order_38 rfl rfl ?_
                refine wk_iload_n (pc := 39) S_ 3 d_Md_order_39 rfl rfl ?_
                refine wk_run (pc := 40) (rest := [.int (zI ((cl) (b)))]) (wr := []) (wN := fun _ => (wMd m cI tx sz ap pt rk cd fr mc mg mz nc nt ld qap qpt qrk qcd qfr qmc qmg qmz qnc qnt qld nb cl gr sp ot na aw nx bg bb ab fd pv bx wy li fm en nu td lf lk)) S_ (wk_rV S_ (c_Md_name l D cI z (m) (tx) (sz) (ap) (pt) (rk) (cd) (fr) (mc) (mg) (mz) (nc) (nt) (ld) (qap) (qpt) (qrk) (qcd) (qfr) (qmc) (qmg) (qmz) (qnc) (qnt) (qld) (nb) (cl) (gr) (sp) (ot) (na) (aw) (nx) (bg) (bb) (ab) (fd) (pv) (bx) (wy) (li) (fm) (en) (nu) (td) (lf) (lk) ((nI (i))) (by omega) hgr hcl hF hb hrk) mv_Md_265 (wk_rcv S_ 0 6 rfl rfl rfl) rfl rfl (Nat.le_of_ble_eq_true rfl) (by rw [hR_]; decide) (by rw [hR_]; decide) d_Md_order_40) [0, 1, 2, 3, 4, 5, 6, 7, 8, 9, 10, 11, 12, 13, 14, 15, 16, 17, 18, 19, 20, 21, 22, 23, 24, 25, 26, 27, 28, 29, 30, 31, 32, 33] [] [0, 1, 2, 3, 4, 5, 6, 7, 8, 9, 10, 11, 12, 13, 14, 15, 16, 17, 18, 19, 20, 21, 22, 23, 24, 25, 26, 27, 28, 29, 30, 31, 32, 33] rfl rfl rfl (by decide) (by decide) (by decide) (by decide) (fun _ => rfl) (fun _ => rfl) (fun r40 _ hw40 => ?_)
                refine wk_st (st' := [.int (r40), .int (zI ((cl) (b)))]) rfl ?_
                refine wk_top (y := (zI (nmS (rk) (fun c => goN (cl) (gr) (bx) c (nb)) ((nI (i))) 9 0))) hw40 ?_
                have hn1 := nmF_le (rk := rk) (go := fun c => goN cl gr bx c nb) (i := i)
                unfold nmF at hn1
                have hc1 := hcl b
                refine wk_icmp_neYY (pc := 43) (tgt := 57) S_ d_Md_order_43 (by decide) (by omega) (by omega) (fun h43 => ?_) (fun h43 => ?_)
                · -- taken
                  refine wk_iincN (pc := 57) (d := 1) (lv' := [(4, .int (nI (b + 1))), (0, .ref (m 0)), (1, .int (k)), (2, .int (nI (y))), (3, .int (nI (i)))]) S_ 4 d_Md_order_57 (by decide) rfl (by decide) rfl ?_
                  refine wk_goto (pc := 60) (tgt := 13) S_ d_Md_order_60 (by decide) ?_
                  refine wk_lv [1, 2, 3, 4, 0] ?_ (ih13 (q2 - 1) (b + 1) (y) (by omega) (by omega) (by omega) (by rw [← hE2]; obtain ⟨r, rfl⟩ : ∃ r, q2 = r + 1 := ⟨q2 - 1, by omega⟩; rw [obS, if_neg (fun z => h43 z.2)]; rfl))
                  rfl
                · -- on
                  refine wk_iload_n (pc := 46) S_ 2 d_Md_order_46 rfl rfl ?_
                  refine wk_iload_n (pc := 47) S_ 1 d_Md_order_47 rfl rfl ?_
                  refine wk_icmp_ne (pc := 48) (tgt := 54) S_ d_Md_order_48 (by decide) (fun h48 => ?_) (fun h48 => ?_)
                  · -- taken
                    refine wk_iincN (pc := 54) (d := 1) (lv' := [(2, .int (nI (y + 1))), (0, .ref (m 0)), (1, .int (k)), (3, .int (nI (i))), (4, .int (nI (b)))]) S_ 2 d_Md_order_54 (by decide) rfl (by decide) rfl ?_
                    refine wk_iincN (pc := 57) (d := 1) (lv' := [(4, .int (nI (b + 1))), (2, .int (nI (y + 1))), (0, .ref (m 0)), (1, .int (k)), (3, .int (nI (i)))]) S_ 4 d_Md_order_57 (by decide) rfl (by decide) rfl ?_
                    refine wk_goto (pc := 60) (tgt := 13) S_ d_Md_order_60 (by decide) ?_
                    refine wk_lv [2, 3, 1, 4, 0] ?_ (ih13 (q2 - 1) (b + 1) (y + 1) (by omega) (by omega) (by omega) (by rw [← hE2]; obtain ⟨r, rfl⟩ : ∃ r, q2 = r + 1 := ⟨q2 - 1, by omega⟩; rw [obS, if_pos ⟨by simpa using h28, h43⟩, if_neg h48]; rfl))
                    rfl
                  · -- on
                    refine wk_iload (pc := 51) S_ 4 d_Md_order_51 rfl ?_
                    exact hQ_ (nI (b)) () d_Md_order_53 rfl (by have h9 : obS cl bx (nmF rk (fun c => goN cl gr bx c nb) i) k nb 0 t = (b + 1, y) := (by rw [← hE2]; obtain ⟨r2, rfl⟩ : ∃ r, q2 = r + 1 := ⟨q2 - 1, by omega⟩; rw [obS, if_pos ⟨by simpa using h28, h43⟩, if_pos h48]); rw [← hE]; obtain ⟨r, rfl⟩ : ∃ r, q = r + 1 := ⟨q - 1, by omega⟩; rw [odS, h9, if_pos (by show b + 1 ≠ 0; omega)]; exact (zI_s b).symm)
        refine wk_lv [1, 2, 3, 4, 0] ?_ (hL13 _ (nb) (0) (t) (Nat.lt_succ_self _) (by omega) (by omega) rfl)
        rfl
  refine wk_lv [2, 3, 1, 0] ?_ (hL4 _ (9) (0) (0) (Nat.lt_succ_self _) (by omega) (by omega) rfl)
  rfl
set_option maxHeartbeats 4000000 in
set_option maxRecDepth 100000 in
theorem c_Md_putNumber (l : Launch) (D : va_G) (cI : CiT) (z : GzT) (m : Nat → Nat) (tx : (Nat → Nat)) (sz : Nat) (ap : (Nat → Bool)) (pt : (Nat → Nat)) (rk : (Nat → Nat)) (cd : (Nat → Nat)) (fr : Nat) (mc : (Nat → Nat)) (mg : (Nat → Nat)) (mz : (Nat → Nat)) (nc : (Nat → Nat)) (nt : (Nat → Nat)) (ld : (Nat → Nat)) (qap : (Nat → Bool)) (qpt : (Nat → Nat)) (qrk : (Nat → Nat)) (qcd : (Nat → Nat)) (qfr : Nat) (qmc : (Nat → Nat)) (qmg : (Nat → Nat)) (qmz : (Nat → Nat)) (qnc : (Nat → Nat)) (qnt : (Nat → Nat)) (qld : (Nat → Nat)) (nb : Nat) (cl : (Nat → Nat)) (gr : (Nat → Nat)) (sp : (Nat → Nat)) (ot : (Nat → Bool)) (na : Nat) (aw : (Nat → Nat)) (nx : Nat) (bg : (Nat → Nat)) (bb : (Nat → Nat)) (ab : (Nat → Nat)) (fd : Bool) (pv : Bool) (bx : (Nat → Nat)) (wy : (Nat → Nat)) (li : (Nat → Nat)) (fm : Nat) (en : Nat) (nu : Nat) (td : (Nat → Nat)) (lf : Int32) (lk : Int32) (w : Nat) (hw : w < 1000000000) : wk_C l D (tyK cI) (gX z) y_Md_putNumber b_Md_putNumber 5 none 1 21 0 0 [.ref (m 0), .long (lN (w))] (wMd m cI tx sz ap pt rk cd fr mc mg mz nc nt ld qap qpt qrk qcd qfr qmc qmg qmz qnc qnt qld nb cl gr sp ot na aw nx bg bb ab fd pv bx wy li fm en nu td lf lk) wk_v (fun (_ : Unit) (_ : Unit) => True) (fun _ => (wMd m cI tx sz ap pt rk cd fr mc mg mz nc nt ld qap qpt qrk qcd qfr qmc qmg qmz qnc qnt qld nb cl gr sp ot na aw nx bg bb ab fd pv bx wy li fm en nu td ((putL (lf, lk) (decs w)).1) ((putL (lf, lk) (decs w)).2))) := by
  refine wk_methV (own := R_Md) [(0, .ref (m 0)), (1, .long (lN (w)))] (by decide) rfl (Nat.le_of_ble_eq_true rfl) rfl (gX_ok z) (fun p_ e_ R_ s_ m_ ar_ be_ me_ co_ Q_ A_ hR_ S_ hnm_ hQ_ => ?_)
  refine wk_lconst (pc := 0) (v := (lN (1))) S_ d_Md_putNumber_0 (by decide) ?_
  refine wk_lstore_n (pc := 1) (lv' := [(3, .long (lN (1))), (0, .ref (m 0)), (1, .long (lN (w)))]) S_ d_Md_putNumber_1 rfl (by decide) rfl ?_
  have hL2 : ∀ (fuel2 : Nat), ∀ (f : Nat) (k : Nat), f < fuel2 → (k + f = 9) → (dgK w f k = dgK w 9 0) → wk_G p_ l e_ R_ s_ m_ ar_ be_ me_ co_ Q_ D A_ 5 0 0 (wMd m cI tx sz ap pt rk cd fr mc mg mz nc nt ld qap qpt qrk qcd qfr qmc qmg qmz qnc qnt qld nb cl gr sp ot na aw nx bg bb ab fd pv bx wy li fm en nu td lf lk) 2 [(0, .ref (m 0)), (1, .long (lN (w))), (3, .long (lN (10 ^ k)))] [] := by
    intro fuel2
    induction fuel2 with
    | zero => intro f k hm; exact absurd hm (Nat.not_lt_zero _)
    | succ fuel2 ih2 =>
      intro f k hm hk hE
      refine wk_lload_n (pc := 2) S_ 1 d_Md_putNumber_2 rfl rfl ?_
      refine wk_lload_n (pc := 3) S_ 2 d_Md_putNumber_3 rfl rfl ?_
      have hp1 := p10 (show k ≤ 9 by omega)
      have hp0 := p10_0 k
      refine wk_ldivN (pc := 4) S_ d_Md_putNumber_4 (by omega) (by omega) (by omega) ?_
      refine wk_ldc2 (pc := 5) (v := (lN (9))) S_ kc_Md_223 d_Md_putNumber_5 ?_
      refine wk_lcmp (pc := 8) S_ d_Md_putNumber_8 ?_
      have hd1 := Nat.div_le_self w (10 ^ k)
      refine wk_cmp_leN (pc := 9) (tgt := 21) S_ d_Md_putNumber_9 (by decide) (by omega) (by omega) (fun h9 => ?_) (fun h9 => ?_)
      · -- taken
        have hL21 : ∀ (fuel21 : Nat), ∀ (j : Nat) (lf1 : Int32) (lk1 : Int32), j < fuel21 → (j ≤ 10) → (putL (lf1, lk1) (dgJ w j) = putL (lf, lk) (decs w)) → wk_G p_ l e_ R_ s_ m_ ar_ be_ me_ co_ Q_ D A_ 5 0 0 (wMd m cI tx sz ap pt rk cd fr mc mg mz nc nt ld qap qpt qrk qcd qfr qmc qmg qmz qnc qnt qld nb cl gr sp ot na aw nx bg bb ab fd pv bx wy li fm en nu td lf1 lk1) 21 [(0, .ref (m 0)), (1, .long (lN (w))), (3, .long (lN (pw j)))] [] := by
          intro fuel21
          induction fuel21 with
          | zero => intro j lf1 lk1 hm; exact absurd hm (Nat.not_lt_zero _)
          | succ fuel21 ih21 =>
            intro j lf1 lk1 hm hj hP
            refine wk_lload_n (pc := 21) S_ 2 d_Md_putNumber_21 rfl rfl ?_
            refine wk_lconst (pc := 22) (v := (lN (0))) S_ d_Md_putNumber_22 (by decide) ?_
            refine wk_lcmp (pc := 23) S_ d_Md_putNumber_23 ?_
            have hpj : pw j ≤ 1000000000 := by { cases j with | zero => exact Nat.zero_le _ | succ j => exact p10 (by omega) }
            refine wk_cmp_leN (pc := 24) (tgt := 52) S_ d_Md_putNumber_24 (by decide) (by omega) (by omega) (fun h24 => ?_) (fun h24 => ?_)
            · -- taken
              exact hQ_ () d_Md_putNumber_52 (by rw [← hP, show j = 0 by { cases j with | zero => rfl | succ j => exact absurd h24 (Nat.not_le.mpr (p10_0 j)) }]; rfl) trivial
            · -- on
              have hj0 : j ≠ 0 := fun z => by rw [z] at h24; exact absurd h24 (by decide)
              refine wk_aload_n (pc := 27) S_ 0 d_Md_putNumber_27 rfl rfl ?_
              refine wk_ldc2 (pc := 28) (v := (lN (48))) S_ kc_Md_276 d_Md_putNumber_28 ?_
              refine wk_lload_n (pc := 31) S_ 1 d_Md_putNumber_31 rfl rfl ?_
              refine wk_lload_n (pc := 32) S_ 2 d_Md_putNumber_32 rfl rfl ?_
              refine wk_ldivN (pc := 33) S_ d_Md_putNumber_33 (by omega) (by omega) (by omega) ?_
              refine wk_ldc2 (pc := 34) (v := (lN (10))) S_ kc_Md_274 d_Md_putNumber_34 ?_
              have hd2 := Nat.div_le_self w (pw j)
              refine wk_lremN (pc := 37) S_ d_Md_putNumber_37 (by omega) (by omega) (by omega) ?_
              refine wk_laddN (pc := 38) S_ d_Md_putNumber_38 ?_
              refine wk_l2iN (pc := 39) S_ d_Md_putNumber_39 ?_
              refine wk_top (y := (nI (48 + w / 10 ^ (j - 1) % 10))) (by obtain ⟨r, rfl⟩ : ∃ r, j = r + 1 := ⟨j - 1, by omega⟩; rfl) ?_
              refine wk_run (pc := 40) (rest := []) (wr := []) (wN := fun _ => (wMd m cI tx sz ap pt rk cd fr mc mg mz nc nt ld qap qpt qrk qcd qfr qmc qmg qmz qnc qnt qld nb cl gr sp ot na aw nx bg bb ab fd pv bx wy li fm en nu td ((lf1) - 1) (if (lf1) = 0 then ((nI (48 + w / 10 ^ (j - 1) % 10))) else (lk1)))) S_ (wk_rV S_ (c_Md_put l D cI z (m) (tx) (sz) (ap) (pt) (rk) (cd) (fr) (mc) (mg) (mz) (nc) (nt) (ld) (qap) (qpt) (qrk) (qcd) (qfr) (qmc) (qmg) (qmz) (qnc) (qnt) (qld) (nb) (cl) (gr) (sp) (ot) (na) (aw) (nx) (bg) (bb) (ab) (fd) (pv) (bx) (wy) (li) (fm) (en) (nu) (td) (lf1) (lk1) ((nI (48 + w / 10 ^ (j - 1) % 10)))) mv_Md_278 (wk_rcv S_ 0 6 rfl rfl rfl) rfl rfl (Nat.le_of_ble_eq_true rfl) (by rw [hR_]; decide) (by rw [hR_]; decide) d_Md_putNumber_40) [0, 1, 2, 3, 4, 5, 6, 7, 8, 9, 10, 11, 12, 13, 14, 15, 16, 17, 18, 19, 20, 21, 22, 23, 24, 25, 26, 27, 28, 29, 30, 31, 32, 33] [] [0, 1, 2, 3, 4, 5, 6, 7, 8, 9, 10, 11, 12, 13, 14, 15, 16, 17, 18, 19, 20, 21, 22, 23, 24, 25, 26, 27, 28, 29, 30, 31, 32, 33] rfl rfl rfl (by decide) (by decide) (by decide) (by decide) (fun _ => rfl) (fun _ => rfl) (fun r40 _ hw40 => ?_)
              refine wk_st (st' := []) rfl ?_
              refine wk_lload_n (pc := 43) S_ 2 d_Md_putNumber_43 rfl rfl ?_
              refine wk_ldc2 (pc := 44) (v := (lN (10))) S_ kc_Md_274 d_Md_putNumber_44 ?_
              refine wk_ldivN (pc := 47) S_ d_Md_putNumber_47 (by omega) (by omega) (by omega) ?_
              refine wk_topl (y := (lN (pw (j - 1)))) (congrArg lN (by obtain ⟨r, rfl⟩ : ∃ r, j = r + 1 := ⟨j - 1, by omega⟩; exact pw_div r)) ?_
              refine wk_lstore_n (pc := 48) (lv' := [(3, .long (lN (pw (j - 1)))), (0, .ref (m 0)), (1, .long (lN (w)))]) S_ d_Md_putNumber_48 rfl (by decide) rfl ?_
              refine wk_goto (pc := 49) (tgt := 21) S_ d_Md_putNumber_49 (by decide) ?_
              refine wk_lv [1, 2, 0] ?_ (ih21 (j - 1) ((lf1) - 1) (if (lf1) = 0 then ((nI (48 + w / 10 ^ (j - 1) % 10))) else (lk1)) (by omega) (by omega) (by rw [← hP]; obtain ⟨r, rfl⟩ : ∃ r, j = r + 1 := ⟨j - 1, by omega⟩; rw [dgJ_s]; rfl))
              rfl
        refine wk_lv [0, 1, 2] ?_ (hL21 _ (k + 1) (lf) (lk) (Nat.lt_succ_self _) (by omega) (by rw [decs, ← hE]; have h7 : dgK w f k = k := by { cases f with | zero => rfl | succ f => rw [dgK, if_neg (by omega)] }; rw [h7]; rfl))
        rfl
      · -- on
        refine wk_lload_n (pc := 12) S_ 2 d_Md_putNumber_12 rfl rfl ?_
        refine wk_ldc2 (pc := 13) (v := (lN (10))) S_ kc_Md_274 d_Md_putNumber_13 ?_
        refine wk_lmulN (pc := 16) S_ d_Md_putNumber_16 ?_
        refine wk_topl (y := (lN (10 ^ (k + 1)))) (congrArg lN (Nat.pow_succ 10 k).symm) ?_
        refine wk_lstore_n (pc := 17) (lv' := [(3, .long (lN (10 ^ (k + 1)))), (0, .ref (m 0)), (1, .long (lN (w)))]) S_ d_Md_putNumber_17 rfl (by decide) rfl ?_
        refine wk_goto (pc := 18) (tgt := 2) S_ d_Md_putNumber_18 (by decide) ?_
        have hf0 : f ≠ 0 := fun z => by rw [show k = 9 by omega] at h9; have := Nat.div_le_div_right (c := 10 ^ 9) (Nat.le_of_lt hw); omega
        refine wk_lv [1, 2, 0] ?_ (ih2 (f - 1) (k + 1) (by omega) (by omega) (by rw [← hE]; obtain ⟨r, rfl⟩ : ∃ r, f = r + 1 := ⟨f - 1, by omega⟩; rw [dgK, if_pos h9]; rfl))
        rfl
  refine wk_lv [1, 2, 0] ?_ (hL2 _ (9) (0) (Nat.lt_succ_self _) (by omega) rfl)
  rfl
