theorem kc_Md_121 : Cond.constantLong R_Md 121 (lN 255) ∈ lw_gd := (gd _ (tb3 _ (List.mem_of_getElem? (i := 56) rfl)) rfl)
theorem fl_Md_127 : Cond.fieldLink R_Md 127 R_Md "size" "I" ∈ lw_gd := (gd _ (tb2 _ (List.mem_of_getElem? (i := 153) rfl)) rfl)
theorem fl_Md_7 : Cond.fieldLink R_Md 7 R_Md "text" "[I" ∈ lw_gd := (gd _ (tb2 _ (List.mem_of_getElem? (i := 152) rfl)) rfl)
theorem d_Md_unit_0 : decode b_Md_unit 0 = .ok (.iload_n 1, 1) := by decide +kernel
theorem d_Md_unit_1 : decode b_Md_unit 1 = .ok (.i2l, 1) := by decide +kernel
theorem d_Md_unit_2 : decode b_Md_unit 2 = .ok (.lconst 0, 1) := by decide +kernel
theorem d_Md_unit_3 : decode b_Md_unit 3 = .ok (.ldc2_w 121, 3) := by decide +kernel
theorem d_Md_unit_6 : decode b_Md_unit 6 = .ok (.invokestatic 123, 3) := by decide +kernel
theorem d_Md_unit_9 : decode b_Md_unit 9 = .ok (.ifCond .eq 13, 3) := by decide +kernel
theorem d_Md_unit_12 : decode b_Md_unit 12 = .ok (.aload_n 0, 1) := by decide +kernel
theorem d_Md_unit_13 : decode b_Md_unit 13 = .ok (.getfield 127, 3) := by decide +kernel
theorem d_Md_unit_16 : decode b_Md_unit 16 = .ok (.sipush 1500, 3) := by decide +kernel
theorem d_Md_unit_19 : decode b_Md_unit 19 = .ok (.if_icmp .ne 5, 3) := by decide +kernel
theorem d_Md_unit_22 : decode b_Md_unit 22 = .ok (.iconst 0, 1) := by decide +kernel
theorem d_Md_unit_23 : decode b_Md_unit 23 = .ok (.ireturn, 1) := by decide +kernel
theorem d_Md_unit_24 : decode b_Md_unit 24 = .ok (.aload_n 0, 1) := by decide +kernel
theorem d_Md_unit_25 : decode b_Md_unit 25 = .ok (.getfield 7, 3) := by decide +kernel
theorem d_Md_unit_28 : decode b_Md_unit 28 = .ok (.aload_n 0, 1) := by decide +kernel
theorem d_Md_unit_29 : decode b_Md_unit 29 = .ok (.getfield 127, 3) := by decide +kernel
theorem d_Md_unit_32 : decode b_Md_unit 32 = .ok (.iload_n 1, 1) := by decide +kernel
theorem d_Md_unit_33 : decode b_Md_unit 33 = .ok (.iastore, 1) := by decide +kernel
theorem d_Md_unit_34 : decode b_Md_unit 34 = .ok (.aload_n 0, 1) := by decide +kernel
theorem d_Md_unit_35 : decode b_Md_unit 35 = .ok (.dup, 1) := by decide +kernel
theorem d_Md_unit_36 : decode b_Md_unit 36 = .ok (.getfield 127, 3) := by decide +kernel
theorem d_Md_unit_39 : decode b_Md_unit 39 = .ok (.iconst 1, 1) := by decide +kernel
theorem d_Md_unit_40 : decode b_Md_unit 40 = .ok (.iadd, 1) := by decide +kernel
theorem d_Md_unit_41 : decode b_Md_unit 41 = .ok (.putfield 127, 3) := by decide +kernel
theorem d_Md_unit_44 : decode b_Md_unit 44 = .ok (.aload_n 0, 1) := by decide +kernel
theorem d_Md_unit_45 : decode b_Md_unit 45 = .ok (.iconst 0, 1) := by decide +kernel
theorem d_Md_unit_46 : decode b_Md_unit 46 = .ok (.putfield 130, 3) := by decide +kernel
theorem d_Md_unit_49 : decode b_Md_unit 49 = .ok (.iconst 1, 1) := by decide +kernel
theorem d_Md_unit_50 : decode b_Md_unit 50 = .ok (.ireturn, 1) := by decide +kernel
theorem kc_Md_207 : Cond.constantLong R_Md 207 (-1) ∈ lw_gd := (gd _ (tb3 _ (List.mem_of_getElem? (i := 119) rfl)) rfl)
theorem kc_Md_211 : Cond.constantLong R_Md 211 (lN 100000) ∈ lw_gd := (gd _ (tb3 _ (List.mem_of_getElem? (i := 121) rfl)) rfl)
theorem d_Md_bottle_0 : decode b_Md_bottle 0 = .ok (.aload_n 0, 1) := by decide +kernel
theorem d_Md_bottle_1 : decode b_Md_bottle 1 = .ok (.getfield 117, 3) := by decide +kernel
theorem d_Md_bottle_4 : decode b_Md_bottle 4 = .ok (.bipush 8, 2) := by decide +kernel
theorem d_Md_bottle_6 : decode b_Md_bottle 6 = .ok (.if_icmp .eq 28, 3) := by decide +kernel
theorem d_Md_bottle_9 : decode b_Md_bottle 9 = .ok (.iload_n 1, 1) := by decide +kernel
theorem d_Md_bottle_10 : decode b_Md_bottle 10 = .ok (.i2l, 1) := by decide +kernel
theorem d_Md_bottle_11 : decode b_Md_bottle 11 = .ok (.ldc2_w 207, 3) := by decide +kernel
theorem d_Md_bottle_14 : decode b_Md_bottle 14 = .ok (.ldc2_w 209, 3) := by decide +kernel
theorem d_Md_bottle_17 : decode b_Md_bottle 17 = .ok (.invokestatic 123, 3) := by decide +kernel
theorem d_Md_bottle_20 : decode b_Md_bottle 20 = .ok (.ifCond .eq 14, 3) := by decide +kernel
theorem d_Md_bottle_23 : decode b_Md_bottle 23 = .ok (.lload_n 2, 1) := by decide +kernel
theorem d_Md_bottle_24 : decode b_Md_bottle 24 = .ok (.lconst 1, 1) := by decide +kernel
theorem d_Md_bottle_25 : decode b_Md_bottle 25 = .ok (.ldc2_w 211, 3) := by decide +kernel
theorem d_Md_bottle_28 : decode b_Md_bottle 28 = .ok (.invokestatic 123, 3) := by decide +kernel
theorem d_Md_bottle_31 : decode b_Md_bottle 31 = .ok (.ifCond .ne 5, 3) := by decide +kernel
theorem d_Md_bottle_34 : decode b_Md_bottle 34 = .ok (.iconst (-1), 1) := by decide +kernel
theorem d_Md_bottle_35 : decode b_Md_bottle 35 = .ok (.ireturn, 1) := by decide +kernel
theorem d_Md_bottle_36 : decode b_Md_bottle 36 = .ok (.aload_n 0, 1) := by decide +kernel
theorem d_Md_bottle_37 : decode b_Md_bottle 37 = .ok (.getfield 74, 3) := by decide +kernel
theorem d_Md_bottle_40 : decode b_Md_bottle 40 = .ok (.aload_n 0, 1) := by decide +kernel
theorem d_Md_bottle_41 : decode b_Md_bottle 41 = .ok (.getfield 117, 3) := by decide +kernel
theorem d_Md_bottle_44 : decode b_Md_bottle 44 = .ok (.iload_n 1, 1) := by decide +kernel
theorem d_Md_bottle_45 : decode b_Md_bottle 45 = .ok (.iastore, 1) := by decide +kernel
theorem d_Md_bottle_46 : decode b_Md_bottle 46 = .ok (.aload_n 0, 1) := by decide +kernel
theorem d_Md_bottle_47 : decode b_Md_bottle 47 = .ok (.getfield 77, 3) := by decide +kernel
theorem d_Md_bottle_50 : decode b_Md_bottle 50 = .ok (.aload_n 0, 1) := by decide +kernel
theorem d_Md_bottle_51 : decode b_Md_bottle 51 = .ok (.getfield 117, 3) := by decide +kernel
theorem d_Md_bottle_54 : decode b_Md_bottle 54 = .ok (.lload_n 2, 1) := by decide +kernel
theorem d_Md_bottle_55 : decode b_Md_bottle 55 = .ok (.lastore, 1) := by decide +kernel
theorem d_Md_bottle_56 : decode b_Md_bottle 56 = .ok (.aload_n 0, 1) := by decide +kernel
theorem d_Md_bottle_57 : decode b_Md_bottle 57 = .ok (.dup, 1) := by decide +kernel
theorem d_Md_bottle_58 : decode b_Md_bottle 58 = .ok (.getfield 117, 3) := by decide +kernel
theorem d_Md_bottle_61 : decode b_Md_bottle 61 = .ok (.iconst 1, 1) := by decide +kernel
theorem d_Md_bottle_62 : decode b_Md_bottle 62 = .ok (.iadd, 1) := by decide +kernel
theorem d_Md_bottle_63 : decode b_Md_bottle 63 = .ok (.putfield 117, 3) := by decide +kernel
theorem d_Md_bottle_66 : decode b_Md_bottle 66 = .ok (.aload_n 0, 1) := by decide +kernel
theorem d_Md_bottle_67 : decode b_Md_bottle 67 = .ok (.iconst 0, 1) := by decide +kernel
theorem d_Md_bottle_68 : decode b_Md_bottle 68 = .ok (.putfield 130, 3) := by decide +kernel
theorem d_Md_bottle_71 : decode b_Md_bottle 71 = .ok (.aload_n 0, 1) := by decide +kernel
theorem d_Md_bottle_72 : decode b_Md_bottle 72 = .ok (.getfield 117, 3) := by decide +kernel
theorem d_Md_bottle_75 : decode b_Md_bottle 75 = .ok (.iconst 1, 1) := by decide +kernel
theorem d_Md_bottle_76 : decode b_Md_bottle 76 = .ok (.isub, 1) := by decide +kernel
theorem d_Md_bottle_77 : decode b_Md_bottle 77 = .ok (.ireturn, 1) := by decide +kernel
theorem fl_Md_213 : Cond.fieldLink R_Md 213 R_Md "boxes" "I" ∈ lw_gd := (gd _ (tb2 _ (List.mem_of_getElem? (i := 183) rfl)) rfl)
theorem kc_Md_218 : Cond.constantLong R_Md 218 (lN 1000000) ∈ lw_gd := (gd _ (tb3 _ (List.mem_of_getElem? (i := 127) rfl)) rfl)
theorem fl_Md_90 : Cond.fieldLink R_Md 90 R_Md "mosts" "[J" ∈ lw_gd := (gd _ (tb2 _ (List.mem_of_getElem? (i := 184) rfl)) rfl)
theorem fl_Md_93 : Cond.fieldLink R_Md 93 R_Md "counts" "[I" ∈ lw_gd := (gd _ (tb2 _ (List.mem_of_getElem? (i := 185) rfl)) rfl)
theorem d_Md_box_0 : decode b_Md_box 0 = .ok (.aload_n 0, 1) := by decide +kernel
theorem d_Md_box_1 : decode b_Md_box 1 = .ok (.getfield 213, 3) := by decide +kernel
theorem d_Md_box_4 : decode b_Md_box 4 = .ok (.iconst 5, 1) := by decide +kernel
theorem d_Md_box_5 : decode b_Md_box 5 = .ok (.if_icmp .eq 39, 3) := by decide +kernel
theorem d_Md_box_8 : decode b_Md_box 8 = .ok (.iload_n 1, 1) := by decide +kernel
theorem d_Md_box_9 : decode b_Md_box 9 = .ok (.i2l, 1) := by decide +kernel
theorem d_Md_box_10 : decode b_Md_box 10 = .ok (.lconst 0, 1) := by decide +kernel
theorem d_Md_box_11 : decode b_Md_box 11 = .ok (.ldc2_w 216, 3) := by decide +kernel
theorem d_Md_box_14 : decode b_Md_box 14 = .ok (.invokestatic 123, 3) := by decide +kernel
theorem d_Md_box_17 : decode b_Md_box 17 = .ok (.ifCond .eq 27, 3) := by decide +kernel
theorem d_Md_box_20 : decode b_Md_box 20 = .ok (.lload_n 2, 1) := by decide +kernel
theorem d_Md_box_21 : decode b_Md_box 21 = .ok (.lconst 0, 1) := by decide +kernel
theorem d_Md_box_22 : decode b_Md_box 22 = .ok (.ldc2_w 218, 3) := by decide +kernel
theorem d_Md_box_25 : decode b_Md_box 25 = .ok (.invokestatic 123, 3) := by decide +kernel
theorem d_Md_box_28 : decode b_Md_box 28 = .ok (.ifCond .eq 16, 3) := by decide +kernel
theorem d_Md_box_31 : decode b_Md_box 31 = .ok (.iload 4, 2) := by decide +kernel
theorem d_Md_box_33 : decode b_Md_box 33 = .ok (.i2l, 1) := by decide +kernel
theorem d_Md_box_34 : decode b_Md_box 34 = .ok (.lconst 0, 1) := by decide +kernel
theorem d_Md_box_35 : decode b_Md_box 35 = .ok (.ldc2_w 209, 3) := by decide +kernel
theorem d_Md_box_38 : decode b_Md_box 38 = .ok (.invokestatic 123, 3) := by decide +kernel
theorem d_Md_box_41 : decode b_Md_box 41 = .ok (.ifCond .ne 5, 3) := by decide +kernel
theorem d_Md_box_44 : decode b_Md_box 44 = .ok (.iconst (-1), 1) := by decide +kernel
theorem d_Md_box_45 : decode b_Md_box 45 = .ok (.ireturn, 1) := by decide +kernel
theorem d_Md_box_46 : decode b_Md_box 46 = .ok (.aload_n 0, 1) := by decide +kernel
theorem d_Md_box_47 : decode b_Md_box 47 = .ok (.getfield 90, 3) := by decide +kernel
theorem d_Md_box_50 : decode b_Md_box 50 = .ok (.aload_n 0, 1) := by decide +kernel
theorem d_Md_box_51 : decode b_Md_box 51 = .ok (.getfield 213, 3) := by decide +kernel
theorem d_Md_box_54 : decode b_Md_box 54 = .ok (.lload_n 2, 1) := by decide +kernel
theorem d_Md_box_55 : decode b_Md_box 55 = .ok (.lastore, 1) := by decide +kernel
theorem d_Md_box_56 : decode b_Md_box 56 = .ok (.aload_n 0, 1) := by decide +kernel
theorem d_Md_box_57 : decode b_Md_box 57 = .ok (.getfield 93, 3) := by decide +kernel
theorem d_Md_box_60 : decode b_Md_box 60 = .ok (.aload_n 0, 1) := by decide +kernel
theorem d_Md_box_61 : decode b_Md_box 61 = .ok (.getfield 213, 3) := by decide +kernel
theorem d_Md_box_64 : decode b_Md_box 64 = .ok (.iload 4, 2) := by decide +kernel
theorem d_Md_box_66 : decode b_Md_box 66 = .ok (.iastore, 1) := by decide +kernel
theorem d_Md_box_67 : decode b_Md_box 67 = .ok (.aload_n 0, 1) := by decide +kernel
theorem d_Md_box_68 : decode b_Md_box 68 = .ok (.dup, 1) := by decide +kernel
theorem d_Md_box_69 : decode b_Md_box 69 = .ok (.getfield 213, 3) := by decide +kernel
theorem d_Md_box_72 : decode b_Md_box 72 = .ok (.iconst 1, 1) := by decide +kernel
theorem d_Md_box_73 : decode b_Md_box 73 = .ok (.iadd, 1) := by decide +kernel
theorem d_Md_box_74 : decode b_Md_box 74 = .ok (.putfield 213, 3) := by decide +kernel
theorem d_Md_box_77 : decode b_Md_box 77 = .ok (.aload_n 0, 1) := by decide +kernel
theorem d_Md_box_78 : decode b_Md_box 78 = .ok (.iconst 0, 1) := by decide +kernel
theorem d_Md_box_79 : decode b_Md_box 79 = .ok (.putfield 130, 3) := by decide +kernel
theorem d_Md_box_82 : decode b_Md_box 82 = .ok (.aload_n 0, 1) := by decide +kernel
theorem d_Md_box_83 : decode b_Md_box 83 = .ok (.getfield 213, 3) := by decide +kernel
theorem d_Md_box_86 : decode b_Md_box 86 = .ok (.iconst 1, 1) := by decide +kernel
theorem d_Md_box_87 : decode b_Md_box 87 = .ok (.isub, 1) := by decide +kernel
theorem d_Md_box_88 : decode b_Md_box 88 = .ok (.ireturn, 1) := by decide +kernel
theorem fl_Md_96 : Cond.fieldLink R_Md 96 R_Md "absorbers" "[J" ∈ lw_gd := (gd _ (tb2 _ (List.mem_of_getElem? (i := 186) rfl)) rfl)
theorem d_Md_absorber_0 : decode b_Md_absorber 0 = .ok (.iload_n 1, 1) := by decide +kernel
theorem d_Md_absorber_1 : decode b_Md_absorber 1 = .ok (.ifCond .lt 22, 3) := by decide +kernel
theorem d_Md_absorber_4 : decode b_Md_absorber 4 = .ok (.iload_n 1, 1) := by decide +kernel
theorem d_Md_absorber_5 : decode b_Md_absorber 5 = .ok (.aload_n 0, 1) := by decide +kernel
theorem d_Md_absorber_6 : decode b_Md_absorber 6 = .ok (.getfield 213, 3) := by decide +kernel
theorem d_Md_absorber_9 : decode b_Md_absorber 9 = .ok (.if_icmp .ge 14, 3) := by decide +kernel
theorem d_Md_absorber_12 : decode b_Md_absorber 12 = .ok (.lload_n 2, 1) := by decide +kernel
theorem d_Md_absorber_13 : decode b_Md_absorber 13 = .ok (.lconst 0, 1) := by decide +kernel
theorem d_Md_absorber_14 : decode b_Md_absorber 14 = .ok (.ldc2_w 218, 3) := by decide +kernel
theorem d_Md_absorber_17 : decode b_Md_absorber 17 = .ok (.invokestatic 123, 3) := by decide +kernel
theorem d_Md_absorber_20 : decode b_Md_absorber 20 = .ok (.ifCond .ne 5, 3) := by decide +kernel
theorem d_Md_absorber_23 : decode b_Md_absorber 23 = .ok (.iconst 0, 1) := by decide +kernel
theorem d_Md_absorber_24 : decode b_Md_absorber 24 = .ok (.ireturn, 1) := by decide +kernel
theorem d_Md_absorber_25 : decode b_Md_absorber 25 = .ok (.aload_n 0, 1) := by decide +kernel
theorem d_Md_absorber_26 : decode b_Md_absorber 26 = .ok (.getfield 96, 3) := by decide +kernel
theorem d_Md_absorber_29 : decode b_Md_absorber 29 = .ok (.iload_n 1, 1) := by decide +kernel
theorem d_Md_absorber_30 : decode b_Md_absorber 30 = .ok (.lload_n 2, 1) := by decide +kernel
theorem d_Md_absorber_31 : decode b_Md_absorber 31 = .ok (.lastore, 1) := by decide +kernel
theorem d_Md_absorber_32 : decode b_Md_absorber 32 = .ok (.aload_n 0, 1) := by decide +kernel
theorem d_Md_absorber_33 : decode b_Md_absorber 33 = .ok (.iconst 0, 1) := by decide +kernel
theorem d_Md_absorber_34 : decode b_Md_absorber 34 = .ok (.putfield 130, 3) := by decide +kernel
theorem d_Md_absorber_37 : decode b_Md_absorber 37 = .ok (.iconst 1, 1) := by decide +kernel
theorem d_Md_absorber_38 : decode b_Md_absorber 38 = .ok (.ireturn, 1) := by decide +kernel
theorem kc_Md_223 : Cond.constantLong R_Md 223 (lN 9) ∈ lw_gd := (gd _ (tb3 _ (List.mem_of_getElem? (i := 140) rfl)) rfl)
theorem d_Md_refuse_0 : decode b_Md_refuse 0 = .ok (.aload_n 0, 1) := by decide +kernel
theorem d_Md_refuse_1 : decode b_Md_refuse 1 = .ok (.iload_n 1, 1) := by decide +kernel
theorem d_Md_refuse_2 : decode b_Md_refuse 2 = .ok (.invokevirtual 220, 3) := by decide +kernel
theorem d_Md_refuse_5 : decode b_Md_refuse 5 = .ok (.ifCond .eq 24, 3) := by decide +kernel
theorem d_Md_refuse_8 : decode b_Md_refuse 8 = .ok (.iload_n 2, 1) := by decide +kernel
theorem d_Md_refuse_9 : decode b_Md_refuse 9 = .ok (.i2l, 1) := by decide +kernel
theorem d_Md_refuse_10 : decode b_Md_refuse 10 = .ok (.lconst 1, 1) := by decide +kernel
theorem d_Md_refuse_11 : decode b_Md_refuse 11 = .ok (.ldc2_w 223, 3) := by decide +kernel
theorem d_Md_refuse_14 : decode b_Md_refuse 14 = .ok (.invokestatic 123, 3) := by decide +kernel
theorem d_Md_refuse_17 : decode b_Md_refuse 17 = .ok (.ifCond .eq 12, 3) := by decide +kernel
theorem d_Md_refuse_20 : decode b_Md_refuse 20 = .ok (.aload_n 0, 1) := by decide +kernel
theorem d_Md_refuse_21 : decode b_Md_refuse 21 = .ok (.getfield 84, 3) := by decide +kernel
theorem d_Md_refuse_24 : decode b_Md_refuse 24 = .ok (.iload_n 1, 1) := by decide +kernel
theorem d_Md_refuse_25 : decode b_Md_refuse 25 = .ok (.baload, 1) := by decide +kernel
theorem d_Md_refuse_26 : decode b_Md_refuse 26 = .ok (.ifCond .eq 5, 3) := by decide +kernel
theorem d_Md_refuse_29 : decode b_Md_refuse 29 = .ok (.iconst (-1), 1) := by decide +kernel
theorem d_Md_refuse_30 : decode b_Md_refuse 30 = .ok (.ireturn, 1) := by decide +kernel
theorem d_Md_refuse_31 : decode b_Md_refuse 31 = .ok (.aload_n 0, 1) := by decide +kernel
theorem d_Md_refuse_32 : decode b_Md_refuse 32 = .ok (.getfield 84, 3) := by decide +kernel
theorem d_Md_refuse_35 : decode b_Md_refuse 35 = .ok (.iload_n 1, 1) := by decide +kernel
theorem d_Md_refuse_36 : decode b_Md_refuse 36 = .ok (.iconst 1, 1) := by decide +kernel
theorem d_Md_refuse_37 : decode b_Md_refuse 37 = .ok (.bastore, 1) := by decide +kernel
theorem d_Md_refuse_38 : decode b_Md_refuse 38 = .ok (.aload_n 0, 1) := by decide +kernel
theorem d_Md_refuse_39 : decode b_Md_refuse 39 = .ok (.getfield 87, 3) := by decide +kernel
theorem d_Md_refuse_42 : decode b_Md_refuse 42 = .ok (.aload_n 0, 1) := by decide +kernel
theorem d_Md_refuse_43 : decode b_Md_refuse 43 = .ok (.getfield 225, 3) := by decide +kernel
theorem d_Md_refuse_46 : decode b_Md_refuse 46 = .ok (.bipush 10, 2) := by decide +kernel
theorem d_Md_refuse_48 : decode b_Md_refuse 48 = .ok (.iload_n 1, 1) := by decide +kernel
theorem d_Md_refuse_49 : decode b_Md_refuse 49 = .ok (.imul, 1) := by decide +kernel
theorem d_Md_refuse_50 : decode b_Md_refuse 50 = .ok (.iload_n 2, 1) := by decide +kernel
theorem d_Md_refuse_51 : decode b_Md_refuse 51 = .ok (.iadd, 1) := by decide +kernel
theorem d_Md_refuse_52 : decode b_Md_refuse 52 = .ok (.iastore, 1) := by decide +kernel
theorem d_Md_refuse_53 : decode b_Md_refuse 53 = .ok (.aload_n 0, 1) := by decide +kernel
theorem d_Md_refuse_54 : decode b_Md_refuse 54 = .ok (.dup, 1) := by decide +kernel
theorem d_Md_refuse_55 : decode b_Md_refuse 55 = .ok (.getfield 225, 3) := by decide +kernel
theorem d_Md_refuse_58 : decode b_Md_refuse 58 = .ok (.iconst 1, 1) := by decide +kernel
theorem d_Md_refuse_59 : decode b_Md_refuse 59 = .ok (.iadd, 1) := by decide +kernel
theorem d_Md_refuse_60 : decode b_Md_refuse 60 = .ok (.putfield 225, 3) := by decide +kernel
theorem d_Md_refuse_63 : decode b_Md_refuse 63 = .ok (.aload_n 0, 1) := by decide +kernel
theorem d_Md_refuse_64 : decode b_Md_refuse 64 = .ok (.iconst 0, 1) := by decide +kernel
theorem d_Md_refuse_65 : decode b_Md_refuse 65 = .ok (.putfield 130, 3) := by decide +kernel
theorem d_Md_refuse_68 : decode b_Md_refuse 68 = .ok (.aload_n 0, 1) := by decide +kernel
theorem d_Md_refuse_69 : decode b_Md_refuse 69 = .ok (.getfield 225, 3) := by decide +kernel
theorem d_Md_refuse_72 : decode b_Md_refuse 72 = .ok (.ireturn, 1) := by decide +kernel
theorem fl_Md_81 : Cond.fieldLink R_Md 81 R_Md "steps" "[I" ∈ lw_gd := (gd _ (tb2 _ (List.mem_of_getElem? (i := 179) rfl)) rfl)
theorem fl_Md_41 : Cond.fieldLink R_Md 41 R_Md "leads" "[I" ∈ lw_gd := (gd _ (tb2 _ (List.mem_of_getElem? (i := 164) rfl)) rfl)
theorem d_Md_test_0 : decode b_Md_test 0 = .ok (.aload_n 0, 1) := by decide +kernel
theorem d_Md_test_1 : decode b_Md_test 1 = .ok (.iload_n 1, 1) := by decide +kernel
theorem d_Md_test_2 : decode b_Md_test 2 = .ok (.invokevirtual 220, 3) := by decide +kernel
theorem d_Md_test_5 : decode b_Md_test 5 = .ok (.ifCond .eq 34, 3) := by decide +kernel
theorem d_Md_test_8 : decode b_Md_test 8 = .ok (.aload_n 0, 1) := by decide +kernel
theorem d_Md_test_9 : decode b_Md_test 9 = .ok (.getfield 74, 3) := by decide +kernel
theorem d_Md_test_12 : decode b_Md_test 12 = .ok (.iload_n 1, 1) := by decide +kernel
theorem d_Md_test_13 : decode b_Md_test 13 = .ok (.iaload, 1) := by decide +kernel
theorem d_Md_test_14 : decode b_Md_test 14 = .ok (.ifCond .ge 25, 3) := by decide +kernel
theorem d_Md_test_17 : decode b_Md_test 17 = .ok (.aload_n 0, 1) := by decide +kernel
theorem d_Md_test_18 : decode b_Md_test 18 = .ok (.getfield 81, 3) := by decide +kernel
theorem d_Md_test_21 : decode b_Md_test 21 = .ok (.iload_n 1, 1) := by decide +kernel
theorem d_Md_test_22 : decode b_Md_test 22 = .ok (.iaload, 1) := by decide +kernel
theorem d_Md_test_23 : decode b_Md_test 23 = .ok (.iload_n 2, 1) := by decide +kernel
theorem d_Md_test_24 : decode b_Md_test 24 = .ok (.if_icmp .ne 15, 3) := by decide +kernel
theorem d_Md_test_27 : decode b_Md_test 27 = .ok (.iload_n 3, 1) := by decide +kernel
theorem d_Md_test_28 : decode b_Md_test 28 = .ok (.i2l, 1) := by decide +kernel
theorem d_Md_test_29 : decode b_Md_test 29 = .ok (.lconst 0, 1) := by decide +kernel
theorem d_Md_test_30 : decode b_Md_test 30 = .ok (.ldc2_w 216, 3) := by decide +kernel
theorem d_Md_test_33 : decode b_Md_test 33 = .ok (.invokestatic 123, 3) := by decide +kernel
theorem d_Md_test_36 : decode b_Md_test 36 = .ok (.ifCond .ne 6, 3) := by decide +kernel
theorem d_Md_test_39 : decode b_Md_test 39 = .ok (.bipush (-100), 2) := by decide +kernel
theorem d_Md_test_41 : decode b_Md_test 41 = .ok (.ireturn, 1) := by decide +kernel
theorem d_Md_test_42 : decode b_Md_test 42 = .ok (.aload_n 0, 1) := by decide +kernel
theorem d_Md_test_43 : decode b_Md_test 43 = .ok (.getfield 41, 3) := by decide +kernel
theorem d_Md_test_46 : decode b_Md_test 46 = .ok (.iconst 4, 1) := by decide +kernel
theorem d_Md_test_47 : decode b_Md_test 47 = .ok (.iload_n 2, 1) := by decide +kernel
theorem d_Md_test_48 : decode b_Md_test 48 = .ok (.imul, 1) := by decide +kernel
theorem d_Md_test_49 : decode b_Md_test 49 = .ok (.iload_n 3, 1) := by decide +kernel
theorem d_Md_test_50 : decode b_Md_test 50 = .ok (.iadd, 1) := by decide +kernel
theorem d_Md_test_51 : decode b_Md_test 51 = .ok (.iaload, 1) := by decide +kernel
theorem d_Md_test_52 : decode b_Md_test 52 = .ok (.istore 4, 2) := by decide +kernel
theorem d_Md_test_54 : decode b_Md_test 54 = .ok (.iload 4, 2) := by decide +kernel
theorem d_Md_test_56 : decode b_Md_test 56 = .ok (.bipush (-100), 2) := by decide +kernel
theorem d_Md_test_58 : decode b_Md_test 58 = .ok (.if_icmp .ne 6, 3) := by decide +kernel
theorem d_Md_test_61 : decode b_Md_test 61 = .ok (.bipush (-100), 2) := by decide +kernel
theorem d_Md_test_63 : decode b_Md_test 63 = .ok (.ireturn, 1) := by decide +kernel
theorem d_Md_test_64 : decode b_Md_test 64 = .ok (.iload 4, 2) := by decide +kernel
theorem d_Md_test_66 : decode b_Md_test 66 = .ok (.ifCond .lt 14, 3) := by decide +kernel
theorem d_Md_test_69 : decode b_Md_test 69 = .ok (.aload_n 0, 1) := by decide +kernel
theorem d_Md_test_70 : decode b_Md_test 70 = .ok (.getfield 81, 3) := by decide +kernel
theorem d_Md_test_73 : decode b_Md_test 73 = .ok (.iload_n 1, 1) := by decide +kernel
theorem d_Md_test_74 : decode b_Md_test 74 = .ok (.iload 4, 2) := by decide +kernel
theorem d_Md_test_76 : decode b_Md_test 76 = .ok (.iastore, 1) := by decide +kernel
theorem d_Md_test_77 : decode b_Md_test 77 = .ok (.goto 13, 3) := by decide +kernel
theorem d_Md_test_80 : decode b_Md_test 80 = .ok (.aload_n 0, 1) := by decide +kernel
theorem d_Md_test_81 : decode b_Md_test 81 = .ok (.getfield 74, 3) := by decide +kernel
theorem d_Md_test_84 : decode b_Md_test 84 = .ok (.iload_n 1, 1) := by decide +kernel
theorem d_Md_test_85 : decode b_Md_test 85 = .ok (.iconst (-1), 1) := by decide +kernel
theorem d_Md_test_86 : decode b_Md_test 86 = .ok (.iload 4, 2) := by decide +kernel
theorem d_Md_test_88 : decode b_Md_test 88 = .ok (.isub, 1) := by decide +kernel
theorem d_Md_test_89 : decode b_Md_test 89 = .ok (.iastore, 1) := by decide +kernel
theorem d_Md_test_90 : decode b_Md_test 90 = .ok (.aload_n 0, 1) := by decide +kernel
theorem d_Md_test_91 : decode b_Md_test 91 = .ok (.iconst 0, 1) := by decide +kernel
theorem d_Md_test_92 : decode b_Md_test 92 = .ok (.putfield 130, 3) := by decide +kernel
theorem d_Md_test_95 : decode b_Md_test 95 = .ok (.iload 4, 2) := by decide +kernel
theorem d_Md_test_97 : decode b_Md_test 97 = .ok (.ireturn, 1) := by decide +kernel
set_option maxHeartbeats 4000000 in
set_option maxRecDepth 100000 in
theorem c_Md_unit (l : Launch) (D : va_G) (cI : CiT) (z : GzT) (m : Nat → Nat) (tx : (Nat → Nat)) (sz : Nat) (ap : (Nat → Bool)) (pt : (Nat → Nat)) (rk : (Nat → Nat)) (cd : (Nat → Nat)) (fr : Nat) (mc : (Nat → Nat)) (mg : (Nat → Nat)) (mz : (Nat → Nat)) (nc : (Nat → Nat)) (nt : (Nat → Nat)) (ld : (Nat → Nat)) (qap : (Nat → Bool)) (qpt : (Nat → Nat)) (qrk : (Nat → Nat)) (qcd : (Nat → Nat)) (qfr : Nat) (qmc : (Nat → Nat)) (qmg : (Nat → Nat)) (qmz : (Nat → Nat)) (qnc : (Nat → Nat)) (qnt : (Nat → Nat)) (qld : (Nat → Nat)) (nb : Nat) (cl : (Nat → Nat)) (gr : (Nat → Nat)) (sp : (Nat → Nat)) (ot : (Nat → Bool)) (na : Nat) (aw : (Nat → Nat)) (nx : Nat) (bg : (Nat → Nat)) (bb : (Nat → Nat)) (ab : (Nat → Nat)) (fd : Bool) (pv : Bool) (bx : (Nat → Nat)) (wy : (Nat → Nat)) (li : (Nat → Nat)) (fm : Nat) (en : Nat) (nu : Nat) (td : (Nat → Nat)) (lf : Int32) (lk : Int32) (x : Int32) (hsz : sz ≤ 1500) : wk_C l D (tyK cI) (gX z) y_Md_unit b_Md_unit 2 (some .boolean) 1 25 0 0 [.ref (m 0), .int (x)] (wMd m cI tx sz ap pt rk cd fr mc mg mz nc nt ld qap qpt qrk qcd qfr qmc qmg qmz qnc qnt qld nb cl gr sp ot na aw nx bg bb ab fd pv bx wy li fm en nu td lf lk) wk_i (fun (r : Int32) (u : (Nat → Nat) × Nat × Bool) => r = bI (unS tx sz pv x).1 ∧ u = (unS tx sz pv x).2) (fun u => (wMd m cI u.1 u.2.1 ap pt rk cd fr mc mg mz nc nt ld qap qpt qrk qcd qfr qmc qmg qmz qnc qnt qld nb cl gr sp ot na aw nx bg bb ab fd u.2.2 bx wy li fm en nu td lf lk)) := by
  refine wk_methZ (own := R_Md) [(0, .ref (m 0)), (1, .int (x))] (by decide) rfl (Nat.le_of_ble_eq_true rfl) rfl (gX_ok z) (fun p_ e_ R_ s_ m_ ar_ be_ me_ co_ Q_ A_ hR_ S_ hnm_ hQ_ => ?_)
  refine wk_iload_n (pc := 0) S_ 1 d_Md_unit_0 rfl rfl ?_
  refine wk_i2l (pc := 1) S_ d_Md_unit_1 rfl ?_
  refine wk_lconst (pc := 2) (v := (lN (0))) S_ d_Md_unit_2 (by decide) ?_
  refine wk_ldc2 (pc := 3) (v := (lN (255))) S_ kc_Md_121 d_Md_unit_3 ?_
  refine wk_run (pc := 6) (rest := []) (wr := (wMd m cI tx sz ap pt rk cd fr mc mg mz nc nt ld qap qpt qrk qcd qfr qmc qmg qmz qnc qnt qld nb cl gr sp ot na aw nx bg bb ab fd pv bx wy li fm en nu td lf lk)) (wN := fun _ => (wMd m cI tx sz ap pt rk cd fr mc mg mz nc nt ld qap qpt qrk qcd qfr qmc qmg qmz qnc qnt qld nb cl gr sp ot na aw nx bg bb ab fd pv bx wy li fm en nu td lf lk)) S_ (wk_rS S_ (c_Md_isIn l D cI z ((x).toInt64) ((lN (0))) ((lN (255)))) mv_Md_123 rfl rfl (Nat.le_of_ble_eq_true rfl) (by rw [hR_]; decide) (by rw [hR_]; decide) d_Md_unit_6) [] [0, 1, 2, 3, 4, 5, 6, 7, 8, 9, 10, 11, 12, 13, 14, 15, 16, 17, 18, 19, 20, 21, 22, 23, 24, 25, 26, 27, 28, 29, 30, 31, 32, 33] [0, 1, 2, 3, 4, 5, 6, 7, 8, 9, 10, 11, 12, 13, 14, 15, 16, 17, 18, 19, 20, 21, 22, 23, 24, 25, 26, 27, 28, 29, 30, 31, 32, 33] rfl rfl rfl (by decide) (by decide) (by decide) (by decide) (fun _ => rfl) (fun _ => rfl) (fun r6 _ hw6 => ?_)
  refine wk_st (st' := [.int (r6)]) rfl ?_
  refine wk_top (y := (bI (lxI ((x).toInt64) ((lN (0))) ((lN (255)))))) hw6 ?_
  refine wk_top (y := (bI (ixI 256 x))) (congrArg bI (lx_ix (by decide))) ?_
  refine wk_if_eqB (pc := 9) (tgt := 22) S_ d_Md_unit_9 (by decide) (fun h9 => ?_) (fun h9 => ?_)
  · -- taken
    refine wk_iconst (pc := 22) (v := (nI (0))) S_ d_Md_unit_22 (by decide) ?_
    exact hQ_ (nI (0)) (tx, sz, pv) d_Md_unit_23 rfl rfl (by rw [unS, if_neg (fun z => by rw [h9] at z; exact absurd z.1 (by decide))]; exact ⟨rfl, rfl⟩)
  · -- on
    refine wk_aload_n (pc := 12) S_ 0 d_Md_unit_12 rfl rfl ?_
    refine wk_get (pc := 13) (v := .int (nI (sz))) S_ 6 1 0 in_Md rfl (by decide) rfl fl_Md_127 d_Md_unit_13 rfl rfl ?_
    refine wk_sipush (pc := 16) (v := (nI (1500))) S_ d_Md_unit_16 (by decide) ?_
    refine wk_icmp_neN (pc := 19) (tgt := 24) S_ d_Md_unit_19 (by decide) (by omega) (by omega) (fun h19 => ?_) (fun h19 => ?_)
    · -- taken
      obtain ⟨j, hj, rfl⟩ := ixI_of h9 (by decide)
      refine wk_aload_n (pc := 24) S_ 0 d_Md_unit_24 rfl rfl ?_
      refine wk_get (pc := 25) (v := .ref (m 1)) S_ 6 0 0 in_Md rfl (by decide) rfl fl_Md_7 d_Md_unit_25 rfl rfl ?_
      refine wk_aload_n (pc := 28) S_ 0 d_Md_unit_28 rfl rfl ?_
      refine wk_get (pc := 29) (v := .int (nI (sz))) S_ 6 1 0 in_Md rfl (by decide) rfl fl_Md_127 d_Md_unit_29 rfl rfl ?_
      refine wk_iload_n (pc := 32) S_ 1 d_Md_unit_32 rfl rfl ?_
      refine wk_iastN (pc := 33) (g := tx) (ws' := (wMd m cI (va_up (tx) (sz) (j)) sz ap pt rk cd fr mc mg mz nc nt ld qap qpt qrk qcd qfr qmc qmg qmz qnc qnt qld nb cl gr sp ot na aw nx bg bb ab fd pv bx wy li fm en nu td lf lk)) S_ 1 0 d_Md_unit_33 rfl rfl (by omega) (by decide) rfl ?_
      refine wk_aload_n (pc := 34) S_ 0 d_Md_unit_34 rfl rfl ?_
      refine wk_dup (pc := 35) S_ d_Md_unit_35 rfl ?_
      refine wk_get (pc := 36) (v := .int (nI (sz))) S_ 6 1 0 in_Md rfl (by decide) rfl fl_Md_127 d_Md_unit_36 rfl rfl ?_
      refine wk_iconst (pc := 39) (v := (nI (1))) S_ d_Md_unit_39 (by decide) ?_
      refine wk_iaddN (pc := 40) S_ d_Md_unit_40 ?_
      refine wk_put (pc := 41) (ty := .int) (ws' := (wMd m cI (va_up (tx) (sz) (j)) ((sz) + (1)) ap pt rk cd fr mc mg mz nc nt ld qap qpt qrk qcd qfr qmc qmg qmz qnc qnt qld nb cl gr sp ot na aw nx bg bb ab fd pv bx wy li fm en nu td lf lk)) S_ 6 1 0 in_Md t_Md t_Md_ok n_Md rfl (by decide) rfl fl_Md_127 (by decide +kernel) d_Md_unit_41 rfl rfl rfl (Nat.le_of_ble_eq_true rfl) rfl ?_
      refine wk_aload_n (pc := 44) S_ 0 d_Md_unit_44 rfl rfl ?_
      refine wk_iconst (pc := 45) (v := (nI (0))) S_ d_Md_unit_45 (by decide) ?_
      refine wk_put (pc := 46) (ty := .boolean) (ws' := (wMd m cI (va_up (tx) (sz) (j)) ((sz) + (1)) ap pt rk cd fr mc mg mz nc nt ld qap qpt qrk qcd qfr qmc qmg qmz qnc qnt qld nb cl gr sp ot na aw nx bg bb ab fd false bx wy li fm en nu td lf lk)) S_ 6 36 0 in_Md t_Md t_Md_ok n_Md rfl (by decide) rfl fl_Md_130 (by decide +kernel) d_Md_unit_46 rfl rfl rfl (Nat.le_of_ble_eq_true rfl) rfl ?_
      refine wk_iconst (pc := 49) (v := (nI (1))) S_ d_Md_unit_49 (by decide) ?_
      exact hQ_ (nI (1)) (va_up (tx) (sz) (j), (sz) + (1), false) d_Md_unit_50 rfl rfl (by rw [unS, if_pos ⟨h9, h19⟩, nI_clamp (by omega)]; exact ⟨rfl, rfl⟩)
    · -- on
      refine wk_iconst (pc := 22) (v := (nI (0))) S_ d_Md_unit_22 (by decide) ?_
      exact hQ_ (nI (0)) (tx, sz, pv) d_Md_unit_23 rfl rfl (by rw [unS, if_neg (fun z => z.2 h19)]; exact ⟨rfl, rfl⟩)
set_option maxHeartbeats 4000000 in
set_option maxRecDepth 100000 in
theorem c_Md_bottle (l : Launch) (D : va_G) (cI : CiT) (z : GzT) (m : Nat → Nat) (tx : (Nat → Nat)) (sz : Nat) (ap : (Nat → Bool)) (pt : (Nat → Nat)) (rk : (Nat → Nat)) (cd : (Nat → Nat)) (fr : Nat) (mc : (Nat → Nat)) (mg : (Nat → Nat)) (mz : (Nat → Nat)) (nc : (Nat → Nat)) (nt : (Nat → Nat)) (ld : (Nat → Nat)) (qap : (Nat → Bool)) (qpt : (Nat → Nat)) (qrk : (Nat → Nat)) (qcd : (Nat → Nat)) (qfr : Nat) (qmc : (Nat → Nat)) (qmg : (Nat → Nat)) (qmz : (Nat → Nat)) (qnc : (Nat → Nat)) (qnt : (Nat → Nat)) (qld : (Nat → Nat)) (nb : Nat) (cl : (Nat → Nat)) (gr : (Nat → Nat)) (sp : (Nat → Nat)) (ot : (Nat → Bool)) (na : Nat) (aw : (Nat → Nat)) (nx : Nat) (bg : (Nat → Nat)) (bb : (Nat → Nat)) (ab : (Nat → Nat)) (fd : Bool) (pv : Bool) (bx : (Nat → Nat)) (wy : (Nat → Nat)) (li : (Nat → Nat)) (fm : Nat) (en : Nat) (nu : Nat) (td : (Nat → Nat)) (lf : Int32) (lk : Int32) (x : Int32) (w : Int64) (hnb : nb ≤ 8) : wk_C l D (tyK cI) (gX z) y_Md_bottle b_Md_bottle 4 (some .int) 1 25 0 0 [.ref (m 0), .int (x), .long (w)] (wMd m cI tx sz ap pt rk cd fr mc mg mz nc nt ld qap qpt qrk qcd qfr qmc qmg qmz qnc qnt qld nb cl gr sp ot na aw nx bg bb ab fd pv bx wy li fm en nu td lf lk) wk_i (fun (r : Int32) (u : (Nat → Nat) × (Nat → Nat) × Nat × Bool) => r = zI (boS cl gr nb pv x w).1 ∧ u = (boS cl gr nb pv x w).2) (fun u => (wMd m cI tx sz ap pt rk cd fr mc mg mz nc nt ld qap qpt qrk qcd qfr qmc qmg qmz qnc qnt qld u.2.2.1 u.1 u.2.1 sp ot na aw nx bg bb ab fd u.2.2.2 bx wy li fm en nu td lf lk)) := by
  refine wk_methI (own := R_Md) [(0, .ref (m 0)), (1, .int (x)), (2, .long (w))] (by decide) rfl (Nat.le_of_ble_eq_true rfl) rfl (gX_ok z) (fun p_ e_ R_ s_ m_ ar_ be_ me_ co_ Q_ A_ hR_ S_ hnm_ hQ_ => ?_)
  refine wk_aload_n (pc := 0) S_ 0 d_Md_bottle_0 rfl rfl ?_
  refine wk_get (pc := 1) (v := .int (nI (nb))) S_ 6 24 0 in_Md rfl (by decide) rfl fl_Md_117 d_Md_bottle_1 rfl rfl ?_
  refine wk_bipush (pc := 4) (v := (nI (8))) S_ d_Md_bottle_4 (by decide) ?_
  refine wk_icmp_eqN (pc := 6) (tgt := 34) S_ d_Md_bottle_6 (by decide) (by omega) (by omega) (fun h6 => ?_) (fun h6 => ?_)
  · -- taken
    refine wk_iconst (pc := 34) (v := (-1)) S_ d_Md_bottle_34 (by decide) ?_
    exact hQ_ (-1) (cl, gr, nb, pv) d_Md_bottle_35 rfl (by rw [boS, if_neg (fun z => z.1 h6)]; exact ⟨zI_0.symm, rfl⟩)
  · -- on
    refine wk_iload_n (pc := 9) S_ 1 d_Md_bottle_9 rfl rfl ?_
    refine wk_i2l (pc := 10) S_ d_Md_bottle_10 rfl ?_
    refine wk_ldc2 (pc := 11) (v := (-1)) S_ kc_Md_207 d_Md_bottle_11 ?_
    refine wk_ldc2 (pc := 14) (v := (lN (8))) S_ kc_Md_209 d_Md_bottle_14 ?_
    refine wk_run (pc := 17) (rest := []) (wr := (wMd m cI tx sz ap pt rk cd fr mc mg mz nc nt ld qap qpt qrk qcd qfr qmc qmg qmz qnc qnt qld nb cl gr sp ot na aw nx bg bb ab fd pv bx wy li fm en nu td lf lk)) (wN := fun _ => (wMd m cI tx sz ap pt rk cd fr mc mg mz nc nt ld qap qpt qrk qcd qfr qmc qmg qmz qnc qnt qld nb cl gr sp ot na aw nx bg bb ab fd pv bx wy li fm en nu td lf lk)) S_ (wk_rS S_ (c_Md_isIn l D cI z ((x).toInt64) (-1) ((lN (8)))) mv_Md_123 rfl rfl (Nat.le_of_ble_eq_true rfl) (by rw [hR_]; decide) (by rw [hR_]; decide) d_Md_bottle_17) [] [0, 1, 2, 3, 4, 5, 6, 7, 8, 9, 10, 11, 12, 13, 14, 15, 16, 17, 18, 19, 20, 21, 22, 23, 24, 25, 26, 27, 28, 29, 30, 31, 32, 33] [0, 1, 2, 3, 4, 5, 6, 7, 8, 9, 10, 11, 12, 13, 14, 15, 16, 17, 18, 19, 20, 21, 22, 23, 24, 25, 26, 27, 28, 29, 30, 31, 32, 33] rfl rfl rfl (by decide) (by decide) (by decide) (by decide) (fun _ => rfl) (fun _ => rfl) (fun r17 _ hw17 => ?_)
    refine wk_st (st' := [.int (r17)]) rfl ?_
    refine wk_top (y := (bI (lxI ((x).toInt64) (-1) ((lN (8)))))) hw17 ?_
    refine wk_top (y := (bI (clOk x))) (congrArg bI (clOk_lx x)) ?_
    refine wk_if_eqB (pc := 20) (tgt := 34) S_ d_Md_bottle_20 (by decide) (fun h20 => ?_) (fun h20 => ?_)
    · -- taken
      refine wk_iconst (pc := 34) (v := (-1)) S_ d_Md_bottle_34 (by decide) ?_
      exact hQ_ (-1) (cl, gr, nb, pv) d_Md_bottle_35 rfl (by rw [boS, if_neg (fun z => by rw [h20] at z; exact absurd z.2.1 (by decide))]; exact ⟨zI_0.symm, rfl⟩)
    · -- on
      refine wk_lload_n (pc := 23) S_ 2 d_Md_bottle_23 rfl rfl ?_
      refine wk_lconst (pc := 24) (v := (lN (1))) S_ d_Md_bottle_24 (by decide) ?_
      refine wk_ldc2 (pc := 25) (v := (lN (100000))) S_ kc_Md_211 d_Md_bottle_25 ?_
      refine wk_run (pc := 28) (rest := []) (wr := (wMd m cI tx sz ap pt rk cd fr mc mg mz nc nt ld qap qpt qrk qcd qfr qmc qmg qmz qnc qnt qld nb cl gr sp ot na aw nx bg bb ab fd pv bx wy li fm en nu td lf lk)) (wN := fun _ => (wMd m cI tx sz ap pt rk cd fr mc mg mz nc nt ld qap qpt qrk qcd qfr qmc qmg qmz qnc qnt qld nb cl gr sp ot na aw nx bg bb ab fd pv bx wy li fm en nu td lf lk)) S_ (wk_rS S_ (c_Md_isIn l D cI z (w) ((lN (1))) ((lN (100000)))) mv_Md_123 rfl rfl (Nat.le_of_ble_eq_true rfl) (by rw [hR_]; decide) (by rw [hR_]; decide) d_Md_bottle_28) [] [0, 1, 2, 3, 4, 5, 6, 7, 8, 9, 10, 11, 12, 13, 14, 15, 16, 17, 18, 19, 20, 21, 22, 23, 24, 25, 26, 27, 28, 29, 30, 31, 32, 33] [0, 1, 2, 3, 4, 5, 6, 7, 8, 9, 10, 11, 12, 13, 14, 15, 16, 17, 18, 19, 20, 21, 22, 23, 24, 25, 26, 27, 28, 29, 30, 31, 32, 33] rfl rfl rfl (by decide) (by decide) (by decide) (by decide) (fun _ => rfl) (fun _ => rfl) (fun r28 _ hw28 => ?_)
      refine wk_st (st' := [.int (r28)]) rfl ?_
      refine wk_top (y := (bI (lxI (w) ((lN (1))) ((lN (100000)))))) hw28 ?_
      refine wk_if_neB (pc := 31) (tgt := 36) S_ d_Md_bottle_31 (by decide) (fun h31 => ?_) (fun h31 => ?_)
      · -- taken
        obtain ⟨c, hc, rfl⟩ := clOk_of h20
        obtain ⟨y, hya, hyb, rfl⟩ := lx_of h31 (by decide) (by decide)
        refine wk_aload_n (pc := 36) S_ 0 d_Md_bottle_36 rfl rfl ?_
        refine wk_get (pc := 37) (v := .ref (m 22)) S_ 6 25 0 in_Md rfl (by decide) rfl fl_Md_74 d_Md_bottle_37 rfl rfl ?_
        refine wk_aload_n (pc := 40) S_ 0 d_Md_bottle_40 rfl rfl ?_
        refine wk_get (pc := 41) (v := .int (nI (nb))) S_ 6 24 0 in_Md rfl (by decide) rfl fl_Md_117 d_Md_bottle_41 rfl rfl ?_
        refine wk_iload_n (pc := 44) S_ 1 d_Md_bottle_44 rfl rfl ?_
        refine wk_iastY (pc := 45) (g := cl) (ws' := (wMd m cI tx sz ap pt rk cd fr mc mg mz nc nt ld qap qpt qrk qcd qfr qmc qmg qmz qnc qnt qld nb (va_up (cl) (nb) (c)) gr sp ot na aw nx bg bb ab fd pv bx wy li fm en nu td lf lk)) S_ 22 0 d_Md_bottle_45 rfl rfl (by omega) (by decide) rfl ?_
        refine wk_aload_n (pc := 46) S_ 0 d_Md_bottle_46 rfl rfl ?_
        refine wk_get (pc := 47) (v := .ref (m 23)) S_ 6 26 0 in_Md rfl (by decide) rfl fl_Md_77 d_Md_bottle_47 rfl rfl ?_
        refine wk_aload_n (pc := 50) S_ 0 d_Md_bottle_50 rfl rfl ?_
        refine wk_get (pc := 51) (v := .int (nI (nb))) S_ 6 24 0 in_Md rfl (by decide) rfl fl_Md_117 d_Md_bottle_51 rfl rfl ?_
        refine wk_lload_n (pc := 54) S_ 2 d_Md_bottle_54 rfl rfl ?_
        refine wk_last (pc := 55) (g := gr) (ws' := (wMd m cI tx sz ap pt rk cd fr mc mg mz nc nt ld qap qpt qrk qcd qfr qmc qmg qmz qnc qnt qld nb (va_up (cl) (nb) (c)) (va_up (gr) (nb) (y)) sp ot na aw nx bg bb ab fd pv bx wy li fm en nu td lf lk)) S_ 23 2 d_Md_bottle_55 rfl rfl (by omega) (by decide) rfl ?_
        refine wk_aload_n (pc := 56) S_ 0 d_Md_bottle_56 rfl rfl ?_
        refine wk_dup (pc := 57) S_ d_Md_bottle_57 rfl ?_
        refine wk_get (pc := 58) (v := .int (nI (nb))) S_ 6 24 0 in_Md rfl (by decide) rfl fl_Md_117 d_Md_bottle_58 rfl rfl ?_
        refine wk_iconst (pc := 61) (v := (nI (1))) S_ d_Md_bottle_61 (by decide) ?_
        refine wk_iaddN (pc := 62) S_ d_Md_bottle_62 ?_
        refine wk_put (pc := 63) (ty := .int) (ws' := (wMd m cI tx sz ap pt rk cd fr mc mg mz nc nt ld qap qpt qrk qcd qfr qmc qmg qmz qnc qnt qld ((nb) + (1)) (va_up (cl) (nb) (c)) (va_up (gr) (nb) (y)) sp ot na aw nx bg bb ab fd pv bx wy li fm en nu td lf lk)) S_ 6 24 0 in_Md t_Md t_Md_ok n_Md rfl (by decide) rfl fl_Md_117 (by decide +kernel) d_Md_bottle_63 rfl rfl rfl (Nat.le_of_ble_eq_true rfl) rfl ?_
        refine wk_aload_n (pc := 66) S_ 0 d_Md_bottle_66 rfl rfl ?_
        refine wk_iconst (pc := 67) (v := (nI (0))) S_ d_Md_bottle_67 (by decide) ?_
        refine wk_put (pc := 68) (ty := .boolean) (ws' := (wMd m cI tx sz ap pt rk cd fr mc mg mz nc nt ld qap qpt qrk qcd qfr qmc qmg qmz qnc qnt qld ((nb) + (1)) (va_up (cl) (nb) (c)) (va_up (gr) (nb) (y)) sp ot na aw nx bg bb ab fd false bx wy li fm en nu td lf lk)) S_ 6 36 0 in_Md t_Md t_Md_ok n_Md rfl (by decide) rfl fl_Md_130 (by decide +kernel) d_Md_bottle_68 rfl rfl rfl (Nat.le_of_ble_eq_true rfl) rfl ?_
        refine wk_aload_n (pc := 71) S_ 0 d_Md_bottle_71 rfl rfl ?_
        refine wk_get (pc := 72) (v := .int (nI ((nb) + (1)))) S_ 6 24 0 in_Md rfl (by decide) rfl fl_Md_117 d_Md_bottle_72 rfl rfl ?_
        refine wk_iconst (pc := 75) (v := (nI (1))) S_ d_Md_bottle_75 (by decide) ?_
        refine wk_isubN (pc := 76) S_ d_Md_bottle_76 (by omega) ?_
        exact hQ_ (nI (((nb) + (1)) - (1))) (va_up (cl) (nb) (c), va_up (gr) (nb) (y), (nb) + (1), false) d_Md_bottle_77 rfl (by rw [boS, if_pos ⟨h6, h20, h31⟩, yN_z (by omega), gN_l (by omega)]; exact ⟨(zI_s nb).symm, rfl⟩)
      · -- on
        refine wk_iconst (pc := 34) (v := (-1)) S_ d_Md_bottle_34 (by decide) ?_
        exact hQ_ (-1) (cl, gr, nb, pv) d_Md_bottle_35 rfl (by rw [boS, if_neg (fun z => by rw [h31] at z; exact absurd z.2.2 (by decide))]; exact ⟨zI_0.symm, rfl⟩)
set_option maxHeartbeats 4000000 in
set_option maxRecDepth 100000 in
theorem c_Md_box (l : Launch) (D : va_G) (cI : CiT) (z : GzT) (m : Nat → Nat) (tx : (Nat → Nat)) (sz : Nat) (ap : (Nat → Bool)) (pt : (Nat → Nat)) (rk : (Nat → Nat)) (cd : (Nat → Nat)) (fr : Nat) (mc : (Nat → Nat)) (mg : (Nat → Nat)) (mz : (Nat → Nat)) (nc : (Nat → Nat)) (nt : (Nat → Nat)) (ld : (Nat → Nat)) (qap : (Nat → Bool)) (qpt : (Nat → Nat)) (qrk : (Nat → Nat)) (qcd : (Nat → Nat)) (qfr : Nat) (qmc : (Nat → Nat)) (qmg : (Nat → Nat)) (qmz : (Nat → Nat)) (qnc : (Nat → Nat)) (qnt : (Nat → Nat)) (qld : (Nat → Nat)) (nb : Nat) (cl : (Nat → Nat)) (gr : (Nat → Nat)) (sp : (Nat → Nat)) (ot : (Nat → Bool)) (na : Nat) (aw : (Nat → Nat)) (nx : Nat) (bg : (Nat → Nat)) (bb : (Nat → Nat)) (ab : (Nat → Nat)) (fd : Bool) (pv : Bool) (bx : (Nat → Nat)) (wy : (Nat → Nat)) (li : (Nat → Nat)) (fm : Nat) (en : Nat) (nu : Nat) (td : (Nat → Nat)) (lf : Int32) (lk : Int32) (x : Int32) (w : Int64) (k : Int32) (hnx : nx ≤ 5) : wk_C l D (tyK cI) (gX z) y_Md_box b_Md_box 5 (some .int) 1 25 0 0 [.ref (m 0), .int (x), .long (w), .int (k)] (wMd m cI tx sz ap pt rk cd fr mc mg mz nc nt ld qap qpt qrk qcd qfr qmc qmg qmz qnc qnt qld nb cl gr sp ot na aw nx bg bb ab fd pv bx wy li fm en nu td lf lk) wk_i (fun (r : Int32) (u : (Nat → Nat) × (Nat → Nat) × Nat × Bool) => r = zI (bxS bg bb nx pv x w k).1 ∧ u = (bxS bg bb nx pv x w k).2) (fun u => (wMd m cI tx sz ap pt rk cd fr mc mg mz nc nt ld qap qpt qrk qcd qfr qmc qmg qmz qnc qnt qld nb cl gr sp ot na aw u.2.2.1 u.1 u.2.1 ab fd u.2.2.2 bx wy li fm en nu td lf lk)) := by
  refine wk_methI (own := R_Md) [(0, .ref (m 0)), (1, .int (x)), (2, .long (w)), (4, .int (k))] (by decide) rfl (Nat.le_of_ble_eq_true rfl) rfl (gX_ok z) (fun p_ e_ R_ s_ m_ ar_ be_ me_ co_ Q_ A_ hR_ S_ hnm_ hQ_ => ?_)
  refine wk_aload_n (pc := 0) S_ 0 d_Md_box_0 rfl rfl ?_
  refine wk_get (pc := 1) (v := .int (nI (nx))) S_ 6 31 0 in_Md rfl (by decide) rfl fl_Md_213 d_Md_box_1 rfl rfl ?_
  refine wk_iconst (pc := 4) (v := (nI (5))) S_ d_Md_box_4 (by decide) ?_
  refine wk_icmp_eqN (pc := 5) (tgt := 44) S_ d_Md_box_5 (by decide) (by omega) (by omega) (fun h5 => ?_) (fun h5 => ?_)
  · -- taken
    refine wk_iconst (pc := 44) (v := (-1)) S_ d_Md_box_44 (by decide) ?_
    exact hQ_ (-1) (bg, bb, nx, pv) d_Md_box_45 rfl (by rw [bxS, if_neg (fun z => z.1 h5)]; exact ⟨zI_0.symm, rfl⟩)
  · -- on
    refine wk_iload_n (pc := 8) S_ 1 d_Md_box_8 rfl rfl ?_
    refine wk_i2l (pc := 9) S_ d_Md_box_9 rfl ?_
    refine wk_lconst (pc := 10) (v := (lN (0))) S_ d_Md_box_10 (by decide) ?_
    refine wk_ldc2 (pc := 11) (v := (lN (3))) S_ kc_Md_216 d_Md_box_11 ?_
    refine wk_run (pc := 14) (rest := []) (wr := (wMd m cI tx sz ap pt rk cd fr mc mg mz nc nt ld qap qpt qrk qcd qfr qmc qmg qmz qnc qnt qld nb cl gr sp ot na aw nx bg bb ab fd pv bx wy li fm en nu td lf lk)) (wN := fun _ => (wMd m cI tx sz ap pt rk cd fr mc mg mz nc nt ld qap qpt qrk qcd qfr qmc qmg qmz qnc qnt qld nb cl gr sp ot na aw nx bg bb ab fd pv bx wy li fm en nu td lf lk)) S_ (wk_rS S_ (c_Md_isIn l D cI z ((x).toInt64) ((lN (0))) ((lN (3)))) mv_Md_123 rfl rfl (Nat.le_of_ble_eq_true rfl) (by rw [hR_]; decide) (by rw [hR_]; decide) d_Md_box_14) [] [0, 1, 2, 3, 4, 5, 6, 7, 8, 9, 10, 11, 12, 13, 14, 15, 16, 17, 18, 19, 20, 21, 22, 23, 24, 25, 26, 27, 28, 29, 30, 31, 32, 33] [0, 1, 2, 3, 4, 5, 6, 7, 8, 9, 10, 11, 12, 13, 14, 15, 16, 17, 18, 19, 20, 21, 22, 23, 24, 25, 26, 27, 28, 29, 30, 31, 32, 33] rfl rfl rfl (by decide) (by decide) (by decide) (by decide) (fun _ => rfl) (fun _ => rfl) (fun r14 _ hw14 => ?_)
    refine wk_st (st' := [.int (r14)]) rfl ?_
    refine wk_top (y := (bI (lxI ((x).toInt64) ((lN (0))) ((lN (3)))))) hw14 ?_
    refine wk_top (y := (bI (ixI 4 x))) (congrArg bI (lx_ix (by decide))) ?_
    refine wk_if_eqB (pc := 17) (tgt := 44) S_ d_Md_box_17 (by decide) (fun h17 => ?_) (fun h17 => ?_)
    · -- taken
      refine wk_iconst (pc := 44) (v := (-1)) S_ d_Md_box_44 (by decide) ?_
      exact hQ_ (-1) (bg, bb, nx, pv) d_Md_box_45 rfl (by rw [bxS, if_neg (fun z => by rw [h17] at z; exact absurd z.2.1 (by decide))]; exact ⟨zI_0.symm, rfl⟩)
    · -- on
      refine wk_lload_n (pc := 20) S_ 2 d_Md_box_20 rfl rfl ?_
      refine wk_lconst (pc := 21) (v := (lN (0))) S_ d_Md_box_21 (by decide) ?_
      refine wk_ldc2 (pc := 22) (v := (lN (1000000))) S_ kc_Md_218 d_Md_box_22 ?_
      refine wk_run (pc := 25) (rest := []) (wr := (wMd m cI tx sz ap pt rk cd fr mc mg mz nc nt ld qap qpt qrk qcd qfr qmc qmg qmz qnc qnt qld nb cl gr sp ot na aw nx bg bb ab fd pv bx wy li fm en nu td lf lk)) (wN := fun _ => (wMd m cI tx sz ap pt rk cd fr mc mg mz nc nt ld qap qpt qrk qcd qfr qmc qmg qmz qnc qnt qld nb cl gr sp ot na aw nx bg bb ab fd pv bx wy li fm en nu td lf lk)) S_ (wk_rS S_ (c_Md_isIn l D cI z (w) ((lN (0))) ((lN (1000000)))) mv_Md_123 rfl rfl (Nat.le_of_ble_eq_true rfl) (by rw [hR_]; decide) (by rw [hR_]; decide) d_Md_box_25) [] [0, 1, 2, 3, 4, 5, 6, 7, 8, 9, 10, 11, 12, 13, 14, 15, 16, 17, 18, 19, 20, 21, 22, 23, 24, 25, 26, 27, 28, 29, 30, 31, 32, 33] [0, 1, 2, 3, 4, 5, 6, 7, 8, 9, 10, 11, 12, 13, 14, 15, 16, 17, 18, 19, 20, 21, 22, 23, 24, 25, 26, 27, 28, 29, 30, 31, 32, 33] rfl rfl rfl (by decide) (by decide) (by decide) (by decide) (fun _ => rfl) (fun _ => rfl) (fun r25 _ hw25 => ?_)
      refine wk_st (st' := [.int (r25)]) rfl ?_
      refine wk_top (y := (bI (lxI (w) ((lN (0))) ((lN (1000000)))))) hw25 ?_
      refine wk_if_eqB (pc := 28) (tgt := 44) S_ d_Md_box_28 (by decide) (fun h28 => ?_) (fun h28 => ?_)
      · -- taken
        refine wk_iconst (pc := 44) (v := (-1)) S_ d_Md_box_44 (by decide) ?_
        exact hQ_ (-1) (bg, bb, nx, pv) d_Md_box_45 rfl (by rw [bxS, if_neg (fun z => by rw [h28] at z; exact absurd z.2.2.1 (by decide))]; exact ⟨zI_0.symm, rfl⟩)
      · -- on
        refine wk_iload (pc := 31) S_ 3 d_Md_box_31 rfl ?_
        refine wk_i2l (pc := 33) S_ d_Md_box_33 rfl ?_
        refine wk_lconst (pc := 34) (v := (lN (0))) S_ d_Md_box_34 (by decide) ?_
        refine wk_ldc2 (pc := 35) (v := (lN (8))) S_ kc_Md_209 d_Md_box_35 ?_
        refine wk_run (pc := 38) (rest := []) (wr := (wMd m cI tx sz ap pt rk cd fr mc mg mz nc nt ld qap qpt qrk qcd qfr qmc qmg qmz qnc qnt qld nb cl gr sp ot na aw nx bg bb ab fd pv bx wy li fm en nu td lf lk)) (wN := fun _ => (wMd m cI tx sz ap pt rk cd fr mc mg mz nc nt ld qap qpt qrk qcd qfr qmc qmg qmz qnc qnt qld nb cl gr sp ot na aw nx bg bb ab fd pv bx wy li fm en nu td lf lk)) S_ (wk_rS S_ (c_Md_isIn l D cI z ((k).toInt64) ((lN (0))) ((lN (8)))) mv_Md_123 rfl rfl (Nat.le_of_ble_eq_true rfl) (by rw [hR_]; decide) (by rw [hR_]; decide) d_Md_box_38) [] [0, 1, 2, 3, 4, 5, 6, 7, 8, 9, 10, 11, 12, 13, 14, 15, 16, 17, 18, 19, 20, 21, 22, 23, 24, 25, 26, 27, 28, 29, 30, 31, 32, 33] [0, 1, 2, 3, 4, 5, 6, 7, 8, 9, 10, 11, 12, 13, 14, 15, 16, 17, 18, 19, 20, 21, 22, 23, 24, 25, 26, 27, 28, 29, 30, 31, 32, 33] rfl rfl rfl (by decide) (by decide) (by decide) (by decide) (fun _ => rfl) (fun _ => rfl) (fun r38 _ hw38 => ?_)
        refine wk_st (st' := [.int (r38)]) rfl ?_
        refine wk_top (y := (bI (lxI ((k).toInt64) ((lN (0))) ((lN (8)))))) hw38 ?_
        refine wk_top (y := (bI (ixI 9 k))) (congrArg bI (lx_ix (by decide))) ?_
        refine wk_if_neB (pc := 41) (tgt := 46) S_ d_Md_box_41 (by decide) (fun h41 => ?_) (fun h41 => ?_)
        · -- taken
          obtain ⟨y, hya, hyb, rfl⟩ := lx_of h28 (by decide) (by decide)
          obtain ⟨j, hj, rfl⟩ := ixI_of h41 (by decide)
          refine wk_aload_n (pc := 46) S_ 0 d_Md_box_46 rfl rfl ?_
          refine wk_get (pc := 47) (v := .ref (m 27)) S_ 6 32 0 in_Md rfl (by decide) rfl fl_Md_90 d_Md_box_47 rfl rfl ?_
          refine wk_aload_n (pc := 50) S_ 0 d_Md_box_50 rfl rfl ?_
          refine wk_get (pc := 51) (v := .int (nI (nx))) S_ 6 31 0 in_Md rfl (by decide) rfl fl_Md_213 d_Md_box_51 rfl rfl ?_
          refine wk_lload_n (pc := 54) S_ 2 d_Md_box_54 rfl rfl ?_
          refine wk_last (pc := 55) (g := bg) (ws' := (wMd m cI tx sz ap pt rk cd fr mc mg mz nc nt ld qap qpt qrk qcd qfr qmc qmg qmz qnc qnt qld nb cl gr sp ot na aw nx (va_up (bg) (nx) (y)) bb ab fd pv bx wy li fm en nu td lf lk)) S_ 27 2 d_Md_box_55 rfl rfl (by omega) (by decide) rfl ?_
          refine wk_aload_n (pc := 56) S_ 0 d_Md_box_56 rfl rfl ?_
          refine wk_get (pc := 57) (v := .ref (m 28)) S_ 6 33 0 in_Md rfl (by decide) rfl fl_Md_93 d_Md_box_57 rfl rfl ?_
          refine wk_aload_n (pc := 60) S_ 0 d_Md_box_60 rfl rfl ?_
          refine wk_get (pc := 61) (v := .int (nI (nx))) S_ 6 31 0 in_Md rfl (by decide) rfl fl_Md_213 d_Md_box_61 rfl rfl ?_
          refine wk_iload (pc := 64) S_ 3 d_Md_box_64 rfl ?_
          refine wk_iastN (pc := 66) (g := bb) (ws' := (wMd m cI tx sz ap pt rk cd fr mc mg mz nc nt ld qap qpt qrk qcd qfr qmc qmg qmz qnc qnt qld nb cl gr sp ot na aw nx (va_up (bg) (nx) (y)) (va_up (bb) (nx) (j)) ab fd pv bx wy li fm en nu td lf lk)) S_ 28 0 d_Md_box_66 rfl rfl (by omega) (by decide) rfl ?_
          refine wk_aload_n (pc := 67) S_ 0 d_Md_box_67 rfl rfl ?_
          refine wk_dup (pc := 68) S_ d_Md_box_68 rfl ?_
          refine wk_get (pc := 69) (v := .int (nI (nx))) S_ 6 31 0 in_Md rfl (by decide) rfl fl_Md_213 d_Md_box_69 rfl rfl ?_
          refine wk_iconst (pc := 72) (v := (nI (1))) S_ d_Md_box_72 (by decide) ?_
          refine wk_iaddN (pc := 73) S_ d_Md_box_73 ?_
          refine wk_put (pc := 74) (ty := .int) (ws' := (wMd m cI tx sz ap pt rk cd fr mc mg mz nc nt ld qap qpt qrk qcd qfr qmc qmg qmz qnc qnt qld nb cl gr sp ot na aw ((nx) + (1)) (va_up (bg) (nx) (y)) (va_up (bb) (nx) (j)) ab fd pv bx wy li fm en nu td lf lk)) S_ 6 31 0 in_Md t_Md t_Md_ok n_Md rfl (by decide) rfl fl_Md_213 (by decide +kernel) d_Md_box_74 rfl rfl rfl (Nat.le_of_ble_eq_true rfl) rfl ?_
          refine wk_aload_n (pc := 77) S_ 0 d_Md_box_77 rfl rfl ?_
          refine wk_iconst (pc := 78) (v := (nI (0))) S_ d_Md_box_78 (by decide) ?_
          refine wk_put (pc := 79) (ty := .boolean) (ws' := (wMd m cI tx sz ap pt rk cd fr mc mg mz nc nt ld qap qpt qrk qcd qfr qmc qmg qmz qnc qnt qld nb cl gr sp ot na aw ((nx) + (1)) (va_up (bg) (nx) (y)) (va_up (bb) (nx) (j)) ab fd false bx wy li fm en nu td lf lk)) S_ 6 36 0 in_Md t_Md t_Md_ok n_Md rfl (by decide) rfl fl_Md_130 (by decide +kernel) d_Md_box_79 rfl rfl rfl (Nat.le_of_ble_eq_true rfl) rfl ?_
          refine wk_aload_n (pc := 82) S_ 0 d_Md_box_82 rfl rfl ?_
          refine wk_get (pc := 83) (v := .int (nI ((nx) + (1)))) S_ 6 31 0 in_Md rfl (by decide) rfl fl_Md_213 d_Md_box_83 rfl rfl ?_
          refine wk_iconst (pc := 86) (v := (nI (1))) S_ d_Md_box_86 (by decide) ?_
          refine wk_isubN (pc := 87) S_ d_Md_box_87 (by omega) ?_
          exact hQ_ (nI (((nx) + (1)) - (1))) (va_up (bg) (nx) (y), va_up (bb) (nx) (j), (nx) + (1), false) d_Md_box_88 rfl (by rw [bxS, if_pos ⟨h5, h17, h28, h41⟩, gN_l (by omega), nI_clamp (by omega)]; exact ⟨(zI_s nx).symm, rfl⟩)
        · -- on
          refine wk_iconst (pc := 44) (v := (-1)) S_ d_Md_box_44 (by decide) ?_
          exact hQ_ (-1) (bg, bb, nx, pv) d_Md_box_45 rfl (by rw [bxS, if_neg (fun z => by rw [h41] at z; exact absurd z.2.2.2 (by decide))]; exact ⟨zI_0.symm, rfl⟩)
set_option maxHeartbeats 4000000 in
set_option maxRecDepth 100000 in
theorem c_Md_absorber (l : Launch) (D : va_G) (cI : CiT) (z : GzT) (m : Nat → Nat) (tx : (Nat → Nat)) (sz : Nat) (ap : (Nat → Bool)) (pt : (Nat → Nat)) (rk : (Nat → Nat)) (cd : (Nat → Nat)) (fr : Nat) (mc : (Nat → Nat)) (mg : (Nat → Nat)) (mz : (Nat → Nat)) (nc : (Nat → Nat)) (nt : (Nat → Nat)) (ld : (Nat → Nat)) (qap : (Nat → Bool)) (qpt : (Nat → Nat)) (qrk : (Nat → Nat)) (qcd : (Nat → Nat)) (qfr : Nat) (qmc : (Nat → Nat)) (qmg : (Nat → Nat)) (qmz : (Nat → Nat)) (qnc : (Nat → Nat)) (qnt : (Nat → Nat)) (qld : (Nat → Nat)) (nb : Nat) (cl : (Nat → Nat)) (gr : (Nat → Nat)) (sp : (Nat → Nat)) (ot : (Nat → Bool)) (na : Nat) (aw : (Nat → Nat)) (nx : Nat) (bg : (Nat → Nat)) (bb : (Nat → Nat)) (ab : (Nat → Nat)) (fd : Bool) (pv : Bool) (bx : (Nat → Nat)) (wy : (Nat → Nat)) (li : (Nat → Nat)) (fm : Nat) (en : Nat) (nu : Nat) (td : (Nat → Nat)) (lf : Int32) (lk : Int32) (b : Int32) (w : Int64) (hnx : nx ≤ 5) : wk_C l D (tyK cI) (gX z) y_Md_absorber b_Md_absorber 4 (some .boolean) 1 25 0 0 [.ref (m 0), .int (b), .long (w)] (wMd m cI tx sz ap pt rk cd fr mc mg mz nc nt ld qap qpt qrk qcd qfr qmc qmg qmz qnc qnt qld nb cl gr sp ot na aw nx bg bb ab fd pv bx wy li fm en nu td lf lk) wk_i (fun (r : Int32) (u : (Nat → Nat) × Bool) => r = bI (abS ab pv nx b w).1 ∧ u = (abS ab pv nx b w).2) (fun u => (wMd m cI tx sz ap pt rk cd fr mc mg mz nc nt ld qap qpt qrk qcd qfr qmc qmg qmz qnc qnt qld nb cl gr sp ot na aw nx bg bb u.1 fd u.2 bx wy li fm en nu td lf lk)) := by
  refine wk_methZ (own := R_Md) [(0, .ref (m 0)), (1, .int (b)), (2, .long (w))] (by decide) rfl (Nat.le_of_ble_eq_true rfl) rfl (gX_ok z) (fun p_ e_ R_ s_ m_ ar_ be_ me_ co_ Q_ A_ hR_ S_ hnm_ hQ_ => ?_)
  refine wk_iload_n (pc := 0) S_ 1 d_Md_absorber_0 rfl rfl ?_
  refine wk_if_lt (pc := 1) (tgt := 23) S_ d_Md_absorber_1 (by decide) (fun h1 => ?_) (fun h1 => ?_)
  · -- taken
    refine wk_iconst (pc := 23) (v := (nI (0))) S_ d_Md_absorber_23 (by decide) ?_
    exact hQ_ (nI (0)) (ab, pv) d_Md_absorber_24 rfl rfl (by rw [abS, if_neg (fun z => by rw [ixI_a h1] at z; exact absurd z.1 (by decide))]; exact ⟨rfl, rfl⟩)
  · -- on
    refine wk_iload_n (pc := 4) S_ 1 d_Md_absorber_4 rfl rfl ?_
    refine wk_aload_n (pc := 5) S_ 0 d_Md_absorber_5 rfl rfl ?_
    refine wk_get (pc := 6) (v := .int (nI (nx))) S_ 6 31 0 in_Md rfl (by decide) rfl fl_Md_213 d_Md_absorber_6 rfl rfl ?_
    refine wk_icmp_ge (pc := 9) (tgt := 23) S_ d_Md_absorber_9 (by decide) (fun h9 => ?_) (fun h9 => ?_)
    · -- taken
      refine wk_iconst (pc := 23) (v := (nI (0))) S_ d_Md_absorber_23 (by decide) ?_
      exact hQ_ (nI (0)) (ab, pv) d_Md_absorber_24 rfl rfl (by rw [abS, if_neg (fun z => by rw [ixI_b h9] at z; exact absurd z.1 (by decide))]; exact ⟨rfl, rfl⟩)
    · -- on
      refine wk_lload_n (pc := 12) S_ 2 d_Md_absorber_12 rfl rfl ?_
      refine wk_lconst (pc := 13) (v := (lN (0))) S_ d_Md_absorber_13 (by decide) ?_
      refine wk_ldc2 (pc := 14) (v := (lN (1000000))) S_ kc_Md_218 d_Md_absorber_14 ?_
      refine wk_run (pc := 17) (rest := []) (wr := (wMd m cI tx sz ap pt rk cd fr mc mg mz nc nt ld qap qpt qrk qcd qfr qmc qmg qmz qnc qnt qld nb cl gr sp ot na aw nx bg bb ab fd pv bx wy li fm en nu td lf lk)) (wN := fun _ => (wMd m cI tx sz ap pt rk cd fr mc mg mz nc nt ld qap qpt qrk qcd qfr qmc qmg qmz qnc qnt qld nb cl gr sp ot na aw nx bg bb ab fd pv bx wy li fm en nu td lf lk)) S_ (wk_rS S_ (c_Md_isIn l D cI z (w) ((lN (0))) ((lN (1000000)))) mv_Md_123 rfl rfl (Nat.le_of_ble_eq_true rfl) (by rw [hR_]; decide) (by rw [hR_]; decide) d_Md_absorber_17) [] [0, 1, 2, 3, 4, 5, 6, 7, 8, 9, 10, 11, 12, 13, 14, 15, 16, 17, 18, 19, 20, 21, 22, 23, 24, 25, 26, 27, 28, 29, 30, 31, 32, 33] [0, 1, 2, 3, 4, 5, 6, 7, 8, 9, 10, 11, 12, 13, 14, 15, 16, 17, 18, 19, 20, 21, 22, 23, 24, 25, 26, 27, 28, 29, 30, 31, 32, 33] rfl rfl rfl (by decide) (by decide) (by decide) (by decide) (fun _ => rfl) (fun _ => rfl) (fun r17 _ hw17 => ?_)
      refine wk_st (st' := [.int (r17)]) rfl ?_
      refine wk_top (y := (bI (lxI (w) ((lN (0))) ((lN (1000000)))))) hw17 ?_
      refine wk_if_neB (pc := 20) (tgt := 25) S_ d_Md_absorber_20 (by decide) (fun h20 => ?_) (fun h20 => ?_)
      · -- taken
        obtain ⟨j, hj, rfl⟩ := ix_of h1 h9 (by omega)
        obtain ⟨y, hya, hyb, rfl⟩ := lx_of h20 (by decide) (by decide)
        refine wk_aload_n (pc := 25) S_ 0 d_Md_absorber_25 rfl rfl ?_
        refine wk_get (pc := 26) (v := .ref (m 29)) S_ 6 34 0 in_Md rfl (by decide) rfl fl_Md_96 d_Md_absorber_26 rfl rfl ?_
        refine wk_iload_n (pc := 29) S_ 1 d_Md_absorber_29 rfl rfl ?_
        refine wk_lload_n (pc := 30) S_ 2 d_Md_absorber_30 rfl rfl ?_
        refine wk_last (pc := 31) (g := ab) (ws' := (wMd m cI tx sz ap pt rk cd fr mc mg mz nc nt ld qap qpt qrk qcd qfr qmc qmg qmz qnc qnt qld nb cl gr sp ot na aw nx bg bb (va_up (ab) (j) (y)) fd pv bx wy li fm en nu td lf lk)) S_ 29 2 d_Md_absorber_31 rfl rfl (by omega) (by decide) rfl ?_
        refine wk_aload_n (pc := 32) S_ 0 d_Md_absorber_32 rfl rfl ?_
        refine wk_iconst (pc := 33) (v := (nI (0))) S_ d_Md_absorber_33 (by decide) ?_
        refine wk_put (pc := 34) (ty := .boolean) (ws' := (wMd m cI tx sz ap pt rk cd fr mc mg mz nc nt ld qap qpt qrk qcd qfr qmc qmg qmz qnc qnt qld nb cl gr sp ot na aw nx bg bb (va_up (ab) (j) (y)) fd false bx wy li fm en nu td lf lk)) S_ 6 36 0 in_Md t_Md t_Md_ok n_Md rfl (by decide) rfl fl_Md_130 (by decide +kernel) d_Md_absorber_34 rfl rfl rfl (Nat.le_of_ble_eq_true rfl) rfl ?_
        refine wk_iconst (pc := 37) (v := (nI (1))) S_ d_Md_absorber_37 (by decide) ?_
        exact hQ_ (nI (1)) (va_up (ab) (j) (y), false) d_Md_absorber_38 rfl rfl (by rw [abS, if_pos ⟨ixI_c h1 h9, h20⟩, nI_clamp (by omega), gN_l (by omega)]; exact ⟨rfl, rfl⟩)
      · -- on
        refine wk_iconst (pc := 23) (v := (nI (0))) S_ d_Md_absorber_23 (by decide) ?_
        exact hQ_ (nI (0)) (ab, pv) d_Md_absorber_24 rfl rfl (by rw [abS, if_neg (fun z => by rw [h20] at z; exact absurd z.2 (by decide))]; exact ⟨rfl, rfl⟩)
set_option maxHeartbeats 4000000 in
set_option maxRecDepth 100000 in
theorem c_Md_refuse (l : Launch) (D : va_G) (cI : CiT) (z : GzT) (m : Nat → Nat) (tx : (Nat → Nat)) (sz : Nat) (ap : (Nat → Bool)) (pt : (Nat → Nat)) (rk : (Nat → Nat)) (cd : (Nat → Nat)) (fr : Nat) (mc : (Nat → Nat)) (mg : (Nat → Nat)) (mz : (Nat → Nat)) (nc : (Nat → Nat)) (nt : (Nat → Nat)) (ld : (Nat → Nat)) (qap : (Nat → Bool)) (qpt : (Nat → Nat)) (qrk : (Nat → Nat)) (qcd : (Nat → Nat)) (qfr : Nat) (qmc : (Nat → Nat)) (qmg : (Nat → Nat)) (qmz : (Nat → Nat)) (qnc : (Nat → Nat)) (qnt : (Nat → Nat)) (qld : (Nat → Nat)) (nb : Nat) (cl : (Nat → Nat)) (gr : (Nat → Nat)) (sp : (Nat → Nat)) (ot : (Nat → Bool)) (na : Nat) (aw : (Nat → Nat)) (nx : Nat) (bg : (Nat → Nat)) (bb : (Nat → Nat)) (ab : (Nat → Nat)) (fd : Bool) (pv : Bool) (bx : (Nat → Nat)) (wy : (Nat → Nat)) (li : (Nat → Nat)) (fm : Nat) (en : Nat) (nu : Nat) (td : (Nat → Nat)) (lf : Int32) (lk : Int32) (b : Int32) (q : Int32) (hnb : nb ≤ 8) (hna : na ≤ 8) (hno : (∀ b, b < nb → ot b = true) ∨ na < nb) : wk_C l D (tyK cI) (gX z) y_Md_refuse b_Md_refuse 3 (some .int) 1 25 0 0 [.ref (m 0), .int (b), .int (q)] (wMd m cI tx sz ap pt rk cd fr mc mg mz nc nt ld qap qpt qrk qcd qfr qmc qmg qmz qnc qnt qld nb cl gr sp ot na aw nx bg bb ab fd pv bx wy li fm en nu td lf lk) wk_i (fun (r : Int32) (u : (Nat → Bool) × (Nat → Nat) × Nat × Bool) => r = zI (reS ot aw na pv nb b q).1 ∧ u = (reS ot aw na pv nb b q).2) (fun u => (wMd m cI tx sz ap pt rk cd fr mc mg mz nc nt ld qap qpt qrk qcd qfr qmc qmg qmz qnc qnt qld nb cl gr sp u.1 u.2.2.1 u.2.1 nx bg bb ab fd u.2.2.2 bx wy li fm en nu td lf lk)) := by
  refine wk_methI (own := R_Md) [(0, .ref (m 0)), (1, .int (b)), (2, .int (q))] (by decide) rfl (Nat.le_of_ble_eq_true rfl) rfl (gX_ok z) (fun p_ e_ R_ s_ m_ ar_ be_ me_ co_ Q_ A_ hR_ S_ hnm_ hQ_ => ?_)
  refine wk_aload_n (pc := 0) S_ 0 d_Md_refuse_0 rfl rfl ?_
  refine wk_iload_n (pc := 1) S_ 1 d_Md_refuse_1 rfl rfl ?_
  refine wk_run (pc := 2) (rest := []) (wr := []) (wN := fun _ => (wMd m cI tx sz ap pt rk cd fr mc mg mz nc nt ld qap qpt qrk qcd qfr qmc qmg qmz qnc qnt qld nb cl gr sp ot na aw nx bg bb ab fd pv bx wy li fm en nu td lf lk)) S_ (wk_rV S_ (c_Md_isBottle l D cI z (m) (tx) (sz) (ap) (pt) (rk) (cd) (fr) (mc) (mg) (mz) (nc) (nt) (ld) (qap) (qpt) (qrk) (qcd) (qfr) (qmc) (qmg) (qmz) (qnc) (qnt) (qld) (nb) (cl) (gr) (sp) (ot) (na) (aw) (nx) (bg) (bb) (ab) (fd) (pv) (bx) (wy) (li) (fm) (en) (nu) (td) (lf) (lk) (b)) mv_Md_220 (wk_rcv S_ 0 6 rfl rfl rfl) rfl rfl (Nat.le_of_ble_eq_true rfl) (by rw [hR_]; decide) (by rw [hR_]; decide) d_Md_refuse_2) [0, 1, 2, 3, 4, 5, 6, 7, 8, 9, 10, 11, 12, 13, 14, 15, 16, 17, 18, 19, 20, 21, 22, 23, 24, 25, 26, 27, 28, 29, 30, 31, 32, 33] [] [0, 1, 2, 3, 4, 5, 6, 7, 8, 9, 10, 11, 12, 13, 14, 15, 16, 17, 18, 19, 20, 21, 22, 23, 24, 25, 26, 27, 28, 29, 30, 31, 32, 33] rfl rfl rfl (by decide) (by decide) (by decide) (by decide) (fun _ => rfl) (fun _ => rfl) (fun r2 _ hw2 => ?_)
  refine wk_st (st' := [.int (r2)]) rfl ?_
  refine wk_top (y := (bI (ixI (nb) (b)))) hw2 ?_
  refine wk_if_eqB (pc := 5) (tgt := 29) S_ d_Md_refuse_5 (by decide) (fun h5 => ?_) (fun h5 => ?_)
  · -- taken
    refine wk_iconst (pc := 29) (v := (-1)) S_ d_Md_refuse_29 (by decide) ?_
    exact hQ_ (-1) (ot, aw, na, pv) d_Md_refuse_30 rfl (by rw [reS, if_neg (fun z => by rw [h5] at z; exact absurd z.1 (by decide))]; exact ⟨zI_0.symm, rfl⟩)
  · -- on
    refine wk_iload_n (pc := 8) S_ 2 d_Md_refuse_8 rfl rfl ?_
    refine wk_i2l (pc := 9) S_ d_Md_refuse_9 rfl ?_
    refine wk_lconst (pc := 10) (v := (lN (1))) S_ d_Md_refuse_10 (by decide) ?_
    refine wk_ldc2 (pc := 11) (v := (lN (9))) S_ kc_Md_223 d_Md_refuse_11 ?_
    refine wk_run (pc := 14) (rest := []) (wr := (wMd m cI tx sz ap pt rk cd fr mc mg mz nc nt ld qap qpt qrk qcd qfr qmc qmg qmz qnc qnt qld nb cl gr sp ot na aw nx bg bb ab fd pv bx wy li fm en nu td lf lk)) (wN := fun _ => (wMd m cI tx sz ap pt rk cd fr mc mg mz nc nt ld qap qpt qrk qcd qfr qmc qmg qmz qnc qnt qld nb cl gr sp ot na aw nx bg bb ab fd pv bx wy li fm en nu td lf lk)) S_ (wk_rS S_ (c_Md_isIn l D cI z ((q).toInt64) ((lN (1))) ((lN (9)))) mv_Md_123 rfl rfl (Nat.le_of_ble_eq_true rfl) (by rw [hR_]; decide) (by rw [hR_]; decide) d_Md_refuse_14) [] [0, 1, 2, 3, 4, 5, 6, 7, 8, 9, 10, 11, 12, 13, 14, 15, 16, 17, 18, 19, 20, 21, 22, 23, 24, 25, 26, 27, 28, 29, 30, 31, 32, 33] [0, 1, 2, 3, 4, 5, 6, 7, 8, 9, 10, 11, 12, 13, 14, 15, 16, 17, 18, 19, 20, 21, 22, 23, 24, 25, 26, 27, 28, 29, 30, 31, 32, 33] rfl rfl rfl (by decide) (by decide) (by decide) (by decide) (fun _ => rfl) (fun _ => rfl) (fun r14 _ hw14 => ?_)
    refine wk_st (st' := [.int (r14)]) rfl ?_
    refine wk_top (y := (bI (lxI ((q).toInt64) ((lN (1))) ((lN (9)))))) hw14 ?_
    refine wk_top (y := (bI (rsOk q))) rfl ?_
    refine wk_if_eqB (pc := 17) (tgt := 29) S_ d_Md_refuse_17 (by decide) (fun h17 => ?_) (fun h17 => ?_)
    · -- taken
      refine wk_iconst (pc := 29) (v := (-1)) S_ d_Md_refuse_29 (by decide) ?_
      exact hQ_ (-1) (ot, aw, na, pv) d_Md_refuse_30 rfl (by rw [reS, if_neg (fun z => by rw [h17] at z; exact absurd z.2.1 (by decide))]; exact ⟨zI_0.symm, rfl⟩)
    · -- on
      obtain ⟨j, hj, rfl⟩ := ixI_of h5 (by omega)
      obtain ⟨t, ht, rfl⟩ := rsOk_of h17
      refine wk_aload_n (pc := 20) S_ 0 d_Md_refuse_20 rfl rfl ?_
      refine wk_get (pc := 21) (v := .ref (m 25)) S_ 6 28 0 in_Md rfl (by decide) rfl fl_Md_84 d_Md_refuse_21 rfl rfl ?_
      refine wk_iload_n (pc := 24) S_ 1 d_Md_refuse_24 rfl rfl ?_
      refine wk_zald (pc := 25) (g := ot) S_ 25 1 d_Md_refuse_25 rfl rfl (by omega) (by decide) ?_
      refine wk_if_eqB (pc := 26) (tgt := 31) S_ d_Md_refuse_26 (by decide) (fun h26 => ?_) (fun h26 => ?_)
      · -- taken
        have hna2 : na < nb := by rcases hno with z | z; rw [z j hj] at h26; cases h26; exact z
        refine wk_aload_n (pc := 31) S_ 0 d_Md_refuse_31 rfl rfl ?_
        refine wk_get (pc := 32) (v := .ref (m 25)) S_ 6 28 0 in_Md rfl (by decide) rfl fl_Md_84 d_Md_refuse_32 rfl rfl ?_
        refine wk_iload_n (pc := 35) S_ 1 d_Md_refuse_35 rfl rfl ?_
        refine wk_iconst (pc := 36) (v := (nI (1))) S_ d_Md_refuse_36 (by decide) ?_
        refine wk_top (y := bI true) rfl ?_
        refine wk_zast (pc := 37) (g := ot) (ws' := (wMd m cI tx sz ap pt rk cd fr mc mg mz nc nt ld qap qpt qrk qcd qfr qmc qmg qmz qnc qnt qld nb cl gr sp (va_up (ot) (j) (true)) na aw nx bg bb ab fd pv bx wy li fm en nu td lf lk)) S_ 25 1 d_Md_refuse_37 rfl rfl (by omega) (by decide) rfl ?_
        refine wk_aload_n (pc := 38) S_ 0 d_Md_refuse_38 rfl rfl ?_
        refine wk_get (pc := 39) (v := .ref (m 26)) S_ 6 30 0 in_Md rfl (by decide) rfl fl_Md_87 d_Md_refuse_39 rfl rfl ?_
        refine wk_aload_n (pc := 42) S_ 0 d_Md_refuse_42 rfl rfl ?_
        refine wk_get (pc := 43) (v := .int (nI (na))) S_ 6 29 0 in_Md rfl (by decide) rfl fl_Md_225 d_Md_refuse_43 rfl rfl ?_
        refine wk_bipush (pc := 46) (v := (nI (10))) S_ d_Md_refuse_46 (by decide) ?_
        refine wk_iload_n (pc := 48) S_ 1 d_Md_refuse_48 rfl rfl ?_
        refine wk_imulN (pc := 49) S_ d_Md_refuse_49 ?_
        refine wk_iload_n (pc := 50) S_ 2 d_Md_refuse_50 rfl rfl ?_
        refine wk_iaddN (pc := 51) S_ d_Md_refuse_51 ?_
        refine wk_iastN (pc := 52) (g := aw) (ws' := (wMd m cI tx sz ap pt rk cd fr mc mg mz nc nt ld qap qpt qrk qcd qfr qmc qmg qmz qnc qnt qld nb cl gr sp (va_up (ot) (j) (true)) na (va_up (aw) (na) (((10) * (j)) + (t))) nx bg bb ab fd pv bx wy li fm en nu td lf lk)) S_ 26 0 d_Md_refuse_52 rfl rfl (by omega) (by decide) rfl ?_
        refine wk_aload_n (pc := 53) S_ 0 d_Md_refuse_53 rfl rfl ?_
        refine wk_dup (pc := 54) S_ d_Md_refuse_54 rfl ?_
        refine wk_get (pc := 55) (v := .int (nI (na))) S_ 6 29 0 in_Md rfl (by decide) rfl fl_Md_225 d_Md_refuse_55 rfl rfl ?_
        refine wk_iconst (pc := 58) (v := (nI (1))) S_ d_Md_refuse_58 (by decide) ?_
        refine wk_iaddN (pc := 59) S_ d_Md_refuse_59 ?_
        refine wk_put (pc := 60) (ty := .int) (ws' := (wMd m cI tx sz ap pt rk cd fr mc mg mz nc nt ld qap qpt qrk qcd qfr qmc qmg qmz qnc qnt qld nb cl gr sp (va_up (ot) (j) (true)) ((na) + (1)) (va_up (aw) (na) (((10) * (j)) + (t))) nx bg bb ab fd pv bx wy li fm en nu td lf lk)) S_ 6 29 0 in_Md t_Md t_Md_ok n_Md rfl (by decide) rfl fl_Md_225 (by decide +kernel) d_Md_refuse_60 rfl rfl rfl (Nat.le_of_ble_eq_true rfl) rfl ?_
        refine wk_aload_n (pc := 63) S_ 0 d_Md_refuse_63 rfl rfl ?_
        refine wk_iconst (pc := 64) (v := (nI (0))) S_ d_Md_refuse_64 (by decide) ?_
        refine wk_put (pc := 65) (ty := .boolean) (ws' := (wMd m cI tx sz ap pt rk cd fr mc mg mz nc nt ld qap qpt qrk qcd qfr qmc qmg qmz qnc qnt qld nb cl gr sp (va_up (ot) (j) (true)) ((na) + (1)) (va_up (aw) (na) (((10) * (j)) + (t))) nx bg bb ab fd false bx wy li fm en nu td lf lk)) S_ 6 36 0 in_Md t_Md t_Md_ok n_Md rfl (by decide) rfl fl_Md_130 (by decide +kernel) d_Md_refuse_65 rfl rfl rfl (Nat.le_of_ble_eq_true rfl) rfl ?_
        refine wk_aload_n (pc := 68) S_ 0 d_Md_refuse_68 rfl rfl ?_
        refine wk_get (pc := 69) (v := .int (nI ((na) + (1)))) S_ 6 29 0 in_Md rfl (by decide) rfl fl_Md_225 d_Md_refuse_69 rfl rfl ?_
        exact hQ_ (nI ((na) + (1))) (va_up (ot) (j) (true), va_up (aw) (na) (((10) * (j)) + (t)), (na) + (1), false) d_Md_refuse_72 rfl (by rw [reS, nI_clamp (by omega), nI_clamp (by omega), if_pos ⟨h5, h17, h26⟩]; exact ⟨(zI_s (na + 1)).symm, rfl⟩)
      · -- on
        refine wk_iconst (pc := 29) (v := (-1)) S_ d_Md_refuse_29 (by decide) ?_
        exact hQ_ (-1) (ot, aw, na, pv) d_Md_refuse_30 rfl (by rw [reS, if_neg (fun z => by rw [nI_clamp (by omega), h26] at z; exact absurd z.2.2 (by decide))]; exact ⟨zI_0.symm, rfl⟩)
set_option maxHeartbeats 4000000 in
set_option maxRecDepth 100000 in
theorem c_Md_test (l : Launch) (D : va_G) (cI : CiT) (z : GzT) (m : Nat → Nat) (tx : (Nat → Nat)) (sz : Nat) (ap : (Nat → Bool)) (pt : (Nat → Nat)) (rk : (Nat → Nat)) (cd : (Nat → Nat)) (fr : Nat) (mc : (Nat → Nat)) (mg : (Nat → Nat)) (mz : (Nat → Nat)) (nc : (Nat → Nat)) (nt : (Nat → Nat)) (ld : (Nat → Nat)) (qap : (Nat → Bool)) (qpt : (Nat → Nat)) (qrk : (Nat → Nat)) (qcd : (Nat → Nat)) (qfr : Nat) (qmc : (Nat → Nat)) (qmg : (Nat → Nat)) (qmz : (Nat → Nat)) (qnc : (Nat → Nat)) (qnt : (Nat → Nat)) (qld : (Nat → Nat)) (nb : Nat) (cl : (Nat → Nat)) (gr : (Nat → Nat)) (sp : (Nat → Nat)) (ot : (Nat → Bool)) (na : Nat) (aw : (Nat → Nat)) (nx : Nat) (bg : (Nat → Nat)) (bb : (Nat → Nat)) (ab : (Nat → Nat)) (fd : Bool) (pv : Bool) (bx : (Nat → Nat)) (wy : (Nat → Nat)) (li : (Nat → Nat)) (fm : Nat) (en : Nat) (nu : Nat) (td : (Nat → Nat)) (lf : Int32) (lk : Int32) (b : Int32) (t : Int32) (q : Int32) (hnb : nb ≤ 8) (hsp : ∀ b, sp b ≤ 9) (hcl : ∀ b, cl b ≤ 9) (hld : ∀ b, ld b ≤ 19) : wk_C l D (tyK cI) (gX z) y_Md_test b_Md_test 5 (some .int) 1 25 0 0 [.ref (m 0), .int (b), .int (t), .int (q)] (wMd m cI tx sz ap pt rk cd fr mc mg mz nc nt ld qap qpt qrk qcd qfr qmc qmg qmz qnc qnt qld nb cl gr sp ot na aw nx bg bb ab fd pv bx wy li fm en nu td lf lk) wk_i (fun (r : Int32) (u : (Nat → Nat) × (Nat → Nat) × Bool) => r = (tsS cl sp ld pv nb b t q).1 ∧ u = (tsS cl sp ld pv nb b t q).2) (fun u => (wMd m cI tx sz ap pt rk cd fr mc mg mz nc nt ld qap qpt qrk qcd qfr qmc qmg qmz qnc qnt qld nb u.1 gr u.2.1 ot na aw nx bg bb ab fd u.2.2 bx wy li fm en nu td lf lk)) := by
  refine wk_methI (own := R_Md) [(0, .ref (m 0)), (1, .int (b)), (2, .int (t)), (3, .int (q))] (by decide) rfl (Nat.le_of_ble_eq_true rfl) rfl (gX_ok z) (fun p_ e_ R_ s_ m_ ar_ be_ me_ co_ Q_ A_ hR_ S_ hnm_ hQ_ => ?_)
  refine wk_aload_n (pc := 0) S_ 0 d_Md_test_0 rfl rfl ?_
  refine wk_iload_n (pc := 1) S_ 1 d_Md_test_1 rfl rfl ?_
  refine wk_run (pc := 2) (rest := []) (wr := []) (wN := fun _ => (wMd m cI tx sz ap pt rk cd fr mc mg mz nc nt ld qap qpt qrk qcd qfr qmc qmg qmz qnc qnt qld nb cl gr sp ot na aw nx bg bb ab fd pv bx wy li fm en nu td lf lk)) S_ (wk_rV S_ (c_Md_isBottle l D cI z (m) (tx) (sz) (ap) (pt) (rk) (cd) (fr) (mc) (mg) (mz) (nc) (nt) (ld) (qap) (qpt) (qrk) (qcd) (qfr) (qmc) (qmg) (qmz) (qnc) (qnt) (qld) (nb) (cl) (gr) (sp) (ot) (na) (aw) (nx) (bg) (bb) (ab) (fd) (pv) (bx) (wy) (li) (fm) (en) (nu) (td) (lf) (lk) (b)) mv_Md_220 (wk_rcv S_ 0 6 rfl rfl rfl) rfl rfl (Nat.le_of_ble_eq_true rfl) (by rw [hR_]; decide) (by rw [hR_]; decide) d_Md_test_2) [0, 1, 2, 3, 4, 5, 6, 7, 8, 9, 10, 11, 12, 13, 14, 15, 16, 17, 18, 19, 20, 21, 22, 23, 24, 25, 26, 27, 28, 29, 30, 31, 32, 33] [] [0, 1, 2, 3, 4, 5, 6, 7, 8, 9, 10, 11, 12, 13, 14, 15, 16, 17, 18, 19, 20, 21, 22, 23, 24, 25, 26, 27, 28, 29, 30, 31, 32, 33] rfl rfl rfl (by decide) (by decide) (by decide) (by decide) (fun _ => rfl) (fun _ => rfl) (fun r2 _ hw2 => ?_)
  refine wk_st (st' := [.int (r2)]) rfl ?_
  refine wk_top (y := (bI (ixI (nb) (b)))) hw2 ?_
  refine wk_if_eqB (pc := 5) (tgt := 39) S_ d_Md_test_5 (by decide) (fun h5 => ?_) (fun h5 => ?_)
  · -- taken
    refine wk_bipush (pc := 39) (v := (-100)) S_ d_Md_test_39 (by decide) ?_
    exact hQ_ (-100) (cl, sp, pv) d_Md_test_41 rfl (by rw [tsS, if_neg (fun z => by rw [h5] at z; exact absurd z.1 (by decide))]; exact ⟨rfl, rfl⟩)
  · -- on
    obtain ⟨j, hj, rfl⟩ := ixI_of h5 (by omega)
    refine wk_aload_n (pc := 8) S_ 0 d_Md_test_8 rfl rfl ?_
    refine wk_get (pc := 9) (v := .ref (m 22)) S_ 6 25 0 in_Md rfl (by decide) rfl fl_Md_74 d_Md_test_9 rfl rfl ?_
    refine wk_iload_n (pc := 12) S_ 1 d_Md_test_12 rfl rfl ?_
    refine wk_ialdY (pc := 13) (g := cl) S_ 22 0 d_Md_test_13 rfl rfl (by omega) (by decide) ?_
    have hc1 := hcl j
    refine wk_if_geY (pc := 14) (tgt := 39) S_ d_Md_test_14 (by decide) (by omega) (fun h14 => ?_) (fun h14 => ?_)
    · -- taken
      refine wk_bipush (pc := 39) (v := (-100)) S_ d_Md_test_39 (by decide) ?_
      exact hQ_ (-100) (cl, sp, pv) d_Md_test_41 rfl (by rw [tsS, if_neg (fun z => by rw [nI_clamp (by omega)] at z; exact h14 z.2.1)]; exact ⟨rfl, rfl⟩)
    · -- on
      refine wk_aload_n (pc := 17) S_ 0 d_Md_test_17 rfl rfl ?_
      refine wk_get (pc := 18) (v := .ref (m 24)) S_ 6 27 0 in_Md rfl (by decide) rfl fl_Md_81 d_Md_test_18 rfl rfl ?_
      refine wk_iload_n (pc := 21) S_ 1 d_Md_test_21 rfl rfl ?_
      refine wk_ialdN (pc := 22) (g := sp) S_ 24 0 d_Md_test_22 rfl rfl (by omega) (by decide) ?_
      refine wk_iload_n (pc := 23) S_ 2 d_Md_test_23 rfl rfl ?_
      refine wk_icmp_ne (pc := 24) (tgt := 39) S_ d_Md_test_24 (by decide) (fun h24 => ?_) (fun h24 => ?_)
      · -- taken
        refine wk_bipush (pc := 39) (v := (-100)) S_ d_Md_test_39 (by decide) ?_
        exact hQ_ (-100) (cl, sp, pv) d_Md_test_41 rfl (by rw [tsS, if_neg (fun z => by rw [nI_clamp (by omega)] at z; exact h24 z.2.2.1)]; exact ⟨rfl, rfl⟩)
      · -- on
        subst h24
        have hs1 := hsp j
        refine wk_iload_n (pc := 27) S_ 3 d_Md_test_27 rfl rfl ?_
        refine wk_i2l (pc := 28) S_ d_Md_test_28 rfl ?_
        refine wk_lconst (pc := 29) (v := (lN (0))) S_ d_Md_test_29 (by decide) ?_
        refine wk_ldc2 (pc := 30) (v := (lN (3))) S_ kc_Md_216 d_Md_test_30 ?_
        refine wk_run (pc := 33) (rest := []) (wr := (wMd m cI tx sz ap pt rk cd fr mc mg mz nc nt ld qap qpt qrk qcd qfr qmc qmg qmz qnc qnt qld nb cl gr sp ot na aw nx bg bb ab fd pv bx wy li fm en nu td lf lk)) (wN := fun _ => (wMd m cI tx sz ap pt rk cd fr mc mg mz nc nt ld qap qpt qrk qcd qfr qmc qmg qmz qnc qnt qld nb cl gr sp ot na aw nx bg bb ab fd pv bx wy li fm en nu td lf lk)) S_ (wk_rS S_ (c_Md_isIn l D cI z ((q).toInt64) ((lN (0))) ((lN (3)))) mv_Md_123 rfl rfl (Nat.le_of_ble_eq_true rfl) (by rw [hR_]; decide) (by rw [hR_]; decide) d_Md_test_33) [] [0, 1, 2, 3, 4, 5, 6, 7, 8, 9, 10, 11, 12, 13, 14, 15, 16, 17, 18, 19, 20, 21, 22, 23, 24, 25, 26, 27, 28, 29, 30, 31, 32, 33] [0, 1, 2, 3, 4, 5, 6, 7, 8, 9, 10, 11, 12, 13, 14, 15, 16, 17, 18, 19, 20, 21, 22, 23, 24, 25, 26, 27, 28, 29, 30, 31, 32, 33] rfl rfl rfl (by decide) (by decide) (by decide) (by decide) (fun _ => rfl) (fun _ => rfl) (fun r33 _ hw33 => ?_)
        refine wk_st (st' := [.int (r33)]) rfl ?_
        refine wk_top (y := (bI (lxI ((q).toInt64) ((lN (0))) ((lN (3)))))) hw33 ?_
        refine wk_top (y := (bI (ixI 4 q))) (congrArg bI (lx_ix (by decide))) ?_
        refine wk_if_neB (pc := 36) (tgt := 42) S_ d_Md_test_36 (by decide) (fun h36 => ?_) (fun h36 => ?_)
        · -- taken
          obtain ⟨k, hk, rfl⟩ := ixI_of h36 (by decide)
          refine wk_aload_n (pc := 42) S_ 0 d_Md_test_42 rfl rfl ?_
          refine wk_get (pc := 43) (v := .ref (m 11)) S_ 6 12 0 in_Md rfl (by decide) rfl fl_Md_41 d_Md_test_43 rfl rfl ?_
          refine wk_iconst (pc := 46) (v := (nI (4))) S_ d_Md_test_46 (by decide) ?_
          refine wk_iload_n (pc := 47) S_ 2 d_Md_test_47 rfl rfl ?_
          refine wk_imulN (pc := 48) S_ d_Md_test_48 ?_
          refine wk_iload_n (pc := 49) S_ 3 d_Md_test_49 rfl rfl ?_
          refine wk_iaddN (pc := 50) S_ d_Md_test_50 ?_
          refine wk_ialdD (pc := 51) (g := ld) S_ 11 0 d_Md_test_51 rfl rfl (by omega) (by decide) ?_
          refine wk_istore (pc := 52) (lv' := [(4, .int (lI ((ld) (((4) * (sp j)) + (k))))), (0, .ref (m 0)), (1, .int (nI (j))), (2, .int (nI (sp j))), (3, .int (nI (k)))]) S_ d_Md_test_52 (by decide) rfl ?_
          refine wk_iload (pc := 54) S_ 0 d_Md_test_54 rfl ?_
          refine wk_bipush (pc := 56) (v := (-100)) S_ d_Md_test_56 (by decide) ?_
          have hl1 := hld (4 * sp j + k)
          refine wk_icmp_neD (pc := 58) (tgt := 64) S_ d_Md_test_58 (by decide) (by omega) (fun h58 => ?_) (fun h58 => ?_)
          · -- taken
            refine wk_iload (pc := 64) S_ 0 d_Md_test_64 rfl ?_
            refine wk_if_ltD (pc := 66) (tgt := 80) S_ d_Md_test_66 (by decide) (by omega) (fun h66 => ?_) (fun h66 => ?_)
            · -- taken
              refine wk_aload_n (pc := 80) S_ 1 d_Md_test_80 rfl rfl ?_
              refine wk_get (pc := 81) (v := .ref (m 22)) S_ 6 25 0 in_Md rfl (by decide) rfl fl_Md_74 d_Md_test_81 rfl rfl ?_
              refine wk_iload_n (pc := 84) S_ 2 d_Md_test_84 rfl rfl ?_
              refine wk_iconst (pc := 85) (v := (-1)) S_ d_Md_test_85 (by decide) ?_
              refine wk_iload (pc := 86) S_ 0 d_Md_test_86 rfl ?_
              refine wk_isub (pc := 88) S_ d_Md_test_88 ?_
              refine wk_top (y := (zI (ld (4 * sp j + k) - 10))) (lI_kd _ hl1 (by omega)) ?_
              refine wk_iastY (pc := 89) (g := cl) (ws' := (wMd m cI tx sz ap pt rk cd fr mc mg mz nc nt ld qap qpt qrk qcd qfr qmc qmg qmz qnc qnt qld nb (va_up (cl) (j) (ld (4 * sp j + k) - 10)) gr sp ot na aw nx bg bb ab fd pv bx wy li fm en nu td lf lk)) S_ 22 0 d_Md_test_89 rfl rfl (by omega) (by decide) rfl ?_
              refine wk_aload_n (pc := 90) S_ 1 d_Md_test_90 rfl rfl ?_
              refine wk_iconst (pc := 91) (v := (nI (0))) S_ d_Md_test_91 (by decide) ?_
              refine wk_put (pc := 92) (ty := .boolean) (ws' := (wMd m cI tx sz ap pt rk cd fr mc mg mz nc nt ld qap qpt qrk qcd qfr qmc qmg qmz qnc qnt qld nb (va_up (cl) (j) (ld (4 * sp j + k) - 10)) gr sp ot na aw nx bg bb ab fd false bx wy li fm en nu td lf lk)) S_ 6 36 0 in_Md t_Md t_Md_ok n_Md rfl (by decide) rfl fl_Md_130 (by decide +kernel) d_Md_test_92 rfl rfl rfl (Nat.le_of_ble_eq_true rfl) rfl ?_
              refine wk_iload (pc := 95) S_ 0 d_Md_test_95 rfl ?_
              exact hQ_ (lI ((ld) (((4) * (sp j)) + (k)))) (va_up (cl) (j) (ld (4 * sp j + k) - 10), sp, false) d_Md_test_97 rfl (by rw [tsS, nI_clamp (by omega), nI_clamp (by omega), if_pos ⟨h5, h14, rfl, h36, h58⟩, if_neg (by omega), if_neg (by omega)]; exact ⟨rfl, rfl⟩)
            · -- on
              refine wk_aload_n (pc := 69) S_ 1 d_Md_test_69 rfl rfl ?_
              refine wk_get (pc := 70) (v := .ref (m 24)) S_ 6 27 0 in_Md rfl (by decide) rfl fl_Md_81 d_Md_test_70 rfl rfl ?_
              refine wk_iload_n (pc := 73) S_ 2 d_Md_test_73 rfl rfl ?_
              refine wk_iload (pc := 74) S_ 0 d_Md_test_74 rfl ?_
              refine wk_top (y := (nI (ld (4 * sp j + k) - 1))) (lI_st h58 (by omega)) ?_
              refine wk_iastN (pc := 76) (g := sp) (ws' := (wMd m cI tx sz ap pt rk cd fr mc mg mz nc nt ld qap qpt qrk qcd qfr qmc qmg qmz qnc qnt qld nb cl gr (va_up (sp) (j) (ld (4 * sp j + k) - 1)) ot na aw nx bg bb ab fd pv bx wy li fm en nu td lf lk)) S_ 24 0 d_Md_test_76 rfl rfl (by omega) (by decide) rfl ?_
              refine wk_goto (pc := 77) (tgt := 90) S_ d_Md_test_77 (by decide) ?_
              refine wk_aload_n (pc := 90) S_ 1 d_Md_test_90 rfl rfl ?_
              refine wk_iconst (pc := 91) (v := (nI (0))) S_ d_Md_test_91 (by decide) ?_
              refine wk_put (pc := 92) (ty := .boolean) (ws' := (wMd m cI tx sz ap pt rk cd fr mc mg mz nc nt ld qap qpt qrk qcd qfr qmc qmg qmz qnc qnt qld nb cl gr (va_up (sp) (j) (ld (4 * sp j + k) - 1)) ot na aw nx bg bb ab fd false bx wy li fm en nu td lf lk)) S_ 6 36 0 in_Md t_Md t_Md_ok n_Md rfl (by decide) rfl fl_Md_130 (by decide +kernel) d_Md_test_92 rfl rfl rfl (Nat.le_of_ble_eq_true rfl) rfl ?_
              refine wk_iload (pc := 95) S_ 0 d_Md_test_95 rfl ?_
              exact hQ_ (lI ((ld) (((4) * (sp j)) + (k)))) (cl, va_up (sp) (j) (ld (4 * sp j + k) - 1), false) d_Md_test_97 rfl (by rw [tsS, nI_clamp (by omega), nI_clamp (by omega), if_pos ⟨h5, h14, rfl, h36, h58⟩, if_pos (by omega), if_pos (by omega)]; exact ⟨rfl, rfl⟩)
          · -- on
            refine wk_bipush (pc := 61) (v := (-100)) S_ d_Md_test_61 (by decide) ?_
            exact hQ_ (-100) (cl, sp, pv) d_Md_test_63 rfl (by rw [tsS, nI_clamp (by omega), nI_clamp (by omega), if_neg (fun z => z.2.2.2.2 h58)]; exact ⟨rfl, rfl⟩)
        · -- on
          refine wk_bipush (pc := 39) (v := (-100)) S_ d_Md_test_39 (by decide) ?_
          exact hQ_ (-100) (cl, sp, pv) d_Md_test_41 rfl (by rw [tsS, if_neg (fun z => by rw [h36] at z; exact absurd z.2.2.2.1 (by decide))]; exact ⟨rfl, rfl⟩)
