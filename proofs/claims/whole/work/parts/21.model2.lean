theorem fl_Md_130 : Cond.fieldLink R_Md 130 R_Md "isProved" "Z" ∈ lw_gd := (gd _ (tb2 _ (List.mem_of_getElem? (i := 188) rfl)) rfl)
theorem d_Md_proved_0 : decode b_Md_proved 0 = .ok (.aload_n 0, 1) := by decide +kernel
theorem d_Md_proved_1 : decode b_Md_proved 1 = .ok (.getfield 130, 3) := by decide +kernel
theorem d_Md_proved_4 : decode b_Md_proved 4 = .ok (.ireturn, 1) := by decide +kernel
theorem mv_Md_220 : wk_V R_Md 220 R_Md y_Md_isBottle b_Md_isBottle 2 (some .boolean) 1 := ⟨(gd _ (tb3 _ (List.mem_of_getElem? (i := 139) rfl)) rfl), (gd _ (tb0 _ (List.mem_of_getElem? (i := 8) rfl)) rfl), (gd _ (tb3 _ (List.mem_of_getElem? (i := 136) rfl)) rfl), (by decide +kernel), (gd _ (tb3 _ (List.mem_of_getElem? (i := 138) rfl)) rfl), (gd _ (List.mem_append_left _ (by decide +kernel)) rfl)⟩
theorem d_Md_boxOf_0 : decode b_Md_boxOf 0 = .ok (.aload_n 0, 1) := by decide +kernel
theorem d_Md_boxOf_1 : decode b_Md_boxOf 1 = .ok (.getfield 239, 3) := by decide +kernel
theorem d_Md_boxOf_4 : decode b_Md_boxOf 4 = .ok (.ifCond .eq 20, 3) := by decide +kernel
theorem d_Md_boxOf_7 : decode b_Md_boxOf 7 = .ok (.aload_n 0, 1) := by decide +kernel
theorem d_Md_boxOf_8 : decode b_Md_boxOf 8 = .ok (.iload_n 1, 1) := by decide +kernel
theorem d_Md_boxOf_9 : decode b_Md_boxOf 9 = .ok (.invokevirtual 220, 3) := by decide +kernel
theorem d_Md_boxOf_12 : decode b_Md_boxOf 12 = .ok (.ifCond .eq 12, 3) := by decide +kernel
theorem d_Md_boxOf_15 : decode b_Md_boxOf 15 = .ok (.aload_n 0, 1) := by decide +kernel
theorem d_Md_boxOf_16 : decode b_Md_boxOf 16 = .ok (.getfield 99, 3) := by decide +kernel
theorem d_Md_boxOf_19 : decode b_Md_boxOf 19 = .ok (.iload_n 1, 1) := by decide +kernel
theorem d_Md_boxOf_20 : decode b_Md_boxOf 20 = .ok (.iaload, 1) := by decide +kernel
theorem d_Md_boxOf_21 : decode b_Md_boxOf 21 = .ok (.goto 4, 3) := by decide +kernel
theorem d_Md_boxOf_24 : decode b_Md_boxOf 24 = .ok (.iconst (-1), 1) := by decide +kernel
theorem d_Md_boxOf_25 : decode b_Md_boxOf 25 = .ok (.ireturn, 1) := by decide +kernel
theorem fl_Md_225 : Cond.fieldLink R_Md 225 R_Md "outs" "I" ∈ lw_gd := (gd _ (tb2 _ (List.mem_of_getElem? (i := 181) rfl)) rfl)
theorem fl_Md_87 : Cond.fieldLink R_Md 87 R_Md "outRows" "[I" ∈ lw_gd := (gd _ (tb2 _ (List.mem_of_getElem? (i := 182) rfl)) rfl)
theorem d_Md_refused_0 : decode b_Md_refused 0 = .ok (.iload_n 1, 1) := by decide +kernel
theorem d_Md_refused_1 : decode b_Md_refused 1 = .ok (.ifCond .lt 20, 3) := by decide +kernel
theorem d_Md_refused_4 : decode b_Md_refused 4 = .ok (.iload_n 1, 1) := by decide +kernel
theorem d_Md_refused_5 : decode b_Md_refused 5 = .ok (.aload_n 0, 1) := by decide +kernel
theorem d_Md_refused_6 : decode b_Md_refused 6 = .ok (.getfield 225, 3) := by decide +kernel
theorem d_Md_refused_9 : decode b_Md_refused 9 = .ok (.if_icmp .ge 12, 3) := by decide +kernel
theorem d_Md_refused_12 : decode b_Md_refused 12 = .ok (.aload_n 0, 1) := by decide +kernel
theorem d_Md_refused_13 : decode b_Md_refused 13 = .ok (.getfield 87, 3) := by decide +kernel
theorem d_Md_refused_16 : decode b_Md_refused 16 = .ok (.iload_n 1, 1) := by decide +kernel
theorem d_Md_refused_17 : decode b_Md_refused 17 = .ok (.iaload, 1) := by decide +kernel
theorem d_Md_refused_18 : decode b_Md_refused 18 = .ok (.goto 4, 3) := by decide +kernel
theorem d_Md_refused_21 : decode b_Md_refused 21 = .ok (.iconst (-1), 1) := by decide +kernel
theorem d_Md_refused_22 : decode b_Md_refused 22 = .ok (.ireturn, 1) := by decide +kernel
theorem kc_Md_216 : Cond.constantLong R_Md 216 (lN 3) ∈ lw_gd := (gd _ (tb3 _ (List.mem_of_getElem? (i := 126) rfl)) rfl)
theorem mv_Md_123 : wk_T R_Md 123 y_Md_isIn b_Md_isIn 6 (some .boolean) 3 := ⟨(gd _ (tb3 _ (List.mem_of_getElem? (i := 59) rfl)) rfl), (gd _ (tb0 _ (List.mem_of_getElem? (i := 8) rfl)) rfl), (gd _ (tb3 _ (List.mem_of_getElem? (i := 57) rfl)) rfl), (by decide +kernel), (gd _ (tb3 _ (List.mem_of_getElem? (i := 58) rfl)) rfl)⟩
theorem fl_Md_35 : Cond.fieldLink R_Md 35 R_Md "noteCounts" "[I" ∈ lw_gd := (gd _ (tb2 _ (List.mem_of_getElem? (i := 162) rfl)) rfl)
theorem fl_Md_38 : Cond.fieldLink R_Md 38 R_Md "notes" "[I" ∈ lw_gd := (gd _ (tb2 _ (List.mem_of_getElem? (i := 163) rfl)) rfl)
theorem d_Md_note_0 : decode b_Md_note 0 = .ok (.iload_n 1, 1) := by decide +kernel
theorem d_Md_note_1 : decode b_Md_note 1 = .ok (.i2l, 1) := by decide +kernel
theorem d_Md_note_2 : decode b_Md_note 2 = .ok (.lconst 0, 1) := by decide +kernel
theorem d_Md_note_3 : decode b_Md_note 3 = .ok (.ldc2_w 216, 3) := by decide +kernel
theorem d_Md_note_6 : decode b_Md_note 6 = .ok (.invokestatic 123, 3) := by decide +kernel
theorem d_Md_note_9 : decode b_Md_note 9 = .ok (.ifCond .eq 31, 3) := by decide +kernel
theorem d_Md_note_12 : decode b_Md_note 12 = .ok (.iload_n 2, 1) := by decide +kernel
theorem d_Md_note_13 : decode b_Md_note 13 = .ok (.ifCond .lt 27, 3) := by decide +kernel
theorem d_Md_note_16 : decode b_Md_note 16 = .ok (.iload_n 2, 1) := by decide +kernel
theorem d_Md_note_17 : decode b_Md_note 17 = .ok (.aload_n 0, 1) := by decide +kernel
theorem d_Md_note_18 : decode b_Md_note 18 = .ok (.getfield 35, 3) := by decide +kernel
theorem d_Md_note_21 : decode b_Md_note 21 = .ok (.iload_n 1, 1) := by decide +kernel
theorem d_Md_note_22 : decode b_Md_note 22 = .ok (.iaload, 1) := by decide +kernel
theorem d_Md_note_23 : decode b_Md_note 23 = .ok (.if_icmp .ge 17, 3) := by decide +kernel
theorem d_Md_note_26 : decode b_Md_note 26 = .ok (.aload_n 0, 1) := by decide +kernel
theorem d_Md_note_27 : decode b_Md_note 27 = .ok (.getfield 38, 3) := by decide +kernel
theorem d_Md_note_30 : decode b_Md_note 30 = .ok (.bipush 8, 2) := by decide +kernel
theorem d_Md_note_32 : decode b_Md_note 32 = .ok (.iload_n 1, 1) := by decide +kernel
theorem d_Md_note_33 : decode b_Md_note 33 = .ok (.imul, 1) := by decide +kernel
theorem d_Md_note_34 : decode b_Md_note 34 = .ok (.iload_n 2, 1) := by decide +kernel
theorem d_Md_note_35 : decode b_Md_note 35 = .ok (.iadd, 1) := by decide +kernel
theorem d_Md_note_36 : decode b_Md_note 36 = .ok (.iaload, 1) := by decide +kernel
theorem d_Md_note_37 : decode b_Md_note 37 = .ok (.goto 4, 3) := by decide +kernel
theorem d_Md_note_40 : decode b_Md_note 40 = .ok (.iconst (-1), 1) := by decide +kernel
theorem d_Md_note_41 : decode b_Md_note 41 = .ok (.ireturn, 1) := by decide +kernel
theorem kc_Md_209 : Cond.constantLong R_Md 209 (lN 8) ∈ lw_gd := (gd _ (tb3 _ (List.mem_of_getElem? (i := 120) rfl)) rfl)
theorem fl_Md_26 : Cond.fieldLink R_Md 26 R_Md "markCounts" "[I" ∈ lw_gd := (gd _ (tb2 _ (List.mem_of_getElem? (i := 159) rfl)) rfl)
theorem fl_Md_29 : Cond.fieldLink R_Md 29 R_Md "markGrams" "[I" ∈ lw_gd := (gd _ (tb2 _ (List.mem_of_getElem? (i := 160) rfl)) rfl)
theorem fl_Md_32 : Cond.fieldLink R_Md 32 R_Md "markSizes" "[I" ∈ lw_gd := (gd _ (tb2 _ (List.mem_of_getElem? (i := 161) rfl)) rfl)
theorem d_Md_mark_0 : decode b_Md_mark 0 = .ok (.iload_n 1, 1) := by decide +kernel
theorem d_Md_mark_1 : decode b_Md_mark 1 = .ok (.i2l, 1) := by decide +kernel
theorem d_Md_mark_2 : decode b_Md_mark 2 = .ok (.lconst 0, 1) := by decide +kernel
theorem d_Md_mark_3 : decode b_Md_mark 3 = .ok (.ldc2_w 209, 3) := by decide +kernel
theorem d_Md_mark_6 : decode b_Md_mark 6 = .ok (.invokestatic 123, 3) := by decide +kernel
theorem d_Md_mark_9 : decode b_Md_mark 9 = .ok (.ifCond .ne 5, 3) := by decide +kernel
theorem d_Md_mark_12 : decode b_Md_mark 12 = .ok (.iconst (-1), 1) := by decide +kernel
theorem d_Md_mark_13 : decode b_Md_mark 13 = .ok (.ireturn, 1) := by decide +kernel
theorem d_Md_mark_14 : decode b_Md_mark 14 = .ok (.aload_n 0, 1) := by decide +kernel
theorem d_Md_mark_15 : decode b_Md_mark 15 = .ok (.iload_n 1, 1) := by decide +kernel
theorem d_Md_mark_16 : decode b_Md_mark 16 = .ok (.invokevirtual 248, 3) := by decide +kernel
theorem d_Md_mark_19 : decode b_Md_mark 19 = .ok (.lstore_n 2, 1) := by decide +kernel
theorem d_Md_mark_20 : decode b_Md_mark 20 = .ok (.iconst 0, 1) := by decide +kernel
theorem d_Md_mark_21 : decode b_Md_mark 21 = .ok (.istore 4, 2) := by decide +kernel
theorem d_Md_mark_23 : decode b_Md_mark 23 = .ok (.iconst 0, 1) := by decide +kernel
theorem d_Md_mark_24 : decode b_Md_mark 24 = .ok (.istore 5, 2) := by decide +kernel
theorem d_Md_mark_26 : decode b_Md_mark 26 = .ok (.iload 5, 2) := by decide +kernel
theorem d_Md_mark_28 : decode b_Md_mark 28 = .ok (.aload_n 0, 1) := by decide +kernel
theorem d_Md_mark_29 : decode b_Md_mark 29 = .ok (.getfield 26, 3) := by decide +kernel
theorem d_Md_mark_32 : decode b_Md_mark 32 = .ok (.iload_n 1, 1) := by decide +kernel
theorem d_Md_mark_33 : decode b_Md_mark 33 = .ok (.iaload, 1) := by decide +kernel
theorem d_Md_mark_34 : decode b_Md_mark 34 = .ok (.if_icmp .ge 52, 3) := by decide +kernel
theorem d_Md_mark_37 : decode b_Md_mark 37 = .ok (.lload_n 2, 1) := by decide +kernel
theorem d_Md_mark_38 : decode b_Md_mark 38 = .ok (.lconst 0, 1) := by decide +kernel
theorem d_Md_mark_39 : decode b_Md_mark 39 = .ok (.lcmp, 1) := by decide +kernel
theorem d_Md_mark_40 : decode b_Md_mark 40 = .ok (.ifCond .le 46, 3) := by decide +kernel
theorem d_Md_mark_43 : decode b_Md_mark 43 = .ok (.lload_n 2, 1) := by decide +kernel
theorem d_Md_mark_44 : decode b_Md_mark 44 = .ok (.aload_n 0, 1) := by decide +kernel
theorem d_Md_mark_45 : decode b_Md_mark 45 = .ok (.getfield 29, 3) := by decide +kernel
theorem d_Md_mark_48 : decode b_Md_mark 48 = .ok (.bipush 6, 2) := by decide +kernel
theorem d_Md_mark_50 : decode b_Md_mark 50 = .ok (.iload_n 1, 1) := by decide +kernel
theorem d_Md_mark_51 : decode b_Md_mark 51 = .ok (.imul, 1) := by decide +kernel
theorem d_Md_mark_52 : decode b_Md_mark 52 = .ok (.iload 5, 2) := by decide +kernel
theorem d_Md_mark_54 : decode b_Md_mark 54 = .ok (.iadd, 1) := by decide +kernel
theorem d_Md_mark_55 : decode b_Md_mark 55 = .ok (.iaload, 1) := by decide +kernel
theorem d_Md_mark_56 : decode b_Md_mark 56 = .ok (.i2l, 1) := by decide +kernel
theorem d_Md_mark_57 : decode b_Md_mark 57 = .ok (.lcmp, 1) := by decide +kernel
theorem d_Md_mark_58 : decode b_Md_mark 58 = .ok (.ifCond .lt 18, 3) := by decide +kernel
theorem d_Md_mark_61 : decode b_Md_mark 61 = .ok (.aload_n 0, 1) := by decide +kernel
theorem d_Md_mark_62 : decode b_Md_mark 62 = .ok (.getfield 32, 3) := by decide +kernel
theorem d_Md_mark_65 : decode b_Md_mark 65 = .ok (.bipush 6, 2) := by decide +kernel
theorem d_Md_mark_67 : decode b_Md_mark 67 = .ok (.iload_n 1, 1) := by decide +kernel
theorem d_Md_mark_68 : decode b_Md_mark 68 = .ok (.imul, 1) := by decide +kernel
theorem d_Md_mark_69 : decode b_Md_mark 69 = .ok (.iload 5, 2) := by decide +kernel
theorem d_Md_mark_71 : decode b_Md_mark 71 = .ok (.iadd, 1) := by decide +kernel
theorem d_Md_mark_72 : decode b_Md_mark 72 = .ok (.iaload, 1) := by decide +kernel
theorem d_Md_mark_73 : decode b_Md_mark 73 = .ok (.goto 5, 3) := by decide +kernel
theorem d_Md_mark_76 : decode b_Md_mark 76 = .ok (.iload 4, 2) := by decide +kernel
theorem d_Md_mark_78 : decode b_Md_mark 78 = .ok (.istore 4, 2) := by decide +kernel
theorem d_Md_mark_80 : decode b_Md_mark 80 = .ok (.iinc 5 1, 3) := by decide +kernel
theorem d_Md_mark_83 : decode b_Md_mark 83 = .ok (.goto (-57), 3) := by decide +kernel
theorem d_Md_mark_86 : decode b_Md_mark 86 = .ok (.iload 4, 2) := by decide +kernel
theorem d_Md_mark_88 : decode b_Md_mark 88 = .ok (.ireturn, 1) := by decide +kernel
theorem mv_Md_286 : wk_V R_Md 286 R_Md y_Md_exempt b_Md_exempt 1 (some .boolean) 0 := ⟨(gd _ (tb3 _ (List.mem_of_getElem? (i := 202) rfl)) rfl), (gd _ (tb0 _ (List.mem_of_getElem? (i := 8) rfl)) rfl), (gd _ (tb3 _ (List.mem_of_getElem? (i := 239) rfl)) rfl), (by decide +kernel), (gd _ (tb3 _ (List.mem_of_getElem? (i := 200) rfl)) rfl), (gd _ (tb3 _ (List.mem_of_getElem? (i := 201) rfl)) rfl)⟩
theorem fl_Md_23 : Cond.fieldLink R_Md 23 R_Md "codes" "[I" ∈ lw_gd := (gd _ (tb2 _ (List.mem_of_getElem? (i := 157) rfl)) rfl)
theorem d_Md_tunnel_0 : decode b_Md_tunnel 0 = .ok (.iconst 0, 1) := by decide +kernel
theorem d_Md_tunnel_1 : decode b_Md_tunnel 1 = .ok (.istore_n 1, 1) := by decide +kernel
theorem d_Md_tunnel_2 : decode b_Md_tunnel 2 = .ok (.iconst 0, 1) := by decide +kernel
theorem d_Md_tunnel_3 : decode b_Md_tunnel 3 = .ok (.istore_n 2, 1) := by decide +kernel
theorem d_Md_tunnel_4 : decode b_Md_tunnel 4 = .ok (.iload_n 2, 1) := by decide +kernel
theorem d_Md_tunnel_5 : decode b_Md_tunnel 5 = .ok (.bipush 9, 2) := by decide +kernel
theorem d_Md_tunnel_7 : decode b_Md_tunnel 7 = .ok (.if_icmp .ge 47, 3) := by decide +kernel
theorem d_Md_tunnel_10 : decode b_Md_tunnel 10 = .ok (.aload_n 0, 1) := by decide +kernel
theorem d_Md_tunnel_11 : decode b_Md_tunnel 11 = .ok (.invokevirtual 286, 3) := by decide +kernel
theorem d_Md_tunnel_14 : decode b_Md_tunnel 14 = .ok (.ifCond .ne 40, 3) := by decide +kernel
theorem d_Md_tunnel_17 : decode b_Md_tunnel 17 = .ok (.aload_n 0, 1) := by decide +kernel
theorem d_Md_tunnel_18 : decode b_Md_tunnel 18 = .ok (.iload_n 2, 1) := by decide +kernel
theorem d_Md_tunnel_19 : decode b_Md_tunnel 19 = .ok (.invokevirtual 248, 3) := by decide +kernel
theorem d_Md_tunnel_22 : decode b_Md_tunnel 22 = .ok (.lconst 0, 1) := by decide +kernel
theorem d_Md_tunnel_23 : decode b_Md_tunnel 23 = .ok (.lcmp, 1) := by decide +kernel
theorem d_Md_tunnel_24 : decode b_Md_tunnel 24 = .ok (.ifCond .le 22, 3) := by decide +kernel
theorem d_Md_tunnel_27 : decode b_Md_tunnel 27 = .ok (.aload_n 0, 1) := by decide +kernel
theorem d_Md_tunnel_28 : decode b_Md_tunnel 28 = .ok (.getfield 23, 3) := by decide +kernel
theorem d_Md_tunnel_31 : decode b_Md_tunnel 31 = .ok (.iload_n 2, 1) := by decide +kernel
theorem d_Md_tunnel_32 : decode b_Md_tunnel 32 = .ok (.iaload, 1) := by decide +kernel
theorem d_Md_tunnel_33 : decode b_Md_tunnel 33 = .ok (.iload_n 1, 1) := by decide +kernel
theorem d_Md_tunnel_34 : decode b_Md_tunnel 34 = .ok (.if_icmp .le 12, 3) := by decide +kernel
theorem d_Md_tunnel_37 : decode b_Md_tunnel 37 = .ok (.aload_n 0, 1) := by decide +kernel
theorem d_Md_tunnel_38 : decode b_Md_tunnel 38 = .ok (.getfield 23, 3) := by decide +kernel
theorem d_Md_tunnel_41 : decode b_Md_tunnel 41 = .ok (.iload_n 2, 1) := by decide +kernel
theorem d_Md_tunnel_42 : decode b_Md_tunnel 42 = .ok (.iaload, 1) := by decide +kernel
theorem d_Md_tunnel_43 : decode b_Md_tunnel 43 = .ok (.goto 4, 3) := by decide +kernel
theorem d_Md_tunnel_46 : decode b_Md_tunnel 46 = .ok (.iload_n 1, 1) := by decide +kernel
theorem d_Md_tunnel_47 : decode b_Md_tunnel 47 = .ok (.istore_n 1, 1) := by decide +kernel
theorem d_Md_tunnel_48 : decode b_Md_tunnel 48 = .ok (.iinc 2 1, 3) := by decide +kernel
theorem d_Md_tunnel_51 : decode b_Md_tunnel 51 = .ok (.goto (-47), 3) := by decide +kernel
theorem d_Md_tunnel_54 : decode b_Md_tunnel 54 = .ok (.iload_n 1, 1) := by decide +kernel
theorem d_Md_tunnel_55 : decode b_Md_tunnel 55 = .ok (.ireturn, 1) := by decide +kernel
theorem fl_Md_268 : Cond.fieldLink R_Md 268 R_Md "left" "I" ∈ lw_gd := (gd _ (tb2 _ (List.mem_of_getElem? (i := 195) rfl)) rfl)
theorem fl_Md_271 : Cond.fieldLink R_Md 271 R_Md "looked" "I" ∈ lw_gd := (gd _ (tb2 _ (List.mem_of_getElem? (i := 196) rfl)) rfl)
theorem d_Md_put_0 : decode b_Md_put 0 = .ok (.aload_n 0, 1) := by decide +kernel
theorem d_Md_put_1 : decode b_Md_put 1 = .ok (.aload_n 0, 1) := by decide +kernel
theorem d_Md_put_2 : decode b_Md_put 2 = .ok (.getfield 268, 3) := by decide +kernel
theorem d_Md_put_5 : decode b_Md_put 5 = .ok (.ifCond .ne 7, 3) := by decide +kernel
theorem d_Md_put_8 : decode b_Md_put 8 = .ok (.iload_n 1, 1) := by decide +kernel
theorem d_Md_put_9 : decode b_Md_put 9 = .ok (.goto 7, 3) := by decide +kernel
theorem d_Md_put_12 : decode b_Md_put 12 = .ok (.aload_n 0, 1) := by decide +kernel
theorem d_Md_put_13 : decode b_Md_put 13 = .ok (.getfield 271, 3) := by decide +kernel
theorem d_Md_put_16 : decode b_Md_put 16 = .ok (.putfield 271, 3) := by decide +kernel
theorem d_Md_put_19 : decode b_Md_put 19 = .ok (.aload_n 0, 1) := by decide +kernel
theorem d_Md_put_20 : decode b_Md_put 20 = .ok (.dup, 1) := by decide +kernel
theorem d_Md_put_21 : decode b_Md_put 21 = .ok (.getfield 268, 3) := by decide +kernel
theorem d_Md_put_24 : decode b_Md_put 24 = .ok (.iconst 1, 1) := by decide +kernel
theorem d_Md_put_25 : decode b_Md_put 25 = .ok (.isub, 1) := by decide +kernel
theorem d_Md_put_26 : decode b_Md_put 26 = .ok (.putfield 268, 3) := by decide +kernel
theorem d_Md_put_29 : decode b_Md_put 29 = .ok (.return_, 1) := by decide +kernel
set_option maxHeartbeats 4000000 in
set_option maxRecDepth 100000 in
theorem c_Md_proved (l : Launch) (D : va_G) (cI : CiT) (z : GzT) (m : Nat → Nat) (tx : (Nat → Nat)) (sz : Nat) (ap : (Nat → Bool)) (pt : (Nat → Nat)) (rk : (Nat → Nat)) (cd : (Nat → Nat)) (fr : Nat) (mc : (Nat → Nat)) (mg : (Nat → Nat)) (mz : (Nat → Nat)) (nc : (Nat → Nat)) (nt : (Nat → Nat)) (ld : (Nat → Nat)) (qap : (Nat → Bool)) (qpt : (Nat → Nat)) (qrk : (Nat → Nat)) (qcd : (Nat → Nat)) (qfr : Nat) (qmc : (Nat → Nat)) (qmg : (Nat → Nat)) (qmz : (Nat → Nat)) (qnc : (Nat → Nat)) (qnt : (Nat → Nat)) (qld : (Nat → Nat)) (nb : Nat) (cl : (Nat → Nat)) (gr : (Nat → Nat)) (sp : (Nat → Nat)) (ot : (Nat → Bool)) (na : Nat) (aw : (Nat → Nat)) (nx : Nat) (bg : (Nat → Nat)) (bb : (Nat → Nat)) (ab : (Nat → Nat)) (fd : Bool) (pv : Bool) (bx : (Nat → Nat)) (wy : (Nat → Nat)) (li : (Nat → Nat)) (fm : Nat) (en : Nat) (nu : Nat) (td : (Nat → Nat)) (lf : Int32) (lk : Int32) : wk_C l D (tyK cI) (gX z) y_Md_proved b_Md_proved 1 (some .boolean) 0 0 0 0 [.ref (m 0)] (wMd m cI tx sz ap pt rk cd fr mc mg mz nc nt ld qap qpt qrk qcd qfr qmc qmg qmz qnc qnt qld nb cl gr sp ot na aw nx bg bb ab fd pv bx wy li fm en nu td lf lk) wk_i (fun (r : Int32) (_ : Unit) => r = (bI (pv))) (fun _ => (wMd m cI tx sz ap pt rk cd fr mc mg mz nc nt ld qap qpt qrk qcd qfr qmc qmg qmz qnc qnt qld nb cl gr sp ot na aw nx bg bb ab fd pv bx wy li fm en nu td lf lk)) := by
  refine wk_methZ (own := R_Md) [(0, .ref (m 0))] (by decide) rfl (Nat.le_of_ble_eq_true rfl) rfl (gX_ok z) (fun p_ e_ R_ s_ m_ ar_ be_ me_ co_ Q_ A_ hR_ S_ hnm_ hQ_ => ?_)
  refine wk_aload_n (pc := 0) S_ 0 d_Md_proved_0 rfl rfl ?_
  refine wk_get (pc := 1) (v := .int (bI (pv))) S_ 6 36 0 in_Md rfl (by decide) rfl fl_Md_130 d_Md_proved_1 rfl rfl ?_
  exact hQ_ (bI (pv)) () d_Md_proved_4 (bI_z _) rfl rfl
set_option maxHeartbeats 4000000 in
set_option maxRecDepth 100000 in
theorem c_Md_boxOf (l : Launch) (D : va_G) (cI : CiT) (z : GzT) (m : Nat → Nat) (tx : (Nat → Nat)) (sz : Nat) (ap : (Nat → Bool)) (pt : (Nat → Nat)) (rk : (Nat → Nat)) (cd : (Nat → Nat)) (fr : Nat) (mc : (Nat → Nat)) (mg : (Nat → Nat)) (mz : (Nat → Nat)) (nc : (Nat → Nat)) (nt : (Nat → Nat)) (ld : (Nat → Nat)) (qap : (Nat → Bool)) (qpt : (Nat → Nat)) (qrk : (Nat → Nat)) (qcd : (Nat → Nat)) (qfr : Nat) (qmc : (Nat → Nat)) (qmg : (Nat → Nat)) (qmz : (Nat → Nat)) (qnc : (Nat → Nat)) (qnt : (Nat → Nat)) (qld : (Nat → Nat)) (nb : Nat) (cl : (Nat → Nat)) (gr : (Nat → Nat)) (sp : (Nat → Nat)) (ot : (Nat → Bool)) (na : Nat) (aw : (Nat → Nat)) (nx : Nat) (bg : (Nat → Nat)) (bb : (Nat → Nat)) (ab : (Nat → Nat)) (fd : Bool) (pv : Bool) (bx : (Nat → Nat)) (wy : (Nat → Nat)) (li : (Nat → Nat)) (fm : Nat) (en : Nat) (nu : Nat) (td : (Nat → Nat)) (lf : Int32) (lk : Int32) (b : Int32) (hnb : nb ≤ 8) (hF : fd = false → ∀ b, bx b = 0) : wk_C l D (tyK cI) (gX z) y_Md_boxOf b_Md_boxOf 2 (some .int) 1 21 0 0 [.ref (m 0), .int (b)] (wMd m cI tx sz ap pt rk cd fr mc mg mz nc nt ld qap qpt qrk qcd qfr qmc qmg qmz qnc qnt qld nb cl gr sp ot na aw nx bg bb ab fd pv bx wy li fm en nu td lf lk) wk_i (fun (r : Int32) (_ : Unit) => r = (zI (pickY nb bx b))) (fun _ => (wMd m cI tx sz ap pt rk cd fr mc mg mz nc nt ld qap qpt qrk qcd qfr qmc qmg qmz qnc qnt qld nb cl gr sp ot na aw nx bg bb ab fd pv bx wy li fm en nu td lf lk)) := by
  refine wk_methI (own := R_Md) [(0, .ref (m 0)), (1, .int (b))] (by decide) rfl (Nat.le_of_ble_eq_true rfl) rfl (gX_ok z) (fun p_ e_ R_ s_ m_ ar_ be_ me_ co_ Q_ A_ hR_ S_ hnm_ hQ_ => ?_)
  refine wk_aload_n (pc := 0) S_ 0 d_Md_boxOf_0 rfl rfl ?_
  refine wk_get (pc := 1) (v := .int (bI (fd))) S_ 6 35 0 in_Md rfl (by decide) rfl fl_Md_239 d_Md_boxOf_1 rfl rfl ?_
  refine wk_if_eqB (pc := 4) (tgt := 24) S_ d_Md_boxOf_4 (by decide) (fun h4 => ?_) (fun h4 => ?_)
  · -- taken
    refine wk_iconst (pc := 24) (v := (-1)) S_ d_Md_boxOf_24 (by decide) ?_
    exact hQ_ (-1) () d_Md_boxOf_25 rfl (by rw [pickY]; split; rw [hF h4]; exact zI_0.symm; exact zI_0.symm)
  · -- on
    refine wk_aload_n (pc := 7) S_ 0 d_Md_boxOf_7 rfl rfl ?_
    refine wk_iload_n (pc := 8) S_ 1 d_Md_boxOf_8 rfl rfl ?_
    refine wk_run (pc := 9) (rest := []) (wr := []) (wN := fun _ => (wMd m cI tx sz ap pt rk cd fr mc mg mz nc nt ld qap qpt qrk qcd qfr qmc qmg qmz qnc qnt qld nb cl gr sp ot na aw nx bg bb ab fd pv bx wy li fm en nu td lf lk)) S_ (wk_rV S_ (c_Md_isBottle l D cI z (m) (tx) (sz) (ap) (pt) (rk) (cd) (fr) (mc) (mg) (mz) (nc) (nt) (ld) (qap) (qpt) (qrk) (qcd) (qfr) (qmc) (qmg) (qmz) (qnc) (qnt) (qld) (nb) (cl) (gr) (sp) (ot) (na) (aw) (nx) (bg) (bb) (ab) (fd) (pv) (bx) (wy) (li) (fm) (en) (nu) (td) (lf) (lk) (b)) mv_Md_220 (wk_rcv S_ 0 6 rfl rfl rfl) rfl rfl (Nat.le_of_ble_eq_true rfl) (by rw [hR_]; decide) (by rw [hR_]; decide) d_Md_boxOf_9) [0, 1, 2, 3, 4, 5, 6, 7, 8, 9, 10, 11, 12, 13, 14, 15, 16, 17, 18, 19, 20, 21, 22, 23, 24, 25, 26, 27, 28, 29, 30, 31, 32, 33] [] [0, 1, 2, 3, 4, 5, 6, 7, 8, 9, 10, 11, 12, 13, 14, 15, 16, 17, 18, 19, 20, 21, 22, 23, 24, 25, 26, 27, 28, 29, 30, 31, 32, 33] rfl rfl rfl (by decide) (by decide) (by decide) (by decide) (fun _ => rfl) (fun _ => rfl) (fun r9 _ hw9 => ?_)
    refine wk_st (st' := [.int (r9)]) rfl ?_
    refine wk_top (y := (bI (ixI (nb) (b)))) hw9 ?_
    refine wk_if_eqB (pc := 12) (tgt := 24) S_ d_Md_boxOf_12 (by decide) (fun h12 => ?_) (fun h12 => ?_)
    · -- taken
      refine wk_iconst (pc := 24) (v := (-1)) S_ d_Md_boxOf_24 (by decide) ?_
      exact hQ_ (-1) () d_Md_boxOf_25 rfl (by rw [pickY_f h12]; exact zI_0.symm)
    · -- on
      obtain ⟨j, hj, rfl⟩ := ixI_of h12 (by omega)
      refine wk_aload_n (pc := 15) S_ 0 d_Md_boxOf_15 rfl rfl ?_
      refine wk_get (pc := 16) (v := .ref (m 30)) S_ 6 37 0 in_Md rfl (by decide) rfl fl_Md_99 d_Md_boxOf_16 rfl rfl ?_
      refine wk_iload_n (pc := 19) S_ 1 d_Md_boxOf_19 rfl rfl ?_
      refine wk_ialdY (pc := 20) (g := bx) S_ 30 0 d_Md_boxOf_20 rfl rfl (by omega) (by decide) ?_
      refine wk_goto (pc := 21) (tgt := 25) S_ d_Md_boxOf_21 (by decide) ?_
      exact hQ_ (zI ((bx) (j))) () d_Md_boxOf_25 rfl (by rw [pickY_in hj (by omega)])
set_option maxHeartbeats 4000000 in
set_option maxRecDepth 100000 in
theorem c_Md_refused (l : Launch) (D : va_G) (cI : CiT) (z : GzT) (m : Nat → Nat) (tx : (Nat → Nat)) (sz : Nat) (ap : (Nat → Bool)) (pt : (Nat → Nat)) (rk : (Nat → Nat)) (cd : (Nat → Nat)) (fr : Nat) (mc : (Nat → Nat)) (mg : (Nat → Nat)) (mz : (Nat → Nat)) (nc : (Nat → Nat)) (nt : (Nat → Nat)) (ld : (Nat → Nat)) (qap : (Nat → Bool)) (qpt : (Nat → Nat)) (qrk : (Nat → Nat)) (qcd : (Nat → Nat)) (qfr : Nat) (qmc : (Nat → Nat)) (qmg : (Nat → Nat)) (qmz : (Nat → Nat)) (qnc : (Nat → Nat)) (qnt : (Nat → Nat)) (qld : (Nat → Nat)) (nb : Nat) (cl : (Nat → Nat)) (gr : (Nat → Nat)) (sp : (Nat → Nat)) (ot : (Nat → Bool)) (na : Nat) (aw : (Nat → Nat)) (nx : Nat) (bg : (Nat → Nat)) (bb : (Nat → Nat)) (ab : (Nat → Nat)) (fd : Bool) (pv : Bool) (bx : (Nat → Nat)) (wy : (Nat → Nat)) (li : (Nat → Nat)) (fm : Nat) (en : Nat) (nu : Nat) (td : (Nat → Nat)) (lf : Int32) (lk : Int32) (k : Int32) (hna : na ≤ 8) : wk_C l D (tyK cI) (gX z) y_Md_refused b_Md_refused 2 (some .int) 0 0 0 0 [.ref (m 0), .int (k)] (wMd m cI tx sz ap pt rk cd fr mc mg mz nc nt ld qap qpt qrk qcd qfr qmc qmg qmz qnc qnt qld nb cl gr sp ot na aw nx bg bb ab fd pv bx wy li fm en nu td lf lk) wk_i (fun (r : Int32) (_ : Unit) => r = (zI (pick na aw k))) (fun _ => (wMd m cI tx sz ap pt rk cd fr mc mg mz nc nt ld qap qpt qrk qcd qfr qmc qmg qmz qnc qnt qld nb cl gr sp ot na aw nx bg bb ab fd pv bx wy li fm en nu td lf lk)) := by
  refine wk_methI (own := R_Md) [(0, .ref (m 0)), (1, .int (k))] (by decide) rfl (Nat.le_of_ble_eq_true rfl) rfl (gX_ok z) (fun p_ e_ R_ s_ m_ ar_ be_ me_ co_ Q_ A_ hR_ S_ hnm_ hQ_ => ?_)
  refine wk_iload_n (pc := 0) S_ 1 d_Md_refused_0 rfl rfl ?_
  refine wk_if_lt (pc := 1) (tgt := 21) S_ d_Md_refused_1 (by decide) (fun h1 => ?_) (fun h1 => ?_)
  · -- taken
    refine wk_iconst (pc := 21) (v := (-1)) S_ d_Md_refused_21 (by decide) ?_
    exact hQ_ (-1) () d_Md_refused_22 rfl (by rw [pick_a h1]; exact zI_0.symm)
  · -- on
    refine wk_iload_n (pc := 4) S_ 1 d_Md_refused_4 rfl rfl ?_
    refine wk_aload_n (pc := 5) S_ 0 d_Md_refused_5 rfl rfl ?_
    refine wk_get (pc := 6) (v := .int (nI (na))) S_ 6 29 0 in_Md rfl (by decide) rfl fl_Md_225 d_Md_refused_6 rfl rfl ?_
    refine wk_icmp_ge (pc := 9) (tgt := 21) S_ d_Md_refused_9 (by decide) (fun h9 => ?_) (fun h9 => ?_)
    · -- taken
      refine wk_iconst (pc := 21) (v := (-1)) S_ d_Md_refused_21 (by decide) ?_
      exact hQ_ (-1) () d_Md_refused_22 rfl (by rw [pick_b h9]; exact zI_0.symm)
    · -- on
      obtain ⟨j, hj, rfl⟩ := ix_of h1 h9 (by omega)
      refine wk_aload_n (pc := 12) S_ 0 d_Md_refused_12 rfl rfl ?_
      refine wk_get (pc := 13) (v := .ref (m 26)) S_ 6 30 0 in_Md rfl (by decide) rfl fl_Md_87 d_Md_refused_13 rfl rfl ?_
      refine wk_iload_n (pc := 16) S_ 1 d_Md_refused_16 rfl rfl ?_
      refine wk_ialdN (pc := 17) (g := aw) S_ 26 0 d_Md_refused_17 rfl rfl (by omega) (by decide) ?_
      refine wk_goto (pc := 18) (tgt := 22) S_ d_Md_refused_18 (by decide) ?_
      exact hQ_ (nI ((aw) (j))) () d_Md_refused_22 rfl (by rw [pick_in hj (by omega), zI_s])
set_option maxHeartbeats 4000000 in
set_option maxRecDepth 100000 in
theorem c_Md_note (l : Launch) (D : va_G) (cI : CiT) (z : GzT) (m : Nat → Nat) (tx : (Nat → Nat)) (sz : Nat) (ap : (Nat → Bool)) (pt : (Nat → Nat)) (rk : (Nat → Nat)) (cd : (Nat → Nat)) (fr : Nat) (mc : (Nat → Nat)) (mg : (Nat → Nat)) (mz : (Nat → Nat)) (nc : (Nat → Nat)) (nt : (Nat → Nat)) (ld : (Nat → Nat)) (qap : (Nat → Bool)) (qpt : (Nat → Nat)) (qrk : (Nat → Nat)) (qcd : (Nat → Nat)) (qfr : Nat) (qmc : (Nat → Nat)) (qmg : (Nat → Nat)) (qmz : (Nat → Nat)) (qnc : (Nat → Nat)) (qnt : (Nat → Nat)) (qld : (Nat → Nat)) (nb : Nat) (cl : (Nat → Nat)) (gr : (Nat → Nat)) (sp : (Nat → Nat)) (ot : (Nat → Bool)) (na : Nat) (aw : (Nat → Nat)) (nx : Nat) (bg : (Nat → Nat)) (bb : (Nat → Nat)) (ab : (Nat → Nat)) (fd : Bool) (pv : Bool) (bx : (Nat → Nat)) (wy : (Nat → Nat)) (li : (Nat → Nat)) (fm : Nat) (en : Nat) (nu : Nat) (td : (Nat → Nat)) (lf : Int32) (lk : Int32) (x : Int32) (i : Int32) (hnc : ∀ c, nc c ≤ 8) : wk_C l D (tyK cI) (gX z) y_Md_note b_Md_note 3 (some .int) 1 25 0 0 [.ref (m 0), .int (x), .int (i)] (wMd m cI tx sz ap pt rk cd fr mc mg mz nc nt ld qap qpt qrk qcd qfr qmc qmg qmz qnc qnt qld nb cl gr sp ot na aw nx bg bb ab fd pv bx wy li fm en nu td lf lk) wk_i (fun (r : Int32) (_ : Unit) => r = (zI (ntN nc nt x i))) (fun _ => (wMd m cI tx sz ap pt rk cd fr mc mg mz nc nt ld qap qpt qrk qcd qfr qmc qmg qmz qnc qnt qld nb cl gr sp ot na aw nx bg bb ab fd pv bx wy li fm en nu td lf lk)) := by
  refine wk_methI (own := R_Md) [(0, .ref (m 0)), (1, .int (x)), (2, .int (i))] (by decide) rfl (Nat.le_of_ble_eq_true rfl) rfl (gX_ok z) (fun p_ e_ R_ s_ m_ ar_ be_ me_ co_ Q_ A_ hR_ S_ hnm_ hQ_ => ?_)
  refine wk_iload_n (pc := 0) S_ 1 d_Md_note_0 rfl rfl ?_
  refine wk_i2l (pc := 1) S_ d_Md_note_1 rfl ?_
  refine wk_lconst (pc := 2) (v := (lN (0))) S_ d_Md_note_2 (by decide) ?_
  refine wk_ldc2 (pc := 3) (v := (lN (3))) S_ kc_Md_216 d_Md_note_3 ?_
  refine wk_run (pc := 6) (rest := []) (wr := (wMd m cI tx sz ap pt rk cd fr mc mg mz nc nt ld qap qpt qrk qcd qfr qmc qmg qmz qnc qnt qld nb cl gr sp ot na aw nx bg bb ab fd pv bx wy li fm en nu td lf lk)) (wN := fun _ => (wMd m cI tx sz ap pt rk cd fr mc mg mz nc nt ld qap qpt qrk qcd qfr qmc qmg qmz qnc qnt qld nb cl gr sp ot na aw nx bg bb ab fd pv bx wy li fm en nu td lf lk)) S_ (wk_rS S_ (c_Md_isIn l D cI z ((x).toInt64) ((lN (0))) ((lN (3)))) mv_Md_123 rfl rfl (Nat.le_of_ble_eq_true rfl) (by rw [hR_]; decide) (by rw [hR_]; decide) d_Md_note_6) [] [0, 1, 2, 3, 4, 5, 6, 7, 8, 9, 10, 11, 12, 13, 14, 15, 16, 17, 18, 19, 20, 21, 22, 23, 24, 25, 26, 27, 28, 29, 30, 31, 32, 33] [0, 1, 2, 3, 4, 5, 6, 7, 8, 9, 10, 11, 12, 13, 14, 15, 16, 17, 18, 19, 20, 21, 22, 23, 24, 25, 26, 27, 28, 29, 30, 31, 32, 33] rfl rfl rfl (by decide) (by decide) (by decide) (by decide) (fun _ => rfl) (fun _ => rfl) (fun r6 _ hw6 => ?_)
  refine wk_st (st' := [.int (r6)]) rfl ?_
  refine wk_top (y := (bI (lxI ((x).toInt64) ((lN (0))) ((lN (3)))))) hw6 ?_
  refine wk_top (y := (bI (ixI 4 x))) (congrArg bI (lx_ix (by decide))) ?_
  refine wk_if_eqB (pc := 9) (tgt := 40) S_ d_Md_note_9 (by decide) (fun h9 => ?_) (fun h9 => ?_)
  · -- taken
    refine wk_iconst (pc := 40) (v := (-1)) S_ d_Md_note_40 (by decide) ?_
    exact hQ_ (-1) () d_Md_note_41 rfl (by rw [ntN_f h9]; exact zI_0.symm)
  · -- on
    obtain ⟨L, hL, rfl⟩ := ixI_of h9 (by decide)
    refine wk_iload_n (pc := 12) S_ 2 d_Md_note_12 rfl rfl ?_
    refine wk_if_lt (pc := 13) (tgt := 40) S_ d_Md_note_13 (by decide) (fun h13 => ?_) (fun h13 => ?_)
    · -- taken
      refine wk_iconst (pc := 40) (v := (-1)) S_ d_Md_note_40 (by decide) ?_
      exact hQ_ (-1) () d_Md_note_41 rfl (by rw [ntN_in hL, pick_a h13]; exact zI_0.symm)
    · -- on
      refine wk_iload_n (pc := 16) S_ 2 d_Md_note_16 rfl rfl ?_
      refine wk_aload_n (pc := 17) S_ 0 d_Md_note_17 rfl rfl ?_
      refine wk_get (pc := 18) (v := .ref (m 9)) S_ 6 10 0 in_Md rfl (by decide) rfl fl_Md_35 d_Md_note_18 rfl rfl ?_
      refine wk_iload_n (pc := 21) S_ 1 d_Md_note_21 rfl rfl ?_
      refine wk_ialdN (pc := 22) (g := nc) S_ 9 0 d_Md_note_22 rfl rfl (by omega) (by decide) ?_
      have hn1 := hnc L
      refine wk_icmp_ge (pc := 23) (tgt := 40) S_ d_Md_note_23 (by decide) (fun h23 => ?_) (fun h23 => ?_)
      · -- taken
        refine wk_iconst (pc := 40) (v := (-1)) S_ d_Md_note_40 (by decide) ?_
        exact hQ_ (-1) () d_Md_note_41 rfl (by rw [ntN_in hL, pick_b h23]; exact zI_0.symm)
      · -- on
        obtain ⟨j, hj, rfl⟩ := ix_of h13 h23 (by omega)
        refine wk_aload_n (pc := 26) S_ 0 d_Md_note_26 rfl rfl ?_
        refine wk_get (pc := 27) (v := .ref (m 10)) S_ 6 11 0 in_Md rfl (by decide) rfl fl_Md_38 d_Md_note_27 rfl rfl ?_
        refine wk_bipush (pc := 30) (v := (nI (8))) S_ d_Md_note_30 (by decide) ?_
        refine wk_iload_n (pc := 32) S_ 1 d_Md_note_32 rfl rfl ?_
        refine wk_imulN (pc := 33) S_ d_Md_note_33 ?_
        refine wk_iload_n (pc := 34) S_ 2 d_Md_note_34 rfl rfl ?_
        refine wk_iaddN (pc := 35) S_ d_Md_note_35 ?_
        refine wk_ialdN (pc := 36) (g := nt) S_ 10 0 d_Md_note_36 rfl rfl (by omega) (by decide) ?_
        refine wk_goto (pc := 37) (tgt := 41) S_ d_Md_note_37 (by decide) ?_
        exact hQ_ (nI ((nt) (((8) * (L)) + (j)))) () d_Md_note_41 rfl (by rw [ntN_in hL, pick_in hj (by omega), zI_s])
set_option maxHeartbeats 4000000 in
set_option maxRecDepth 100000 in
theorem c_Md_mark (l : Launch) (D : va_G) (cI : CiT) (z : GzT) (m : Nat → Nat) (tx : (Nat → Nat)) (sz : Nat) (ap : (Nat → Bool)) (pt : (Nat → Nat)) (rk : (Nat → Nat)) (cd : (Nat → Nat)) (fr : Nat) (mc : (Nat → Nat)) (mg : (Nat → Nat)) (mz : (Nat → Nat)) (nc : (Nat → Nat)) (nt : (Nat → Nat)) (ld : (Nat → Nat)) (qap : (Nat → Bool)) (qpt : (Nat → Nat)) (qrk : (Nat → Nat)) (qcd : (Nat → Nat)) (qfr : Nat) (qmc : (Nat → Nat)) (qmg : (Nat → Nat)) (qmz : (Nat → Nat)) (qnc : (Nat → Nat)) (qnt : (Nat → Nat)) (qld : (Nat → Nat)) (nb : Nat) (cl : (Nat → Nat)) (gr : (Nat → Nat)) (sp : (Nat → Nat)) (ot : (Nat → Bool)) (na : Nat) (aw : (Nat → Nat)) (nx : Nat) (bg : (Nat → Nat)) (bb : (Nat → Nat)) (ab : (Nat → Nat)) (fd : Bool) (pv : Bool) (bx : (Nat → Nat)) (wy : (Nat → Nat)) (li : (Nat → Nat)) (fm : Nat) (en : Nat) (nu : Nat) (td : (Nat → Nat)) (lf : Int32) (lk : Int32) (x : Int32) (hnb : nb ≤ 8) (hgr : ∀ b, gr b ≤ 100000) (hcl : ∀ b, cl b ≤ 9) (hF : fd = false → ∀ b, bx b = 0) (hb : ∀ b, bx b ≤ 5) (hmc : ∀ c, mc c ≤ 6) (hmg : ∀ c, mg c ≤ 999999) : wk_C l D (tyK cI) (gX z) y_Md_mark b_Md_mark 6 (some .int) 2 45 0 0 [.ref (m 0), .int (x)] (wMd m cI tx sz ap pt rk cd fr mc mg mz nc nt ld qap qpt qrk qcd qfr qmc qmg qmz qnc qnt qld nb cl gr sp ot na aw nx bg bb ab fd pv bx wy li fm en nu td lf lk) wk_i (fun (r : Int32) (_ : Unit) => r = (zI (mkN mc mg mz (fun c => goN cl gr bx c nb) x))) (fun _ => (wMd m cI tx sz ap pt rk cd fr mc mg mz nc nt ld qap qpt qrk qcd qfr qmc qmg qmz qnc qnt qld nb cl gr sp ot na aw nx bg bb ab fd pv bx wy li fm en nu td lf lk)) := by
  refine wk_methI (own := R_Md) [(0, .ref (m 0)), (1, .int (x))] (by decide) rfl (Nat.le_of_ble_eq_true rfl) rfl (gX_ok z) (fun p_ e_ R_ s_ m_ ar_ be_ me_ co_ Q_ A_ hR_ S_ hnm_ hQ_ => ?_)
  refine wk_iload_n (pc := 0) S_ 1 d_Md_mark_0 rfl rfl ?_
  refine wk_i2l (pc := 1) S_ d_Md_mark_1 rfl ?_
  refine wk_lconst (pc := 2) (v := (lN (0))) S_ d_Md_mark_2 (by decide) ?_
  refine wk_ldc2 (pc := 3) (v := (lN (8))) S_ kc_Md_209 d_Md_mark_3 ?_
  refine wk_run (pc := 6) (rest := []) (wr := (wMd m cI tx sz ap pt rk cd fr mc mg mz nc nt ld qap qpt qrk qcd qfr qmc qmg qmz qnc qnt qld nb cl gr sp ot na aw nx bg bb ab fd pv bx wy li fm en nu td lf lk)) (wN := fun _ => (wMd m cI tx sz ap pt rk cd fr mc mg mz nc nt ld qap qpt qrk qcd qfr qmc qmg qmz qnc qnt qld nb cl gr sp ot na aw nx bg bb ab fd pv bx wy li fm en nu td lf lk)) S_ (wk_rS S_ (c_Md_isIn l D cI z ((x).toInt64) ((lN (0))) ((lN (8)))) mv_Md_123 rfl rfl (Nat.le_of_ble_eq_true rfl) (by rw [hR_]; decide) (by rw [hR_]; decide) d_Md_mark_6) [] [0, 1, 2, 3, 4, 5, 6, 7, 8, 9, 10, 11, 12, 13, 14, 15, 16, 17, 18, 19, 20, 21, 22, 23, 24, 25, 26, 27, 28, 29, 30, 31, 32, 33] [0, 1, 2, 3, 4, 5, 6, 7, 8, 9, 10, 11, 12, 13, 14, 15, 16, 17, 18, 19, 20, 21, 22, 23, 24, 25, 26, 27, 28, 29, 30, 31, 32, 33] rfl rfl rfl (by decide) (by decide) (by decide) (by decide) (fun _ => rfl) (fun _ => rfl) (fun r6 _ hw6 => ?_)
  refine wk_st (st' := [.int (r6)]) rfl ?_
  refine wk_top (y := (bI (lxI ((x).toInt64) ((lN (0))) ((lN (8)))))) hw6 ?_
  refine wk_top (y := (bI (ixI 9 x))) (congrArg bI (lx_ix (by decide))) ?_
  refine wk_if_neB (pc := 9) (tgt := 14) S_ d_Md_mark_9 (by decide) (fun h9 => ?_) (fun h9 => ?_)
  · -- taken
    obtain ⟨c, hc, rfl⟩ := ixI_of h9 (by decide)
    refine wk_aload_n (pc := 14) S_ 0 d_Md_mark_14 rfl rfl ?_
    refine wk_iload_n (pc := 15) S_ 1 d_Md_mark_15 rfl rfl ?_
    refine wk_run (pc := 16) (rest := []) (wr := []) (wN := fun _ => (wMd m cI tx sz ap pt rk cd fr mc mg mz nc nt ld qap qpt qrk qcd qfr qmc qmg qmz qnc qnt qld nb cl gr sp ot na aw nx bg bb ab fd pv bx wy li fm en nu td lf lk)) S_ (wk_rV S_ (c_Md_gramsOf l D cI z (m) (tx) (sz) (ap) (pt) (rk) (cd) (fr) (mc) (mg) (mz) (nc) (nt) (ld) (qap) (qpt) (qrk) (qcd) (qfr) (qmc) (qmg) (qmz) (qnc) (qnt) (qld) (nb) (cl) (gr) (sp) (ot) (na) (aw) (nx) (bg) (bb) (ab) (fd) (pv) (bx) (wy) (li) (fm) (en) (nu) (td) (lf) (lk) (c) (by omega) (by omega) hgr hcl hF hb) mv_Md_248 (wk_rcv S_ 0 6 rfl rfl rfl) rfl rfl (Nat.le_of_ble_eq_true rfl) (by rw [hR_]; decide) (by rw [hR_]; decide) d_Md_mark_16) [0, 1, 2, 3, 4, 5, 6, 7, 8, 9, 10, 11, 12, 13, 14, 15, 16, 17, 18, 19, 20, 21, 22, 23, 24, 25, 26, 27, 28, 29, 30, 31, 32, 33] [] [0, 1, 2, 3, 4, 5, 6, 7, 8, 9, 10, 11, 12, 13, 14, 15, 16, 17, 18, 19, 20, 21, 22, 23, 24, 25, 26, 27, 28, 29, 30, 31, 32, 33] rfl rfl rfl (by decide) (by decide) (by decide) (by decide) (fun _ => rfl) (fun _ => rfl) (fun r16 _ hw16 => ?_)
    refine wk_st (st' := [.long (r16)]) rfl ?_
    refine wk_topl (y := (lN (goN (cl) (gr) (bx) (c) (nb)))) hw16 ?_
    have hg1 := goN_le (cl := cl) (bx := bx) (c := c) hgr nb
    have hm1 := hmc c
    refine wk_lstore_n (pc := 19) (lv' := [(2, .long (lN (goN (cl) (gr) (bx) (c) (nb)))), (0, .ref (m 0)), (1, .int (nI (c)))]) S_ d_Md_mark_19 rfl (by decide) rfl ?_
    refine wk_iconst (pc := 20) (v := (nI (0))) S_ d_Md_mark_20 (by decide) ?_
    refine wk_istore (pc := 21) (lv' := [(4, .int (nI (0))), (2, .long (lN (goN (cl) (gr) (bx) (c) (nb)))), (0, .ref (m 0)), (1, .int (nI (c)))]) S_ d_Md_mark_21 (by decide) rfl ?_
    refine wk_iconst (pc := 23) (v := (nI (0))) S_ d_Md_mark_23 (by decide) ?_
    refine wk_istore (pc := 24) (lv' := [(5, .int (nI (0))), (4, .int (nI (0))), (2, .long (lN (goN (cl) (gr) (bx) (c) (nb)))), (0, .ref (m 0)), (1, .int (nI (c)))]) S_ d_Md_mark_24 (by decide) rfl ?_
    have hL26 : ∀ (fuel26 : Nat), ∀ (k : Nat), mc c - k < fuel26 → (k ≤ mc c) → (goN cl gr bx c nb = 0 → k = 0) → wk_G p_ l e_ R_ s_ m_ ar_ be_ me_ co_ Q_ D A_ 6 0 0 (wMd m cI tx sz ap pt rk cd fr mc mg mz nc nt ld qap qpt qrk qcd qfr qmc qmg qmz qnc qnt qld nb cl gr sp ot na aw nx bg bb ab fd pv bx wy li fm en nu td lf lk) 26 [(0, .ref (m 0)), (1, .int (nI (c))), (2, .long (lN (goN (cl) (gr) (bx) (c) (nb)))), (4, .int (nI (mkS mg mz c (goN cl gr bx c nb) k))), (5, .int (nI (k)))] [] := by
      intro fuel26
      induction fuel26 with
      | zero => intro k hm; exact absurd hm (Nat.not_lt_zero _)
      | succ fuel26 ih26 =>
        intro k hm hk hz
        refine wk_iload (pc := 26) S_ 4 d_Md_mark_26 rfl ?_
        refine wk_aload_n (pc := 28) S_ 0 d_Md_mark_28 rfl rfl ?_
        refine wk_get (pc := 29) (v := .ref (m 6)) S_ 6 7 0 in_Md rfl (by decide) rfl fl_Md_26 d_Md_mark_29 rfl rfl ?_
        refine wk_iload_n (pc := 32) S_ 1 d_Md_mark_32 rfl rfl ?_
        refine wk_ialdN (pc := 33) (g := mc) S_ 6 0 d_Md_mark_33 rfl rfl (by omega) (by decide) ?_
        refine wk_icmp_geN (pc := 34) (tgt := 86) S_ d_Md_mark_34 (by decide) (by omega) (by omega) (fun h34 => ?_) (fun h34 => ?_)
        · -- taken
          refine wk_iload (pc := 86) S_ 3 d_Md_mark_86 rfl ?_
          exact hQ_ (nI (mkS mg mz c (goN cl gr bx c nb) k)) () d_Md_mark_88 rfl (by rw [mkN, pick_in hc (by decide), zI_s, show k = mc c by omega]; split; rfl; rw [show mc c = 0 by omega]; rfl)
        · -- on
          refine wk_lload_n (pc := 37) S_ 2 d_Md_mark_37 rfl rfl ?_
          refine wk_lconst (pc := 38) (v := (lN (0))) S_ d_Md_mark_38 (by decide) ?_
          refine wk_lcmp (pc := 39) S_ d_Md_mark_39 ?_
          refine wk_cmp_leN (pc := 40) (tgt := 86) S_ d_Md_mark_40 (by decide) (by omega) (by omega) (fun h40 => ?_) (fun h40 => ?_)
          · -- taken
            refine wk_iload (pc := 86) S_ 3 d_Md_mark_86 rfl ?_
            exact hQ_ (nI (mkS mg mz c (goN cl gr bx c nb) k)) () d_Md_mark_88 rfl (by rw [mkN, pick_in hc (by decide), zI_s, if_neg (by omega), show k = 0 from hz (by omega)]; rfl)
          · -- on
            refine wk_lload_n (pc := 43) S_ 2 d_Md_mark_43 rfl rfl ?_
            refine wk_aload_n (pc := 44) S_ 0 d_Md_mark_44 rfl rfl ?_
            refine wk_get (pc := 45) (v := .ref (m 7)) S_ 6 8 0 in_Md rfl (by decide) rfl fl_Md_29 d_Md_mark_45 rfl rfl ?_
            refine wk_bipush (pc := 48) (v := (nI (6))) S_ d_Md_mark_48 (by decide) ?_
            refine wk_iload_n (pc := 50) S_ 1 d_Md_mark_50 rfl rfl ?_
            refine wk_imulN (pc := 51) S_ d_Md_mark_51 ?_
            refine wk_iload (pc := 52) S_ 4 d_Md_mark_52 rfl ?_
            refine wk_iaddN (pc := 54) S_ d_Md_mark_54 ?_
            refine wk_ialdN (pc := 55) (g := mg) S_ 7 0 d_Md_mark_55 rfl rfl (by omega) (by decide) ?_
            have hm2 := hmg (6 * c + k)
            refine wk_i2lN (pc := 56) S_ d_Md_mark_56 (by omega) ?_
            refine wk_lcmp (pc := 57) S_ d_Md_mark_57 ?_
            refine wk_cmp_ltN (pc := 58) (tgt := 76) S_ d_Md_mark_58 (by decide) (by omega) (by omega) (fun h58 => ?_) (fun h58 => ?_)
            · -- taken
              refine wk_iload (pc := 76) S_ 3 d_Md_mark_76 rfl ?_
              refine wk_top (y := (nI (mkS mg mz c (goN cl gr bx c nb) (k + 1)))) (congrArg nI (by rw [mkS, if_neg (by omega)])) ?_
              refine wk_istore (pc := 78) (lv' := [(4, .int (nI (mkS mg mz c (goN cl gr bx c nb) (k + 1)))), (0, .ref (m 0)), (1, .int (nI (c))), (2, .long (lN (goN (cl) (gr) (bx) (c) (nb)))), (5, .int (nI (k)))]) S_ d_Md_mark_78 (by decide) rfl ?_
              refine wk_iincN (pc := 80) (d := 1) (lv' := [(5, .int (nI (k + 1))), (4, .int (nI (mkS mg mz c (goN cl gr bx c nb) (k + 1)))), (0, .ref (m 0)), (1, .int (nI (c))), (2, .long (lN (goN (cl) (gr) (bx) (c) (nb))))]) S_ 4 d_Md_mark_80 (by decide) rfl (by decide) rfl ?_
              refine wk_goto (pc := 83) (tgt := 26) S_ d_Md_mark_83 (by decide) ?_
              refine wk_lv [2, 3, 4, 1, 0] ?_ (ih26 (k + 1) (by omega) (by omega) (by omega))
              rfl
            · -- on
              refine wk_aload_n (pc := 61) S_ 0 d_Md_mark_61 rfl rfl ?_
              refine wk_get (pc := 62) (v := .ref (m 8)) S_ 6 9 0 in_Md rfl (by decide) rfl fl_Md_32 d_Md_mark_62 rfl rfl ?_
              refine wk_bipush (pc := 65) (v := (nI (6))) S_ d_Md_mark_65 (by decide) ?_
              refine wk_iload_n (pc := 67) S_ 1 d_Md_mark_67 rfl rfl ?_
              refine wk_imulN (pc := 68) S_ d_Md_mark_68 ?_
              refine wk_iload (pc := 69) S_ 4 d_Md_mark_69 rfl ?_
              refine wk_iaddN (pc := 71) S_ d_Md_mark_71 ?_
              refine wk_ialdN (pc := 72) (g := mz) S_ 8 0 d_Md_mark_72 rfl rfl (by omega) (by decide) ?_
              refine wk_goto (pc := 73) (tgt := 78) S_ d_Md_mark_73 (by decide) ?_
              refine wk_top (y := (nI (mkS mg mz c (goN cl gr bx c nb) (k + 1)))) (congrArg nI (by rw [mkS, if_pos (by omega)])) ?_
              refine wk_istore (pc := 78) (lv' := [(4, .int (nI (mkS mg mz c (goN cl gr bx c nb) (k + 1)))), (0, .ref (m 0)), (1, .int (nI (c))), (2, .long (lN (goN (cl) (gr) (bx) (c) (nb)))), (5, .int (nI (k)))]) S_ d_Md_mark_78 (by decide) rfl ?_
              refine wk_iincN (pc := 80) (d := 1) (lv' := [(5, .int (nI (k + 1))), (4, .int (nI (mkS mg mz c (goN cl gr bx c nb) (k + 1)))), (0, .ref (m 0)), (1, .int (nI (c))), (2, .long (lN (goN (cl) (gr) (bx) (c) (nb))))]) S_ 4 d_Md_mark_80 (by decide) rfl (by decide) rfl ?_
              refine wk_goto (pc := 83) (tgt := 26) S_ d_Md_mark_83 (by decide) ?_
              refine wk_lv [2, 3, 4, 1, 0] ?_ (ih26 (k + 1) (by omega) (by omega) (by omega))
              rfl
    refine wk_lv [3, 4, 2, 1, 0] ?_ (hL26 _ (0) (Nat.lt_succ_self _) (by omega) (by omega))
    rfl
  · -- on
    refine wk_iconst (pc := 12) (v := (-1)) S_ d_Md_mark_12 (by decide) ?_
    exact hQ_ (-1) () d_Md_mark_13 rfl (by rw [mkN, pick, h9]; exact zI_0.symm)
set_option maxHeartbeats 4000000 in
set_option maxRecDepth 100000 in
theorem c_Md_tunnel (l : Launch) (D : va_G) (cI : CiT) (z : GzT) (m : Nat → Nat) (tx : (Nat → Nat)) (sz : Nat) (ap : (Nat → Bool)) (pt : (Nat → Nat)) (rk : (Nat → Nat)) (cd : (Nat → Nat)) (fr : Nat) (mc : (Nat → Nat)) (mg : (Nat → Nat)) (mz : (Nat → Nat)) (nc : (Nat → Nat)) (nt : (Nat → Nat)) (ld : (Nat → Nat)) (qap : (Nat → Bool)) (qpt : (Nat → Nat)) (qrk : (Nat → Nat)) (qcd : (Nat → Nat)) (qfr : Nat) (qmc : (Nat → Nat)) (qmg : (Nat → Nat)) (qmz : (Nat → Nat)) (qnc : (Nat → Nat)) (qnt : (Nat → Nat)) (qld : (Nat → Nat)) (nb : Nat) (cl : (Nat → Nat)) (gr : (Nat → Nat)) (sp : (Nat → Nat)) (ot : (Nat → Bool)) (na : Nat) (aw : (Nat → Nat)) (nx : Nat) (bg : (Nat → Nat)) (bb : (Nat → Nat)) (ab : (Nat → Nat)) (fd : Bool) (pv : Bool) (bx : (Nat → Nat)) (wy : (Nat → Nat)) (li : (Nat → Nat)) (fm : Nat) (en : Nat) (nu : Nat) (td : (Nat → Nat)) (lf : Int32) (lk : Int32) (hnb : nb ≤ 8) (hgr : ∀ b, gr b ≤ 100000) (hcl : ∀ b, cl b ≤ 9) (hF : fd = false → ∀ b, bx b = 0) (hb : ∀ b, bx b ≤ 5) (hpt : ∀ c, pt c ≤ 1000) (hfr : fr ≤ 999999) (hcd : ∀ c, cd c ≤ 5) : wk_C l D (tyK cI) (gX z) y_Md_tunnel b_Md_tunnel 3 (some .int) 5 109 0 0 [.ref (m 0)] (wMd m cI tx sz ap pt rk cd fr mc mg mz nc nt ld qap qpt qrk qcd qfr qmc qmg qmz qnc qnt qld nb cl gr sp ot na aw nx bg bb ab fd pv bx wy li fm en nu td lf lk) wk_i (fun (r : Int32) (_ : Unit) => r = (nI (if ptN pt (fun c => goN cl gr bx c nb) 9 ≤ fr then 0 else tnS cd (fun c => goN cl gr bx c nb) 9))) (fun _ => (wMd m cI tx sz ap pt rk cd fr mc mg mz nc nt ld qap qpt qrk qcd qfr qmc qmg qmz qnc qnt qld nb cl gr sp ot na aw nx bg bb ab fd pv bx wy li fm en nu td lf lk)) := by
  refine wk_methI (own := R_Md) [(0, .ref (m 0))] (by decide) rfl (Nat.le_of_ble_eq_true rfl) rfl (gX_ok z) (fun p_ e_ R_ s_ m_ ar_ be_ me_ co_ Q_ A_ hR_ S_ hnm_ hQ_ => ?_)
  refine wk_iconst (pc := 0) (v := (nI (0))) S_ d_Md_tunnel_0 (by decide) ?_
  refine wk_istore_n (pc := 1) (lv' := [(1, .int (nI (0))), (0, .ref (m 0))]) S_ d_Md_tunnel_1 rfl (by decide) rfl ?_
  refine wk_iconst (pc := 2) (v := (nI (0))) S_ d_Md_tunnel_2 (by decide) ?_
  refine wk_istore_n (pc := 3) (lv' := [(2, .int (nI (0))), (1, .int (nI (0))), (0, .ref (m 0))]) S_ d_Md_tunnel_3 rfl (by decide) rfl ?_
  have hL4 : ∀ (fuel4 : Nat), ∀ (k : Nat), 9 - k < fuel4 → (k ≤ 9) → (ptN pt (fun c => goN cl gr bx c nb) 9 ≤ fr → k = 0) → wk_G p_ l e_ R_ s_ m_ ar_ be_ me_ co_ Q_ D A_ 3 0 0 (wMd m cI tx sz ap pt rk cd fr mc mg mz nc nt ld qap qpt qrk qcd qfr qmc qmg qmz qnc qnt qld nb cl gr sp ot na aw nx bg bb ab fd pv bx wy li fm en nu td lf lk) 4 [(0, .ref (m 0)), (1, .int (nI (tnS cd (fun c => goN cl gr bx c nb) k))), (2, .int (nI (k)))] [] := by
    intro fuel4
    induction fuel4 with
    | zero => intro k hm; exact absurd hm (Nat.not_lt_zero _)
    | succ fuel4 ih4 =>
      intro k hm hk hz
      refine wk_iload_n (pc := 4) S_ 2 d_Md_tunnel_4 rfl rfl ?_
      refine wk_bipush (pc := 5) (v := (nI (9))) S_ d_Md_tunnel_5 (by decide) ?_
      refine wk_icmp_geN (pc := 7) (tgt := 54) S_ d_Md_tunnel_7 (by decide) (by omega) (by omega) (fun h7 => ?_) (fun h7 => ?_)
      · -- taken
        refine wk_iload_n (pc := 54) S_ 1 d_Md_tunnel_54 rfl rfl ?_
        exact hQ_ (nI (tnS cd (fun c => goN cl gr bx c nb) k)) () d_Md_tunnel_55 rfl (by rw [if_neg (fun z => absurd (hz z) (by omega)), show k = 9 by omega])
      · -- on
        refine wk_aload_n (pc := 10) S_ 0 d_Md_tunnel_10 rfl rfl ?_
        refine wk_run (pc := 11) (rest := []) (wr := []) (wN := fun _ => (wMd m cI tx sz ap pt rk cd fr mc mg mz nc nt ld qap qpt qrk qcd qfr qmc qmg qmz qnc qnt qld nb cl gr sp ot na aw nx bg bb ab fd pv bx wy li fm en nu td lf lk)) S_ (wk_rV S_ (c_Md_exempt l D cI z (m) (tx) (sz) (ap) (pt) (rk) (cd) (fr) (mc) (mg) (mz) (nc) (nt) (ld) (qap) (qpt) (qrk) (qcd) (qfr) (qmc) (qmg) (qmz) (qnc) (qnt) (qld) (nb) (cl) (gr) (sp) (ot) (na) (aw) (nx) (bg) (bb) (ab) (fd) (pv) (bx) (wy) (li) (fm) (en) (nu) (td) (lf) (lk) (by omega) hgr hcl hF hb hpt (by omega)) mv_Md_286 (wk_rcv S_ 0 6 rfl rfl rfl) rfl rfl (Nat.le_of_ble_eq_true rfl) (by rw [hR_]; decide) (by rw [hR_]; decide) d_Md_tunnel_11) [0, 1, 2, 3, 4, 5, 6, 7, 8, 9, 10, 11, 12, 13, 14, 15, 16, 17, 18, 19, 20, 21, 22, 23, 24, 25, 26, 27, 28, 29, 30, 31, 32, 33] [] [0, 1, 2, 3, 4, 5, 6, 7, 8, 9, 10, 11, 12, 13, 14, 15, 16, 17, 18, 19, 20, 21, 22, 23, 24, 25, 26, 27, 28, 29, 30, 31, 32, 33] rfl rfl rfl (by decide) (by decide) (by decide) (by decide) (fun _ => rfl) (fun _ => rfl) (fun r11 _ hw11 => ?_)
        refine wk_st (st' := [.int (r11)]) rfl ?_
        refine wk_top (y := (bI (decide (ptN (pt) (fun c => goN (cl) (gr) (bx) c (nb)) 9 ≤ (fr))))) hw11 ?_
        refine wk_if_neB (pc := 14) (tgt := 54) S_ d_Md_tunnel_14 (by decide) (fun h14 => ?_) (fun h14 => ?_)
        · -- taken
          refine wk_iload_n (pc := 54) S_ 1 d_Md_tunnel_54 rfl rfl ?_
          exact hQ_ (nI (tnS cd (fun c => goN cl gr bx c nb) k)) () d_Md_tunnel_55 rfl (by simp at h14; rw [if_pos h14, hz h14]; rfl)
        · -- on
          simp at h14
          refine wk_aload_n (pc := 17) S_ 0 d_Md_tunnel_17 rfl rfl ?_
          refine wk_iload_n (pc := 18) S_ 2 d_Md_tunnel_18 rfl rfl ?_
          refine wk_run (pc := 19) (rest := []) (wr := []) (wN := fun _ => (wMd m cI tx sz ap pt rk cd fr mc mg mz nc nt ld qap qpt qrk qcd qfr qmc qmg qmz qnc qnt qld nb cl gr sp ot na aw nx bg bb ab fd pv bx wy li fm en nu td lf lk)) S_ (wk_rV S_ (c_Md_gramsOf l D cI z (m) (tx) (sz) (ap) (pt) (rk) (cd) (fr) (mc) (mg) (mz) (nc) (nt) (ld) (qap) (qpt) (qrk) (qcd) (qfr) (qmc) (qmg) (qmz) (qnc) (qnt) (qld) (nb) (cl) (gr) (sp) (ot) (na) (aw) (nx) (bg) (bb) (ab) (fd) (pv) (bx) (wy) (li) (fm) (en) (nu) (td) (lf) (lk) (k) (by omega) (by omega) hgr hcl hF hb) mv_Md_248 (wk_rcv S_ 0 6 rfl rfl rfl) rfl rfl (Nat.le_of_ble_eq_true rfl) (by rw [hR_]; decide) (by rw [hR_]; decide) d_Md_tunnel_19) [0, 1, 2, 3, 4, 5, 6, 7, 8, 9, 10, 11, 12, 13, 14, 15, 16, 17, 18, 19, 20, 21, 22, 23, 24, 25, 26, 27, 28, 29, 30, 31, 32, 33] [] [0, 1, 2, 3, 4, 5, 6, 7, 8, 9, 10, 11, 12, 13, 14, 15, 16, 17, 18, 19, 20, 21, 22, 23, 24, 25, 26, 27, 28, 29, 30, 31, 32, 33] rfl rfl rfl (by decide) (by decide) (by decide) (by decide) (fun _ => rfl) (fun _ => rfl) (fun r19 _ hw19 => ?_)
          refine wk_st (st' := [.long (r19)]) rfl ?_
          refine wk_topl (y := (lN (goN (cl) (gr) (bx) (k) (nb)))) hw19 ?_
          have hg1 := goN_le (cl := cl) (bx := bx) (c := k) hgr nb
          have hc1 := hcd k
          have ht1 := tnS_le (go := fun c => goN cl gr bx c nb) hcd k
          refine wk_lconst (pc := 22) (v := (lN (0))) S_ d_Md_tunnel_22 (by decide) ?_
          refine wk_lcmp (pc := 23) S_ d_Md_tunnel_23 ?_
          refine wk_cmp_leN (pc := 24) (tgt := 46) S_ d_Md_tunnel_24 (by decide) (by omega) (by omega) (fun h24 => ?_) (fun h24 => ?_)
          · -- taken
            refine wk_iload_n (pc := 46) S_ 1 d_Md_tunnel_46 rfl rfl ?_
            refine wk_top (y := (nI (tnS cd (fun c => goN cl gr bx c nb) (k + 1)))) (congrArg nI (by rw [tnS, if_neg (by omega)])) ?_
            refine wk_istore_n (pc := 47) (lv' := [(1, .int (nI (tnS cd (fun c => goN cl gr bx c nb) (k + 1)))), (0, .ref (m 0)), (2, .int (nI (k)))]) S_ d_Md_tunnel_47 rfl (by decide) rfl ?_
            refine wk_iincN (pc := 48) (d := 1) (lv' := [(2, .int (nI (k + 1))), (1, .int (nI (tnS cd (fun c => goN cl gr bx c nb) (k + 1)))), (0, .ref (m 0))]) S_ 2 d_Md_tunnel_48 (by decide) rfl (by decide) rfl ?_
            refine wk_goto (pc := 51) (tgt := 4) S_ d_Md_tunnel_51 (by decide) ?_
            refine wk_lv [2, 1, 0] ?_ (ih4 (k + 1) (by omega) (by omega) (by omega))
            rfl
          · -- on
            refine wk_aload_n (pc := 27) S_ 0 d_Md_tunnel_27 rfl rfl ?_
            refine wk_get (pc := 28) (v := .ref (m 5)) S_ 6 5 0 in_Md rfl (by decide) rfl fl_Md_23 d_Md_tunnel_28 rfl rfl ?_
            refine wk_iload_n (pc := 31) S_ 2 d_Md_tunnel_31 rfl rfl ?_
            refine wk_ialdN (pc := 32) (g := cd) S_ 5 0 d_Md_tunnel_32 rfl rfl (by omega) (by decide) ?_
            refine wk_iload_n (pc := 33) S_ 1 d_Md_tunnel_33 rfl rfl ?_
            refine wk_icmp_leN (pc := 34) (tgt := 46) S_ d_Md_tunnel_34 (by decide) (by omega) (by omega) (fun h34 => ?_) (fun h34 => ?_)
            · -- taken
              refine wk_iload_n (pc := 46) S_ 1 d_Md_tunnel_46 rfl rfl ?_
              refine wk_top (y := (nI (tnS cd (fun c => goN cl gr bx c nb) (k + 1)))) (congrArg nI (by rw [tnS, if_neg (by omega)])) ?_
              refine wk_istore_n (pc := 47) (lv' := [(1, .int (nI (tnS cd (fun c => goN cl gr bx c nb) (k + 1)))), (0, .ref (m 0)), (2, .int (nI (k)))]) S_ d_Md_tunnel_47 rfl (by decide) rfl ?_
              refine wk_iincN (pc := 48) (d := 1) (lv' := [(2, .int (nI (k + 1))), (1, .int (nI (tnS cd (fun c => goN cl gr bx c nb) (k + 1)))), (0, .ref (m 0))]) S_ 2 d_Md_tunnel_48 (by decide) rfl (by decide) rfl ?_
              refine wk_goto (pc := 51) (tgt := 4) S_ d_Md_tunnel_51 (by decide) ?_
              refine wk_lv [2, 1, 0] ?_ (ih4 (k + 1) (by omega) (by omega) (by omega))
              rfl
            · -- on
              refine wk_aload_n (pc := 37) S_ 0 d_Md_tunnel_37 rfl rfl ?_
              refine wk_get (pc := 38) (v := .ref (m 5)) S_ 6 5 0 in_Md rfl (by decide) rfl fl_Md_23 d_Md_tunnel_38 rfl rfl ?_
              refine wk_iload_n (pc := 41) S_ 2 d_Md_tunnel_41 rfl rfl ?_
              refine wk_ialdN (pc := 42) (g := cd) S_ 5 0 d_Md_tunnel_42 rfl rfl (by omega) (by decide) ?_
              refine wk_goto (pc := 43) (tgt := 47) S_ d_Md_tunnel_43 (by decide) ?_
              refine wk_top (y := (nI (tnS cd (fun c => goN cl gr bx c nb) (k + 1)))) (congrArg nI (by rw [tnS, if_pos (by omega)])) ?_
              refine wk_istore_n (pc := 47) (lv' := [(1, .int (nI (tnS cd (fun c => goN cl gr bx c nb) (k + 1)))), (0, .ref (m 0)), (2, .int (nI (k)))]) S_ d_Md_tunnel_47 rfl (by decide) rfl ?_
              refine wk_iincN (pc := 48) (d := 1) (lv' := [(2, .int (nI (k + 1))), (1, .int (nI (tnS cd (fun c => goN cl gr bx c nb) (k + 1)))), (0, .ref (m 0))]) S_ 2 d_Md_tunnel_48 (by decide) rfl (by decide) rfl ?_
              refine wk_goto (pc := 51) (tgt := 4) S_ d_Md_tunnel_51 (by decide) ?_
              refine wk_lv [2, 1, 0] ?_ (ih4 (k + 1) (by omega) (by omega) (by omega))
              rfl
  refine wk_lv [2, 1, 0] ?_ (hL4 _ (0) (Nat.lt_succ_self _) (by omega) (by omega))
  rfl
set_option maxHeartbeats 4000000 in
set_option maxRecDepth 100000 in
theorem c_Md_put (l : Launch) (D : va_G) (cI : CiT) (z : GzT) (m : Nat → Nat) (tx : (Nat → Nat)) (sz : Nat) (ap : (Nat → Bool)) (pt : (Nat → Nat)) (rk : (Nat → Nat)) (cd : (Nat → Nat)) (fr : Nat) (mc : (Nat → Nat)) (mg : (Nat → Nat)) (mz : (Nat → Nat)) (nc : (Nat → Nat)) (nt : (Nat → Nat)) (ld : (Nat → Nat)) (qap : (Nat → Bool)) (qpt : (Nat → Nat)) (qrk : (Nat → Nat)) (qcd : (Nat → Nat)) (qfr : Nat) (qmc : (Nat → Nat)) (qmg : (Nat → Nat)) (qmz : (Nat → Nat)) (qnc : (Nat → Nat)) (qnt : (Nat → Nat)) (qld : (Nat → Nat)) (nb : Nat) (cl : (Nat → Nat)) (gr : (Nat → Nat)) (sp : (Nat → Nat)) (ot : (Nat → Bool)) (na : Nat) (aw : (Nat → Nat)) (nx : Nat) (bg : (Nat → Nat)) (bb : (Nat → Nat)) (ab : (Nat → Nat)) (fd : Bool) (pv : Bool) (bx : (Nat → Nat)) (wy : (Nat → Nat)) (li : (Nat → Nat)) (fm : Nat) (en : Nat) (nu : Nat) (td : (Nat → Nat)) (lf : Int32) (lk : Int32) (x : Int32) : wk_C l D (tyK cI) (gX z) y_Md_put b_Md_put 2 none 0 0 0 0 [.ref (m 0), .int (x)] (wMd m cI tx sz ap pt rk cd fr mc mg mz nc nt ld qap qpt qrk qcd qfr qmc qmg qmz qnc qnt qld nb cl gr sp ot na aw nx bg bb ab fd pv bx wy li fm en nu td lf lk) wk_v (fun (_ : Unit) (_ : Unit) => True) (fun _ => (wMd m cI tx sz ap pt rk cd fr mc mg mz nc nt ld qap qpt qrk qcd qfr qmc qmg qmz qnc qnt qld nb cl gr sp ot na aw nx bg bb ab fd pv bx wy li fm en nu td (lf - 1) (if lf = 0 then x else lk))) := by
  refine wk_methV (own := R_Md) [(0, .ref (m 0)), (1, .int (x))] (by decide) rfl (Nat.le_of_ble_eq_true rfl) rfl (gX_ok z) (fun p_ e_ R_ s_ m_ ar_ be_ me_ co_ Q_ A_ hR_ S_ hnm_ hQ_ => ?_)
  refine wk_aload_n (pc := 0) S_ 0 d_Md_put_0 rfl rfl ?_
  refine wk_aload_n (pc := 1) S_ 0 d_Md_put_1 rfl rfl ?_
  refine wk_get (pc := 2) (v := .int (lf)) S_ 6 44 0 in_Md rfl (by decide) rfl fl_Md_268 d_Md_put_2 rfl rfl ?_
  refine wk_if_ne (pc := 5) (tgt := 12) S_ d_Md_put_5 (by decide) (fun h5 => ?_) (fun h5 => ?_)
  · -- taken
    refine wk_aload_n (pc := 12) S_ 0 d_Md_put_12 rfl rfl ?_
    refine wk_get (pc := 13) (v := .int (lk)) S_ 6 45 0 in_Md rfl (by decide) rfl fl_Md_271 d_Md_put_13 rfl rfl ?_
    refine wk_put (pc := 16) (ty := .int) (ws' := (wMd m cI tx sz ap pt rk cd fr mc mg mz nc nt ld qap qpt qrk qcd qfr qmc qmg qmz qnc qnt qld nb cl gr sp ot na aw nx bg bb ab fd pv bx wy li fm en nu td lf ((lk)))) S_ 6 45 0 in_Md t_Md t_Md_ok n_Md rfl (by decide) rfl fl_Md_271 (by decide +kernel) d_Md_put_16 rfl rfl rfl (Nat.le_of_ble_eq_true rfl) rfl ?_
    refine wk_aload_n (pc := 19) S_ 0 d_Md_put_19 rfl rfl ?_
    refine wk_dup (pc := 20) S_ d_Md_put_20 rfl ?_
    refine wk_get (pc := 21) (v := .int (lf)) S_ 6 44 0 in_Md rfl (by decide) rfl fl_Md_268 d_Md_put_21 rfl rfl ?_
    refine wk_iconst (pc := 24) (v := (nI (1))) S_ d_Md_put_24 (by decide) ?_
    refine wk_isub (pc := 25) S_ d_Md_put_25 ?_
    refine wk_top (y := ((lf) - 1)) rfl ?_
    refine wk_put (pc := 26) (ty := .int) (ws' := (wMd m cI tx sz ap pt rk cd fr mc mg mz nc nt ld qap qpt qrk qcd qfr qmc qmg qmz qnc qnt qld nb cl gr sp ot na aw nx bg bb ab fd pv bx wy li fm en nu td (((lf) - 1)) ((lk)))) S_ 6 44 0 in_Md t_Md t_Md_ok n_Md rfl (by decide) rfl fl_Md_268 (by decide +kernel) d_Md_put_26 rfl rfl rfl (Nat.le_of_ble_eq_true rfl) rfl ?_
    exact hQ_ () d_Md_put_29 (by rw [if_neg h5]) trivial
  · -- on
    refine wk_iload_n (pc := 8) S_ 1 d_Md_put_8 rfl rfl ?_
    refine wk_goto (pc := 9) (tgt := 16) S_ d_Md_put_9 (by decide) ?_
    refine wk_put (pc := 16) (ty := .int) (ws' := (wMd m cI tx sz ap pt rk cd fr mc mg mz nc nt ld qap qpt qrk qcd qfr qmc qmg qmz qnc qnt qld nb cl gr sp ot na aw nx bg bb ab fd pv bx wy li fm en nu td lf ((x)))) S_ 6 45 0 in_Md t_Md t_Md_ok n_Md rfl (by decide) rfl fl_Md_271 (by decide +kernel) d_Md_put_16 rfl rfl rfl (Nat.le_of_ble_eq_true rfl) rfl ?_
    refine wk_aload_n (pc := 19) S_ 0 d_Md_put_19 rfl rfl ?_
    refine wk_dup (pc := 20) S_ d_Md_put_20 rfl ?_
    refine wk_get (pc := 21) (v := .int (lf)) S_ 6 44 0 in_Md rfl (by decide) rfl fl_Md_268 d_Md_put_21 rfl rfl ?_
    refine wk_iconst (pc := 24) (v := (nI (1))) S_ d_Md_put_24 (by decide) ?_
    refine wk_isub (pc := 25) S_ d_Md_put_25 ?_
    refine wk_top (y := ((lf) - 1)) rfl ?_
    refine wk_put (pc := 26) (ty := .int) (ws' := (wMd m cI tx sz ap pt rk cd fr mc mg mz nc nt ld qap qpt qrk qcd qfr qmc qmg qmz qnc qnt qld nb cl gr sp ot na aw nx bg bb ab fd pv bx wy li fm en nu td (((lf) - 1)) ((x)))) S_ 6 44 0 in_Md t_Md t_Md_ok n_Md rfl (by decide) rfl fl_Md_268 (by decide +kernel) d_Md_put_26 rfl rfl rfl (Nat.le_of_ble_eq_true rfl) rfl ?_
    exact hQ_ () d_Md_put_29 (by rw [if_pos h5]) trivial
