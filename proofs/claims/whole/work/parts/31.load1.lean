theorem go_up {cl gr bx : Nat → Nat} {k : Nat} (h : bx k ≠ 0) (hc : cl k ≠ 0) : va_up (fun c => goN cl gr bx c k) (cl k - 1) (goN cl gr bx (cl k - 1) k + gr k) = fun c => goN cl gr bx c (k + 1) := by
  funext c
  unfold va_up
  rw [goN]
  by_cases e : c = cl k - 1
  · rw [if_pos e, if_pos ⟨h, by omega⟩, e]
  · rw [if_neg e, if_neg (fun z => e (by omega)), Nat.add_zero]
theorem go_no {cl gr bx : Nat → Nat} {k : Nat} (h : bx k = 0) : (fun c => goN cl gr bx c k) = fun c => goN cl gr bx c (k + 1) := by
  funext c
  rw [goN, if_neg (fun z => z.1 h), Nat.add_zero]
theorem tn_max {cd go : Nat → Nat} {k : Nat} (h : 0 < go k) (h1 : tnS cd go k ≤ 5) (h2 : cd k ≤ 5) : (if nI (tnS cd go k) < nI (cd k) then nI (cd k) else nI (tnS cd go k)) = nI (tnS cd go (k + 1)) := by
  rw [tnS]
  by_cases e : tnS cd go k < cd k
  · rw [if_pos (nI_lt e (by omega)), if_pos ⟨h, e⟩]
  · rw [if_neg (nI_nlt (by omega) (by omega)), if_neg (fun z => e z.2)]
theorem fl_Ld_9 : Cond.fieldLink R_Ld 9 R_Ld "gramsOf" "[I" ∈ lw_gd := (gd _ (tb0 _ (List.mem_of_getElem? (i := 158) rfl)) rfl)
theorem mv_Ld_21 : wk_T R_Ld 21 y_Ar_fill b_Ar_fill 4 none 2 := ⟨(gd _ (tb0 _ (List.mem_of_getElem? (i := 118) rfl)) rfl), (gd _ (tb0 _ (List.mem_of_getElem? (i := 5) rfl)) rfl), (gd _ (tb2 _ (List.mem_of_getElem? (i := 34) rfl)) rfl), (by decide +kernel), (gd _ (tb0 _ (List.mem_of_getElem? (i := 117) rfl)) rfl)⟩
theorem fl_Ld_27 : Cond.fieldLink R_Ld 27 R_St "bottles" "I" ∈ lw_gd := (gd _ (tb0 _ (List.mem_of_getElem? (i := 72) rfl)) rfl)
theorem fl_Ld_33 : Cond.fieldLink R_Ld 33 R_St "classes" "[I" ∈ lw_gd := (gd _ (tb0 _ (List.mem_of_getElem? (i := 59) rfl)) rfl)
theorem fl_Ld_36 : Cond.fieldLink R_Ld 36 R_St "grams" "[I" ∈ lw_gd := (gd _ (tb0 _ (List.mem_of_getElem? (i := 63) rfl)) rfl)
theorem d_Ld_gather_0 : decode b_Ld_gather 0 = .ok (.aload_n 0, 1) := by decide +kernel
theorem d_Ld_gather_1 : decode b_Ld_gather 1 = .ok (.getfield 9, 3) := by decide +kernel
theorem d_Ld_gather_4 : decode b_Ld_gather 4 = .ok (.iconst 0, 1) := by decide +kernel
theorem d_Ld_gather_5 : decode b_Ld_gather 5 = .ok (.invokestatic 21, 3) := by decide +kernel
theorem d_Ld_gather_8 : decode b_Ld_gather 8 = .ok (.iconst 0, 1) := by decide +kernel
theorem d_Ld_gather_9 : decode b_Ld_gather 9 = .ok (.istore_n 3, 1) := by decide +kernel
theorem d_Ld_gather_10 : decode b_Ld_gather 10 = .ok (.iload_n 3, 1) := by decide +kernel
theorem d_Ld_gather_11 : decode b_Ld_gather 11 = .ok (.aload_n 1, 1) := by decide +kernel
theorem d_Ld_gather_12 : decode b_Ld_gather 12 = .ok (.getfield 27, 3) := by decide +kernel
theorem d_Ld_gather_15 : decode b_Ld_gather 15 = .ok (.if_icmp .ge 36, 3) := by decide +kernel
theorem d_Ld_gather_18 : decode b_Ld_gather 18 = .ok (.aload_n 2, 1) := by decide +kernel
theorem d_Ld_gather_19 : decode b_Ld_gather 19 = .ok (.iload_n 3, 1) := by decide +kernel
theorem d_Ld_gather_20 : decode b_Ld_gather 20 = .ok (.iaload, 1) := by decide +kernel
theorem d_Ld_gather_21 : decode b_Ld_gather 21 = .ok (.iconst (-1), 1) := by decide +kernel
theorem d_Ld_gather_22 : decode b_Ld_gather 22 = .ok (.if_icmp .eq 23, 3) := by decide +kernel
theorem d_Ld_gather_25 : decode b_Ld_gather 25 = .ok (.aload_n 0, 1) := by decide +kernel
theorem d_Ld_gather_26 : decode b_Ld_gather 26 = .ok (.getfield 9, 3) := by decide +kernel
theorem d_Ld_gather_29 : decode b_Ld_gather 29 = .ok (.aload_n 1, 1) := by decide +kernel
theorem d_Ld_gather_30 : decode b_Ld_gather 30 = .ok (.getfield 33, 3) := by decide +kernel
theorem d_Ld_gather_33 : decode b_Ld_gather 33 = .ok (.iload_n 3, 1) := by decide +kernel
theorem d_Ld_gather_34 : decode b_Ld_gather 34 = .ok (.iaload, 1) := by decide +kernel
theorem d_Ld_gather_35 : decode b_Ld_gather 35 = .ok (.dup2, 1) := by decide +kernel
theorem d_Ld_gather_36 : decode b_Ld_gather 36 = .ok (.iaload, 1) := by decide +kernel
theorem d_Ld_gather_37 : decode b_Ld_gather 37 = .ok (.aload_n 1, 1) := by decide +kernel
theorem d_Ld_gather_38 : decode b_Ld_gather 38 = .ok (.getfield 36, 3) := by decide +kernel
theorem d_Ld_gather_41 : decode b_Ld_gather 41 = .ok (.iload_n 3, 1) := by decide +kernel
theorem d_Ld_gather_42 : decode b_Ld_gather 42 = .ok (.iaload, 1) := by decide +kernel
theorem d_Ld_gather_43 : decode b_Ld_gather 43 = .ok (.iadd, 1) := by decide +kernel
theorem d_Ld_gather_44 : decode b_Ld_gather 44 = .ok (.iastore, 1) := by decide +kernel
theorem d_Ld_gather_45 : decode b_Ld_gather 45 = .ok (.iinc 3 1, 3) := by decide +kernel
theorem d_Ld_gather_48 : decode b_Ld_gather 48 = .ok (.goto (-38), 3) := by decide +kernel
theorem d_Ld_gather_51 : decode b_Ld_gather 51 = .ok (.return_, 1) := by decide +kernel
theorem fl_Ld_51 : Cond.fieldLink R_Ld 51 R_Rl "perThousand" "[I" ∈ lw_gd := (gd _ (tb0 _ (List.mem_of_getElem? (i := 189) rfl)) rfl)
theorem d_Ld_pointsOfClass_0 : decode b_Ld_pointsOfClass 0 = .ok (.aload_n 0, 1) := by decide +kernel
theorem d_Ld_pointsOfClass_1 : decode b_Ld_pointsOfClass 1 = .ok (.getfield 9, 3) := by decide +kernel
theorem d_Ld_pointsOfClass_4 : decode b_Ld_pointsOfClass 4 = .ok (.iload_n 2, 1) := by decide +kernel
theorem d_Ld_pointsOfClass_5 : decode b_Ld_pointsOfClass 5 = .ok (.iaload, 1) := by decide +kernel
theorem d_Ld_pointsOfClass_6 : decode b_Ld_pointsOfClass 6 = .ok (.sipush 999, 3) := by decide +kernel
theorem d_Ld_pointsOfClass_9 : decode b_Ld_pointsOfClass 9 = .ok (.iadd, 1) := by decide +kernel
theorem d_Ld_pointsOfClass_10 : decode b_Ld_pointsOfClass 10 = .ok (.sipush 1000, 3) := by decide +kernel
theorem d_Ld_pointsOfClass_13 : decode b_Ld_pointsOfClass 13 = .ok (.idiv, 1) := by decide +kernel
theorem d_Ld_pointsOfClass_14 : decode b_Ld_pointsOfClass 14 = .ok (.aload_n 1, 1) := by decide +kernel
theorem d_Ld_pointsOfClass_15 : decode b_Ld_pointsOfClass 15 = .ok (.getfield 51, 3) := by decide +kernel
theorem d_Ld_pointsOfClass_18 : decode b_Ld_pointsOfClass 18 = .ok (.iload_n 2, 1) := by decide +kernel
theorem d_Ld_pointsOfClass_19 : decode b_Ld_pointsOfClass 19 = .ok (.iaload, 1) := by decide +kernel
theorem d_Ld_pointsOfClass_20 : decode b_Ld_pointsOfClass 20 = .ok (.imul, 1) := by decide +kernel
theorem d_Ld_pointsOfClass_21 : decode b_Ld_pointsOfClass 21 = .ok (.ireturn, 1) := by decide +kernel
theorem mv_Ld_54 : wk_V R_Ld 54 R_Ld y_Ld_pointsOfClass b_Ld_pointsOfClass 3 (some .int) 2 := ⟨(gd _ (tb2 _ (List.mem_of_getElem? (i := 42) rfl)) rfl), (gd _ (tb0 _ (List.mem_of_getElem? (i := 6) rfl)) rfl), (gd _ (tb2 _ (List.mem_of_getElem? (i := 39) rfl)) rfl), (by decide +kernel), (gd _ (tb2 _ (List.mem_of_getElem? (i := 41) rfl)) rfl), (gd _ (List.mem_append_left _ (by decide +kernel)) rfl)⟩
theorem d_Ld_pointsOfAll_0 : decode b_Ld_pointsOfAll 0 = .ok (.lconst 0, 1) := by decide +kernel
theorem d_Ld_pointsOfAll_1 : decode b_Ld_pointsOfAll 1 = .ok (.lstore_n 2, 1) := by decide +kernel
theorem d_Ld_pointsOfAll_2 : decode b_Ld_pointsOfAll 2 = .ok (.iconst 0, 1) := by decide +kernel
theorem d_Ld_pointsOfAll_3 : decode b_Ld_pointsOfAll 3 = .ok (.istore 4, 2) := by decide +kernel
theorem d_Ld_pointsOfAll_5 : decode b_Ld_pointsOfAll 5 = .ok (.iload 4, 2) := by decide +kernel
theorem d_Ld_pointsOfAll_7 : decode b_Ld_pointsOfAll 7 = .ok (.bipush 9, 2) := by decide +kernel
theorem d_Ld_pointsOfAll_9 : decode b_Ld_pointsOfAll 9 = .ok (.if_icmp .ge 20, 3) := by decide +kernel
theorem d_Ld_pointsOfAll_12 : decode b_Ld_pointsOfAll 12 = .ok (.lload_n 2, 1) := by decide +kernel
theorem d_Ld_pointsOfAll_13 : decode b_Ld_pointsOfAll 13 = .ok (.aload_n 0, 1) := by decide +kernel
theorem d_Ld_pointsOfAll_14 : decode b_Ld_pointsOfAll 14 = .ok (.aload_n 1, 1) := by decide +kernel
theorem d_Ld_pointsOfAll_15 : decode b_Ld_pointsOfAll 15 = .ok (.iload 4, 2) := by decide +kernel
theorem d_Ld_pointsOfAll_17 : decode b_Ld_pointsOfAll 17 = .ok (.invokevirtual 54, 3) := by decide +kernel
theorem d_Ld_pointsOfAll_20 : decode b_Ld_pointsOfAll 20 = .ok (.i2l, 1) := by decide +kernel
theorem d_Ld_pointsOfAll_21 : decode b_Ld_pointsOfAll 21 = .ok (.ladd, 1) := by decide +kernel
theorem d_Ld_pointsOfAll_22 : decode b_Ld_pointsOfAll 22 = .ok (.lstore_n 2, 1) := by decide +kernel
theorem d_Ld_pointsOfAll_23 : decode b_Ld_pointsOfAll 23 = .ok (.iinc 4 1, 3) := by decide +kernel
theorem d_Ld_pointsOfAll_26 : decode b_Ld_pointsOfAll 26 = .ok (.goto (-21), 3) := by decide +kernel
theorem d_Ld_pointsOfAll_29 : decode b_Ld_pointsOfAll 29 = .ok (.lload_n 2, 1) := by decide +kernel
theorem d_Ld_pointsOfAll_30 : decode b_Ld_pointsOfAll 30 = .ok (.lreturn, 1) := by decide +kernel
theorem mv_Ld_58 : wk_V R_Ld 58 R_Ld y_Ld_pointsOfAll b_Ld_pointsOfAll 5 (some .long) 1 := ⟨(gd _ (tb2 _ (List.mem_of_getElem? (i := 38) rfl)) rfl), (gd _ (tb0 _ (List.mem_of_getElem? (i := 6) rfl)) rfl), (gd _ (tb2 _ (List.mem_of_getElem? (i := 51) rfl)) rfl), (by decide +kernel), (gd _ (tb2 _ (List.mem_of_getElem? (i := 36) rfl)) rfl), (gd _ (tb2 _ (List.mem_of_getElem? (i := 37) rfl)) rfl)⟩
theorem fl_Ld_62 : Cond.fieldLink R_Ld 62 R_Rl "free" "I" ∈ lw_gd := (gd _ (tb0 _ (List.mem_of_getElem? (i := 201) rfl)) rfl)
theorem d_Ld_isFree_0 : decode b_Ld_isFree 0 = .ok (.aload_n 0, 1) := by decide +kernel
theorem d_Ld_isFree_1 : decode b_Ld_isFree 1 = .ok (.aload_n 1, 1) := by decide +kernel
theorem d_Ld_isFree_2 : decode b_Ld_isFree 2 = .ok (.invokevirtual 58, 3) := by decide +kernel
theorem d_Ld_isFree_5 : decode b_Ld_isFree 5 = .ok (.aload_n 1, 1) := by decide +kernel
theorem d_Ld_isFree_6 : decode b_Ld_isFree 6 = .ok (.getfield 62, 3) := by decide +kernel
theorem d_Ld_isFree_9 : decode b_Ld_isFree 9 = .ok (.i2l, 1) := by decide +kernel
theorem d_Ld_isFree_10 : decode b_Ld_isFree 10 = .ok (.lcmp, 1) := by decide +kernel
theorem d_Ld_isFree_11 : decode b_Ld_isFree 11 = .ok (.ifCond .gt 7, 3) := by decide +kernel
theorem d_Ld_isFree_14 : decode b_Ld_isFree 14 = .ok (.iconst 1, 1) := by decide +kernel
theorem d_Ld_isFree_15 : decode b_Ld_isFree 15 = .ok (.goto 4, 3) := by decide +kernel
theorem d_Ld_isFree_18 : decode b_Ld_isFree 18 = .ok (.iconst 0, 1) := by decide +kernel
theorem d_Ld_isFree_19 : decode b_Ld_isFree 19 = .ok (.ireturn, 1) := by decide +kernel
theorem fl_Ld_65 : Cond.fieldLink R_Ld 65 R_Rl "codes" "[I" ∈ lw_gd := (gd _ (tb0 _ (List.mem_of_getElem? (i := 193) rfl)) rfl)
theorem ml_Ld_68 : Cond.methodLink R_Ld 68 Lib.Math.max.name ∈ lw_gd := (gd _ (tb2 _ (List.mem_of_getElem? (i := 104) rfl)) rfl)
theorem d_Ld_greatestCode_0 : decode b_Ld_greatestCode 0 = .ok (.iconst 0, 1) := by decide +kernel
theorem d_Ld_greatestCode_1 : decode b_Ld_greatestCode 1 = .ok (.istore_n 2, 1) := by decide +kernel
theorem d_Ld_greatestCode_2 : decode b_Ld_greatestCode 2 = .ok (.iconst 0, 1) := by decide +kernel
theorem d_Ld_greatestCode_3 : decode b_Ld_greatestCode 3 = .ok (.istore_n 3, 1) := by decide +kernel
theorem d_Ld_greatestCode_4 : decode b_Ld_greatestCode 4 = .ok (.iload_n 3, 1) := by decide +kernel
theorem d_Ld_greatestCode_5 : decode b_Ld_greatestCode 5 = .ok (.bipush 9, 2) := by decide +kernel
theorem d_Ld_greatestCode_7 : decode b_Ld_greatestCode 7 = .ok (.if_icmp .ge 29, 3) := by decide +kernel
theorem d_Ld_greatestCode_10 : decode b_Ld_greatestCode 10 = .ok (.aload_n 0, 1) := by decide +kernel
theorem d_Ld_greatestCode_11 : decode b_Ld_greatestCode 11 = .ok (.getfield 9, 3) := by decide +kernel
theorem d_Ld_greatestCode_14 : decode b_Ld_greatestCode 14 = .ok (.iload_n 3, 1) := by decide +kernel
theorem d_Ld_greatestCode_15 : decode b_Ld_greatestCode 15 = .ok (.iaload, 1) := by decide +kernel
theorem d_Ld_greatestCode_16 : decode b_Ld_greatestCode 16 = .ok (.ifCond .le 14, 3) := by decide +kernel
theorem d_Ld_greatestCode_19 : decode b_Ld_greatestCode 19 = .ok (.iload_n 2, 1) := by decide +kernel
theorem d_Ld_greatestCode_20 : decode b_Ld_greatestCode 20 = .ok (.aload_n 1, 1) := by decide +kernel
theorem d_Ld_greatestCode_21 : decode b_Ld_greatestCode 21 = .ok (.getfield 65, 3) := by decide +kernel
theorem d_Ld_greatestCode_24 : decode b_Ld_greatestCode 24 = .ok (.iload_n 3, 1) := by decide +kernel
theorem d_Ld_greatestCode_25 : decode b_Ld_greatestCode 25 = .ok (.iaload, 1) := by decide +kernel
theorem d_Ld_greatestCode_26 : decode b_Ld_greatestCode 26 = .ok (.invokestatic 68, 3) := by decide +kernel
theorem d_Ld_greatestCode_29 : decode b_Ld_greatestCode 29 = .ok (.istore_n 2, 1) := by decide +kernel
theorem d_Ld_greatestCode_30 : decode b_Ld_greatestCode 30 = .ok (.iinc 3 1, 3) := by decide +kernel
theorem d_Ld_greatestCode_33 : decode b_Ld_greatestCode 33 = .ok (.goto (-29), 3) := by decide +kernel
theorem d_Ld_greatestCode_36 : decode b_Ld_greatestCode 36 = .ok (.iload_n 2, 1) := by decide +kernel
theorem d_Ld_greatestCode_37 : decode b_Ld_greatestCode 37 = .ok (.ireturn, 1) := by decide +kernel
set_option maxHeartbeats 4000000 in
set_option maxRecDepth 100000 in
theorem c_Ld_gather (l : Launch) (D : va_G) (cI : CiT) (z : GzT) (a : Nat → Nat) (s : Nat → Nat) (b : Nat → Nat) (go : (Nat → Nat)) (io : (Nat → Nat)) (ct : Nat) (sh : (Nat → Nat)) (wr : Nat) (cl : (Nat → Nat)) (gr : (Nat → Nat)) (sp : (Nat → Nat)) (rs : (Nat → Nat)) (aw : (Nat → Nat)) (nb : Nat) (na : Nat) (bg : (Nat → Nat)) (bb : (Nat → Nat)) (ab : (Nat → Nat)) (nx : Nat) (bx : (Nat → Nat)) (hnb : nb ≤ 8) (hgr : ∀ b, gr b ≤ 100000) (hcl : ∀ b, cl b ≤ 9) (hb : ∀ b, bx b ≤ 5) (hcv : ∀ b, b < nb → bx b ≠ 0 → cl b ≠ 0) : wk_C l D (tyK cI) (gX z) y_Ld_gather b_Ld_gather 4 none 1 23 0 0 [.ref (a 0), .ref (s 0), .ref (b 0)] (wLd a cI go io ct sh wr ++ (wSt s cI cl gr sp rs aw nb na bg bb ab nx ++ (wBx b cI bx))) wk_v (fun (_ : Unit) (_ : Unit) => True) (fun _ => (wLd a cI (fun c => goN cl gr bx c nb) io ct sh wr ++ (wSt s cI cl gr sp rs aw nb na bg bb ab nx ++ (wBx b cI bx)))) := by
  refine wk_methV (own := R_Ld) [(0, .ref (a 0)), (1, .ref (s 0)), (2, .ref (b 0))] (by decide) rfl (Nat.le_of_ble_eq_true rfl) rfl (gX_ok z) (fun p_ e_ R_ s_ m_ ar_ be_ me_ co_ Q_ A_ hR_ S_ hnm_ hQ_ => ?_)
  refine wk_aload_n (pc := 0) S_ 0 d_Ld_gather_0 rfl rfl ?_
  refine wk_get (pc := 1) (v := .ref (a 1)) S_ 4 0 0 in_Ld rfl (by decide) rfl fl_Ld_9 d_Ld_gather_1 rfl rfl ?_
  refine wk_iconst (pc := 4) (v := (nI (0))) S_ d_Ld_gather_4 (by decide) ?_
  refine wk_run (pc := 5) (rest := []) (wr := [(a 0, .inr (4, [.ref (a 1), .ref (a 2), .int (nI (ct)), .ref (a 3), .int (nI (wr))])), (a 2, .inl (cI.1, 9, .inl (nF (io)))), (a 3, .inl (cI.1, 162, .inl (nF (sh)))), (s 0, .inr (2, [.ref (s 1), .ref (s 2), .ref (s 3), .ref (s 4), .ref (s 5), .int (nI (nb)), .int (nI (na)), .ref (s 6), .ref (s 7), .ref (s 8), .int (nI (nx))])), (s 1, .inl (cI.1, 8, .inl (zF (cl)))), (s 2, .inl (cI.1, 8, .inl (nF (gr)))), (s 3, .inl (cI.1, 8, .inl (nF (sp)))), (s 4, .inl (cI.1, 8, .inl (nF (rs)))), (s 5, .inl (cI.1, 8, .inl (nF (aw)))), (s 6, .inl (cI.1, 5, .inl (nF (bg)))), (s 7, .inl (cI.1, 5, .inl (nF (bb)))), (s 8, .inl (cI.1, 5, .inl (nF (ab)))), (b 0, .inl (cI.1, 8, .inl (zF (bx))))]) (wN := fun _ => (wLd a cI (fun _ => 0) io ct sh wr ++ (wSt s cI cl gr sp rs aw nb na bg bb ab nx ++ (wBx b cI bx)))) S_ (wk_rS S_ (c_Ar_fill l D cI z (fun _ => a 1) 9 (nF (go)) (nI (0)) (by decide)) mv_Ld_21 rfl rfl (Nat.le_of_ble_eq_true rfl) (by rw [hR_]; decide) (by rw [hR_]; decide) d_Ld_gather_5) [1] [0, 2, 3, 4, 5, 6, 7, 8, 9, 10, 11, 12, 13] [0, 13, 1, 2, 3, 4, 5, 6, 7, 8, 9, 10, 11, 12] rfl rfl rfl (by decide) (by decide) (by decide) (by decide) (fun _ => rfl) (fun _ => rfl) (fun _ _ _ => ?_)
  refine wk_st (st' := []) rfl ?_
  refine wk_iconst (pc := 8) (v := (nI (0))) S_ d_Ld_gather_8 (by decide) ?_
  refine wk_istore_n (pc := 9) (lv' := [(3, .int (nI (0))), (0, .ref (a 0)), (1, .ref (s 0)), (2, .ref (b 0))]) S_ d_Ld_gather_9 rfl (by decide) rfl ?_
  have hL10 : ∀ (fuel10 : Nat), ∀ (k : Nat), nb - k < fuel10 → (k ≤ nb) → wk_G p_ l e_ R_ s_ m_ ar_ be_ me_ co_ Q_ D A_ 4 0 0 (wLd a cI (fun c => goN cl gr bx c k) io ct sh wr ++ (wSt s cI cl gr sp rs aw nb na bg bb ab nx ++ (wBx b cI bx))) 10 [(0, .ref (a 0)), (1, .ref (s 0)), (2, .ref (b 0)), (3, .int (nI (k)))] [] := by
    intro fuel10
    induction fuel10 with
    | zero => intro k hm; exact absurd hm (Nat.not_lt_zero _)
    | succ fuel10 ih10 =>
      intro k hm hk
      refine wk_iload_n (pc := 10) S_ 3 d_Ld_gather_10 rfl rfl ?_
      refine wk_aload_n (pc := 11) S_ 1 d_Ld_gather_11 rfl rfl ?_
      refine wk_get (pc := 12) (v := .int (nI (nb))) S_ 2 5 4 in_St rfl (by decide) rfl fl_Ld_27 d_Ld_gather_12 rfl rfl ?_
      refine wk_icmp_geN (pc := 15) (tgt := 51) S_ d_Ld_gather_15 (by decide) (by omega) (by omega) (fun h15 => ?_) (fun h15 => ?_)
      · -- taken
        exact hQ_ () d_Ld_gather_51 (by rw [show k = nb by omega]) trivial
      · -- on
        refine wk_aload_n (pc := 18) S_ 2 d_Ld_gather_18 rfl rfl ?_
        refine wk_iload_n (pc := 19) S_ 3 d_Ld_gather_19 rfl rfl ?_
        refine wk_ialdY (pc := 20) (g := bx) S_ 13 0 d_Ld_gather_20 rfl rfl (by omega) (by decide) ?_
        refine wk_iconst (pc := 21) (v := (-1)) S_ d_Ld_gather_21 (by decide) ?_
        have hb1 := hb k
        have hc1 := hcl k
        refine wk_icmp_eqY (pc := 22) (tgt := 45) S_ d_Ld_gather_22 (by decide) (by omega) (fun h22 => ?_) (fun h22 => ?_)
        · -- taken
          refine wk_iincN (pc := 45) (d := 1) (lv' := [(3, .int (nI (k + 1))), (0, .ref (a 0)), (1, .ref (s 0)), (2, .ref (b 0))]) S_ 3 d_Ld_gather_45 (by decide) rfl (by decide) rfl ?_
          refine wk_goto (pc := 48) (tgt := 10) S_ d_Ld_gather_48 (by decide) ?_
          refine wk_weq (ws' := (wLd a cI (fun c => goN cl gr bx c (k + 1)) io ct sh wr ++ (wSt s cI cl gr sp rs aw nb na bg bb ab nx ++ (wBx b cI bx)))) (by rw [go_no h22]) ?_
          refine wk_lv [1, 2, 3, 0] ?_ (ih10 (k + 1) (by omega) (by omega))
          rfl
        · -- on
          have hcv1 := hcv k (by omega) h22
          have hg1 := goN_le (cl := cl) (bx := bx) (c := cl k - 1) hgr k
          have hg2 := hgr k
          refine wk_aload_n (pc := 25) S_ 0 d_Ld_gather_25 rfl rfl ?_
          refine wk_get (pc := 26) (v := .ref (a 1)) S_ 4 0 0 in_Ld rfl (by decide) rfl fl_Ld_9 d_Ld_gather_26 rfl rfl ?_
          refine wk_aload_n (pc := 29) S_ 1 d_Ld_gather_29 rfl rfl ?_
          refine wk_get (pc := 30) (v := .ref (s 1)) S_ 2 0 4 in_St rfl (by decide) rfl fl_Ld_33 d_Ld_gather_30 rfl rfl ?_
          refine wk_iload_n (pc := 33) S_ 3 d_Ld_gather_33 rfl rfl ?_
          refine wk_ialdY (pc := 34) (g := cl) S_ 5 0 d_Ld_gather_34 rfl rfl (by omega) (by decide) ?_
          refine wk_top (y := (nI (cl k - 1))) (zI_p hcv1) ?_
          refine wk_dup2 (pc := 35) S_ d_Ld_gather_35 rfl rfl ?_
          refine wk_ialdN (pc := 36) (g := fun c => goN cl gr bx c k) S_ 1 0 d_Ld_gather_36 rfl rfl (by omega) (by decide) ?_
          refine wk_aload_n (pc := 37) S_ 1 d_Ld_gather_37 rfl rfl ?_
          refine wk_get (pc := 38) (v := .ref (s 2)) S_ 2 1 4 in_St rfl (by decide) rfl fl_Ld_36 d_Ld_gather_38 rfl rfl ?_
          refine wk_iload_n (pc := 41) S_ 3 d_Ld_gather_41 rfl rfl ?_
          refine wk_ialdN (pc := 42) (g := gr) S_ 6 0 d_Ld_gather_42 rfl rfl (by omega) (by decide) ?_
          refine wk_iaddN (pc := 43) S_ d_Ld_gather_43 ?_
          refine wk_iastN (pc := 44) (g := fun c => goN cl gr bx c k) (ws' := (wLd a cI (va_up (fun c => goN cl gr bx c k) (cl k - 1) (((fun c => goN cl gr bx c k) (cl k - 1)) + ((gr) (k)))) io ct sh wr ++ (wSt s cI cl gr sp rs aw nb na bg bb ab nx ++ (wBx b cI bx)))) S_ 1 0 d_Ld_gather_44 rfl rfl (by omega) (by decide) rfl ?_
          refine wk_iincN (pc := 45) (d := 1) (lv' := [(3, .int (nI (k + 1))), (0, .ref (a 0)), (1, .ref (s 0)), (2, .ref (b 0))]) S_ 3 d_Ld_gather_45 (by decide) rfl (by decide) rfl ?_
          refine wk_goto (pc := 48) (tgt := 10) S_ d_Ld_gather_48 (by decide) ?_
          refine wk_weq (ws' := (wLd a cI (fun c => goN cl gr bx c (k + 1)) io ct sh wr ++ (wSt s cI cl gr sp rs aw nb na bg bb ab nx ++ (wBx b cI bx)))) (by rw [go_up h22 hcv1]) ?_
          refine wk_lv [1, 2, 3, 0] ?_ (ih10 (k + 1) (by omega) (by omega))
          rfl
  refine wk_lv [1, 2, 3, 0] ?_ (hL10 _ (0) (Nat.lt_succ_self _) (by omega))
  rfl
set_option maxHeartbeats 4000000 in
set_option maxRecDepth 100000 in
theorem c_Ld_pointsOfClass (l : Launch) (D : va_G) (cI : CiT) (z : GzT) (a : Nat → Nat) (r : Nat → Nat) (go : (Nat → Nat)) (io : (Nat → Nat)) (ct : Nat) (sh : (Nat → Nat)) (wr : Nat) (ap : (Nat → Nat)) (pt : (Nat → Nat)) (rk : (Nat → Nat)) (cd : (Nat → Nat)) (mc : (Nat → Nat)) (mg : (Nat → Nat)) (mz : (Nat → Nat)) (nc : (Nat → Nat)) (nt : (Nat → Nat)) (oc : (Nat → Nat)) (fr : Nat) (c : Nat) (hc : c < 9) (hgo : ∀ c, go c ≤ 800000) : wk_C l D (tyK cI) (gX z) y_Ld_pointsOfClass b_Ld_pointsOfClass 3 (some .int) 0 0 0 0 [.ref (a 0), .ref (r 0), .int (nI (c))] (wLd a cI go io ct sh wr ++ (wRl r cI ap pt rk cd mc mg mz nc nt oc fr)) wk_i (fun (r : Int32) (_ : Unit) => r = (nI (((go c) + (999)) / (1000) * (pt c)))) (fun _ => (wLd a cI go io ct sh wr ++ (wRl r cI ap pt rk cd mc mg mz nc nt oc fr))) := by
  refine wk_methI (own := R_Ld) [(0, .ref (a 0)), (1, .ref (r 0)), (2, .int (nI (c)))] (by decide) rfl (Nat.le_of_ble_eq_true rfl) rfl (gX_ok z) (fun p_ e_ R_ s_ m_ ar_ be_ me_ co_ Q_ A_ hR_ S_ hnm_ hQ_ => ?_)
  refine wk_aload_n (pc := 0) S_ 0 d_Ld_pointsOfClass_0 rfl rfl ?_
  refine wk_get (pc := 1) (v := .ref (a 1)) S_ 4 0 0 in_Ld rfl (by decide) rfl fl_Ld_9 d_Ld_pointsOfClass_1 rfl rfl ?_
  refine wk_iload_n (pc := 4) S_ 2 d_Ld_pointsOfClass_4 rfl rfl ?_
  refine wk_ialdN (pc := 5) (g := go) S_ 1 0 d_Ld_pointsOfClass_5 rfl rfl (by omega) (by decide) ?_
  refine wk_sipush (pc := 6) (v := (nI (999))) S_ d_Ld_pointsOfClass_6 (by decide) ?_
  refine wk_iaddN (pc := 9) S_ d_Ld_pointsOfClass_9 ?_
  refine wk_sipush (pc := 10) (v := (nI (1000))) S_ d_Ld_pointsOfClass_10 (by decide) ?_
  have hg1 := hgo c
  refine wk_idivN (pc := 13) S_ d_Ld_pointsOfClass_13 (by omega) (by omega) (by omega) ?_
  refine wk_aload_n (pc := 14) S_ 1 d_Ld_pointsOfClass_14 rfl rfl ?_
  refine wk_get (pc := 15) (v := .ref (r 2)) S_ 5 1 4 in_Rl rfl (by decide) rfl fl_Ld_51 d_Ld_pointsOfClass_15 rfl rfl ?_
  refine wk_iload_n (pc := 18) S_ 2 d_Ld_pointsOfClass_18 rfl rfl ?_
  refine wk_ialdN (pc := 19) (g := pt) S_ 6 0 d_Ld_pointsOfClass_19 rfl rfl (by omega) (by decide) ?_
  refine wk_imulN (pc := 20) S_ d_Ld_pointsOfClass_20 ?_
  exact hQ_ (nI (((((go) (c)) + (999)) / (1000)) * ((pt) (c)))) () d_Ld_pointsOfClass_21 rfl rfl
set_option maxHeartbeats 4000000 in
set_option maxRecDepth 100000 in
theorem c_Ld_pointsOfAll (l : Launch) (D : va_G) (cI : CiT) (z : GzT) (a : Nat → Nat) (r : Nat → Nat) (go : (Nat → Nat)) (io : (Nat → Nat)) (ct : Nat) (sh : (Nat → Nat)) (wr : Nat) (ap : (Nat → Nat)) (pt : (Nat → Nat)) (rk : (Nat → Nat)) (cd : (Nat → Nat)) (mc : (Nat → Nat)) (mg : (Nat → Nat)) (mz : (Nat → Nat)) (nc : (Nat → Nat)) (nt : (Nat → Nat)) (oc : (Nat → Nat)) (fr : Nat) (hgo : ∀ c, go c ≤ 800000) (hpt : ∀ c, pt c ≤ 1000) : wk_C l D (tyK cI) (gX z) y_Ld_pointsOfAll b_Ld_pointsOfAll 5 (some .long) 1 22 0 0 [.ref (a 0), .ref (r 0)] (wLd a cI go io ct sh wr ++ (wRl r cI ap pt rk cd mc mg mz nc nt oc fr)) wk_l (fun (r : Int64) (_ : Unit) => r = (lN (ptN pt go 9))) (fun _ => (wLd a cI go io ct sh wr ++ (wRl r cI ap pt rk cd mc mg mz nc nt oc fr))) := by
  refine wk_methL (own := R_Ld) [(0, .ref (a 0)), (1, .ref (r 0))] (by decide) rfl (Nat.le_of_ble_eq_true rfl) rfl (gX_ok z) (fun p_ e_ R_ s_ m_ ar_ be_ me_ co_ Q_ A_ hR_ S_ hnm_ hQ_ => ?_)
  refine wk_lconst (pc := 0) (v := (lN (0))) S_ d_Ld_pointsOfAll_0 (by decide) ?_
  refine wk_lstore_n (pc := 1) (lv' := [(2, .long (lN (0))), (0, .ref (a 0)), (1, .ref (r 0))]) S_ d_Ld_pointsOfAll_1 rfl (by decide) rfl ?_
  refine wk_iconst (pc := 2) (v := (nI (0))) S_ d_Ld_pointsOfAll_2 (by decide) ?_
  refine wk_istore (pc := 3) (lv' := [(4, .int (nI (0))), (2, .long (lN (0))), (0, .ref (a 0)), (1, .ref (r 0))]) S_ d_Ld_pointsOfAll_3 (by decide) rfl ?_
  have hL5 : ∀ (fuel5 : Nat), ∀ (k : Nat), 9 - k < fuel5 → (k ≤ 9) → wk_G p_ l e_ R_ s_ m_ ar_ be_ me_ co_ Q_ D A_ 5 0 0 (wLd a cI go io ct sh wr ++ (wRl r cI ap pt rk cd mc mg mz nc nt oc fr)) 5 [(0, .ref (a 0)), (1, .ref (r 0)), (2, .long (lN (ptN pt go k))), (4, .int (nI (k)))] [] := by
    intro fuel5
    induction fuel5 with
    | zero => intro k hm; exact absurd hm (Nat.not_lt_zero _)
    | succ fuel5 ih5 =>
      intro k hm hk
      refine wk_iload (pc := 5) S_ 3 d_Ld_pointsOfAll_5 rfl ?_
      refine wk_bipush (pc := 7) (v := (nI (9))) S_ d_Ld_pointsOfAll_7 (by decide) ?_
      refine wk_icmp_geN (pc := 9) (tgt := 29) S_ d_Ld_pointsOfAll_9 (by decide) (by omega) (by omega) (fun h9 => ?_) (fun h9 => ?_)
      · -- taken
        refine wk_lload_n (pc := 29) S_ 2 d_Ld_pointsOfAll_29 rfl rfl ?_
        exact hQ_ (lN (ptN pt go k)) () d_Ld_pointsOfAll_30 rfl (by rw [show k = 9 by omega])
      · -- on
        refine wk_lload_n (pc := 12) S_ 2 d_Ld_pointsOfAll_12 rfl rfl ?_
        refine wk_aload_n (pc := 13) S_ 0 d_Ld_pointsOfAll_13 rfl rfl ?_
        refine wk_aload_n (pc := 14) S_ 1 d_Ld_pointsOfAll_14 rfl rfl ?_
        refine wk_iload (pc := 15) S_ 3 d_Ld_pointsOfAll_15 rfl ?_
        refine wk_run (pc := 17) (rest := [.long (lN (ptN pt go k))]) (wr := []) (wN := fun _ => (wLd a cI go io ct sh wr ++ (wRl r cI ap pt rk cd mc mg mz nc nt oc fr))) S_ (wk_rV S_ (c_Ld_pointsOfClass l D cI z (a) (r) (go) (io) (ct) (sh) (wr) (ap) (pt) (rk) (cd) (mc) (mg) (mz) (nc) (nt) (oc) (fr) (k) (by omega) hgo) mv_Ld_54 (wk_rcv S_ 0 4 rfl rfl rfl) rfl rfl (Nat.le_of_ble_eq_true rfl) (by rw [hR_]; decide) (by rw [hR_]; decide) d_Ld_pointsOfAll_17) [0, 1, 2, 3, 4, 5, 6, 7, 8, 9, 10, 11, 12, 13, 14] [] [0, 1, 2, 3, 4, 5, 6, 7, 8, 9, 10, 11, 12, 13, 14] rfl rfl rfl (by decide) (by decide) (by decide) (by decide) (fun _ => rfl) (fun _ => rfl) (fun r17 _ hw17 => ?_)
        refine wk_st (st' := [.int (r17), .long (lN (ptN pt go k))]) rfl ?_
        refine wk_top (y := (nI ((((go) (k)) + (999)) / (1000) * ((pt) (k))))) hw17 ?_
        have hg1 := hgo k
        have hp1 : (go k + 999) / 1000 * pt k ≤ 801 * 1000 := Nat.mul_le_mul (by omega) (hpt k)
        refine wk_i2lN (pc := 20) S_ d_Ld_pointsOfAll_20 (by omega) ?_
        refine wk_laddN (pc := 21) S_ d_Ld_pointsOfAll_21 ?_
        refine wk_topl (y := (lN (ptN pt go (k + 1)))) rfl ?_
        refine wk_lstore_n (pc := 22) (lv' := [(2, .long (lN (ptN pt go (k + 1)))), (0, .ref (a 0)), (1, .ref (r 0)), (4, .int (nI (k)))]) S_ d_Ld_pointsOfAll_22 rfl (by decide) rfl ?_
        refine wk_iincN (pc := 23) (d := 1) (lv' := [(4, .int (nI (k + 1))), (2, .long (lN (ptN pt go (k + 1)))), (0, .ref (a 0)), (1, .ref (r 0))]) S_ 3 d_Ld_pointsOfAll_23 (by decide) rfl (by decide) rfl ?_
        refine wk_goto (pc := 26) (tgt := 5) S_ d_Ld_pointsOfAll_26 (by decide) ?_
        refine wk_lv [2, 3, 1, 0] ?_ (ih5 (k + 1) (by omega) (by omega))
        rfl
  refine wk_lv [2, 3, 1, 0] ?_ (hL5 _ (0) (Nat.lt_succ_self _) (by omega))
  rfl
set_option maxHeartbeats 4000000 in
set_option maxRecDepth 100000 in
theorem c_Ld_isFree (l : Launch) (D : va_G) (cI : CiT) (z : GzT) (a : Nat → Nat) (r : Nat → Nat) (go : (Nat → Nat)) (io : (Nat → Nat)) (ct : Nat) (sh : (Nat → Nat)) (wr : Nat) (ap : (Nat → Nat)) (pt : (Nat → Nat)) (rk : (Nat → Nat)) (cd : (Nat → Nat)) (mc : (Nat → Nat)) (mg : (Nat → Nat)) (mz : (Nat → Nat)) (nc : (Nat → Nat)) (nt : (Nat → Nat)) (oc : (Nat → Nat)) (fr : Nat) (hgo : ∀ c, go c ≤ 800000) (hpt : ∀ c, pt c ≤ 1000) (hfr : fr ≤ 999999) : wk_C l D (tyK cI) (gX z) y_Ld_isFree b_Ld_isFree 2 (some .boolean) 2 46 0 0 [.ref (a 0), .ref (r 0)] (wLd a cI go io ct sh wr ++ (wRl r cI ap pt rk cd mc mg mz nc nt oc fr)) wk_i (fun (r : Int32) (_ : Unit) => r = (bI (decide (ptN pt go 9 ≤ fr)))) (fun _ => (wLd a cI go io ct sh wr ++ (wRl r cI ap pt rk cd mc mg mz nc nt oc fr))) := by
  refine wk_methZ (own := R_Ld) [(0, .ref (a 0)), (1, .ref (r 0))] (by decide) rfl (Nat.le_of_ble_eq_true rfl) rfl (gX_ok z) (fun p_ e_ R_ s_ m_ ar_ be_ me_ co_ Q_ A_ hR_ S_ hnm_ hQ_ => ?_)
  refine wk_aload_n (pc := 0) S_ 0 d_Ld_isFree_0 rfl rfl ?_
  refine wk_aload_n (pc := 1) S_ 1 d_Ld_isFree_1 rfl rfl ?_
  refine wk_run (pc := 2) (rest := []) (wr := []) (wN := fun _ => (wLd a cI go io ct sh wr ++ (wRl r cI ap pt rk cd mc mg mz nc nt oc fr))) S_ (wk_rV S_ (c_Ld_pointsOfAll l D cI z (a) (r) (go) (io) (ct) (sh) (wr) (ap) (pt) (rk) (cd) (mc) (mg) (mz) (nc) (nt) (oc) (fr) hgo hpt) mv_Ld_58 (wk_rcv S_ 0 4 rfl rfl rfl) rfl rfl (Nat.le_of_ble_eq_true rfl) (by rw [hR_]; decide) (by rw [hR_]; decide) d_Ld_isFree_2) [0, 1, 2, 3, 4, 5, 6, 7, 8, 9, 10, 11, 12, 13, 14] [] [0, 1, 2, 3, 4, 5, 6, 7, 8, 9, 10, 11, 12, 13, 14] rfl rfl rfl (by decide) (by decide) (by decide) (by decide) (fun _ => rfl) (fun _ => rfl) (fun r2 _ hw2 => ?_)
  refine wk_st (st' := [.long (r2)]) rfl ?_
  refine wk_topl (y := (lN (ptN (pt) (go) 9))) hw2 ?_
  have hp1 := ptN_le (pt := pt) (go := go) hpt hgo 9
  refine wk_aload_n (pc := 5) S_ 1 d_Ld_isFree_5 rfl rfl ?_
  refine wk_get (pc := 6) (v := .int (nI (fr))) S_ 5 10 4 in_Rl rfl (by decide) rfl fl_Ld_62 d_Ld_isFree_6 rfl rfl ?_
  refine wk_i2lN (pc := 9) S_ d_Ld_isFree_9 (by omega) ?_
  refine wk_lcmp (pc := 10) S_ d_Ld_isFree_10 ?_
  refine wk_cmp_gtN (pc := 11) (tgt := 18) S_ d_Ld_isFree_11 (by decide) (by omega) (by omega) (fun h11 => ?_) (fun h11 => ?_)
  · -- taken
    refine wk_iconst (pc := 18) (v := (nI (0))) S_ d_Ld_isFree_18 (by decide) ?_
    exact hQ_ (nI (0)) () d_Ld_isFree_19 rfl rfl (bI_f (by (try simp at h11); simp [h11]))
  · -- on
    refine wk_iconst (pc := 14) (v := (nI (1))) S_ d_Ld_isFree_14 (by decide) ?_
    refine wk_goto (pc := 15) (tgt := 19) S_ d_Ld_isFree_15 (by decide) ?_
    exact hQ_ (nI (1)) () d_Ld_isFree_19 rfl rfl (bI_t (by (try simp at h11); simp [h11]))
set_option maxHeartbeats 4000000 in
set_option maxRecDepth 100000 in
theorem c_Ld_greatestCode (l : Launch) (D : va_G) (cI : CiT) (z : GzT) (a : Nat → Nat) (r : Nat → Nat) (go : (Nat → Nat)) (io : (Nat → Nat)) (ct : Nat) (sh : (Nat → Nat)) (wr : Nat) (ap : (Nat → Nat)) (pt : (Nat → Nat)) (rk : (Nat → Nat)) (cd : (Nat → Nat)) (mc : (Nat → Nat)) (mg : (Nat → Nat)) (mz : (Nat → Nat)) (nc : (Nat → Nat)) (nt : (Nat → Nat)) (oc : (Nat → Nat)) (fr : Nat) (hgo : ∀ c, go c ≤ 800000) (hcd : ∀ c, cd c ≤ 5) : wk_C l D (tyK cI) (gX z) y_Ld_greatestCode b_Ld_greatestCode 4 (some .int) 1 21 0 0 [.ref (a 0), .ref (r 0)] (wLd a cI go io ct sh wr ++ (wRl r cI ap pt rk cd mc mg mz nc nt oc fr)) wk_i (fun (r : Int32) (_ : Unit) => r = (nI (tnS cd go 9))) (fun _ => (wLd a cI go io ct sh wr ++ (wRl r cI ap pt rk cd mc mg mz nc nt oc fr))) := by
  refine wk_methI (own := R_Ld) [(0, .ref (a 0)), (1, .ref (r 0))] (by decide) rfl (Nat.le_of_ble_eq_true rfl) rfl (gX_ok z) (fun p_ e_ R_ s_ m_ ar_ be_ me_ co_ Q_ A_ hR_ S_ hnm_ hQ_ => ?_)
  refine wk_iconst (pc := 0) (v := (nI (0))) S_ d_Ld_greatestCode_0 (by decide) ?_
  refine wk_istore_n (pc := 1) (lv' := [(2, .int (nI (0))), (0, .ref (a 0)), (1, .ref (r 0))]) S_ d_Ld_greatestCode_1 rfl (by decide) rfl ?_
  refine wk_iconst (pc := 2) (v := (nI (0))) S_ d_Ld_greatestCode_2 (by decide) ?_
  refine wk_istore_n (pc := 3) (lv' := [(3, .int (nI (0))), (2, .int (nI (0))), (0, .ref (a 0)), (1, .ref (r 0))]) S_ d_Ld_greatestCode_3 rfl (by decide) rfl ?_
  have hL4 : ∀ (fuel4 : Nat), ∀ (k : Nat), 9 - k < fuel4 → (k ≤ 9) → wk_G p_ l e_ R_ s_ m_ ar_ be_ me_ co_ Q_ D A_ 4 0 0 (wLd a cI go io ct sh wr ++ (wRl r cI ap pt rk cd mc mg mz nc nt oc fr)) 4 [(0, .ref (a 0)), (1, .ref (r 0)), (2, .int (nI (tnS cd go k))), (3, .int (nI (k)))] [] := by
    intro fuel4
    induction fuel4 with
    | zero => intro k hm; exact absurd hm (Nat.not_lt_zero _)
    | succ fuel4 ih4 =>
      intro k hm hk
      refine wk_iload_n (pc := 4) S_ 3 d_Ld_greatestCode_4 rfl rfl ?_
      refine wk_bipush (pc := 5) (v := (nI (9))) S_ d_Ld_greatestCode_5 (by decide) ?_
      refine wk_icmp_geN (pc := 7) (tgt := 36) S_ d_Ld_greatestCode_7 (by decide) (by omega) (by omega) (fun h7 => ?_) (fun h7 => ?_)
      · -- taken
        refine wk_iload_n (pc := 36) S_ 2 d_Ld_greatestCode_36 rfl rfl ?_
        exact hQ_ (nI (tnS cd go k)) () d_Ld_greatestCode_37 rfl (by rw [show k = 9 by omega])
      · -- on
        refine wk_aload_n (pc := 10) S_ 0 d_Ld_greatestCode_10 rfl rfl ?_
        refine wk_get (pc := 11) (v := .ref (a 1)) S_ 4 0 0 in_Ld rfl (by decide) rfl fl_Ld_9 d_Ld_greatestCode_11 rfl rfl ?_
        refine wk_iload_n (pc := 14) S_ 3 d_Ld_greatestCode_14 rfl rfl ?_
        refine wk_ialdN (pc := 15) (g := go) S_ 1 0 d_Ld_greatestCode_15 rfl rfl (by omega) (by decide) ?_
        have hg1 := hgo k
        have hc1 := hcd k
        have ht1 := tnS_le (go := go) hcd k
        refine wk_if_leN (pc := 16) (tgt := 30) S_ d_Ld_greatestCode_16 (by decide) (by omega) (fun h16 => ?_) (fun h16 => ?_)
        · -- taken
          refine wk_iincN (pc := 30) (d := 1) (lv' := [(3, .int (nI (k + 1))), (0, .ref (a 0)), (1, .ref (r 0)), (2, .int (nI (tnS cd go k)))]) S_ 3 d_Ld_greatestCode_30 (by decide) rfl (by decide) rfl ?_
          refine wk_goto (pc := 33) (tgt := 4) S_ d_Ld_greatestCode_33 (by decide) ?_
          refine wk_lveq (lv' := [(3, .int (nI (k + 1))), (0, .ref (a 0)), (1, .ref (r 0)), (2, .int (nI (tnS cd go (k + 1))))]) (by rw [tnS, if_neg (by omega)]) ?_
          refine wk_lv [1, 2, 3, 0] ?_ (ih4 (k + 1) (by omega) (by omega))
          rfl
        · -- on
          refine wk_iload_n (pc := 19) S_ 2 d_Ld_greatestCode_19 rfl rfl ?_
          refine wk_aload_n (pc := 20) S_ 1 d_Ld_greatestCode_20 rfl rfl ?_
          refine wk_get (pc := 21) (v := .ref (r 4)) S_ 5 3 4 in_Rl rfl (by decide) rfl fl_Ld_65 d_Ld_greatestCode_21 rfl rfl ?_
          refine wk_iload_n (pc := 24) S_ 3 d_Ld_greatestCode_24 rfl rfl ?_
          refine wk_ialdN (pc := 25) (g := cd) S_ 8 0 d_Ld_greatestCode_25 rfl rfl (by omega) (by decide) ?_
          refine wk_mmax (pc := 26) S_ ml_Ld_68 in_mmaxS in_mI in_mmaxC (by rw [hR_]; decide) (by rw [hR_]; exact Nat.le_of_ble_eq_true rfl) (by rw [hR_]; decide) (by rw [hR_]; decide) d_Ld_greatestCode_26 ?_
          refine wk_top (y := (nI (tnS cd go (k + 1)))) (tn_max (by omega) (by omega) (by omega)) ?_
          refine wk_istore_n (pc := 29) (lv' := [(2, .int (nI (tnS cd go (k + 1)))), (0, .ref (a 0)), (1, .ref (r 0)), (3, .int (nI (k)))]) S_ d_Ld_greatestCode_29 rfl (by decide) rfl ?_
          refine wk_iincN (pc := 30) (d := 1) (lv' := [(3, .int (nI (k + 1))), (2, .int (nI (tnS cd go (k + 1)))), (0, .ref (a 0)), (1, .ref (r 0))]) S_ 3 d_Ld_greatestCode_30 (by decide) rfl (by decide) rfl ?_
          refine wk_goto (pc := 33) (tgt := 4) S_ d_Ld_greatestCode_33 (by decide) ?_
          refine wk_lv [2, 3, 1, 0] ?_ (ih4 (k + 1) (by omega) (by omega))
          rfl
  refine wk_lv [2, 3, 1, 0] ?_ (hL4 _ (0) (Nat.lt_succ_self _) (by omega))
  rfl
