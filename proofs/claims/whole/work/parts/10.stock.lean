theorem fl_St_36 : Cond.fieldLink R_St 36 R_St "bottles" "I" ∈ lw_gd := (gd _ (tb0 _ (List.mem_of_getElem? (i := 71) rfl)) rfl)
theorem d_St_hasBottle_0 : decode b_St_hasBottle 0 = .ok (.iload_n 1, 1) := by decide +kernel
theorem d_St_hasBottle_1 : decode b_St_hasBottle 1 = .ok (.ifCond .lt 15, 3) := by decide +kernel
theorem d_St_hasBottle_4 : decode b_St_hasBottle 4 = .ok (.iload_n 1, 1) := by decide +kernel
theorem d_St_hasBottle_5 : decode b_St_hasBottle 5 = .ok (.aload_n 0, 1) := by decide +kernel
theorem d_St_hasBottle_6 : decode b_St_hasBottle 6 = .ok (.getfield 36, 3) := by decide +kernel
theorem d_St_hasBottle_9 : decode b_St_hasBottle 9 = .ok (.if_icmp .ge 7, 3) := by decide +kernel
theorem d_St_hasBottle_12 : decode b_St_hasBottle 12 = .ok (.iconst 1, 1) := by decide +kernel
theorem d_St_hasBottle_13 : decode b_St_hasBottle 13 = .ok (.goto 4, 3) := by decide +kernel
theorem d_St_hasBottle_16 : decode b_St_hasBottle 16 = .ok (.iconst 0, 1) := by decide +kernel
theorem d_St_hasBottle_17 : decode b_St_hasBottle 17 = .ok (.ireturn, 1) := by decide +kernel
theorem fl_St_40 : Cond.fieldLink R_St 40 R_St "boxes" "I" ∈ lw_gd := (gd _ (tb0 _ (List.mem_of_getElem? (i := 85) rfl)) rfl)
theorem d_St_hasBox_0 : decode b_St_hasBox 0 = .ok (.iload_n 1, 1) := by decide +kernel
theorem d_St_hasBox_1 : decode b_St_hasBox 1 = .ok (.ifCond .lt 15, 3) := by decide +kernel
theorem d_St_hasBox_4 : decode b_St_hasBox 4 = .ok (.iload_n 1, 1) := by decide +kernel
theorem d_St_hasBox_5 : decode b_St_hasBox 5 = .ok (.aload_n 0, 1) := by decide +kernel
theorem d_St_hasBox_6 : decode b_St_hasBox 6 = .ok (.getfield 40, 3) := by decide +kernel
theorem d_St_hasBox_9 : decode b_St_hasBox 9 = .ok (.if_icmp .ge 7, 3) := by decide +kernel
theorem d_St_hasBox_12 : decode b_St_hasBox 12 = .ok (.iconst 1, 1) := by decide +kernel
theorem d_St_hasBox_13 : decode b_St_hasBox 13 = .ok (.goto 4, 3) := by decide +kernel
theorem d_St_hasBox_16 : decode b_St_hasBox 16 = .ok (.iconst 0, 1) := by decide +kernel
theorem d_St_hasBox_17 : decode b_St_hasBox 17 = .ok (.ireturn, 1) := by decide +kernel
theorem fl_St_21 : Cond.fieldLink R_St 21 R_St "reasons" "[I" ∈ lw_gd := (gd _ (tb0 _ (List.mem_of_getElem? (i := 67) rfl)) rfl)
theorem d_St_isRefused_0 : decode b_St_isRefused 0 = .ok (.aload_n 0, 1) := by decide +kernel
theorem d_St_isRefused_1 : decode b_St_isRefused 1 = .ok (.getfield 21, 3) := by decide +kernel
theorem d_St_isRefused_4 : decode b_St_isRefused 4 = .ok (.iload_n 1, 1) := by decide +kernel
theorem d_St_isRefused_5 : decode b_St_isRefused 5 = .ok (.iaload, 1) := by decide +kernel
theorem d_St_isRefused_6 : decode b_St_isRefused 6 = .ok (.ifCond .eq 7, 3) := by decide +kernel
theorem d_St_isRefused_9 : decode b_St_isRefused 9 = .ok (.iconst 1, 1) := by decide +kernel
theorem d_St_isRefused_10 : decode b_St_isRefused 10 = .ok (.goto 4, 3) := by decide +kernel
theorem d_St_isRefused_13 : decode b_St_isRefused 13 = .ok (.iconst 0, 1) := by decide +kernel
theorem d_St_isRefused_14 : decode b_St_isRefused 14 = .ok (.ireturn, 1) := by decide +kernel
theorem mv_St_43 : wk_V R_St 43 R_St y_St_isRefused b_St_isRefused 2 (some .boolean) 1 := ⟨(gd _ (tb1 _ (List.mem_of_getElem? (i := 215) rfl)) rfl), (gd _ (tb0 _ (List.mem_of_getElem? (i := 3) rfl)) rfl), (gd _ (tb1 _ (List.mem_of_getElem? (i := 212) rfl)) rfl), (by decide +kernel), (gd _ (tb1 _ (List.mem_of_getElem? (i := 213) rfl)) rfl), (gd _ (tb1 _ (List.mem_of_getElem? (i := 214) rfl)) rfl)⟩
theorem fl_St_9 : Cond.fieldLink R_St 9 R_St "classes" "[I" ∈ lw_gd := (gd _ (tb0 _ (List.mem_of_getElem? (i := 58) rfl)) rfl)
theorem d_St_isToBePacked_0 : decode b_St_isToBePacked 0 = .ok (.aload_n 0, 1) := by decide +kernel
theorem d_St_isToBePacked_1 : decode b_St_isToBePacked 1 = .ok (.iload_n 1, 1) := by decide +kernel
theorem d_St_isToBePacked_2 : decode b_St_isToBePacked 2 = .ok (.invokevirtual 43, 3) := by decide +kernel
theorem d_St_isToBePacked_5 : decode b_St_isToBePacked 5 = .ok (.ifCond .ne 17, 3) := by decide +kernel
theorem d_St_isToBePacked_8 : decode b_St_isToBePacked 8 = .ok (.aload_n 0, 1) := by decide +kernel
theorem d_St_isToBePacked_9 : decode b_St_isToBePacked 9 = .ok (.getfield 9, 3) := by decide +kernel
theorem d_St_isToBePacked_12 : decode b_St_isToBePacked 12 = .ok (.iload_n 1, 1) := by decide +kernel
theorem d_St_isToBePacked_13 : decode b_St_isToBePacked 13 = .ok (.iaload, 1) := by decide +kernel
theorem d_St_isToBePacked_14 : decode b_St_isToBePacked 14 = .ok (.iconst (-1), 1) := by decide +kernel
theorem d_St_isToBePacked_15 : decode b_St_isToBePacked 15 = .ok (.if_icmp .eq 7, 3) := by decide +kernel
theorem d_St_isToBePacked_18 : decode b_St_isToBePacked 18 = .ok (.iconst 1, 1) := by decide +kernel
theorem d_St_isToBePacked_19 : decode b_St_isToBePacked 19 = .ok (.goto 4, 3) := by decide +kernel
theorem d_St_isToBePacked_22 : decode b_St_isToBePacked 22 = .ok (.iconst 0, 1) := by decide +kernel
theorem d_St_isToBePacked_23 : decode b_St_isToBePacked 23 = .ok (.ireturn, 1) := by decide +kernel
theorem fl_St_15 : Cond.fieldLink R_St 15 R_St "grams" "[I" ∈ lw_gd := (gd _ (tb0 _ (List.mem_of_getElem? (i := 62) rfl)) rfl)
theorem d_St_addBottle_0 : decode b_St_addBottle 0 = .ok (.aload_n 0, 1) := by decide +kernel
theorem d_St_addBottle_1 : decode b_St_addBottle 1 = .ok (.getfield 9, 3) := by decide +kernel
theorem d_St_addBottle_4 : decode b_St_addBottle 4 = .ok (.aload_n 0, 1) := by decide +kernel
theorem d_St_addBottle_5 : decode b_St_addBottle 5 = .ok (.getfield 36, 3) := by decide +kernel
theorem d_St_addBottle_8 : decode b_St_addBottle 8 = .ok (.iload_n 1, 1) := by decide +kernel
theorem d_St_addBottle_9 : decode b_St_addBottle 9 = .ok (.iastore, 1) := by decide +kernel
theorem d_St_addBottle_10 : decode b_St_addBottle 10 = .ok (.aload_n 0, 1) := by decide +kernel
theorem d_St_addBottle_11 : decode b_St_addBottle 11 = .ok (.getfield 15, 3) := by decide +kernel
theorem d_St_addBottle_14 : decode b_St_addBottle 14 = .ok (.aload_n 0, 1) := by decide +kernel
theorem d_St_addBottle_15 : decode b_St_addBottle 15 = .ok (.getfield 36, 3) := by decide +kernel
theorem d_St_addBottle_18 : decode b_St_addBottle 18 = .ok (.iload_n 2, 1) := by decide +kernel
theorem d_St_addBottle_19 : decode b_St_addBottle 19 = .ok (.iastore, 1) := by decide +kernel
theorem d_St_addBottle_20 : decode b_St_addBottle 20 = .ok (.aload_n 0, 1) := by decide +kernel
theorem d_St_addBottle_21 : decode b_St_addBottle 21 = .ok (.dup, 1) := by decide +kernel
theorem d_St_addBottle_22 : decode b_St_addBottle 22 = .ok (.getfield 36, 3) := by decide +kernel
theorem d_St_addBottle_25 : decode b_St_addBottle 25 = .ok (.iconst 1, 1) := by decide +kernel
theorem d_St_addBottle_26 : decode b_St_addBottle 26 = .ok (.iadd, 1) := by decide +kernel
theorem d_St_addBottle_27 : decode b_St_addBottle 27 = .ok (.putfield 36, 3) := by decide +kernel
theorem d_St_addBottle_30 : decode b_St_addBottle 30 = .ok (.aload_n 0, 1) := by decide +kernel
theorem d_St_addBottle_31 : decode b_St_addBottle 31 = .ok (.getfield 36, 3) := by decide +kernel
theorem d_St_addBottle_34 : decode b_St_addBottle 34 = .ok (.iconst 1, 1) := by decide +kernel
theorem d_St_addBottle_35 : decode b_St_addBottle 35 = .ok (.isub, 1) := by decide +kernel
theorem d_St_addBottle_36 : decode b_St_addBottle 36 = .ok (.ireturn, 1) := by decide +kernel
theorem fl_St_27 : Cond.fieldLink R_St 27 R_St "boxGrams" "[I" ∈ lw_gd := (gd _ (tb0 _ (List.mem_of_getElem? (i := 77) rfl)) rfl)
theorem fl_St_30 : Cond.fieldLink R_St 30 R_St "boxBottles" "[I" ∈ lw_gd := (gd _ (tb0 _ (List.mem_of_getElem? (i := 79) rfl)) rfl)
theorem d_St_addBox_0 : decode b_St_addBox 0 = .ok (.aload_n 0, 1) := by decide +kernel
theorem d_St_addBox_1 : decode b_St_addBox 1 = .ok (.getfield 27, 3) := by decide +kernel
theorem d_St_addBox_4 : decode b_St_addBox 4 = .ok (.aload_n 0, 1) := by decide +kernel
theorem d_St_addBox_5 : decode b_St_addBox 5 = .ok (.getfield 40, 3) := by decide +kernel
theorem d_St_addBox_8 : decode b_St_addBox 8 = .ok (.iload_n 1, 1) := by decide +kernel
theorem d_St_addBox_9 : decode b_St_addBox 9 = .ok (.iastore, 1) := by decide +kernel
theorem d_St_addBox_10 : decode b_St_addBox 10 = .ok (.aload_n 0, 1) := by decide +kernel
theorem d_St_addBox_11 : decode b_St_addBox 11 = .ok (.getfield 30, 3) := by decide +kernel
theorem d_St_addBox_14 : decode b_St_addBox 14 = .ok (.aload_n 0, 1) := by decide +kernel
theorem d_St_addBox_15 : decode b_St_addBox 15 = .ok (.getfield 40, 3) := by decide +kernel
theorem d_St_addBox_18 : decode b_St_addBox 18 = .ok (.iload_n 2, 1) := by decide +kernel
theorem d_St_addBox_19 : decode b_St_addBox 19 = .ok (.iastore, 1) := by decide +kernel
theorem d_St_addBox_20 : decode b_St_addBox 20 = .ok (.aload_n 0, 1) := by decide +kernel
theorem d_St_addBox_21 : decode b_St_addBox 21 = .ok (.dup, 1) := by decide +kernel
theorem d_St_addBox_22 : decode b_St_addBox 22 = .ok (.getfield 40, 3) := by decide +kernel
theorem d_St_addBox_25 : decode b_St_addBox 25 = .ok (.iconst 1, 1) := by decide +kernel
theorem d_St_addBox_26 : decode b_St_addBox 26 = .ok (.iadd, 1) := by decide +kernel
theorem d_St_addBox_27 : decode b_St_addBox 27 = .ok (.putfield 40, 3) := by decide +kernel
theorem d_St_addBox_30 : decode b_St_addBox 30 = .ok (.aload_n 0, 1) := by decide +kernel
theorem d_St_addBox_31 : decode b_St_addBox 31 = .ok (.getfield 40, 3) := by decide +kernel
theorem d_St_addBox_34 : decode b_St_addBox 34 = .ok (.iconst 1, 1) := by decide +kernel
theorem d_St_addBox_35 : decode b_St_addBox 35 = .ok (.isub, 1) := by decide +kernel
theorem d_St_addBox_36 : decode b_St_addBox 36 = .ok (.ireturn, 1) := by decide +kernel
theorem fl_St_24 : Cond.fieldLink R_St 24 R_St "awayInOrder" "[I" ∈ lw_gd := (gd _ (tb0 _ (List.mem_of_getElem? (i := 69) rfl)) rfl)
theorem fl_St_47 : Cond.fieldLink R_St 47 R_St "turnedAway" "I" ∈ lw_gd := (gd _ (tb0 _ (List.mem_of_getElem? (i := 75) rfl)) rfl)
theorem d_St_turnAway_0 : decode b_St_turnAway 0 = .ok (.aload_n 0, 1) := by decide +kernel
theorem d_St_turnAway_1 : decode b_St_turnAway 1 = .ok (.getfield 21, 3) := by decide +kernel
theorem d_St_turnAway_4 : decode b_St_turnAway 4 = .ok (.iload_n 1, 1) := by decide +kernel
theorem d_St_turnAway_5 : decode b_St_turnAway 5 = .ok (.iload_n 2, 1) := by decide +kernel
theorem d_St_turnAway_6 : decode b_St_turnAway 6 = .ok (.iastore, 1) := by decide +kernel
theorem d_St_turnAway_7 : decode b_St_turnAway 7 = .ok (.aload_n 0, 1) := by decide +kernel
theorem d_St_turnAway_8 : decode b_St_turnAway 8 = .ok (.getfield 24, 3) := by decide +kernel
theorem d_St_turnAway_11 : decode b_St_turnAway 11 = .ok (.aload_n 0, 1) := by decide +kernel
theorem d_St_turnAway_12 : decode b_St_turnAway 12 = .ok (.getfield 47, 3) := by decide +kernel
theorem d_St_turnAway_15 : decode b_St_turnAway 15 = .ok (.iload_n 1, 1) := by decide +kernel
theorem d_St_turnAway_16 : decode b_St_turnAway 16 = .ok (.iastore, 1) := by decide +kernel
theorem d_St_turnAway_17 : decode b_St_turnAway 17 = .ok (.aload_n 0, 1) := by decide +kernel
theorem d_St_turnAway_18 : decode b_St_turnAway 18 = .ok (.dup, 1) := by decide +kernel
theorem d_St_turnAway_19 : decode b_St_turnAway 19 = .ok (.getfield 47, 3) := by decide +kernel
theorem d_St_turnAway_22 : decode b_St_turnAway 22 = .ok (.iconst 1, 1) := by decide +kernel
theorem d_St_turnAway_23 : decode b_St_turnAway 23 = .ok (.iadd, 1) := by decide +kernel
theorem d_St_turnAway_24 : decode b_St_turnAway 24 = .ok (.putfield 47, 3) := by decide +kernel
theorem d_St_turnAway_27 : decode b_St_turnAway 27 = .ok (.aload_n 0, 1) := by decide +kernel
theorem d_St_turnAway_28 : decode b_St_turnAway 28 = .ok (.getfield 47, 3) := by decide +kernel
theorem d_St_turnAway_31 : decode b_St_turnAway 31 = .ok (.ireturn, 1) := by decide +kernel
set_option maxHeartbeats 4000000 in
set_option maxRecDepth 100000 in
theorem c_St_hasBottle (l : Launch) (D : va_G) (cI : CiT) (z : GzT) (a : Nat → Nat) (cl : (Nat → Nat)) (gr : (Nat → Nat)) (sp : (Nat → Nat)) (rs : (Nat → Nat)) (aw : (Nat → Nat)) (nb : Nat) (na : Nat) (bg : (Nat → Nat)) (bb : (Nat → Nat)) (ab : (Nat → Nat)) (nx : Nat) (b : Int32) : wk_C l D (tyK cI) (gX z) y_St_hasBottle b_St_hasBottle 2 (some .boolean) 0 0 0 0 [.ref (a 0), .int (b)] (wSt a cI cl gr sp rs aw nb na bg bb ab nx) wk_i (fun (r : Int32) (_ : Unit) => r = (bI (ixI nb b))) (fun _ => (wSt a cI cl gr sp rs aw nb na bg bb ab nx)) := by
  refine wk_methZ (own := R_St) [(0, .ref (a 0)), (1, .int (b))] (by decide) rfl (Nat.le_of_ble_eq_true rfl) rfl (gX_ok z) (fun p_ e_ R_ s_ m_ ar_ be_ me_ co_ Q_ A_ hR_ S_ hnm_ hQ_ => ?_)
  refine wk_iload_n (pc := 0) S_ 1 d_St_hasBottle_0 rfl rfl ?_
  refine wk_if_lt (pc := 1) (tgt := 16) S_ d_St_hasBottle_1 (by decide) (fun h1 => ?_) (fun h1 => ?_)
  · -- taken
    refine wk_iconst (pc := 16) (v := (nI (0))) S_ d_St_hasBottle_16 (by decide) ?_
    exact hQ_ (nI (0)) () d_St_hasBottle_17 rfl rfl (bI_f (by simp [ixI, h1]))
  · -- on
    refine wk_iload_n (pc := 4) S_ 1 d_St_hasBottle_4 rfl rfl ?_
    refine wk_aload_n (pc := 5) S_ 0 d_St_hasBottle_5 rfl rfl ?_
    refine wk_get (pc := 6) (v := .int (nI (nb))) S_ 2 5 0 in_St rfl (by decide) rfl fl_St_36 d_St_hasBottle_6 rfl rfl ?_
    refine wk_icmp_ge (pc := 9) (tgt := 16) S_ d_St_hasBottle_9 (by decide) (fun h9 => ?_) (fun h9 => ?_)
    · -- taken
      refine wk_iconst (pc := 16) (v := (nI (0))) S_ d_St_hasBottle_16 (by decide) ?_
      exact hQ_ (nI (0)) () d_St_hasBottle_17 rfl rfl (bI_f (by simp [ixI, h1, h9]))
    · -- on
      refine wk_iconst (pc := 12) (v := (nI (1))) S_ d_St_hasBottle_12 (by decide) ?_
      refine wk_goto (pc := 13) (tgt := 17) S_ d_St_hasBottle_13 (by decide) ?_
      exact hQ_ (nI (1)) () d_St_hasBottle_17 rfl rfl (bI_t (by simp [ixI, h1, h9]))
set_option maxHeartbeats 4000000 in
set_option maxRecDepth 100000 in
theorem c_St_hasBox (l : Launch) (D : va_G) (cI : CiT) (z : GzT) (a : Nat → Nat) (cl : (Nat → Nat)) (gr : (Nat → Nat)) (sp : (Nat → Nat)) (rs : (Nat → Nat)) (aw : (Nat → Nat)) (nb : Nat) (na : Nat) (bg : (Nat → Nat)) (bb : (Nat → Nat)) (ab : (Nat → Nat)) (nx : Nat) (b : Int32) : wk_C l D (tyK cI) (gX z) y_St_hasBox b_St_hasBox 2 (some .boolean) 0 0 0 0 [.ref (a 0), .int (b)] (wSt a cI cl gr sp rs aw nb na bg bb ab nx) wk_i (fun (r : Int32) (_ : Unit) => r = (bI (ixI nx b))) (fun _ => (wSt a cI cl gr sp rs aw nb na bg bb ab nx)) := by
  refine wk_methZ (own := R_St) [(0, .ref (a 0)), (1, .int (b))] (by decide) rfl (Nat.le_of_ble_eq_true rfl) rfl (gX_ok z) (fun p_ e_ R_ s_ m_ ar_ be_ me_ co_ Q_ A_ hR_ S_ hnm_ hQ_ => ?_)
  refine wk_iload_n (pc := 0) S_ 1 d_St_hasBox_0 rfl rfl ?_
  refine wk_if_lt (pc := 1) (tgt := 16) S_ d_St_hasBox_1 (by decide) (fun h1 => ?_) (fun h1 => ?_)
  · -- taken
    refine wk_iconst (pc := 16) (v := (nI (0))) S_ d_St_hasBox_16 (by decide) ?_
    exact hQ_ (nI (0)) () d_St_hasBox_17 rfl rfl (bI_f (by simp [ixI, h1]))
  · -- on
    refine wk_iload_n (pc := 4) S_ 1 d_St_hasBox_4 rfl rfl ?_
    refine wk_aload_n (pc := 5) S_ 0 d_St_hasBox_5 rfl rfl ?_
    refine wk_get (pc := 6) (v := .int (nI (nx))) S_ 2 10 0 in_St rfl (by decide) rfl fl_St_40 d_St_hasBox_6 rfl rfl ?_
    refine wk_icmp_ge (pc := 9) (tgt := 16) S_ d_St_hasBox_9 (by decide) (fun h9 => ?_) (fun h9 => ?_)
    · -- taken
      refine wk_iconst (pc := 16) (v := (nI (0))) S_ d_St_hasBox_16 (by decide) ?_
      exact hQ_ (nI (0)) () d_St_hasBox_17 rfl rfl (bI_f (by simp [ixI, h1, h9]))
    · -- on
      refine wk_iconst (pc := 12) (v := (nI (1))) S_ d_St_hasBox_12 (by decide) ?_
      refine wk_goto (pc := 13) (tgt := 17) S_ d_St_hasBox_13 (by decide) ?_
      exact hQ_ (nI (1)) () d_St_hasBox_17 rfl rfl (bI_t (by simp [ixI, h1, h9]))
set_option maxHeartbeats 4000000 in
set_option maxRecDepth 100000 in
theorem c_St_isRefused (l : Launch) (D : va_G) (cI : CiT) (z : GzT) (a : Nat → Nat) (cl : (Nat → Nat)) (gr : (Nat → Nat)) (sp : (Nat → Nat)) (rs : (Nat → Nat)) (aw : (Nat → Nat)) (nb : Nat) (na : Nat) (bg : (Nat → Nat)) (bb : (Nat → Nat)) (ab : (Nat → Nat)) (nx : Nat) (j : Nat) (hj : j < 8) (hr : rs j < 2 ^ 31) : wk_C l D (tyK cI) (gX z) y_St_isRefused b_St_isRefused 2 (some .boolean) 0 0 0 0 [.ref (a 0), .int (nI (j))] (wSt a cI cl gr sp rs aw nb na bg bb ab nx) wk_i (fun (r : Int32) (_ : Unit) => r = (bI (decide (rs j ≠ 0)))) (fun _ => (wSt a cI cl gr sp rs aw nb na bg bb ab nx)) := by
  refine wk_methZ (own := R_St) [(0, .ref (a 0)), (1, .int (nI (j)))] (by decide) rfl (Nat.le_of_ble_eq_true rfl) rfl (gX_ok z) (fun p_ e_ R_ s_ m_ ar_ be_ me_ co_ Q_ A_ hR_ S_ hnm_ hQ_ => ?_)
  refine wk_aload_n (pc := 0) S_ 0 d_St_isRefused_0 rfl rfl ?_
  refine wk_get (pc := 1) (v := .ref (a 4)) S_ 2 3 0 in_St rfl (by decide) rfl fl_St_21 d_St_isRefused_1 rfl rfl ?_
  refine wk_iload_n (pc := 4) S_ 1 d_St_isRefused_4 rfl rfl ?_
  refine wk_ialdN (pc := 5) (g := rs) S_ 4 0 d_St_isRefused_5 rfl rfl (by omega) (by decide) ?_
  refine wk_if_eqN (pc := 6) (tgt := 13) S_ d_St_isRefused_6 (by decide) (by omega) (fun h6 => ?_) (fun h6 => ?_)
  · -- taken
    refine wk_iconst (pc := 13) (v := (nI (0))) S_ d_St_isRefused_13 (by decide) ?_
    exact hQ_ (nI (0)) () d_St_isRefused_14 rfl rfl (bI_f (by (try simp at h6); simp [h6]))
  · -- on
    refine wk_iconst (pc := 9) (v := (nI (1))) S_ d_St_isRefused_9 (by decide) ?_
    refine wk_goto (pc := 10) (tgt := 14) S_ d_St_isRefused_10 (by decide) ?_
    exact hQ_ (nI (1)) () d_St_isRefused_14 rfl rfl (bI_t (by (try simp at h6); simp [h6]))
set_option maxHeartbeats 4000000 in
set_option maxRecDepth 100000 in
theorem c_St_isToBePacked (l : Launch) (D : va_G) (cI : CiT) (z : GzT) (a : Nat → Nat) (cl : (Nat → Nat)) (gr : (Nat → Nat)) (sp : (Nat → Nat)) (rs : (Nat → Nat)) (aw : (Nat → Nat)) (nb : Nat) (na : Nat) (bg : (Nat → Nat)) (bb : (Nat → Nat)) (ab : (Nat → Nat)) (nx : Nat) (j : Nat) (hj : j < 8) (hr : rs j < 2 ^ 31) (hc : cl j < 2 ^ 31) : wk_C l D (tyK cI) (gX z) y_St_isToBePacked b_St_isToBePacked 2 (some .boolean) 1 21 0 0 [.ref (a 0), .int (nI (j))] (wSt a cI cl gr sp rs aw nb na bg bb ab nx) wk_i (fun (r : Int32) (_ : Unit) => r = (bI (decide (rs j = 0 ∧ cl j ≠ 0)))) (fun _ => (wSt a cI cl gr sp rs aw nb na bg bb ab nx)) := by
  refine wk_methZ (own := R_St) [(0, .ref (a 0)), (1, .int (nI (j)))] (by decide) rfl (Nat.le_of_ble_eq_true rfl) rfl (gX_ok z) (fun p_ e_ R_ s_ m_ ar_ be_ me_ co_ Q_ A_ hR_ S_ hnm_ hQ_ => ?_)
  refine wk_aload_n (pc := 0) S_ 0 d_St_isToBePacked_0 rfl rfl ?_
  refine wk_iload_n (pc := 1) S_ 1 d_St_isToBePacked_1 rfl rfl ?_
  refine wk_run (pc := 2) (rest := []) (wr := []) (wN := fun _ => (wSt a cI cl gr sp rs aw nb na bg bb ab nx)) S_ (wk_rV S_ (c_St_isRefused l D cI z (a) (cl) (gr) (sp) (rs) (aw) (nb) (na) (bg) (bb) (ab) (nx) (j) (by omega) (by omega)) mv_St_43 (wk_rcv S_ 0 2 rfl rfl rfl) rfl rfl (Nat.le_of_ble_eq_true rfl) (by rw [hR_]; decide) (by rw [hR_]; decide) d_St_isToBePacked_2) [0, 1, 2, 3, 4, 5, 6, 7, 8] [] [0, 1, 2, 3, 4, 5, 6, 7, 8] rfl rfl rfl (by decide) (by decide) (by decide) (by decide) (fun _ => rfl) (fun _ => rfl) (fun r2 _ hw2 => ?_)
  refine wk_st (st' := [.int (r2)]) rfl ?_
  refine wk_top (y := (bI (decide ((rs) (j) ≠ 0)))) hw2 ?_
  refine wk_if_neB (pc := 5) (tgt := 22) S_ d_St_isToBePacked_5 (by decide) (fun h5 => ?_) (fun h5 => ?_)
  · -- taken
    refine wk_iconst (pc := 22) (v := (nI (0))) S_ d_St_isToBePacked_22 (by decide) ?_
    exact hQ_ (nI (0)) () d_St_isToBePacked_23 rfl rfl (bI_f (by (try simp at h5); simp [h5]))
  · -- on
    refine wk_aload_n (pc := 8) S_ 0 d_St_isToBePacked_8 rfl rfl ?_
    refine wk_get (pc := 9) (v := .ref (a 1)) S_ 2 0 0 in_St rfl (by decide) rfl fl_St_9 d_St_isToBePacked_9 rfl rfl ?_
    refine wk_iload_n (pc := 12) S_ 1 d_St_isToBePacked_12 rfl rfl ?_
    refine wk_ialdY (pc := 13) (g := cl) S_ 1 0 d_St_isToBePacked_13 rfl rfl (by omega) (by decide) ?_
    refine wk_iconst (pc := 14) (v := (-1)) S_ d_St_isToBePacked_14 (by decide) ?_
    refine wk_icmp_eqY (pc := 15) (tgt := 22) S_ d_St_isToBePacked_15 (by decide) (by omega) (fun h15 => ?_) (fun h15 => ?_)
    · -- taken
      refine wk_iconst (pc := 22) (v := (nI (0))) S_ d_St_isToBePacked_22 (by decide) ?_
      exact hQ_ (nI (0)) () d_St_isToBePacked_23 rfl rfl (bI_f (by (try simp at h5); (try simp at h15); simp [h5, h15]))
    · -- on
      refine wk_iconst (pc := 18) (v := (nI (1))) S_ d_St_isToBePacked_18 (by decide) ?_
      refine wk_goto (pc := 19) (tgt := 23) S_ d_St_isToBePacked_19 (by decide) ?_
      exact hQ_ (nI (1)) () d_St_isToBePacked_23 rfl rfl (bI_t (by (try simp at h5); (try simp at h15); simp [h5, h15]))
set_option maxHeartbeats 4000000 in
set_option maxRecDepth 100000 in
theorem c_St_addBottle (l : Launch) (D : va_G) (cI : CiT) (z : GzT) (a : Nat → Nat) (cl : (Nat → Nat)) (gr : (Nat → Nat)) (sp : (Nat → Nat)) (rs : (Nat → Nat)) (aw : (Nat → Nat)) (nb : Nat) (na : Nat) (bg : (Nat → Nat)) (bb : (Nat → Nat)) (ab : (Nat → Nat)) (nx : Nat) (c : Nat) (w : Nat) (hn : nb < 8) : wk_C l D (tyK cI) (gX z) y_St_addBottle b_St_addBottle 3 (some .int) 0 0 0 0 [.ref (a 0), .int (zI (c)), .int (nI (w))] (wSt a cI cl gr sp rs aw nb na bg bb ab nx) wk_i (fun (r : Int32) (_ : Unit) => r = (nI (nb))) (fun _ => (wSt a cI (va_up cl nb c) (va_up gr nb w) sp rs aw (nb + 1) na bg bb ab nx)) := by
  refine wk_methI (own := R_St) [(0, .ref (a 0)), (1, .int (zI (c))), (2, .int (nI (w)))] (by decide) rfl (Nat.le_of_ble_eq_true rfl) rfl (gX_ok z) (fun p_ e_ R_ s_ m_ ar_ be_ me_ co_ Q_ A_ hR_ S_ hnm_ hQ_ => ?_)
  refine wk_aload_n (pc := 0) S_ 0 d_St_addBottle_0 rfl rfl ?_
  refine wk_get (pc := 1) (v := .ref (a 1)) S_ 2 0 0 in_St rfl (by decide) rfl fl_St_9 d_St_addBottle_1 rfl rfl ?_
  refine wk_aload_n (pc := 4) S_ 0 d_St_addBottle_4 rfl rfl ?_
  refine wk_get (pc := 5) (v := .int (nI (nb))) S_ 2 5 0 in_St rfl (by decide) rfl fl_St_36 d_St_addBottle_5 rfl rfl ?_
  refine wk_iload_n (pc := 8) S_ 1 d_St_addBottle_8 rfl rfl ?_
  refine wk_iastY (pc := 9) (g := cl) (ws' := (wSt a cI (va_up (cl) (nb) (c)) gr sp rs aw nb na bg bb ab nx)) S_ 1 0 d_St_addBottle_9 rfl rfl (by omega) (by decide) rfl ?_
  refine wk_aload_n (pc := 10) S_ 0 d_St_addBottle_10 rfl rfl ?_
  refine wk_get (pc := 11) (v := .ref (a 2)) S_ 2 1 0 in_St rfl (by decide) rfl fl_St_15 d_St_addBottle_11 rfl rfl ?_
  refine wk_aload_n (pc := 14) S_ 0 d_St_addBottle_14 rfl rfl ?_
  refine wk_get (pc := 15) (v := .int (nI (nb))) S_ 2 5 0 in_St rfl (by decide) rfl fl_St_36 d_St_addBottle_15 rfl rfl ?_
  refine wk_iload_n (pc := 18) S_ 2 d_St_addBottle_18 rfl rfl ?_
  refine wk_iastN (pc := 19) (g := gr) (ws' := (wSt a cI (va_up (cl) (nb) (c)) (va_up (gr) (nb) (w)) sp rs aw nb na bg bb ab nx)) S_ 2 0 d_St_addBottle_19 rfl rfl (by omega) (by decide) rfl ?_
  refine wk_aload_n (pc := 20) S_ 0 d_St_addBottle_20 rfl rfl ?_
  refine wk_dup (pc := 21) S_ d_St_addBottle_21 rfl ?_
  refine wk_get (pc := 22) (v := .int (nI (nb))) S_ 2 5 0 in_St rfl (by decide) rfl fl_St_36 d_St_addBottle_22 rfl rfl ?_
  refine wk_iconst (pc := 25) (v := (nI (1))) S_ d_St_addBottle_25 (by decide) ?_
  refine wk_iaddN (pc := 26) S_ d_St_addBottle_26 ?_
  refine wk_put (pc := 27) (ty := .int) (ws' := (wSt a cI (va_up (cl) (nb) (c)) (va_up (gr) (nb) (w)) sp rs aw ((nb) + (1)) na bg bb ab nx)) S_ 2 5 0 in_St t_St t_St_ok n_St rfl (by decide) rfl fl_St_36 (by decide +kernel) d_St_addBottle_27 rfl rfl rfl (Nat.le_of_ble_eq_true rfl) rfl ?_
  refine wk_aload_n (pc := 30) S_ 0 d_St_addBottle_30 rfl rfl ?_
  refine wk_get (pc := 31) (v := .int (nI ((nb) + (1)))) S_ 2 5 0 in_St rfl (by decide) rfl fl_St_36 d_St_addBottle_31 rfl rfl ?_
  refine wk_iconst (pc := 34) (v := (nI (1))) S_ d_St_addBottle_34 (by decide) ?_
  refine wk_isubN (pc := 35) S_ d_St_addBottle_35 (by omega) ?_
  exact hQ_ (nI (((nb) + (1)) - (1))) () d_St_addBottle_36 rfl rfl
set_option maxHeartbeats 4000000 in
set_option maxRecDepth 100000 in
theorem c_St_addBox (l : Launch) (D : va_G) (cI : CiT) (z : GzT) (a : Nat → Nat) (cl : (Nat → Nat)) (gr : (Nat → Nat)) (sp : (Nat → Nat)) (rs : (Nat → Nat)) (aw : (Nat → Nat)) (nb : Nat) (na : Nat) (bg : (Nat → Nat)) (bb : (Nat → Nat)) (ab : (Nat → Nat)) (nx : Nat) (w : Nat) (k : Nat) (hn : nx < 5) : wk_C l D (tyK cI) (gX z) y_St_addBox b_St_addBox 3 (some .int) 0 0 0 0 [.ref (a 0), .int (nI (w)), .int (nI (k))] (wSt a cI cl gr sp rs aw nb na bg bb ab nx) wk_i (fun (r : Int32) (_ : Unit) => r = (nI (nx))) (fun _ => (wSt a cI cl gr sp rs aw nb na (va_up bg nx w) (va_up bb nx k) ab (nx + 1))) := by
  refine wk_methI (own := R_St) [(0, .ref (a 0)), (1, .int (nI (w))), (2, .int (nI (k)))] (by decide) rfl (Nat.le_of_ble_eq_true rfl) rfl (gX_ok z) (fun p_ e_ R_ s_ m_ ar_ be_ me_ co_ Q_ A_ hR_ S_ hnm_ hQ_ => ?_)
  refine wk_aload_n (pc := 0) S_ 0 d_St_addBox_0 rfl rfl ?_
  refine wk_get (pc := 1) (v := .ref (a 6)) S_ 2 7 0 in_St rfl (by decide) rfl fl_St_27 d_St_addBox_1 rfl rfl ?_
  refine wk_aload_n (pc := 4) S_ 0 d_St_addBox_4 rfl rfl ?_
  refine wk_get (pc := 5) (v := .int (nI (nx))) S_ 2 10 0 in_St rfl (by decide) rfl fl_St_40 d_St_addBox_5 rfl rfl ?_
  refine wk_iload_n (pc := 8) S_ 1 d_St_addBox_8 rfl rfl ?_
  refine wk_iastN (pc := 9) (g := bg) (ws' := (wSt a cI cl gr sp rs aw nb na (va_up (bg) (nx) (w)) bb ab nx)) S_ 6 0 d_St_addBox_9 rfl rfl (by omega) (by decide) rfl ?_
  refine wk_aload_n (pc := 10) S_ 0 d_St_addBox_10 rfl rfl ?_
  refine wk_get (pc := 11) (v := .ref (a 7)) S_ 2 8 0 in_St rfl (by decide) rfl fl_St_30 d_St_addBox_11 rfl rfl ?_
  refine wk_aload_n (pc := 14) S_ 0 d_St_addBox_14 rfl rfl ?_
  refine wk_get (pc := 15) (v := .int (nI (nx))) S_ 2 10 0 in_St rfl (by decide) rfl fl_St_40 d_St_addBox_15 rfl rfl ?_
  refine wk_iload_n (pc := 18) S_ 2 d_St_addBox_18 rfl rfl ?_
  refine wk_iastN (pc := 19) (g := bb) (ws' := (wSt a cI cl gr sp rs aw nb na (va_up (bg) (nx) (w)) (va_up (bb) (nx) (k)) ab nx)) S_ 7 0 d_St_addBox_19 rfl rfl (by omega) (by decide) rfl ?_
  refine wk_aload_n (pc := 20) S_ 0 d_St_addBox_20 rfl rfl ?_
  refine wk_dup (pc := 21) S_ d_St_addBox_21 rfl ?_
  refine wk_get (pc := 22) (v := .int (nI (nx))) S_ 2 10 0 in_St rfl (by decide) rfl fl_St_40 d_St_addBox_22 rfl rfl ?_
  refine wk_iconst (pc := 25) (v := (nI (1))) S_ d_St_addBox_25 (by decide) ?_
  refine wk_iaddN (pc := 26) S_ d_St_addBox_26 ?_
  refine wk_put (pc := 27) (ty := .int) (ws' := (wSt a cI cl gr sp rs aw nb na (va_up (bg) (nx) (w)) (va_up (bb) (nx) (k)) ab ((nx) + (1)))) S_ 2 10 0 in_St t_St t_St_ok n_St rfl (by decide) rfl fl_St_40 (by decide +kernel) d_St_addBox_27 rfl rfl rfl (Nat.le_of_ble_eq_true rfl) rfl ?_
  refine wk_aload_n (pc := 30) S_ 0 d_St_addBox_30 rfl rfl ?_
  refine wk_get (pc := 31) (v := .int (nI ((nx) + (1)))) S_ 2 10 0 in_St rfl (by decide) rfl fl_St_40 d_St_addBox_31 rfl rfl ?_
  refine wk_iconst (pc := 34) (v := (nI (1))) S_ d_St_addBox_34 (by decide) ?_
  refine wk_isubN (pc := 35) S_ d_St_addBox_35 (by omega) ?_
  exact hQ_ (nI (((nx) + (1)) - (1))) () d_St_addBox_36 rfl rfl
set_option maxHeartbeats 4000000 in
set_option maxRecDepth 100000 in
theorem c_St_turnAway (l : Launch) (D : va_G) (cI : CiT) (z : GzT) (a : Nat → Nat) (cl : (Nat → Nat)) (gr : (Nat → Nat)) (sp : (Nat → Nat)) (rs : (Nat → Nat)) (aw : (Nat → Nat)) (nb : Nat) (na : Nat) (bg : (Nat → Nat)) (bb : (Nat → Nat)) (ab : (Nat → Nat)) (nx : Nat) (j : Nat) (q : Nat) (hj : j < 8) (hn : na < 8) : wk_C l D (tyK cI) (gX z) y_St_turnAway b_St_turnAway 3 (some .int) 0 0 0 0 [.ref (a 0), .int (nI (j)), .int (nI (q))] (wSt a cI cl gr sp rs aw nb na bg bb ab nx) wk_i (fun (r : Int32) (_ : Unit) => r = (nI (na + 1))) (fun _ => (wSt a cI cl gr sp (va_up rs j q) (va_up aw na j) nb (na + 1) bg bb ab nx)) := by
  refine wk_methI (own := R_St) [(0, .ref (a 0)), (1, .int (nI (j))), (2, .int (nI (q)))] (by decide) rfl (Nat.le_of_ble_eq_true rfl) rfl (gX_ok z) (fun p_ e_ R_ s_ m_ ar_ be_ me_ co_ Q_ A_ hR_ S_ hnm_ hQ_ => ?_)
  refine wk_aload_n (pc := 0) S_ 0 d_St_turnAway_0 rfl rfl ?_
  refine wk_get (pc := 1) (v := .ref (a 4)) S_ 2 3 0 in_St rfl (by decide) rfl fl_St_21 d_St_turnAway_1 rfl rfl ?_
  refine wk_iload_n (pc := 4) S_ 1 d_St_turnAway_4 rfl rfl ?_
  refine wk_iload_n (pc := 5) S_ 2 d_St_turnAway_5 rfl rfl ?_
  refine wk_iastN (pc := 6) (g := rs) (ws' := (wSt a cI cl gr sp (va_up (rs) (j) (q)) aw nb na bg bb ab nx)) S_ 4 0 d_St_turnAway_6 rfl rfl (by omega) (by decide) rfl ?_
  refine wk_aload_n (pc := 7) S_ 0 d_St_turnAway_7 rfl rfl ?_
  refine wk_get (pc := 8) (v := .ref (a 5)) S_ 2 4 0 in_St rfl (by decide) rfl fl_St_24 d_St_turnAway_8 rfl rfl ?_
  refine wk_aload_n (pc := 11) S_ 0 d_St_turnAway_11 rfl rfl ?_
  refine wk_get (pc := 12) (v := .int (nI (na))) S_ 2 6 0 in_St rfl (by decide) rfl fl_St_47 d_St_turnAway_12 rfl rfl ?_
  refine wk_iload_n (pc := 15) S_ 1 d_St_turnAway_15 rfl rfl ?_
  refine wk_iastN (pc := 16) (g := aw) (ws' := (wSt a cI cl gr sp (va_up (rs) (j) (q)) (va_up (aw) (na) (j)) nb na bg bb ab nx)) S_ 5 0 d_St_turnAway_16 rfl rfl (by omega) (by decide) rfl ?_
  refine wk_aload_n (pc := 17) S_ 0 d_St_turnAway_17 rfl rfl ?_
  refine wk_dup (pc := 18) S_ d_St_turnAway_18 rfl ?_
  refine wk_get (pc := 19) (v := .int (nI (na))) S_ 2 6 0 in_St rfl (by decide) rfl fl_St_47 d_St_turnAway_19 rfl rfl ?_
  refine wk_iconst (pc := 22) (v := (nI (1))) S_ d_St_turnAway_22 (by decide) ?_
  refine wk_iaddN (pc := 23) S_ d_St_turnAway_23 ?_
  refine wk_put (pc := 24) (ty := .int) (ws' := (wSt a cI cl gr sp (va_up (rs) (j) (q)) (va_up (aw) (na) (j)) nb ((na) + (1)) bg bb ab nx)) S_ 2 6 0 in_St t_St t_St_ok n_St rfl (by decide) rfl fl_St_47 (by decide +kernel) d_St_turnAway_24 rfl rfl rfl (Nat.le_of_ble_eq_true rfl) rfl ?_
  refine wk_aload_n (pc := 27) S_ 0 d_St_turnAway_27 rfl rfl ?_
  refine wk_get (pc := 28) (v := .int (nI ((na) + (1)))) S_ 2 6 0 in_St rfl (by decide) rfl fl_St_47 d_St_turnAway_28 rfl rfl ?_
  exact hQ_ (nI ((na) + (1))) () d_St_turnAway_31 rfl rfl
