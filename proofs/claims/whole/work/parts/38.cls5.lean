def exF (fit : Nat → Bool) : Nat → Bool
  | 0 => false
  | x + 1 => exF fit x || fit x
def efS (fit : Nat → Nat → Bool) (qu : Nat → Nat) (nx : Nat) : Nat → Bool
  | 0 => true
  | i + 1 => efS fit qu nx i && exF (fit (qu i)) nx
theorem efS_f {fit : Nat → Nat → Bool} {qu : Nat → Nat} {nx i : Nat} (h : exF (fit (qu i)) nx = false) : ∀ n, i < n → efS fit qu nx n = false
  | 0, h0 => absurd h0 (Nat.not_lt_zero _)
  | n + 1, h0 => by
    rw [efS]
    by_cases e : i = n
    · subst e; rw [h, Bool.and_false]
    · rw [efS_f h n (by omega), Bool.false_and]
def otC (rs : Nat → Nat) : Nat → Bool := fun b => decide (rs b ≠ 0)
theorem pkL_nb {ot : Nat → Bool} {cl li : Nat → Nat} {nb : Nat} : ∀ k, pkL ot cl nb li (nb + k) = pkL ot cl nb li nb
  | 0 => rfl
  | k + 1 => by
    rw [show nb + (k + 1) = (nb + k) + 1 by omega, pkL, if_neg (by omega)]
    exact pkL_nb k
/-- what a search comes to: the answer, the boxes, whether one was ever found -/
def scA (ap cl gr bg bb ab qu : Nat → Nat) (nx n : Nat) (be : Nat → Nat) : PcT := if efS (fun j x => fitB ap cl gr bg bb ab (fun _ => 0) (fun _ => 0) (fun _ => 0) j x) qu nx n = true then pcF ap cl gr bg bb ab qu nx n 0 (fun _ => 0) (fun _ => 0) (fun _ => 0) (fun _ => 0, be, 6) 0 else (fun _ => 0, be, 6)
theorem scA_le (ap cl gr bg bb ab qu : Nat → Nat) (nx : Nat) (be : Nat → Nat) {n : Nat} (h : n ≤ 8) : (scA ap cl gr bg bb ab qu nx n be).2.2 ≤ 8 := by
  unfold scA
  split
  · exact pcF_le n 0 _ _ _ _ 0 (by show 6 ≤ 8; omega) (by omega)
  · show 6 ≤ 8
    omega
def scS (ap cl gr bg bb ab qu : Nat → Nat) (nx n : Nat) (be : Nat → Nat) (x : Int64) (bx : Nat → Nat) (fd : Bool) : Int32 × (Nat → Nat) × Bool :=
  if x < lN (nx ^ n) then (-1, bx, fd)
  else if 5 < (scA ap cl gr bg bb ab qu nx n be).2.2 then (-1, bx, fd)
  else (nI (scA ap cl gr bg bb ab qu nx n be).2.2, va_cpy (scA ap cl gr bg bb ab qu nx n be).2.1 bx 0 0 8, true)
/-- the boxes are filled anew, bottle by bottle: r are left, from b on -/
def stS (ap cl gr bg bb ab rs bx : Nat → Nat) : Nat → Nat → (Nat → Nat) → (Nat → Nat) → (Nat → Nat) → Bool
  | 0, _, _, _, _ => true
  | r + 1, b, gi, bi, ki =>
    if decide (rs b = 0 ∧ cl b ≠ 0) = decide (bx b ≠ 0) then
      (if bx b = 0 then stS ap cl gr bg bb ab rs bx r (b + 1) gi bi ki
       else if fitB ap cl gr bg bb ab gi bi ki b (bx b - 1) = true then stS ap cl gr bg bb ab rs bx r (b + 1) (va_up gi (bx b - 1) (gi (bx b - 1) + gr b)) (va_up bi (bx b - 1) (bi (bx b - 1) + 1)) (va_up ki (bx b - 1) (ki (bx b - 1) ||| 2 ^ (cl b - 1)))
       else false)
    else false
theorem fl_Pk_76 : Cond.fieldLink R_Pk 76 R_St "bottles" "I" ∈ lw_gd := (gd _ (tb0 _ (List.mem_of_getElem? (i := 73) rfl)) rfl)
theorem mv_Pk_79 : wk_V R_Pk 79 R_St y_St_isToBePacked b_St_isToBePacked 2 (some .boolean) 1 := ⟨(gd _ (tb1 _ (List.mem_of_getElem? (i := 211) rfl)) rfl), (gd _ (tb0 _ (List.mem_of_getElem? (i := 3) rfl)) rfl), (gd _ (tb1 _ (List.mem_of_getElem? (i := 208) rfl)) rfl), (by decide +kernel), (gd _ (tb1 _ (List.mem_of_getElem? (i := 209) rfl)) rfl), (gd _ (tb1 _ (List.mem_of_getElem? (i := 210) rfl)) rfl)⟩
theorem d_Pk_lineUp_0 : decode b_Pk_lineUp 0 = .ok (.aload_n 0, 1) := by decide +kernel
theorem d_Pk_lineUp_1 : decode b_Pk_lineUp 1 = .ok (.iconst 0, 1) := by decide +kernel
theorem d_Pk_lineUp_2 : decode b_Pk_lineUp 2 = .ok (.putfield 91, 3) := by decide +kernel
theorem d_Pk_lineUp_5 : decode b_Pk_lineUp 5 = .ok (.aload_n 0, 1) := by decide +kernel
theorem d_Pk_lineUp_6 : decode b_Pk_lineUp 6 = .ok (.getfield 24, 3) := by decide +kernel
theorem d_Pk_lineUp_9 : decode b_Pk_lineUp 9 = .ok (.iconst (-1), 1) := by decide +kernel
theorem d_Pk_lineUp_10 : decode b_Pk_lineUp 10 = .ok (.invokestatic 33, 3) := by decide +kernel
theorem d_Pk_lineUp_13 : decode b_Pk_lineUp 13 = .ok (.iconst 0, 1) := by decide +kernel
theorem d_Pk_lineUp_14 : decode b_Pk_lineUp 14 = .ok (.istore_n 2, 1) := by decide +kernel
theorem d_Pk_lineUp_15 : decode b_Pk_lineUp 15 = .ok (.iload_n 2, 1) := by decide +kernel
theorem d_Pk_lineUp_16 : decode b_Pk_lineUp 16 = .ok (.aload_n 1, 1) := by decide +kernel
theorem d_Pk_lineUp_17 : decode b_Pk_lineUp 17 = .ok (.getfield 76, 3) := by decide +kernel
theorem d_Pk_lineUp_20 : decode b_Pk_lineUp 20 = .ok (.if_icmp .ge 37, 3) := by decide +kernel
theorem d_Pk_lineUp_23 : decode b_Pk_lineUp 23 = .ok (.aload_n 1, 1) := by decide +kernel
theorem d_Pk_lineUp_24 : decode b_Pk_lineUp 24 = .ok (.iload_n 2, 1) := by decide +kernel
theorem d_Pk_lineUp_25 : decode b_Pk_lineUp 25 = .ok (.invokevirtual 79, 3) := by decide +kernel
theorem d_Pk_lineUp_28 : decode b_Pk_lineUp 28 = .ok (.ifCond .eq 23, 3) := by decide +kernel
theorem d_Pk_lineUp_31 : decode b_Pk_lineUp 31 = .ok (.aload_n 0, 1) := by decide +kernel
theorem d_Pk_lineUp_32 : decode b_Pk_lineUp 32 = .ok (.getfield 21, 3) := by decide +kernel
theorem d_Pk_lineUp_35 : decode b_Pk_lineUp 35 = .ok (.aload_n 0, 1) := by decide +kernel
theorem d_Pk_lineUp_36 : decode b_Pk_lineUp 36 = .ok (.getfield 91, 3) := by decide +kernel
theorem d_Pk_lineUp_39 : decode b_Pk_lineUp 39 = .ok (.iload_n 2, 1) := by decide +kernel
theorem d_Pk_lineUp_40 : decode b_Pk_lineUp 40 = .ok (.iastore, 1) := by decide +kernel
theorem d_Pk_lineUp_41 : decode b_Pk_lineUp 41 = .ok (.aload_n 0, 1) := by decide +kernel
theorem d_Pk_lineUp_42 : decode b_Pk_lineUp 42 = .ok (.dup, 1) := by decide +kernel
theorem d_Pk_lineUp_43 : decode b_Pk_lineUp 43 = .ok (.getfield 91, 3) := by decide +kernel
theorem d_Pk_lineUp_46 : decode b_Pk_lineUp 46 = .ok (.iconst 1, 1) := by decide +kernel
theorem d_Pk_lineUp_47 : decode b_Pk_lineUp 47 = .ok (.iadd, 1) := by decide +kernel
theorem d_Pk_lineUp_48 : decode b_Pk_lineUp 48 = .ok (.putfield 91, 3) := by decide +kernel
theorem d_Pk_lineUp_51 : decode b_Pk_lineUp 51 = .ok (.iinc 2 1, 3) := by decide +kernel
theorem d_Pk_lineUp_54 : decode b_Pk_lineUp 54 = .ok (.goto (-39), 3) := by decide +kernel
theorem d_Pk_lineUp_57 : decode b_Pk_lineUp 57 = .ok (.return_, 1) := by decide +kernel
theorem d_Pk_eachFitsAlone_0 : decode b_Pk_eachFitsAlone 0 = .ok (.iconst 0, 1) := by decide +kernel
theorem d_Pk_eachFitsAlone_1 : decode b_Pk_eachFitsAlone 1 = .ok (.istore_n 3, 1) := by decide +kernel
theorem d_Pk_eachFitsAlone_2 : decode b_Pk_eachFitsAlone 2 = .ok (.iload_n 3, 1) := by decide +kernel
theorem d_Pk_eachFitsAlone_3 : decode b_Pk_eachFitsAlone 3 = .ok (.aload_n 0, 1) := by decide +kernel
theorem d_Pk_eachFitsAlone_4 : decode b_Pk_eachFitsAlone 4 = .ok (.getfield 91, 3) := by decide +kernel
theorem d_Pk_eachFitsAlone_7 : decode b_Pk_eachFitsAlone 7 = .ok (.if_icmp .ge 66, 3) := by decide +kernel
theorem d_Pk_eachFitsAlone_10 : decode b_Pk_eachFitsAlone 10 = .ok (.iconst 0, 1) := by decide +kernel
theorem d_Pk_eachFitsAlone_11 : decode b_Pk_eachFitsAlone 11 = .ok (.istore 4, 2) := by decide +kernel
theorem d_Pk_eachFitsAlone_13 : decode b_Pk_eachFitsAlone 13 = .ok (.iconst 0, 1) := by decide +kernel
theorem d_Pk_eachFitsAlone_14 : decode b_Pk_eachFitsAlone 14 = .ok (.istore 5, 2) := by decide +kernel
theorem d_Pk_eachFitsAlone_16 : decode b_Pk_eachFitsAlone 16 = .ok (.iload 5, 2) := by decide +kernel
theorem d_Pk_eachFitsAlone_18 : decode b_Pk_eachFitsAlone 18 = .ok (.aload_n 1, 1) := by decide +kernel
theorem d_Pk_eachFitsAlone_19 : decode b_Pk_eachFitsAlone 19 = .ok (.getfield 43, 3) := by decide +kernel
theorem d_Pk_eachFitsAlone_22 : decode b_Pk_eachFitsAlone 22 = .ok (.if_icmp .ge 38, 3) := by decide +kernel
theorem d_Pk_eachFitsAlone_25 : decode b_Pk_eachFitsAlone 25 = .ok (.iload 4, 2) := by decide +kernel
theorem d_Pk_eachFitsAlone_27 : decode b_Pk_eachFitsAlone 27 = .ok (.ifCond .ne 20, 3) := by decide +kernel
theorem d_Pk_eachFitsAlone_30 : decode b_Pk_eachFitsAlone 30 = .ok (.aload_n 0, 1) := by decide +kernel
theorem d_Pk_eachFitsAlone_31 : decode b_Pk_eachFitsAlone 31 = .ok (.aload_n 1, 1) := by decide +kernel
theorem d_Pk_eachFitsAlone_32 : decode b_Pk_eachFitsAlone 32 = .ok (.aload_n 2, 1) := by decide +kernel
theorem d_Pk_eachFitsAlone_33 : decode b_Pk_eachFitsAlone 33 = .ok (.aload_n 0, 1) := by decide +kernel
theorem d_Pk_eachFitsAlone_34 : decode b_Pk_eachFitsAlone 34 = .ok (.getfield 21, 3) := by decide +kernel
theorem d_Pk_eachFitsAlone_37 : decode b_Pk_eachFitsAlone 37 = .ok (.iload_n 3, 1) := by decide +kernel
theorem d_Pk_eachFitsAlone_38 : decode b_Pk_eachFitsAlone 38 = .ok (.iaload, 1) := by decide +kernel
theorem d_Pk_eachFitsAlone_39 : decode b_Pk_eachFitsAlone 39 = .ok (.iload 5, 2) := by decide +kernel
theorem d_Pk_eachFitsAlone_41 : decode b_Pk_eachFitsAlone 41 = .ok (.invokevirtual 83, 3) := by decide +kernel
theorem d_Pk_eachFitsAlone_44 : decode b_Pk_eachFitsAlone 44 = .ok (.ifCond .eq 7, 3) := by decide +kernel
theorem d_Pk_eachFitsAlone_47 : decode b_Pk_eachFitsAlone 47 = .ok (.iconst 1, 1) := by decide +kernel
theorem d_Pk_eachFitsAlone_48 : decode b_Pk_eachFitsAlone 48 = .ok (.goto 4, 3) := by decide +kernel
theorem d_Pk_eachFitsAlone_51 : decode b_Pk_eachFitsAlone 51 = .ok (.iconst 0, 1) := by decide +kernel
theorem d_Pk_eachFitsAlone_52 : decode b_Pk_eachFitsAlone 52 = .ok (.istore 4, 2) := by decide +kernel
theorem d_Pk_eachFitsAlone_54 : decode b_Pk_eachFitsAlone 54 = .ok (.iinc 5 1, 3) := by decide +kernel
theorem d_Pk_eachFitsAlone_57 : decode b_Pk_eachFitsAlone 57 = .ok (.goto (-41), 3) := by decide +kernel
theorem d_Pk_eachFitsAlone_60 : decode b_Pk_eachFitsAlone 60 = .ok (.iload 4, 2) := by decide +kernel
theorem d_Pk_eachFitsAlone_62 : decode b_Pk_eachFitsAlone 62 = .ok (.ifCond .ne 5, 3) := by decide +kernel
theorem d_Pk_eachFitsAlone_65 : decode b_Pk_eachFitsAlone 65 = .ok (.iconst 0, 1) := by decide +kernel
theorem d_Pk_eachFitsAlone_66 : decode b_Pk_eachFitsAlone 66 = .ok (.ireturn, 1) := by decide +kernel
theorem d_Pk_eachFitsAlone_67 : decode b_Pk_eachFitsAlone 67 = .ok (.iinc 3 1, 3) := by decide +kernel
theorem d_Pk_eachFitsAlone_70 : decode b_Pk_eachFitsAlone 70 = .ok (.goto (-68), 3) := by decide +kernel
theorem d_Pk_eachFitsAlone_73 : decode b_Pk_eachFitsAlone 73 = .ok (.iconst 1, 1) := by decide +kernel
theorem d_Pk_eachFitsAlone_74 : decode b_Pk_eachFitsAlone 74 = .ok (.ireturn, 1) := by decide +kernel
theorem fl_Pk_72 : Cond.fieldLink R_Pk 72 R_Pk "found" "Z" ∈ lw_gd := (gd _ (tb0 _ (List.mem_of_getElem? (i := 129) rfl)) rfl)
theorem mv_Pk_52 : wk_V R_Pk 52 R_Pk y_Pk_emptyBoxes b_Pk_emptyBoxes 1 none 0 := ⟨(gd _ (tb1 _ (List.mem_of_getElem? (i := 223) rfl)) rfl), (gd _ (tb0 _ (List.mem_of_getElem? (i := 4) rfl)) rfl), (gd _ (tb1 _ (List.mem_of_getElem? (i := 220) rfl)) rfl), (by decide +kernel), (gd _ (tb1 _ (List.mem_of_getElem? (i := 222) rfl)) rfl), (gd _ (List.mem_append_left _ (by decide +kernel)) rfl)⟩
theorem fl_Pk_30 : Cond.fieldLink R_Pk 30 R_Pk "boxes" "[I" ∈ lw_gd := (gd _ (tb0 _ (List.mem_of_getElem? (i := 127) rfl)) rfl)
theorem d_Pk_stillHolds_0 : decode b_Pk_stillHolds 0 = .ok (.aload_n 0, 1) := by decide +kernel
theorem d_Pk_stillHolds_1 : decode b_Pk_stillHolds 1 = .ok (.getfield 72, 3) := by decide +kernel
theorem d_Pk_stillHolds_4 : decode b_Pk_stillHolds 4 = .ok (.ifCond .ne 5, 3) := by decide +kernel
theorem d_Pk_stillHolds_7 : decode b_Pk_stillHolds 7 = .ok (.iconst 0, 1) := by decide +kernel
theorem d_Pk_stillHolds_8 : decode b_Pk_stillHolds 8 = .ok (.ireturn, 1) := by decide +kernel
theorem d_Pk_stillHolds_9 : decode b_Pk_stillHolds 9 = .ok (.aload_n 0, 1) := by decide +kernel
theorem d_Pk_stillHolds_10 : decode b_Pk_stillHolds 10 = .ok (.invokevirtual 52, 3) := by decide +kernel
theorem d_Pk_stillHolds_13 : decode b_Pk_stillHolds 13 = .ok (.iconst 0, 1) := by decide +kernel
theorem d_Pk_stillHolds_14 : decode b_Pk_stillHolds 14 = .ok (.istore_n 3, 1) := by decide +kernel
theorem d_Pk_stillHolds_15 : decode b_Pk_stillHolds 15 = .ok (.iload_n 3, 1) := by decide +kernel
theorem d_Pk_stillHolds_16 : decode b_Pk_stillHolds 16 = .ok (.aload_n 1, 1) := by decide +kernel
theorem d_Pk_stillHolds_17 : decode b_Pk_stillHolds 17 = .ok (.getfield 76, 3) := by decide +kernel
theorem d_Pk_stillHolds_20 : decode b_Pk_stillHolds 20 = .ok (.if_icmp .ge 66, 3) := by decide +kernel
theorem d_Pk_stillHolds_23 : decode b_Pk_stillHolds 23 = .ok (.aload_n 0, 1) := by decide +kernel
theorem d_Pk_stillHolds_24 : decode b_Pk_stillHolds 24 = .ok (.getfield 30, 3) := by decide +kernel
theorem d_Pk_stillHolds_27 : decode b_Pk_stillHolds 27 = .ok (.iload_n 3, 1) := by decide +kernel
theorem d_Pk_stillHolds_28 : decode b_Pk_stillHolds 28 = .ok (.iaload, 1) := by decide +kernel
theorem d_Pk_stillHolds_29 : decode b_Pk_stillHolds 29 = .ok (.istore 4, 2) := by decide +kernel
theorem d_Pk_stillHolds_31 : decode b_Pk_stillHolds 31 = .ok (.aload_n 1, 1) := by decide +kernel
theorem d_Pk_stillHolds_32 : decode b_Pk_stillHolds 32 = .ok (.iload_n 3, 1) := by decide +kernel
theorem d_Pk_stillHolds_33 : decode b_Pk_stillHolds 33 = .ok (.invokevirtual 79, 3) := by decide +kernel
theorem d_Pk_stillHolds_36 : decode b_Pk_stillHolds 36 = .ok (.iload 4, 2) := by decide +kernel
theorem d_Pk_stillHolds_38 : decode b_Pk_stillHolds 38 = .ok (.iconst (-1), 1) := by decide +kernel
theorem d_Pk_stillHolds_39 : decode b_Pk_stillHolds 39 = .ok (.if_icmp .eq 7, 3) := by decide +kernel
theorem d_Pk_stillHolds_42 : decode b_Pk_stillHolds 42 = .ok (.iconst 1, 1) := by decide +kernel
theorem d_Pk_stillHolds_43 : decode b_Pk_stillHolds 43 = .ok (.goto 4, 3) := by decide +kernel
theorem d_Pk_stillHolds_46 : decode b_Pk_stillHolds 46 = .ok (.iconst 0, 1) := by decide +kernel
theorem d_Pk_stillHolds_47 : decode b_Pk_stillHolds 47 = .ok (.if_icmp .eq 5, 3) := by decide +kernel
theorem d_Pk_stillHolds_50 : decode b_Pk_stillHolds 50 = .ok (.iconst 0, 1) := by decide +kernel
theorem d_Pk_stillHolds_51 : decode b_Pk_stillHolds 51 = .ok (.ireturn, 1) := by decide +kernel
theorem d_Pk_stillHolds_52 : decode b_Pk_stillHolds 52 = .ok (.iload 4, 2) := by decide +kernel
theorem d_Pk_stillHolds_54 : decode b_Pk_stillHolds 54 = .ok (.iconst (-1), 1) := by decide +kernel
theorem d_Pk_stillHolds_55 : decode b_Pk_stillHolds 55 = .ok (.if_icmp .eq 25, 3) := by decide +kernel
theorem d_Pk_stillHolds_58 : decode b_Pk_stillHolds 58 = .ok (.aload_n 0, 1) := by decide +kernel
theorem d_Pk_stillHolds_59 : decode b_Pk_stillHolds 59 = .ok (.aload_n 1, 1) := by decide +kernel
theorem d_Pk_stillHolds_60 : decode b_Pk_stillHolds 60 = .ok (.aload_n 2, 1) := by decide +kernel
theorem d_Pk_stillHolds_61 : decode b_Pk_stillHolds 61 = .ok (.iload_n 3, 1) := by decide +kernel
theorem d_Pk_stillHolds_62 : decode b_Pk_stillHolds 62 = .ok (.iload 4, 2) := by decide +kernel
theorem d_Pk_stillHolds_64 : decode b_Pk_stillHolds 64 = .ok (.invokevirtual 83, 3) := by decide +kernel
theorem d_Pk_stillHolds_67 : decode b_Pk_stillHolds 67 = .ok (.ifCond .ne 5, 3) := by decide +kernel
theorem d_Pk_stillHolds_70 : decode b_Pk_stillHolds 70 = .ok (.iconst 0, 1) := by decide +kernel
theorem d_Pk_stillHolds_71 : decode b_Pk_stillHolds 71 = .ok (.ireturn, 1) := by decide +kernel
theorem d_Pk_stillHolds_72 : decode b_Pk_stillHolds 72 = .ok (.aload_n 0, 1) := by decide +kernel
theorem d_Pk_stillHolds_73 : decode b_Pk_stillHolds 73 = .ok (.aload_n 1, 1) := by decide +kernel
theorem d_Pk_stillHolds_74 : decode b_Pk_stillHolds 74 = .ok (.iload_n 3, 1) := by decide +kernel
theorem d_Pk_stillHolds_75 : decode b_Pk_stillHolds 75 = .ok (.iload 4, 2) := by decide +kernel
theorem d_Pk_stillHolds_77 : decode b_Pk_stillHolds 77 = .ok (.invokevirtual 87, 3) := by decide +kernel
theorem d_Pk_stillHolds_80 : decode b_Pk_stillHolds 80 = .ok (.iinc 3 1, 3) := by decide +kernel
theorem d_Pk_stillHolds_83 : decode b_Pk_stillHolds 83 = .ok (.goto (-68), 3) := by decide +kernel
theorem d_Pk_stillHolds_86 : decode b_Pk_stillHolds 86 = .ok (.iconst 1, 1) := by decide +kernel
theorem d_Pk_stillHolds_87 : decode b_Pk_stillHolds 87 = .ok (.ireturn, 1) := by decide +kernel
theorem mv_Pk_39 : wk_V R_Pk 39 R_Pk y_Pk_lineUp b_Pk_lineUp 3 none 1 := ⟨(gd _ (tb1 _ (List.mem_of_getElem? (i := 207) rfl)) rfl), (gd _ (tb0 _ (List.mem_of_getElem? (i := 4) rfl)) rfl), (gd _ (tb1 _ (List.mem_of_getElem? (i := 204) rfl)) rfl), (by decide +kernel), (gd _ (tb1 _ (List.mem_of_getElem? (i := 206) rfl)) rfl), (gd _ (List.mem_append_left _ (by decide +kernel)) rfl)⟩
theorem mv_Pk_48 : wk_V R_Pk 48 R_Pk y_Pk_countWays b_Pk_countWays 5 (some .long) 1 := ⟨(gd _ (tb1 _ (List.mem_of_getElem? (i := 219) rfl)) rfl), (gd _ (tb0 _ (List.mem_of_getElem? (i := 4) rfl)) rfl), (gd _ (tb1 _ (List.mem_of_getElem? (i := 216) rfl)) rfl), (by decide +kernel), (gd _ (tb1 _ (List.mem_of_getElem? (i := 218) rfl)) rfl), (gd _ (List.mem_append_left _ (by decide +kernel)) rfl)⟩
theorem mv_Pk_58 : wk_V R_Pk 58 R_Pk y_Pk_eachFitsAlone b_Pk_eachFitsAlone 6 (some .boolean) 2 := ⟨(gd _ (tb1 _ (List.mem_of_getElem? (i := 227) rfl)) rfl), (gd _ (tb0 _ (List.mem_of_getElem? (i := 4) rfl)) rfl), (gd _ (tb1 _ (List.mem_of_getElem? (i := 224) rfl)) rfl), (by decide +kernel), (gd _ (tb1 _ (List.mem_of_getElem? (i := 226) rfl)) rfl), (gd _ (List.mem_append_left _ (by decide +kernel)) rfl)⟩
theorem d_Pk_search_0 : decode b_Pk_search 0 = .ok (.aload_n 0, 1) := by decide +kernel
theorem d_Pk_search_1 : decode b_Pk_search 1 = .ok (.aload_n 1, 1) := by decide +kernel
theorem d_Pk_search_2 : decode b_Pk_search 2 = .ok (.invokevirtual 39, 3) := by decide +kernel
theorem d_Pk_search_5 : decode b_Pk_search 5 = .ok (.aload_n 0, 1) := by decide +kernel
theorem d_Pk_search_6 : decode b_Pk_search 6 = .ok (.aload_n 1, 1) := by decide +kernel
theorem d_Pk_search_7 : decode b_Pk_search 7 = .ok (.getfield 43, 3) := by decide +kernel
theorem d_Pk_search_10 : decode b_Pk_search 10 = .ok (.invokevirtual 48, 3) := by decide +kernel
theorem d_Pk_search_13 : decode b_Pk_search 13 = .ok (.lload_n 3, 1) := by decide +kernel
theorem d_Pk_search_14 : decode b_Pk_search 14 = .ok (.lcmp, 1) := by decide +kernel
theorem d_Pk_search_15 : decode b_Pk_search 15 = .ok (.ifCond .le 5, 3) := by decide +kernel
theorem d_Pk_search_18 : decode b_Pk_search 18 = .ok (.iconst (-1), 1) := by decide +kernel
theorem d_Pk_search_19 : decode b_Pk_search 19 = .ok (.ireturn, 1) := by decide +kernel
theorem d_Pk_search_20 : decode b_Pk_search 20 = .ok (.aload_n 0, 1) := by decide +kernel
theorem d_Pk_search_21 : decode b_Pk_search 21 = .ok (.invokevirtual 52, 3) := by decide +kernel
theorem d_Pk_search_24 : decode b_Pk_search 24 = .ok (.aload_n 0, 1) := by decide +kernel
theorem d_Pk_search_25 : decode b_Pk_search 25 = .ok (.bipush 6, 2) := by decide +kernel
theorem d_Pk_search_27 : decode b_Pk_search 27 = .ok (.putfield 55, 3) := by decide +kernel
theorem d_Pk_search_30 : decode b_Pk_search 30 = .ok (.aload_n 0, 1) := by decide +kernel
theorem d_Pk_search_31 : decode b_Pk_search 31 = .ok (.aload_n 1, 1) := by decide +kernel
theorem d_Pk_search_32 : decode b_Pk_search 32 = .ok (.aload_n 2, 1) := by decide +kernel
theorem d_Pk_search_33 : decode b_Pk_search 33 = .ok (.invokevirtual 58, 3) := by decide +kernel
theorem d_Pk_search_36 : decode b_Pk_search 36 = .ok (.ifCond .eq 11, 3) := by decide +kernel
theorem d_Pk_search_39 : decode b_Pk_search 39 = .ok (.aload_n 0, 1) := by decide +kernel
theorem d_Pk_search_40 : decode b_Pk_search 40 = .ok (.aload_n 1, 1) := by decide +kernel
theorem d_Pk_search_41 : decode b_Pk_search 41 = .ok (.aload_n 2, 1) := by decide +kernel
theorem d_Pk_search_42 : decode b_Pk_search 42 = .ok (.iconst 0, 1) := by decide +kernel
theorem d_Pk_search_43 : decode b_Pk_search 43 = .ok (.iconst 0, 1) := by decide +kernel
theorem d_Pk_search_44 : decode b_Pk_search 44 = .ok (.invokestatic 62, 3) := by decide +kernel
theorem d_Pk_search_47 : decode b_Pk_search 47 = .ok (.aload_n 0, 1) := by decide +kernel
theorem d_Pk_search_48 : decode b_Pk_search 48 = .ok (.getfield 55, 3) := by decide +kernel
theorem d_Pk_search_51 : decode b_Pk_search 51 = .ok (.iconst 5, 1) := by decide +kernel
theorem d_Pk_search_52 : decode b_Pk_search 52 = .ok (.if_icmp .le 5, 3) := by decide +kernel
theorem d_Pk_search_55 : decode b_Pk_search 55 = .ok (.iconst (-1), 1) := by decide +kernel
theorem d_Pk_search_56 : decode b_Pk_search 56 = .ok (.ireturn, 1) := by decide +kernel
theorem d_Pk_search_57 : decode b_Pk_search 57 = .ok (.aload_n 0, 1) := by decide +kernel
theorem d_Pk_search_58 : decode b_Pk_search 58 = .ok (.getfield 27, 3) := by decide +kernel
theorem d_Pk_search_61 : decode b_Pk_search 61 = .ok (.iconst 0, 1) := by decide +kernel
theorem d_Pk_search_62 : decode b_Pk_search 62 = .ok (.aload_n 0, 1) := by decide +kernel
theorem d_Pk_search_63 : decode b_Pk_search 63 = .ok (.getfield 30, 3) := by decide +kernel
theorem d_Pk_search_66 : decode b_Pk_search 66 = .ok (.iconst 0, 1) := by decide +kernel
theorem d_Pk_search_67 : decode b_Pk_search 67 = .ok (.bipush 8, 2) := by decide +kernel
theorem d_Pk_search_69 : decode b_Pk_search 69 = .ok (.invokestatic 66, 3) := by decide +kernel
theorem d_Pk_search_72 : decode b_Pk_search 72 = .ok (.aload_n 0, 1) := by decide +kernel
theorem d_Pk_search_73 : decode b_Pk_search 73 = .ok (.iconst 1, 1) := by decide +kernel
theorem d_Pk_search_74 : decode b_Pk_search 74 = .ok (.putfield 72, 3) := by decide +kernel
theorem d_Pk_search_77 : decode b_Pk_search 77 = .ok (.aload_n 0, 1) := by decide +kernel
theorem d_Pk_search_78 : decode b_Pk_search 78 = .ok (.getfield 55, 3) := by decide +kernel
theorem d_Pk_search_81 : decode b_Pk_search 81 = .ok (.ireturn, 1) := by decide +kernel
set_option maxHeartbeats 4000000 in
set_option maxRecDepth 100000 in
theorem c_Pk_lineUp (l : Launch) (D : va_G) (cI : CiT) (z : GzT) (k : Nat → Nat) (s : Nat → Nat) (b : Nat → Nat) (gi : (Nat → Nat)) (bi : (Nat → Nat)) (ki : (Nat → Nat)) (qu : (Nat → Nat)) (wt : Nat) (tr : (Nat → Nat)) (be : (Nat → Nat)) (fw : Nat) (fd : Bool) (cl : (Nat → Nat)) (gr : (Nat → Nat)) (sp : (Nat → Nat)) (rs : (Nat → Nat)) (aw : (Nat → Nat)) (nb : Nat) (na : Nat) (bg : (Nat → Nat)) (bb : (Nat → Nat)) (ab : (Nat → Nat)) (nx : Nat) (hnb : nb ≤ 8) (hqu : ∀ k, qu k < 8) (hrs : ∀ b, rs b ≤ 9) (hcl : ∀ b, cl b ≤ 9) : wk_C l D (tyK cI) (gX z) y_Pk_lineUp b_Pk_lineUp 3 none 2 42 0 0 [.ref (k 0), .ref (s 0)] (wPk k cI (b 0) gi bi ki qu wt tr be fw fd ++ (wSt s cI cl gr sp rs aw nb na bg bb ab nx)) wk_v (fun (_ : Unit) (_ : Unit) => True) (fun _ => (wPk k cI (b 0) gi bi ki ((pkL (otC rs) cl nb qu nb).1) ((pkL (otC rs) cl nb qu nb).2) (fun _ => 0) be fw fd ++ (wSt s cI cl gr sp rs aw nb na bg bb ab nx))) := by
  refine wk_methV (own := R_Pk) [(0, .ref (k 0)), (1, .ref (s 0))] (by decide) rfl (Nat.le_of_ble_eq_true rfl) rfl (gX_ok z) (fun p_ e_ R_ s_ m_ ar_ be_ me_ co_ Q_ A_ hR_ S_ hnm_ hQ_ => ?_)
  refine wk_aload_n (pc := 0) S_ 0 d_Pk_lineUp_0 rfl rfl ?_
  refine wk_iconst (pc := 1) (v := (nI (0))) S_ d_Pk_lineUp_1 (by decide) ?_
  refine wk_put (pc := 2) (ty := .int) (ws' := (wPk k cI (b 0) gi bi ki qu 0 tr be fw fd ++ (wSt s cI cl gr sp rs aw nb na bg bb ab nx))) S_ 3 4 0 in_Pk t_Pk t_Pk_ok n_Pk rfl (by decide) rfl fl_Pk_91 (by decide +kernel) d_Pk_lineUp_2 rfl rfl rfl (Nat.le_of_ble_eq_true rfl) rfl ?_
  refine wk_aload_n (pc := 5) S_ 0 d_Pk_lineUp_5 rfl rfl ?_
  refine wk_get (pc := 6) (v := .ref (k 5)) S_ 3 5 0 in_Pk rfl (by decide) rfl fl_Pk_24 d_Pk_lineUp_6 rfl rfl ?_
  refine wk_iconst (pc := 9) (v := (-1)) S_ d_Pk_lineUp_9 (by decide) ?_
  refine wk_top (y := zI 0) zI_0.symm ?_
  refine wk_run (pc := 10) (rest := []) (wr := [(k 0, .inr (3, [.ref (k 1), .ref (k 2), .ref (k 3), .ref (k 4), .int (nI (0)), .ref (k 5), .ref (k 6), .int (nI (fw)), .ref (b 0), .int (bI (fd))])), (k 1, .inl (cI.1, 5, .inl (nF (gi)))), (k 2, .inl (cI.1, 5, .inl (nF (bi)))), (k 3, .inl (cI.1, 5, .inl (nF (ki)))), (k 4, .inl (cI.1, 8, .inl (nF (qu)))), (k 6, .inl (cI.1, 8, .inl (zF (be)))), (s 0, .inr (2, [.ref (s 1), .ref (s 2), .ref (s 3), .ref (s 4), .ref (s 5), .int (nI (nb)), .int (nI (na)), .ref (s 6), .ref (s 7), .ref (s 8), .int (nI (nx))])), (s 1, .inl (cI.1, 8, .inl (zF (cl)))), (s 2, .inl (cI.1, 8, .inl (nF (gr)))), (s 3, .inl (cI.1, 8, .inl (nF (sp)))), (s 4, .inl (cI.1, 8, .inl (nF (rs)))), (s 5, .inl (cI.1, 8, .inl (nF (aw)))), (s 6, .inl (cI.1, 5, .inl (nF (bg)))), (s 7, .inl (cI.1, 5, .inl (nF (bb)))), (s 8, .inl (cI.1, 5, .inl (nF (ab))))]) (wN := fun _ => (wPk k cI (b 0) gi bi ki qu 0 (fun _ => 0) be fw fd ++ (wSt s cI cl gr sp rs aw nb na bg bb ab nx))) S_ (wk_rS S_ (c_Ar_fill l D cI z (fun _ => k 5) 8 (zF (tr)) (zI (0)) (by decide)) mv_Pk_33 rfl rfl (Nat.le_of_ble_eq_true rfl) (by rw [hR_]; decide) (by rw [hR_]; decide) d_Pk_lineUp_10) [5] [0, 1, 2, 3, 4, 6, 7, 8, 9, 10, 11, 12, 13, 14, 15] [0, 1, 2, 3, 4, 15, 5, 6, 7, 8, 9, 10, 11, 12, 13, 14] rfl rfl rfl (by decide) (by decide) (by decide) (by decide) (fun _ => rfl) (fun _ => rfl) (fun _ _ _ => ?_)
  refine wk_st (st' := []) rfl ?_
  refine wk_iconst (pc := 13) (v := (nI (0))) S_ d_Pk_lineUp_13 (by decide) ?_
  refine wk_istore_n (pc := 14) (lv' := [(2, .int (nI (0))), (0, .ref (k 0)), (1, .ref (s 0))]) S_ d_Pk_lineUp_14 rfl (by decide) rfl ?_
  have hL15 : ∀ (fuel15 : Nat), ∀ (k2 : Nat), nb - k2 < fuel15 → (k2 ≤ nb) → wk_G p_ l e_ R_ s_ m_ ar_ be_ me_ co_ Q_ D A_ 3 0 0 (wPk k cI (b 0) gi bi ki ((pkL (otC rs) cl nb qu k2).1) ((pkL (otC rs) cl nb qu k2).2) (fun _ => 0) be fw fd ++ (wSt s cI cl gr sp rs aw nb na bg bb ab nx)) 15 [(0, .ref (k 0)), (1, .ref (s 0)), (2, .int (nI (k2)))] [] := by
    intro fuel15
    induction fuel15 with
    | zero => intro k2 hm; exact absurd hm (Nat.not_lt_zero _)
    | succ fuel15 ih15 =>
      intro k2 hm hk
      refine wk_iload_n (pc := 15) S_ 2 d_Pk_lineUp_15 rfl rfl ?_
      refine wk_aload_n (pc := 16) S_ 1 d_Pk_lineUp_16 rfl rfl ?_
      refine wk_get (pc := 17) (v := .int (nI (nb))) S_ 2 5 7 in_St rfl (by decide) rfl fl_Pk_76 d_Pk_lineUp_17 rfl rfl ?_
      have hPk := pkL_ok (ot := otC rs) (cl := cl) (nb := nb) hqu k2 (by omega)
      refine wk_icmp_geN (pc := 20) (tgt := 57) S_ d_Pk_lineUp_20 (by decide) (by omega) (by omega) (fun h20 => ?_) (fun h20 => ?_)
      · -- taken
        exact hQ_ () d_Pk_lineUp_57 (by rw [show k2 = nb by omega]) trivial
      · -- on
        refine wk_aload_n (pc := 23) S_ 1 d_Pk_lineUp_23 rfl rfl ?_
        refine wk_iload_n (pc := 24) S_ 2 d_Pk_lineUp_24 rfl rfl ?_
        refine wk_run (pc := 25) (rest := []) (wr := (wPk k cI (b 0) gi bi ki ((pkL (otC rs) cl nb qu k2).1) ((pkL (otC rs) cl nb qu k2).2) (fun _ => 0) be fw fd)) (wN := fun _ => (wPk k cI (b 0) gi bi ki ((pkL (otC rs) cl nb qu k2).1) ((pkL (otC rs) cl nb qu k2).2) (fun _ => 0) be fw fd ++ (wSt s cI cl gr sp rs aw nb na bg bb ab nx))) S_ (wk_rV S_ (c_St_isToBePacked l D cI z (s) (cl) (gr) (sp) (rs) (aw) (nb) (na) (bg) (bb) (ab) (nx) (k2) (by omega) (by have := hrs k2; omega) (by have := hcl k2; omega)) mv_Pk_79 (wk_rcv S_ 0 2 rfl rfl rfl) rfl rfl (Nat.le_of_ble_eq_true rfl) (by rw [hR_]; decide) (by rw [hR_]; decide) d_Pk_lineUp_25) [7, 8, 9, 10, 11, 12, 13, 14, 15] [0, 1, 2, 3, 4, 5, 6] [0, 1, 2, 3, 4, 5, 6, 7, 8, 9, 10, 11, 12, 13, 14, 15] rfl rfl rfl (by decide) (by decide) (by decide) (by decide) (fun _ => rfl) (fun _ => rfl) (fun r25 _ hw25 => ?_)
        refine wk_st (st' := [.int (r25)]) rfl ?_
        refine wk_top (y := (bI (decide ((rs) (k2) = 0 ∧ (cl) (k2) ≠ 0)))) hw25 ?_
        refine wk_if_eqB (pc := 28) (tgt := 51) S_ d_Pk_lineUp_28 (by decide) (fun h28 => ?_) (fun h28 => ?_)
        · -- taken
          refine wk_iincN (pc := 51) (d := 1) (lv' := [(2, .int (nI (k2 + 1))), (0, .ref (k 0)), (1, .ref (s 0))]) S_ 2 d_Pk_lineUp_51 (by decide) rfl (by decide) rfl ?_
          refine wk_goto (pc := 54) (tgt := 15) S_ d_Pk_lineUp_54 (by decide) ?_
          have hp : ¬ (k2 < nb ∧ otC rs k2 = false ∧ cl k2 ≠ 0) := fun y => of_decide_eq_false h28 ⟨by simpa [otC] using y.2.1, y.2.2⟩
          have hpk : pkL (otC rs) cl nb qu (k2 + 1) = (pkL (otC rs) cl nb qu k2) := if_neg hp
          refine wk_weq (ws' := (wPk k cI (b 0) gi bi ki ((pkL (otC rs) cl nb qu (k2 + 1)).1) ((pkL (otC rs) cl nb qu k2).2) (fun _ => 0) be fw fd ++ (wSt s cI cl gr sp rs aw nb na bg bb ab nx))) (by rw [hpk]) ?_
          refine wk_weq (ws' := (wPk k cI (b 0) gi bi ki ((pkL (otC rs) cl nb qu (k2 + 1)).1) ((pkL (otC rs) cl nb qu (k2 + 1)).2) (fun _ => 0) be fw fd ++ (wSt s cI cl gr sp rs aw nb na bg bb ab nx))) (by rw [hpk]) ?_
          refine wk_lv [1, 2, 0] ?_ (ih15 (k2 + 1) (by omega) (by omega))
          rfl
        · -- on
          refine wk_aload_n (pc := 31) S_ 0 d_Pk_lineUp_31 rfl rfl ?_
          refine wk_get (pc := 32) (v := .ref (k 4)) S_ 3 3 0 in_Pk rfl (by decide) rfl fl_Pk_21 d_Pk_lineUp_32 rfl rfl ?_
          refine wk_aload_n (pc := 35) S_ 0 d_Pk_lineUp_35 rfl rfl ?_
          refine wk_get (pc := 36) (v := .int (nI ((pkL (otC rs) cl nb qu k2).2))) S_ 3 4 0 in_Pk rfl (by decide) rfl fl_Pk_91 d_Pk_lineUp_36 rfl rfl ?_
          refine wk_iload_n (pc := 39) S_ 2 d_Pk_lineUp_39 rfl rfl ?_
          refine wk_iastN (pc := 40) (g := (pkL (otC rs) cl nb qu k2).1) (ws' := (wPk k cI (b 0) gi bi ki (va_up ((pkL (otC rs) cl nb qu k2).1) ((pkL (otC rs) cl nb qu k2).2) (k2)) ((pkL (otC rs) cl nb qu k2).2) (fun _ => 0) be fw fd ++ (wSt s cI cl gr sp rs aw nb na bg bb ab nx))) S_ 4 0 d_Pk_lineUp_40 rfl rfl (by omega) (by decide) rfl ?_
          refine wk_aload_n (pc := 41) S_ 0 d_Pk_lineUp_41 rfl rfl ?_
          refine wk_dup (pc := 42) S_ d_Pk_lineUp_42 rfl ?_
          refine wk_get (pc := 43) (v := .int (nI ((pkL (otC rs) cl nb qu k2).2))) S_ 3 4 0 in_Pk rfl (by decide) rfl fl_Pk_91 d_Pk_lineUp_43 rfl rfl ?_
          refine wk_iconst (pc := 46) (v := (nI (1))) S_ d_Pk_lineUp_46 (by decide) ?_
          refine wk_iaddN (pc := 47) S_ d_Pk_lineUp_47 ?_
          refine wk_put (pc := 48) (ty := .int) (ws' := (wPk k cI (b 0) gi bi ki (va_up ((pkL (otC rs) cl nb qu k2).1) ((pkL (otC rs) cl nb qu k2).2) (k2)) (((pkL (otC rs) cl nb qu k2).2) + (1)) (fun _ => 0) be fw fd ++ (wSt s cI cl gr sp rs aw nb na bg bb ab nx))) S_ 3 4 0 in_Pk t_Pk t_Pk_ok n_Pk rfl (by decide) rfl fl_Pk_91 (by decide +kernel) d_Pk_lineUp_48 rfl rfl rfl (Nat.le_of_ble_eq_true rfl) rfl ?_
          refine wk_iincN (pc := 51) (d := 1) (lv' := [(2, .int (nI (k2 + 1))), (0, .ref (k 0)), (1, .ref (s 0))]) S_ 2 d_Pk_lineUp_51 (by decide) rfl (by decide) rfl ?_
          refine wk_goto (pc := 54) (tgt := 15) S_ d_Pk_lineUp_54 (by decide) ?_
          have hp : k2 < nb ∧ otC rs k2 = false ∧ cl k2 ≠ 0 := ⟨by omega, by simpa [otC] using (of_decide_eq_true h28).1, (of_decide_eq_true h28).2⟩
          have hpk : pkL (otC rs) cl nb qu (k2 + 1) = (va_up (pkL (otC rs) cl nb qu k2).1 (pkL (otC rs) cl nb qu k2).2 k2, (pkL (otC rs) cl nb qu k2).2 + 1) := if_pos hp
          refine wk_weq (ws' := (wPk k cI (b 0) gi bi ki ((pkL (otC rs) cl nb qu (k2 + 1)).1) (((pkL (otC rs) cl nb qu k2).2) + (1)) (fun _ => 0) be fw fd ++ (wSt s cI cl gr sp rs aw nb na bg bb ab nx))) (by rw [hpk]) ?_
          refine wk_weq (ws' := (wPk k cI (b 0) gi bi ki ((pkL (otC rs) cl nb qu (k2 + 1)).1) ((pkL (otC rs) cl nb qu (k2 + 1)).2) (fun _ => 0) be fw fd ++ (wSt s cI cl gr sp rs aw nb na bg bb ab nx))) (by rw [hpk]) ?_
          refine wk_lv [1, 2, 0] ?_ (ih15 (k2 + 1) (by omega) (by omega))
          rfl
  refine wk_lv [1, 2, 0] ?_ (hL15 _ (0) (Nat.lt_succ_self _) (by omega))
  rfl
set_option maxHeartbeats 4000000 in
set_option maxRecDepth 100000 in
theorem c_Pk_eachFitsAlone (l : Launch) (D : va_G) (cI : CiT) (z : GzT) (k : Nat → Nat) (s : Nat → Nat) (w : Nat → Nat) (b : Nat → Nat) (gi : (Nat → Nat)) (bi : (Nat → Nat)) (ki : (Nat → Nat)) (qu : (Nat → Nat)) (wt : Nat) (tr : (Nat → Nat)) (be : (Nat → Nat)) (fw : Nat) (fd : Bool) (cl : (Nat → Nat)) (gr : (Nat → Nat)) (sp : (Nat → Nat)) (rs : (Nat → Nat)) (aw : (Nat → Nat)) (nb : Nat) (na : Nat) (bg : (Nat → Nat)) (bb : (Nat → Nat)) (ab : (Nat → Nat)) (nx : Nat) (ap : (Nat → Nat)) (pt : (Nat → Nat)) (rk : (Nat → Nat)) (cd : (Nat → Nat)) (mc : (Nat → Nat)) (mg : (Nat → Nat)) (mz : (Nat → Nat)) (nc : (Nat → Nat)) (nt : (Nat → Nat)) (oc : (Nat → Nat)) (fr : Nat) (hnx : nx ≤ 5) (hwt : wt ≤ 8) (hgi : ∀ x, gi x ≤ 800000) (hbi : ∀ x, bi x ≤ 8) (hki : ∀ x, ki x < 512) (hq : ∀ i, i < wt → qu i < 8 ∧ cl (qu i) ≠ 0) (hcl : ∀ b, cl b ≤ 9) (hgr : ∀ b, gr b ≤ 100000) (hab : ∀ x, ab x ≤ 1000000) (hbb : ∀ x, bb x ≤ 8) (hbg : ∀ x, bg x ≤ 1000000) : wk_C l D (tyK cI) (gX z) y_Pk_eachFitsAlone b_Pk_eachFitsAlone 6 (some .boolean) 1 25 0 0 [.ref (k 0), .ref (s 0), .ref (w 0)] (wPk k cI (b 0) gi bi ki qu wt tr be fw fd ++ (wSt s cI cl gr sp rs aw nb na bg bb ab nx ++ (wRl w cI ap pt rk cd mc mg mz nc nt oc fr))) wk_i (fun (r : Int32) (_ : Unit) => r = (bI (efS (fun j x => fitB ap cl gr bg bb ab gi bi ki j x) qu nx wt))) (fun _ => (wPk k cI (b 0) gi bi ki qu wt tr be fw fd ++ (wSt s cI cl gr sp rs aw nb na bg bb ab nx ++ (wRl w cI ap pt rk cd mc mg mz nc nt oc fr)))) := by
  refine wk_methZ (own := R_Pk) [(0, .ref (k 0)), (1, .ref (s 0)), (2, .ref (w 0))] (by decide) rfl (Nat.le_of_ble_eq_true rfl) rfl (gX_ok z) (fun p_ e_ R_ s_ m_ ar_ be_ me_ co_ Q_ A_ hR_ S_ hnm_ hQ_ => ?_)
  refine wk_iconst (pc := 0) (v := (nI (0))) S_ d_Pk_eachFitsAlone_0 (by decide) ?_
  refine wk_istore_n (pc := 1) (lv' := [(3, .int (nI (0))), (0, .ref (k 0)), (1, .ref (s 0)), (2, .ref (w 0))]) S_ d_Pk_eachFitsAlone_1 rfl (by decide) rfl ?_
  have hL2 : ∀ (fuel2 : Nat), ∀ (i : Nat), wt - i < fuel2 → (i ≤ wt) → (efS (fun j x => fitB ap cl gr bg bb ab gi bi ki j x) qu nx i = true) → wk_G p_ l e_ R_ s_ m_ ar_ be_ me_ co_ Q_ D A_ 6 0 0 (wPk k cI (b 0) gi bi ki qu wt tr be fw fd ++ (wSt s cI cl gr sp rs aw nb na bg bb ab nx ++ (wRl w cI ap pt rk cd mc mg mz nc nt oc fr))) 2 [(0, .ref (k 0)), (1, .ref (s 0)), (2, .ref (w 0)), (3, .int (nI (i)))] [] := by
    intro fuel2
    induction fuel2 with
    | zero => intro i hm; exact absurd hm (Nat.not_lt_zero _)
    | succ fuel2 ih2 =>
      intro i hm hi hE
      refine wk_iload_n (pc := 2) S_ 3 d_Pk_eachFitsAlone_2 rfl rfl ?_
      refine wk_aload_n (pc := 3) S_ 0 d_Pk_eachFitsAlone_3 rfl rfl ?_
      refine wk_get (pc := 4) (v := .int (nI (wt))) S_ 3 4 0 in_Pk rfl (by decide) rfl fl_Pk_91 d_Pk_eachFitsAlone_4 rfl rfl ?_
      refine wk_icmp_geN (pc := 7) (tgt := 73) S_ d_Pk_eachFitsAlone_7 (by decide) (by omega) (by omega) (fun h7 => ?_) (fun h7 => ?_)
      · -- taken
        refine wk_iconst (pc := 73) (v := (nI (1))) S_ d_Pk_eachFitsAlone_73 (by decide) ?_
        exact hQ_ (nI (1)) () d_Pk_eachFitsAlone_74 rfl rfl (bI_t (by rw [show wt = i by omega]; exact hE))
      · -- on
        have hqi := hq i (by omega)
        refine wk_iconst (pc := 10) (v := (nI (0))) S_ d_Pk_eachFitsAlone_10 (by decide) ?_
        refine wk_istore (pc := 11) (lv' := [(4, .int (nI (0))), (0, .ref (k 0)), (1, .ref (s 0)), (2, .ref (w 0)), (3, .int (nI (i)))]) S_ d_Pk_eachFitsAlone_11 (by decide) rfl ?_
        refine wk_iconst (pc := 13) (v := (nI (0))) S_ d_Pk_eachFitsAlone_13 (by decide) ?_
        refine wk_istore (pc := 14) (lv' := [(5, .int (nI (0))), (4, .int (nI (0))), (0, .ref (k 0)), (1, .ref (s 0)), (2, .ref (w 0)), (3, .int (nI (i)))]) S_ d_Pk_eachFitsAlone_14 (by decide) rfl ?_
        have hL16 : ∀ (fuel16 : Nat), ∀ (x : Nat), nx - x < fuel16 → (x ≤ nx) → wk_G p_ l e_ R_ s_ m_ ar_ be_ me_ co_ Q_ D A_ 6 0 0 (wPk k cI (b 0) gi bi ki qu wt tr be fw fd ++ (wSt s cI cl gr sp rs aw nb na bg bb ab nx ++ (wRl w cI ap pt rk cd mc mg mz nc nt oc fr))) 16 [(0, .ref (k 0)), (1, .ref (s 0)), (2, .ref (w 0)), (3, .int (nI (i))), (4, .int (bI (exF ((fun j x => fitB ap cl gr bg bb ab gi bi ki j x) (qu i)) x))), (5, .int (nI (x)))] [] := by
          intro fuel16
          induction fuel16 with
          | zero => intro x hm; exact absurd hm (Nat.not_lt_zero _)
          | succ fuel16 ih16 =>
            intro x hm hx
            refine wk_iload (pc := 16) S_ 5 d_Pk_eachFitsAlone_16 rfl ?_
            refine wk_aload_n (pc := 18) S_ 1 d_Pk_eachFitsAlone_18 rfl rfl ?_
            refine wk_get (pc := 19) (v := .int (nI (nx))) S_ 2 10 7 in_St rfl (by decide) rfl fl_Pk_43 d_Pk_eachFitsAlone_19 rfl rfl ?_
            refine wk_icmp_geN (pc := 22) (tgt := 60) S_ d_Pk_eachFitsAlone_22 (by decide) (by omega) (by omega) (fun h22 => ?_) (fun h22 => ?_)
            · -- taken
              refine wk_iload (pc := 60) S_ 4 d_Pk_eachFitsAlone_60 rfl ?_
              refine wk_if_neB (pc := 62) (tgt := 67) S_ d_Pk_eachFitsAlone_62 (by decide) (fun h62 => ?_) (fun h62 => ?_)
              · -- taken
                refine wk_iincN (pc := 67) (d := 1) (lv' := [(3, .int (nI (i + 1))), (0, .ref (k 0)), (1, .ref (s 0)), (2, .ref (w 0)), (4, .int (bI (exF ((fun j x => fitB ap cl gr bg bb ab gi bi ki j x) (qu i)) x))), (5, .int (nI (x)))]) S_ 3 d_Pk_eachFitsAlone_67 (by decide) rfl (by decide) rfl ?_
                refine wk_goto (pc := 70) (tgt := 2) S_ d_Pk_eachFitsAlone_70 (by decide) ?_
                refine wk_lv [1, 2, 3, 0] ?_ (ih2 (i + 1) (by omega) (by omega) (by rw [efS, hE, Bool.true_and, show nx = x by omega]; exact h62))
                rfl
              · -- on
                refine wk_iconst (pc := 65) (v := (nI (0))) S_ d_Pk_eachFitsAlone_65 (by decide) ?_
                exact hQ_ (nI (0)) () d_Pk_eachFitsAlone_66 rfl rfl (bI_f (efS_f (i := i) (by rw [show nx = x by omega]; exact h62) wt (by omega)))
            · -- on
              refine wk_iload (pc := 25) S_ 4 d_Pk_eachFitsAlone_25 rfl ?_
              refine wk_if_neB (pc := 27) (tgt := 47) S_ d_Pk_eachFitsAlone_27 (by decide) (fun h27 => ?_) (fun h27 => ?_)
              · -- taken
                refine wk_iconst (pc := 47) (v := (nI (1))) S_ d_Pk_eachFitsAlone_47 (by decide) ?_
                refine wk_goto (pc := 48) (tgt := 52) S_ d_Pk_eachFitsAlone_48 (by decide) ?_
                refine wk_top (y := (bI (exF ((fun j x => fitB ap cl gr bg bb ab gi bi ki j x) (qu i)) (x + 1)))) (bI_t (by rw [exF, h27, Bool.true_or])) ?_
                refine wk_istore (pc := 52) (lv' := [(4, .int (bI (exF ((fun j x => fitB ap cl gr bg bb ab gi bi ki j x) (qu i)) (x + 1)))), (0, .ref (k 0)), (1, .ref (s 0)), (2, .ref (w 0)), (3, .int (nI (i))), (5, .int (nI (x)))]) S_ d_Pk_eachFitsAlone_52 (by decide) rfl ?_
                refine wk_iincN (pc := 54) (d := 1) (lv' := [(5, .int (nI (x + 1))), (4, .int (bI (exF ((fun j x => fitB ap cl gr bg bb ab gi bi ki j x) (qu i)) (x + 1)))), (0, .ref (k 0)), (1, .ref (s 0)), (2, .ref (w 0)), (3, .int (nI (i)))]) S_ 5 d_Pk_eachFitsAlone_54 (by decide) rfl (by decide) rfl ?_
                refine wk_goto (pc := 57) (tgt := 16) S_ d_Pk_eachFitsAlone_57 (by decide) ?_
                refine wk_lv [2, 3, 4, 5, 1, 0] ?_ (ih16 (x + 1) (by omega) (by omega))
                rfl
              · -- on
                refine wk_aload_n (pc := 30) S_ 0 d_Pk_eachFitsAlone_30 rfl rfl ?_
                refine wk_aload_n (pc := 31) S_ 1 d_Pk_eachFitsAlone_31 rfl rfl ?_
                refine wk_aload_n (pc := 32) S_ 2 d_Pk_eachFitsAlone_32 rfl rfl ?_
                refine wk_aload_n (pc := 33) S_ 0 d_Pk_eachFitsAlone_33 rfl rfl ?_
                refine wk_get (pc := 34) (v := .ref (k 4)) S_ 3 3 0 in_Pk rfl (by decide) rfl fl_Pk_21 d_Pk_eachFitsAlone_34 rfl rfl ?_
                refine wk_iload_n (pc := 37) S_ 3 d_Pk_eachFitsAlone_37 rfl rfl ?_
                refine wk_ialdN (pc := 38) (g := qu) S_ 4 0 d_Pk_eachFitsAlone_38 rfl rfl (by omega) (by decide) ?_
                refine wk_iload (pc := 39) S_ 5 d_Pk_eachFitsAlone_39 rfl ?_
                refine wk_run (pc := 41) (rest := []) (wr := []) (wN := fun _ => (wPk k cI (b 0) gi bi ki qu wt tr be fw fd ++ (wSt s cI cl gr sp rs aw nb na bg bb ab nx ++ (wRl w cI ap pt rk cd mc mg mz nc nt oc fr)))) S_ (wk_rV S_ (c_Pk_fits l D cI z (k) (s) (w) (b) (gi) (bi) (ki) (qu) (wt) (tr) (be) (fw) (fd) (cl) (gr) (sp) (rs) (aw) (nb) (na) (bg) (bb) (ab) (nx) (ap) (pt) (rk) (cd) (mc) (mg) (mz) (nc) (nt) (oc) (fr) ((qu) (i)) (x) (by omega) (by omega) (hab x) (hgi x) (hgr _) (hbi x) (hbb x) (hbg x) ⟨hqi.2, hcl _⟩ (hki x)) mv_Pk_83 (wk_rcv S_ 0 3 rfl rfl rfl) rfl rfl (Nat.le_of_ble_eq_true rfl) (by rw [hR_]; decide) (by rw [hR_]; decide) d_Pk_eachFitsAlone_41) [0, 1, 2, 3, 4, 5, 6, 7, 8, 9, 10, 11, 12, 13, 14, 15, 16, 17, 18, 19, 20, 21, 22, 23, 24, 25, 26] [] [0, 1, 2, 3, 4, 5, 6, 7, 8, 9, 10, 11, 12, 13, 14, 15, 16, 17, 18, 19, 20, 21, 22, 23, 24, 25, 26] rfl rfl rfl (by decide) (by decide) (by decide) (by decide) (fun _ => rfl) (fun _ => rfl) (fun r41 _ hw41 => ?_)
                refine wk_st (st' := [.int (r41)]) rfl ?_
                refine wk_top (y := (bI (decide ((bi) (x) < (bb) (x) ∧ (ab) (x) + (gi) (x) + (gr) ((qu) (i)) ≤ (bg) (x) ∧ (ki) (x) &&& (ap) ((cl) ((qu) (i)) - 1) = 0)))) hw41 ?_
                refine wk_if_eqB (pc := 44) (tgt := 51) S_ d_Pk_eachFitsAlone_44 (by decide) (fun h44 => ?_) (fun h44 => ?_)
                · -- taken
                  refine wk_iconst (pc := 51) (v := (nI (0))) S_ d_Pk_eachFitsAlone_51 (by decide) ?_
                  refine wk_top (y := (bI (exF ((fun j x => fitB ap cl gr bg bb ab gi bi ki j x) (qu i)) (x + 1)))) (bI_f (by rw [exF, h27, Bool.false_or]; exact h44)) ?_
                  refine wk_istore (pc := 52) (lv' := [(4, .int (bI (exF ((fun j x => fitB ap cl gr bg bb ab gi bi ki j x) (qu i)) (x + 1)))), (0, .ref (k 0)), (1, .ref (s 0)), (2, .ref (w 0)), (3, .int (nI (i))), (5, .int (nI (x)))]) S_ d_Pk_eachFitsAlone_52 (by decide) rfl ?_
                  refine wk_iincN (pc := 54) (d := 1) (lv' := [(5, .int (nI (x + 1))), (4, .int (bI (exF ((fun j x => fitB ap cl gr bg bb ab gi bi ki j x) (qu i)) (x + 1)))), (0, .ref (k 0)), (1, .ref (s 0)), (2, .ref (w 0)), (3, .int (nI (i)))]) S_ 5 d_Pk_eachFitsAlone_54 (by decide) rfl (by decide) rfl ?_
                  refine wk_goto (pc := 57) (tgt := 16) S_ d_Pk_eachFitsAlone_57 (by decide) ?_
                  refine wk_lv [2, 3, 4, 5, 1, 0] ?_ (ih16 (x + 1) (by omega) (by omega))
                  rfl
                · -- on
                  refine wk_iconst (pc := 47) (v := (nI (1))) S_ d_Pk_eachFitsAlone_47 (by decide) ?_
                  refine wk_goto (pc := 48) (tgt := 52) S_ d_Pk_eachFitsAlone_48 (by decide) ?_
                  refine wk_top (y := (bI (exF ((fun j x => fitB ap cl gr bg bb ab gi bi ki j x) (qu i)) (x + 1)))) (bI_t (by rw [exF, Bool.or_eq_true]; exact Or.inr h44)) ?_
                  refine wk_istore (pc := 52) (lv' := [(4, .int (bI (exF ((fun j x => fitB ap cl gr bg bb ab gi bi ki j x) (qu i)) (x + 1)))), (0, .ref (k 0)), (1, .ref (s 0)), (2, .ref (w 0)), (3, .int (nI (i))), (5, .int (nI (x)))]) S_ d_Pk_eachFitsAlone_52 (by decide) rfl ?_
                  refine wk_iincN (pc := 54) (d := 1) (lv' := [(5, .int (nI (x + 1))), (4, .int (bI (exF ((fun j x => fitB ap cl gr bg bb ab gi bi ki j x) (qu i)) (x + 1)))), (0, .ref (k 0)), (1, .ref (s 0)), (2, .ref (w 0)), (3, .int (nI (i)))]) S_ 5 d_Pk_eachFitsAlone_54 (by decide) rfl (by decide) rfl ?_
                  refine wk_goto (pc := 57) (tgt := 16) S_ d_Pk_eachFitsAlone_57 (by decide) ?_
                  refine wk_lv [2, 3, 4, 5, 1, 0] ?_ (ih16 (x + 1) (by omega) (by omega))
                  rfl
        refine wk_lv [2, 3, 4, 5, 1, 0] ?_ (hL16 _ (0) (Nat.lt_succ_self _) (by omega))
        rfl
  refine wk_lv [1, 2, 3, 0] ?_ (hL2 _ (0) (Nat.lt_succ_self _) (by omega) rfl)
  rfl
set_option maxHeartbeats 4000000 in
set_option maxRecDepth 100000 in
theorem c_Pk_stillHolds (l : Launch) (D : va_G) (cI : CiT) (z : GzT) (k : Nat → Nat) (b : Nat → Nat) (s : Nat → Nat) (w : Nat → Nat) (gi : (Nat → Nat)) (bi : (Nat → Nat)) (ki : (Nat → Nat)) (qu : (Nat → Nat)) (wt : Nat) (tr : (Nat → Nat)) (be : (Nat → Nat)) (fw : Nat) (fd : Bool) (bx : (Nat → Nat)) (cl : (Nat → Nat)) (gr : (Nat → Nat)) (sp : (Nat → Nat)) (rs : (Nat → Nat)) (aw : (Nat → Nat)) (nb : Nat) (na : Nat) (bg : (Nat → Nat)) (bb : (Nat → Nat)) (ab : (Nat → Nat)) (nx : Nat) (ap : (Nat → Nat)) (pt : (Nat → Nat)) (rk : (Nat → Nat)) (cd : (Nat → Nat)) (mc : (Nat → Nat)) (mg : (Nat → Nat)) (mz : (Nat → Nat)) (nc : (Nat → Nat)) (nt : (Nat → Nat)) (oc : (Nat → Nat)) (fr : Nat) (hnb : nb ≤ 8) (hbx : ∀ b, bx b ≤ 5) (hrs : ∀ b, rs b ≤ 9) (hcl : ∀ b, cl b ≤ 9) (hgr : ∀ b, gr b ≤ 100000) (hab : ∀ x, ab x ≤ 1000000) (hbb : ∀ x, bb x ≤ 8) (hbg : ∀ x, bg x ≤ 1000000) : wk_C l D (tyK cI) (gX z) y_Pk_stillHolds b_Pk_stillHolds 5 (some .boolean) 2 43 0 0 [.ref (k 0), .ref (s 0), .ref (w 0)] (wPk k cI (b 0) gi bi ki qu wt tr be fw fd ++ (wBx b cI bx ++ (wSt s cI cl gr sp rs aw nb na bg bb ab nx ++ (wRl w cI ap pt rk cd mc mg mz nc nt oc fr)))) wk_i (fun (r : Int32) (u : (Nat → Nat) × (Nat → Nat) × (Nat → Nat) × (Nat → Nat)) => r = bI (fd && stS ap cl gr bg bb ab rs bx nb 0 (fun _ => 0) (fun _ => 0) (fun _ => 0))) (fun u => (wPk k cI (b 0) u.1 u.2.1 u.2.2.1 qu wt u.2.2.2 be fw fd ++ (wBx b cI bx ++ (wSt s cI cl gr sp rs aw nb na bg bb ab nx ++ (wRl w cI ap pt rk cd mc mg mz nc nt oc fr))))) := by
  refine wk_methZ (own := R_Pk) [(0, .ref (k 0)), (1, .ref (s 0)), (2, .ref (w 0))] (by decide) rfl (Nat.le_of_ble_eq_true rfl) rfl (gX_ok z) (fun p_ e_ R_ s_ m_ ar_ be_ me_ co_ Q_ A_ hR_ S_ hnm_ hQ_ => ?_)
  refine wk_aload_n (pc := 0) S_ 0 d_Pk_stillHolds_0 rfl rfl ?_
  refine wk_get (pc := 1) (v := .int (bI (fd))) S_ 3 9 0 in_Pk rfl (by decide) rfl fl_Pk_72 d_Pk_stillHolds_1 rfl rfl ?_
  refine wk_if_neB (pc := 4) (tgt := 9) S_ d_Pk_stillHolds_4 (by decide) (fun h4 => ?_) (fun h4 => ?_)
  · -- taken
    refine wk_aload_n (pc := 9) S_ 0 d_Pk_stillHolds_9 rfl rfl ?_
    refine wk_run (pc := 10) (rest := []) (wr := (wBx b cI bx ++ (wSt s cI cl gr sp rs aw nb na bg bb ab nx ++ (wRl w cI ap pt rk cd mc mg mz nc nt oc fr)))) (wN := fun _ => (wPk k cI (b 0) (fun _ => 0) (fun _ => 0) (fun _ => 0) qu wt tr be fw fd ++ (wBx b cI bx ++ (wSt s cI cl gr sp rs aw nb na bg bb ab nx ++ (wRl w cI ap pt rk cd mc mg mz nc nt oc fr))))) S_ (wk_rV S_ (c_Pk_emptyBoxes l D cI z (k) (b) (gi) (bi) (ki) (qu) (wt) (tr) (be) (fw) (fd)) mv_Pk_52 (wk_rcv S_ 0 3 rfl rfl rfl) rfl rfl (Nat.le_of_ble_eq_true rfl) (by rw [hR_]; decide) (by rw [hR_]; decide) d_Pk_stillHolds_10) [0, 1, 2, 3, 4, 5, 6] [7, 8, 9, 10, 11, 12, 13, 14, 15, 16, 17, 18, 19, 20, 21, 22, 23, 24, 25, 26, 27] [21, 22, 23, 24, 25, 26, 27, 0, 1, 2, 3, 4, 5, 6, 7, 8, 9, 10, 11, 12, 13, 14, 15, 16, 17, 18, 19, 20] rfl rfl rfl (by decide) (by decide) (by decide) (by decide) (fun _ => rfl) (fun _ => rfl) (fun r10 _ hw10 => ?_)
    refine wk_st (st' := []) rfl ?_
    refine wk_iconst (pc := 13) (v := (nI (0))) S_ d_Pk_stillHolds_13 (by decide) ?_
    refine wk_istore_n (pc := 14) (lv' := [(3, .int (nI (0))), (0, .ref (k 0)), (1, .ref (s 0)), (2, .ref (w 0))]) S_ d_Pk_stillHolds_14 rfl (by decide) rfl ?_
    have hL15 : ∀ (fuel15 : Nat), ∀ (q : Nat) (c : Nat) (gi1 : Nat → Nat) (bi1 : Nat → Nat) (ki1 : Nat → Nat) (tr1 : Nat → Nat), q < fuel15 → (c + q = nb) → (∀ x, gi1 x ≤ 100000 * c) → (∀ x, bi1 x ≤ c) → (∀ x, ki1 x < 512) → (stS ap cl gr bg bb ab rs bx q c gi1 bi1 ki1 = stS ap cl gr bg bb ab rs bx nb 0 (fun _ => 0) (fun _ => 0) (fun _ => 0)) → wk_G p_ l e_ R_ s_ m_ ar_ be_ me_ co_ Q_ D A_ 5 0 0 (wPk k cI (b 0) gi1 bi1 ki1 qu wt tr1 be fw fd ++ (wBx b cI bx ++ (wSt s cI cl gr sp rs aw nb na bg bb ab nx ++ (wRl w cI ap pt rk cd mc mg mz nc nt oc fr)))) 15 [(0, .ref (k 0)), (1, .ref (s 0)), (2, .ref (w 0)), (3, .int (nI (c)))] [] := by
      intro fuel15
      induction fuel15 with
      | zero => intro q c gi1 bi1 ki1 tr1 hm; exact absurd hm (Nat.not_lt_zero _)
      | succ fuel15 ih15 =>
        intro q c gi1 bi1 ki1 tr1 hm hk hg1 hb1 hk1 hE
        refine wk_iload_n (pc := 15) S_ 3 d_Pk_stillHolds_15 rfl rfl ?_
        refine wk_aload_n (pc := 16) S_ 1 d_Pk_stillHolds_16 rfl rfl ?_
        refine wk_get (pc := 17) (v := .int (nI (nb))) S_ 2 5 8 in_St rfl (by decide) rfl fl_Pk_76 d_Pk_stillHolds_17 rfl rfl ?_
        refine wk_icmp_geN (pc := 20) (tgt := 86) S_ d_Pk_stillHolds_20 (by decide) (by omega) (by omega) (fun h20 => ?_) (fun h20 => ?_)
        · -- taken
          refine wk_iconst (pc := 86) (v := (nI (1))) S_ d_Pk_stillHolds_86 (by decide) ?_
          exact hQ_ (nI (1)) (gi1, bi1, ki1, tr1) d_Pk_stillHolds_87 rfl rfl (bI_t (by rw [h4, Bool.true_and, ← hE, show q = 0 by omega]; rfl))
        · -- on
          refine wk_aload_n (pc := 23) S_ 0 d_Pk_stillHolds_23 rfl rfl ?_
          refine wk_get (pc := 24) (v := .ref (b 0)) S_ 3 8 0 in_Pk rfl (by decide) rfl fl_Pk_30 d_Pk_stillHolds_24 rfl rfl ?_
          refine wk_iload_n (pc := 27) S_ 3 d_Pk_stillHolds_27 rfl rfl ?_
          refine wk_ialdY (pc := 28) (g := bx) S_ 7 0 d_Pk_stillHolds_28 rfl rfl (by omega) (by decide) ?_
          refine wk_istore (pc := 29) (lv' := [(4, .int (zI ((bx) (c)))), (0, .ref (k 0)), (1, .ref (s 0)), (2, .ref (w 0)), (3, .int (nI (c)))]) S_ d_Pk_stillHolds_29 (by decide) rfl ?_
          refine wk_aload_n (pc := 31) S_ 2 d_Pk_stillHolds_31 rfl rfl ?_
          refine wk_iload_n (pc := 32) S_ 4 d_Pk_stillHolds_32 rfl rfl ?_
          refine wk_run (pc := 33) (rest := []) (wr := (wPk k cI (b 0) gi1 bi1 ki1 qu wt tr1 be fw fd ++ (wBx b cI bx ++ (wRl w cI ap pt rk cd mc mg mz nc nt oc fr)))) (wN := fun _ => (wPk k cI (b 0) gi1 bi1 ki1 qu wt tr1 be fw fd ++ (wBx b cI bx ++ (wSt s cI cl gr sp rs aw nb na bg bb ab nx ++ (wRl w cI ap pt rk cd mc mg mz nc nt oc fr))))) S_ (wk_rV S_ (c_St_isToBePacked l D cI z (s) (cl) (gr) (sp) (rs) (aw) (nb) (na) (bg) (bb) (ab) (nx) (c) (by omega) (by have := hrs c; omega) (by have := hcl c; omega)) mv_Pk_79 (wk_rcv S_ 0 2 rfl rfl rfl) rfl rfl (Nat.le_of_ble_eq_true rfl) (by rw [hR_]; decide) (by rw [hR_]; decide) d_Pk_stillHolds_33) [8, 9, 10, 11, 12, 13, 14, 15, 16] [0, 1, 2, 3, 4, 5, 6, 7, 17, 18, 19, 20, 21, 22, 23, 24, 25, 26, 27] [0, 1, 2, 3, 4, 5, 6, 7, 19, 20, 21, 22, 23, 24, 25, 26, 27, 8, 9, 10, 11, 12, 13, 14, 15, 16, 17, 18] rfl rfl rfl (by decide) (by decide) (by decide) (by decide) (fun _ => rfl) (fun _ => rfl) (fun r33 _ hw33 => ?_)
          refine wk_st (st' := [.int (r33)]) rfl ?_
          refine wk_top (y := (bI (decide ((rs) (c) = 0 ∧ (cl) (c) ≠ 0)))) hw33 ?_
          refine wk_iload (pc := 36) S_ 0 d_Pk_stillHolds_36 rfl ?_
          refine wk_iconst (pc := 38) (v := (-1)) S_ d_Pk_stillHolds_38 (by decide) ?_
          have hx1 := hbx c
          refine wk_icmp_eqY (pc := 39) (tgt := 46) S_ d_Pk_stillHolds_39 (by decide) (by omega) (fun h39 => ?_) (fun h39 => ?_)
          · -- taken
            refine wk_iconst (pc := 46) (v := (nI (0))) S_ d_Pk_stillHolds_46 (by decide) ?_
            refine wk_top (y := (bI (decide (bx c ≠ 0)))) (bI_f (by simp; omega)) ?_
            refine wk_icmp_eq (pc := 47) (tgt := 52) S_ d_Pk_stillHolds_47 (by decide) (fun h47 => ?_) (fun h47 => ?_)
            · -- taken
              have hsame := bI_inj h47
              refine wk_iload (pc := 52) S_ 0 d_Pk_stillHolds_52 rfl ?_
              refine wk_iconst (pc := 54) (v := (-1)) S_ d_Pk_stillHolds_54 (by decide) ?_
              refine wk_icmp_eqY (pc := 55) (tgt := 80) S_ d_Pk_stillHolds_55 (by decide) (by omega) (fun h55 => ?_) (fun h55 => ?_)
              · -- taken
                refine wk_iincN (pc := 80) (d := 1) (lv' := [(3, .int (nI (c + 1))), (4, .int (zI ((bx) (c)))), (0, .ref (k 0)), (1, .ref (s 0)), (2, .ref (w 0))]) S_ 4 d_Pk_stillHolds_80 (by decide) rfl (by decide) rfl ?_
                refine wk_goto (pc := 83) (tgt := 15) S_ d_Pk_stillHolds_83 (by decide) ?_
                refine wk_lv [2, 3, 4, 0] ?_ (ih15 (q - 1) (c + 1) (gi1) (bi1) (ki1) (tr1) (by omega) (by omega) (fun x => by have := hg1 x; omega) (fun x => by have := hb1 x; omega) hk1 (by rw [← hE]; obtain ⟨r, rfl⟩ : ∃ r, q = r + 1 := ⟨q - 1, by omega⟩; rw [stS, if_pos hsame, if_pos h55]; rfl))
                rfl
              · -- on
                have hcc : cl c ≠ 0 := by rw [decide_eq_true h55] at hsame; exact (of_decide_eq_true hsame).2
                refine wk_aload_n (pc := 58) S_ 1 d_Pk_stillHolds_58 rfl rfl ?_
                refine wk_aload_n (pc := 59) S_ 2 d_Pk_stillHolds_59 rfl rfl ?_
                refine wk_aload_n (pc := 60) S_ 3 d_Pk_stillHolds_60 rfl rfl ?_
                refine wk_iload_n (pc := 61) S_ 4 d_Pk_stillHolds_61 rfl rfl ?_
                refine wk_iload (pc := 62) S_ 0 d_Pk_stillHolds_62 rfl ?_
                refine wk_top (y := (nI (bx c - 1))) (zI_p h55) ?_
                refine wk_run (pc := 64) (rest := []) (wr := (wBx b cI bx)) (wN := fun _ => (wPk k cI (b 0) gi1 bi1 ki1 qu wt tr1 be fw fd ++ (wBx b cI bx ++ (wSt s cI cl gr sp rs aw nb na bg bb ab nx ++ (wRl w cI ap pt rk cd mc mg mz nc nt oc fr))))) S_ (wk_rV S_ (c_Pk_fits l D cI z (k) (s) (w) (b) (gi1) (bi1) (ki1) (qu) (wt) (tr1) (be) (fw) (fd) (cl) (gr) (sp) (rs) (aw) (nb) (na) (bg) (bb) (ab) (nx) (ap) (pt) (rk) (cd) (mc) (mg) (mz) (nc) (nt) (oc) (fr) (c) (bx c - 1) (by omega) (by omega) (hab _) (by have := hg1 (bx c - 1); omega) (hgr _) (by have := hb1 (bx c - 1); omega) (hbb _) (hbg _) ⟨hcc, hcl _⟩ (hk1 _)) mv_Pk_83 (wk_rcv S_ 0 3 rfl rfl rfl) rfl rfl (Nat.le_of_ble_eq_true rfl) (by rw [hR_]; decide) (by rw [hR_]; decide) d_Pk_stillHolds_64) [0, 1, 2, 3, 4, 5, 6, 8, 9, 10, 11, 12, 13, 14, 15, 16, 17, 18, 19, 20, 21, 22, 23, 24, 25, 26, 27] [7] [1, 2, 3, 4, 5, 6, 7, 0, 8, 9, 10, 11, 12, 13, 14, 15, 16, 17, 18, 19, 20, 21, 22, 23, 24, 25, 26, 27] rfl rfl rfl (by decide) (by decide) (by decide) (by decide) (fun _ => rfl) (fun _ => rfl) (fun r64 _ hw64 => ?_)
                refine wk_st (st' := [.int (r64)]) rfl ?_
                refine wk_top (y := (bI (decide ((bi1) (bx c - 1) < (bb) (bx c - 1) ∧ (ab) (bx c - 1) + (gi1) (bx c - 1) + (gr) (c) ≤ (bg) (bx c - 1) ∧ (ki1) (bx c - 1) &&& (ap) ((cl) (c) - 1) = 0)))) hw64 ?_
                refine wk_if_neB (pc := 67) (tgt := 72) S_ d_Pk_stillHolds_67 (by decide) (fun h67 => ?_) (fun h67 => ?_)
                · -- taken
                  refine wk_aload_n (pc := 72) S_ 1 d_Pk_stillHolds_72 rfl rfl ?_
                  refine wk_aload_n (pc := 73) S_ 2 d_Pk_stillHolds_73 rfl rfl ?_
                  refine wk_iload_n (pc := 74) S_ 4 d_Pk_stillHolds_74 rfl rfl ?_
                  refine wk_iload (pc := 75) S_ 0 d_Pk_stillHolds_75 rfl ?_
                  refine wk_top (y := (nI (bx c - 1))) (zI_p h55) ?_
                  refine wk_run (pc := 77) (rest := []) (wr := (wBx b cI bx ++ (wRl w cI ap pt rk cd mc mg mz nc nt oc fr))) (wN := fun _ => (wPk k cI (b 0) (va_up (gi1) (bx c - 1) ((gi1) (bx c - 1) + (gr) (c))) (va_up (bi1) (bx c - 1) ((bi1) (bx c - 1) + 1)) (va_up (ki1) (bx c - 1) ((ki1) (bx c - 1) ||| 2 ^ ((cl) (c) - 1))) qu wt (va_up (tr1) (c) ((bx c - 1) + 1)) be fw fd ++ (wBx b cI bx ++ (wSt s cI cl gr sp rs aw nb na bg bb ab nx ++ (wRl w cI ap pt rk cd mc mg mz nc nt oc fr))))) S_ (wk_rV S_ (c_Pk_putIn l D cI z (k) (s) (b) (gi1) (bi1) (ki1) (qu) (wt) (tr1) (be) (fw) (fd) (cl) (gr) (sp) (rs) (aw) (nb) (na) (bg) (bb) (ab) (nx) (c) (bx c - 1) (by omega) (by omega) ⟨hcc, hcl _⟩) mv_Pk_87 (wk_rcv S_ 0 3 rfl rfl rfl) rfl rfl (Nat.le_of_ble_eq_true rfl) (by rw [hR_]; decide) (by rw [hR_]; decide) d_Pk_stillHolds_77) [0, 1, 2, 3, 4, 5, 6, 8, 9, 10, 11, 12, 13, 14, 15, 16] [7, 17, 18, 19, 20, 21, 22, 23, 24, 25, 26, 27] [12, 13, 14, 15, 16, 17, 18, 0, 19, 20, 21, 22, 23, 24, 25, 26, 27, 1, 2, 3, 4, 5, 6, 7, 8, 9, 10, 11] rfl rfl rfl (by decide) (by decide) (by decide) (by decide) (fun _ => rfl) (fun _ => rfl) (fun r77 _ hw77 => ?_)
                  refine wk_st (st' := []) rfl ?_
                  refine wk_iincN (pc := 80) (d := 1) (lv' := [(3, .int (nI (c + 1))), (4, .int (zI ((bx) (c)))), (0, .ref (k 0)), (1, .ref (s 0)), (2, .ref (w 0))]) S_ 4 d_Pk_stillHolds_80 (by decide) rfl (by decide) rfl ?_
                  refine wk_goto (pc := 83) (tgt := 15) S_ d_Pk_stillHolds_83 (by decide) ?_
                  refine wk_lv [2, 3, 4, 0] ?_ (ih15 (q - 1) (c + 1) (va_up (gi1) (bx c - 1) ((gi1) (bx c - 1) + (gr) (c))) (va_up (bi1) (bx c - 1) ((bi1) (bx c - 1) + 1)) (va_up (ki1) (bx c - 1) ((ki1) (bx c - 1) ||| 2 ^ ((cl) (c) - 1))) (va_up (tr1) (c) ((bx c - 1) + 1)) (by omega) (by omega) (up_le (fun y => by have := hg1 y; omega) (by have := hg1 (bx c - 1); have := hgr c; omega)) (up_le (fun y => by have := hb1 y; omega) (by have := hb1 (bx c - 1); omega)) (fun y => by unfold va_up; split; exact or512 (hk1 _) (hcl c) hcc; exact hk1 y) (by rw [← hE]; obtain ⟨r, rfl⟩ : ∃ r, q = r + 1 := ⟨q - 1, by omega⟩; rw [stS, if_pos hsame, if_neg h55, if_pos (show fitB ap cl gr bg bb ab gi1 bi1 ki1 c (bx c - 1) = true from h67)]; rfl))
                  rfl
                · -- on
                  refine wk_iconst (pc := 70) (v := (nI (0))) S_ d_Pk_stillHolds_70 (by decide) ?_
                  exact hQ_ (nI (0)) (gi1, bi1, ki1, tr1) d_Pk_stillHolds_71 rfl rfl (bI_f (by rw [h4, Bool.true_and, ← hE]; obtain ⟨r, rfl⟩ : ∃ r, q = r + 1 := ⟨q - 1, by omega⟩; rw [stS, if_pos hsame, if_neg h55, if_neg (by rw [show fitB ap cl gr bg bb ab gi1 bi1 ki1 c (bx c - 1) = false from h67]; decide)]))
            · -- on
              refine wk_iconst (pc := 50) (v := (nI (0))) S_ d_Pk_stillHolds_50 (by decide) ?_
              exact hQ_ (nI (0)) (gi1, bi1, ki1, tr1) d_Pk_stillHolds_51 rfl rfl (bI_f (by rw [h4, Bool.true_and, ← hE]; obtain ⟨r, rfl⟩ : ∃ r, q = r + 1 := ⟨q - 1, by omega⟩; rw [stS, if_neg (fun y => h47 (congrArg bI y))]))
          · -- on
            refine wk_iconst (pc := 42) (v := (nI (1))) S_ d_Pk_stillHolds_42 (by decide) ?_
            refine wk_goto (pc := 43) (tgt := 47) S_ d_Pk_stillHolds_43 (by decide) ?_
            refine wk_top (y := (bI (decide (bx c ≠ 0)))) (bI_t (by simp; omega)) ?_
            refine wk_icmp_eq (pc := 47) (tgt := 52) S_ d_Pk_stillHolds_47 (by decide) (fun h47 => ?_) (fun h47 => ?_)
            · -- taken
              have hsame := bI_inj h47
              refine wk_iload (pc := 52) S_ 0 d_Pk_stillHolds_52 rfl ?_
              refine wk_iconst (pc := 54) (v := (-1)) S_ d_Pk_stillHolds_54 (by decide) ?_
              refine wk_icmp_eqY (pc := 55) (tgt := 80) S_ d_Pk_stillHolds_55 (by decide) (by omega) (fun h55 => ?_) (fun h55 => ?_)
              · -- taken
                refine wk_iincN (pc := 80) (d := 1) (lv' := [(3, .int (nI (c + 1))), (4, .int (zI ((bx) (c)))), (0, .ref (k 0)), (1, .ref (s 0)), (2, .ref (w 0))]) S_ 4 d_Pk_stillHolds_80 (by decide) rfl (by decide) rfl ?_
                refine wk_goto (pc := 83) (tgt := 15) S_ d_Pk_stillHolds_83 (by decide) ?_
                refine wk_lv [2, 3, 4, 0] ?_ (ih15 (q - 1) (c + 1) (gi1) (bi1) (ki1) (tr1) (by omega) (by omega) (fun x => by have := hg1 x; omega) (fun x => by have := hb1 x; omega) hk1 (by rw [← hE]; obtain ⟨r, rfl⟩ : ∃ r, q = r + 1 := ⟨q - 1, by omega⟩; rw [stS, if_pos hsame, if_pos h55]; rfl))
                rfl
              · -- on
                have hcc : cl c ≠ 0 := by rw [decide_eq_true h55] at hsame; exact (of_decide_eq_true hsame).2
                refine wk_aload_n (pc := 58) S_ 1 d_Pk_stillHolds_58 rfl rfl ?_
                refine wk_aload_n (pc := 59) S_ 2 d_Pk_stillHolds_59 rfl rfl ?_
                refine wk_aload_n (pc := 60) S_ 3 d_Pk_stillHolds_60 rfl rfl ?_
                refine wk_iload_n (pc := 61) S_ 4 d_Pk_stillHolds_61 rfl rfl ?_
                refine wk_iload (pc := 62) S_ 0 d_Pk_stillHolds_62 rfl ?_
                refine wk_top (y := (nI (bx c - 1))) (zI_p h55) ?_
                refine wk_run (pc := 64) (rest := []) (wr := (wBx b cI bx)) (wN := fun _ => (wPk k cI (b 0) gi1 bi1 ki1 qu wt tr1 be fw fd ++ (wBx b cI bx ++ (wSt s cI cl gr sp rs aw nb na bg bb ab nx ++ (wRl w cI ap pt rk cd mc mg mz nc nt oc fr))))) S_ (wk_rV S_ (c_Pk_fits l D cI z (k) (s) (w) (b) (gi1) (bi1) (ki1) (qu) (wt) (tr1) (be) (fw) (fd) (cl) (gr) (sp) (rs) (aw) (nb) (na) (bg) (bb) (ab) (nx) (ap) (pt) (rk) (cd) (mc) (mg) (mz) (nc) (nt) (oc) (fr) (c) (bx c - 1) (by omega) (by omega) (hab _) (by have := hg1 (bx c - 1); omega) (hgr _) (by have := hb1 (bx c - 1); omega) (hbb _) (hbg _) ⟨hcc, hcl _⟩ (hk1 _)) mv_Pk_83 (wk_rcv S_ 0 3 rfl rfl rfl) rfl rfl (Nat.le_of_ble_eq_true rfl) (by rw [hR_]; decide) (by rw [hR_]; decide) d_Pk_stillHolds_64) [0, 1, 2, 3, 4, 5, 6, 8, 9, 10, 11, 12, 13, 14, 15, 16, 17, 18, 19, 20, 21, 22, 23, 24, 25, 26, 27] [7] [1, 2, 3, 4, 5, 6, 7, 0, 8, 9, 10, 11, 12, 13, 14, 15, 16, 17, 18, 19, 20, 21, 22, 23, 24, 25, 26, 27] rfl rfl rfl (by decide) (by decide) (by decide) (by decide) (fun _ => rfl) (fun _ => rfl) (fun r64 _ hw64 => ?_)
                refine wk_st (st' := [.int (r64)]) rfl ?_
                refine wk_top (y := (bI (decide ((bi1) (bx c - 1) < (bb) (bx c - 1) ∧ (ab) (bx c - 1) + (gi1) (bx c - 1) + (gr) (c) ≤ (bg) (bx c - 1) ∧ (ki1) (bx c - 1) &&& (ap) ((cl) (c) - 1) = 0)))) hw64 ?_
                refine wk_if_neB (pc := 67) (tgt := 72) S_ d_Pk_stillHolds_67 (by decide) (fun h67 => ?_) (fun h67 => ?_)
                · -- taken
                  refine wk_aload_n (pc := 72) S_ 1 d_Pk_stillHolds_72 rfl rfl ?_
                  refine wk_aload_n (pc := 73) S_ 2 d_Pk_stillHolds_73 rfl rfl ?_
                  refine wk_iload_n (pc := 74) S_ 4 d_Pk_stillHolds_74 rfl rfl ?_
                  refine wk_iload (pc := 75) S_ 0 d_Pk_stillHolds_75 rfl ?_
                  refine wk_top (y := (nI (bx c - 1))) (zI_p h55) ?_
                  refine wk_run (pc := 77) (rest := []) (wr := (wBx b cI bx ++ (wRl w cI ap pt rk cd mc mg mz nc nt oc fr))) (wN := fun _ => (wPk k cI (b 0) (va_up (gi1) (bx c - 1) ((gi1) (bx c - 1) + (gr) (c))) (va_up (bi1) (bx c - 1) ((bi1) (bx c - 1) + 1)) (va_up (ki1) (bx c - 1) ((ki1) (bx c - 1) ||| 2 ^ ((cl) (c) - 1))) qu wt (va_up (tr1) (c) ((bx c - 1) + 1)) be fw fd ++ (wBx b cI bx ++ (wSt s cI cl gr sp rs aw nb na bg bb ab nx ++ (wRl w cI ap pt rk cd mc mg mz nc nt oc fr))))) S_ (wk_rV S_ (c_Pk_putIn l D cI z (k) (s) (b) (gi1) (bi1) (ki1) (qu) (wt) (tr1) (be) (fw) (fd) (cl) (gr) (sp) (rs) (aw) (nb) (na) (bg) (bb) (ab) (nx) (c) (bx c - 1) (by omega) (by omega) ⟨hcc, hcl _⟩) mv_Pk_87 (wk_rcv S_ 0 3 rfl rfl rfl) rfl rfl (Nat.le_of_ble_eq_true rfl) (by rw [hR_]; decide) (by rw [hR_]; decide) d_Pk_stillHolds_77) [0, 1, 2, 3, 4, 5, 6, 8, 9, 10, 11, 12, 13, 14, 15, 16] [7, 17, 18, 19, 20, 21, 22, 23, 24, 25, 26, 27] [12, 13, 14, 15, 16, 17, 18, 0, 19, 20, 21, 22, 23, 24, 25, 26, 27, 1, 2, 3, 4, 5, 6, 7, 8, 9, 10, 11] rfl rfl rfl (by decide) (by decide) (by decide) (by decide) (fun _ => rfl) (fun _ => rfl) (fun r77 _ hw77 => ?_)
                  refine wk_st (st' := []) rfl ?_
                  refine wk_iincN (pc := 80) (d := 1) (lv' := [(3, .int (nI (c + 1))), (4, .int (zI ((bx) (c)))), (0, .ref (k 0)), (1, .ref (s 0)), (2, .ref (w 0))]) S_ 4 d_Pk_stillHolds_80 (by decide) rfl (by decide) rfl ?_
                  refine wk_goto (pc := 83) (tgt := 15) S_ d_Pk_stillHolds_83 (by decide) ?_
                  refine wk_lv [2, 3, 4, 0] ?_ (ih15 (q - 1) (c + 1) (va_up (gi1) (bx c - 1) ((gi1) (bx c - 1) + (gr) (c))) (va_up (bi1) (bx c - 1) ((bi1) (bx c - 1) + 1)) (va_up (ki1) (bx c - 1) ((ki1) (bx c - 1) ||| 2 ^ ((cl) (c) - 1))) (va_up (tr1) (c) ((bx c - 1) + 1)) (by omega) (by omega) (up_le (fun y => by have := hg1 y; omega) (by have := hg1 (bx c - 1); have := hgr c; omega)) (up_le (fun y => by have := hb1 y; omega) (by have := hb1 (bx c - 1); omega)) (fun y => by unfold va_up; split; exact or512 (hk1 _) (hcl c) hcc; exact hk1 y) (by rw [← hE]; obtain ⟨r, rfl⟩ : ∃ r, q = r + 1 := ⟨q - 1, by omega⟩; rw [stS, if_pos hsame, if_neg h55, if_pos (show fitB ap cl gr bg bb ab gi1 bi1 ki1 c (bx c - 1) = true from h67)]; rfl))
                  rfl
                · -- on
                  refine wk_iconst (pc := 70) (v := (nI (0))) S_ d_Pk_stillHolds_70 (by decide) ?_
                  exact hQ_ (nI (0)) (gi1, bi1, ki1, tr1) d_Pk_stillHolds_71 rfl rfl (bI_f (by rw [h4, Bool.true_and, ← hE]; obtain ⟨r, rfl⟩ : ∃ r, q = r + 1 := ⟨q - 1, by omega⟩; rw [stS, if_pos hsame, if_neg h55, if_neg (by rw [show fitB ap cl gr bg bb ab gi1 bi1 ki1 c (bx c - 1) = false from h67]; decide)]))
            · -- on
              refine wk_iconst (pc := 50) (v := (nI (0))) S_ d_Pk_stillHolds_50 (by decide) ?_
              exact hQ_ (nI (0)) (gi1, bi1, ki1, tr1) d_Pk_stillHolds_51 rfl rfl (bI_f (by rw [h4, Bool.true_and, ← hE]; obtain ⟨r, rfl⟩ : ∃ r, q = r + 1 := ⟨q - 1, by omega⟩; rw [stS, if_neg (fun y => h47 (congrArg bI y))]))
    refine wk_lv [1, 2, 3, 0] ?_ (hL15 _ (nb) (0) (fun _ => 0) (fun _ => 0) (fun _ => 0) (tr) (Nat.lt_succ_self _) (by omega) (fun _ => Nat.zero_le _) (fun _ => Nat.zero_le _) (fun _ => by decide) rfl)
    rfl
  · -- on
    refine wk_iconst (pc := 7) (v := (nI (0))) S_ d_Pk_stillHolds_7 (by decide) ?_
    exact hQ_ (nI (0)) (gi, bi, ki, tr) d_Pk_stillHolds_8 rfl rfl (bI_f (by rw [h4, Bool.false_and]))
set_option maxHeartbeats 4000000 in
set_option maxRecDepth 100000 in
theorem c_Pk_search (l : Launch) (D : va_G) (cI : CiT) (z : GzT) (k : Nat → Nat) (b : Nat → Nat) (s : Nat → Nat) (w : Nat → Nat) (gi : (Nat → Nat)) (bi : (Nat → Nat)) (ki : (Nat → Nat)) (qu : (Nat → Nat)) (wt : Nat) (tr : (Nat → Nat)) (be : (Nat → Nat)) (fw : Nat) (fd : Bool) (bx : (Nat → Nat)) (cl : (Nat → Nat)) (gr : (Nat → Nat)) (sp : (Nat → Nat)) (rs : (Nat → Nat)) (aw : (Nat → Nat)) (nb : Nat) (na : Nat) (bg : (Nat → Nat)) (bb : (Nat → Nat)) (ab : (Nat → Nat)) (nx : Nat) (ap : (Nat → Nat)) (pt : (Nat → Nat)) (rk : (Nat → Nat)) (cd : (Nat → Nat)) (mc : (Nat → Nat)) (mg : (Nat → Nat)) (mz : (Nat → Nat)) (nc : (Nat → Nat)) (nt : (Nat → Nat)) (oc : (Nat → Nat)) (fr : Nat) (x : Int64) (hnb : nb ≤ 8) (hnx : nx ≤ 5) (hqu : ∀ k, qu k < 8) (hrs : ∀ b, rs b ≤ 9) (hcl : ∀ b, cl b ≤ 9) (hgr : ∀ b, gr b ≤ 100000) (hab : ∀ x, ab x ≤ 1000000) (hbb : ∀ x, bb x ≤ 8) (hbg : ∀ x, bg x ≤ 1000000) : wk_C l D (tyK cI) (gX z) y_Pk_search b_Pk_search 5 (some .int) 10 400 0 0 [.ref (k 0), .ref (s 0), .ref (w 0), .long (x)] (wPk k cI (b 0) gi bi ki qu wt tr be fw fd ++ (wBx b cI bx ++ (wSt s cI cl gr sp rs aw nb na bg bb ab nx ++ (wRl w cI ap pt rk cd mc mg mz nc nt oc fr)))) wk_i (fun (r : Int32) (u : (Nat → Nat) × (Nat → Nat) × (Nat → Nat) × (Nat → Nat) × Nat × (Nat → Nat) × (Nat → Nat) × Nat × (Nat → Nat) × Bool) => (∀ k, u.2.2.2.1 k < 8) ∧ (r, u.2.2.2.2.2.2.2.2) = scS ap cl gr bg bb ab (pkL (otC rs) cl nb qu nb).1 nx (pkL (otC rs) cl nb qu nb).2 be x bx fd) (fun u => (wPk k cI (b 0) u.1 u.2.1 u.2.2.1 u.2.2.2.1 u.2.2.2.2.1 u.2.2.2.2.2.1 u.2.2.2.2.2.2.1 u.2.2.2.2.2.2.2.1 u.2.2.2.2.2.2.2.2.2 ++ (wBx b cI u.2.2.2.2.2.2.2.2.1 ++ (wSt s cI cl gr sp rs aw nb na bg bb ab nx ++ (wRl w cI ap pt rk cd mc mg mz nc nt oc fr))))) := by
  refine wk_methI (own := R_Pk) [(0, .ref (k 0)), (1, .ref (s 0)), (2, .ref (w 0)), (3, .long (x))] (by decide) rfl (Nat.le_of_ble_eq_true rfl) rfl (gX_ok z) (fun p_ e_ R_ s_ m_ ar_ be_ me_ co_ Q_ A_ hR_ S_ hnm_ hQ_ => ?_)
  refine wk_aload_n (pc := 0) S_ 0 d_Pk_search_0 rfl rfl ?_
  refine wk_aload_n (pc := 1) S_ 1 d_Pk_search_1 rfl rfl ?_
  refine wk_run (pc := 2) (rest := []) (wr := (wBx b cI bx ++ (wRl w cI ap pt rk cd mc mg mz nc nt oc fr))) (wN := fun _ => (wPk k cI (b 0) gi bi ki ((pkL (otC (rs)) (cl) (nb) (qu) (nb)).1) ((pkL (otC (rs)) (cl) (nb) (qu) (nb)).2) (fun _ => 0) be fw fd ++ (wBx b cI bx ++ (wSt s cI cl gr sp rs aw nb na bg bb ab nx ++ (wRl w cI ap pt rk cd mc mg mz nc nt oc fr))))) S_ (wk_rV S_ (c_Pk_lineUp l D cI z (k) (s) (b) (gi) (bi) (ki) (qu) (wt) (tr) (be) (fw) (fd) (cl) (gr) (sp) (rs) (aw) (nb) (na) (bg) (bb) (ab) (nx) (by omega) hqu hrs hcl) mv_Pk_39 (wk_rcv S_ 0 3 rfl rfl rfl) rfl rfl (Nat.le_of_ble_eq_true rfl) (by rw [hR_]; decide) (by rw [hR_]; decide) d_Pk_search_2) [0, 1, 2, 3, 4, 5, 6, 8, 9, 10, 11, 12, 13, 14, 15, 16] [7, 17, 18, 19, 20, 21, 22, 23, 24, 25, 26, 27] [12, 13, 14, 15, 16, 17, 18, 0, 19, 20, 21, 22, 23, 24, 25, 26, 27, 1, 2, 3, 4, 5, 6, 7, 8, 9, 10, 11] rfl rfl rfl (by decide) (by decide) (by decide) (by decide) (fun _ => rfl) (fun _ => rfl) (fun r2 _ hw2 => ?_)
  refine wk_st (st' := []) rfl ?_
  have hP8 := pkL_ok (ot := otC rs) (cl := cl) (nb := nb) hqu nb hnb
  have hpw := p58 (nx := nx) (n := (pkL (otC rs) cl nb qu nb).2) hnx (by omega)
  have hqq : ∀ i, i < (pkL (otC rs) cl nb qu nb).2 → (pkL (otC rs) cl nb qu nb).1 i < 8 ∧ cl ((pkL (otC rs) cl nb qu nb).1 i) ≠ 0 := fun i hi => ⟨by have := (hP8.2.2.1 i hi).1; omega, by have h7 := (hP8.2.2.1 i hi).2; unfold wyI at h7; split at h7; rename_i y; exact y.2.2; cases h7⟩
  refine wk_aload_n (pc := 5) S_ 0 d_Pk_search_5 rfl rfl ?_
  refine wk_aload_n (pc := 6) S_ 1 d_Pk_search_6 rfl rfl ?_
  refine wk_get (pc := 7) (v := .int (nI (nx))) S_ 2 10 8 in_St rfl (by decide) rfl fl_Pk_43 d_Pk_search_7 rfl rfl ?_
  refine wk_run (pc := 10) (rest := []) (wr := (wBx b cI bx ++ (wSt s cI cl gr sp rs aw nb na bg bb ab nx ++ (wRl w cI ap pt rk cd mc mg mz nc nt oc fr)))) (wN := fun _ => (wPk k cI (b 0) gi bi ki ((pkL (otC (rs)) (cl) (nb) (qu) (nb)).1) ((pkL (otC (rs)) (cl) (nb) (qu) (nb)).2) (fun _ => 0) be fw fd ++ (wBx b cI bx ++ (wSt s cI cl gr sp rs aw nb na bg bb ab nx ++ (wRl w cI ap pt rk cd mc mg mz nc nt oc fr))))) S_ (wk_rV S_ (c_Pk_countWays l D cI z (k) (b) (gi) (bi) (ki) ((pkL (otC (rs)) (cl) (nb) (qu) (nb)).1) ((pkL (otC (rs)) (cl) (nb) (qu) (nb)).2) (fun _ => 0) (be) (fw) (fd) (nx) (by omega) (by omega)) mv_Pk_48 (wk_rcv S_ 0 3 rfl rfl rfl) rfl rfl (Nat.le_of_ble_eq_true rfl) (by rw [hR_]; decide) (by rw [hR_]; decide) d_Pk_search_10) [0, 1, 2, 3, 4, 5, 6] [7, 8, 9, 10, 11, 12, 13, 14, 15, 16, 17, 18, 19, 20, 21, 22, 23, 24, 25, 26, 27] [21, 22, 23, 24, 25, 26, 27, 0, 1, 2, 3, 4, 5, 6, 7, 8, 9, 10, 11, 12, 13, 14, 15, 16, 17, 18, 19, 20] rfl rfl rfl (by decide) (by decide) (by decide) (by decide) (fun _ => rfl) (fun _ => rfl) (fun r10 _ hw10 => ?_)
  refine wk_st (st' := [.long (r10)]) rfl ?_
  refine wk_topl (y := (lN ((nx) ^ ((pkL (otC (rs)) (cl) (nb) (qu) (nb)).2)))) hw10 ?_
  refine wk_lload_n (pc := 13) S_ 3 d_Pk_search_13 rfl rfl ?_
  refine wk_lcmp (pc := 14) S_ d_Pk_search_14 ?_
  refine wk_cmp_le (pc := 15) (tgt := 20) S_ d_Pk_search_15 (by decide) (fun h15 => ?_) (fun h15 => ?_)
  · -- taken
    refine wk_aload_n (pc := 20) S_ 0 d_Pk_search_20 rfl rfl ?_
    refine wk_run (pc := 21) (rest := []) (wr := (wBx b cI bx ++ (wSt s cI cl gr sp rs aw nb na bg bb ab nx ++ (wRl w cI ap pt rk cd mc mg mz nc nt oc fr)))) (wN := fun _ => (wPk k cI (b 0) (fun _ => 0) (fun _ => 0) (fun _ => 0) ((pkL (otC (rs)) (cl) (nb) (qu) (nb)).1) ((pkL (otC (rs)) (cl) (nb) (qu) (nb)).2) (fun _ => 0) be fw fd ++ (wBx b cI bx ++ (wSt s cI cl gr sp rs aw nb na bg bb ab nx ++ (wRl w cI ap pt rk cd mc mg mz nc nt oc fr))))) S_ (wk_rV S_ (c_Pk_emptyBoxes l D cI z (k) (b) (gi) (bi) (ki) ((pkL (otC (rs)) (cl) (nb) (qu) (nb)).1) ((pkL (otC (rs)) (cl) (nb) (qu) (nb)).2) (fun _ => 0) (be) (fw) (fd)) mv_Pk_52 (wk_rcv S_ 0 3 rfl rfl rfl) rfl rfl (Nat.le_of_ble_eq_true rfl) (by rw [hR_]; decide) (by rw [hR_]; decide) d_Pk_search_21) [0, 1, 2, 3, 4, 5, 6] [7, 8, 9, 10, 11, 12, 13, 14, 15, 16, 17, 18, 19, 20, 21, 22, 23, 24, 25, 26, 27] [21, 22, 23, 24, 25, 26, 27, 0, 1, 2, 3, 4, 5, 6, 7, 8, 9, 10, 11, 12, 13, 14, 15, 16, 17, 18, 19, 20] rfl rfl rfl (by decide) (by decide) (by decide) (by decide) (fun _ => rfl) (fun _ => rfl) (fun r21 _ hw21 => ?_)
    refine wk_st (st' := []) rfl ?_
    refine wk_aload_n (pc := 24) S_ 0 d_Pk_search_24 rfl rfl ?_
    refine wk_bipush (pc := 25) (v := (nI (6))) S_ d_Pk_search_25 (by decide) ?_
    refine wk_put (pc := 27) (ty := .int) (ws' := (wPk k cI (b 0) (fun _ => 0) (fun _ => 0) (fun _ => 0) ((pkL (otC (rs)) (cl) (nb) (qu) (nb)).1) ((pkL (otC (rs)) (cl) (nb) (qu) (nb)).2) (fun _ => 0) be 6 fd ++ (wBx b cI bx ++ (wSt s cI cl gr sp rs aw nb na bg bb ab nx ++ (wRl w cI ap pt rk cd mc mg mz nc nt oc fr))))) S_ 3 7 0 in_Pk t_Pk t_Pk_ok n_Pk rfl (by decide) rfl fl_Pk_55 (by decide +kernel) d_Pk_search_27 rfl rfl rfl (Nat.le_of_ble_eq_true rfl) rfl ?_
    refine wk_aload_n (pc := 30) S_ 0 d_Pk_search_30 rfl rfl ?_
    refine wk_aload_n (pc := 31) S_ 1 d_Pk_search_31 rfl rfl ?_
    refine wk_aload_n (pc := 32) S_ 2 d_Pk_search_32 rfl rfl ?_
    refine wk_run (pc := 33) (rest := []) (wr := (wBx b cI bx)) (wN := fun _ => (wPk k cI (b 0) (fun _ => 0) (fun _ => 0) (fun _ => 0) ((pkL (otC (rs)) (cl) (nb) (qu) (nb)).1) ((pkL (otC (rs)) (cl) (nb) (qu) (nb)).2) (fun _ => 0) be 6 fd ++ (wBx b cI bx ++ (wSt s cI cl gr sp rs aw nb na bg bb ab nx ++ (wRl w cI ap pt rk cd mc mg mz nc nt oc fr))))) S_ (wk_rV S_ (c_Pk_eachFitsAlone l D cI z (k) (s) (w) (b) (fun _ => 0) (fun _ => 0) (fun _ => 0) ((pkL (otC (rs)) (cl) (nb) (qu) (nb)).1) ((pkL (otC (rs)) (cl) (nb) (qu) (nb)).2) (fun _ => 0) (be) (6) (fd) (cl) (gr) (sp) (rs) (aw) (nb) (na) (bg) (bb) (ab) (nx) (ap) (pt) (rk) (cd) (mc) (mg) (mz) (nc) (nt) (oc) (fr) (by omega) (by omega) (fun _ => by omega) (fun _ => by omega) (fun _ => by decide) hqq hcl hgr hab hbb hbg) mv_Pk_58 (wk_rcv S_ 0 3 rfl rfl rfl) rfl rfl (Nat.le_of_ble_eq_true rfl) (by rw [hR_]; decide) (by rw [hR_]; decide) d_Pk_search_33) [0, 1, 2, 3, 4, 5, 6, 8, 9, 10, 11, 12, 13, 14, 15, 16, 17, 18, 19, 20, 21, 22, 23, 24, 25, 26, 27] [7] [1, 2, 3, 4, 5, 6, 7, 0, 8, 9, 10, 11, 12, 13, 14, 15, 16, 17, 18, 19, 20, 21, 22, 23, 24, 25, 26, 27] rfl rfl rfl (by decide) (by decide) (by decide) (by decide) (fun _ => rfl) (fun _ => rfl) (fun r33 _ hw33 => ?_)
    refine wk_st (st' := [.int (r33)]) rfl ?_
    refine wk_top (y := (bI (efS (fun j x => fitB (ap) (cl) (gr) (bg) (bb) (ab) (fun _ => 0) (fun _ => 0) (fun _ => 0) j x) ((pkL (otC (rs)) (cl) (nb) (qu) (nb)).1) (nx) ((pkL (otC (rs)) (cl) (nb) (qu) (nb)).2)))) hw33 ?_
    refine wk_if_eqB (pc := 36) (tgt := 47) S_ d_Pk_search_36 (by decide) (fun h36 => ?_) (fun h36 => ?_)
    · -- taken
      refine wk_weq (ws' := (wPk k cI (b 0) (fun _ => 0) (fun _ => 0) (fun _ => 0) ((pkL (otC (rs)) (cl) (nb) (qu) (nb)).1) ((pkL (otC (rs)) (cl) (nb) (qu) (nb)).2) ((scA ap cl gr bg bb ab (pkL (otC rs) cl nb qu nb).1 nx (pkL (otC rs) cl nb qu nb).2 be).1) be 6 fd ++ (wBx b cI bx ++ (wSt s cI cl gr sp rs aw nb na bg bb ab nx ++ (wRl w cI ap pt rk cd mc mg mz nc nt oc fr))))) (by rw [scA, if_neg (by rw [h36]; decide)]) ?_
      refine wk_weq (ws' := (wPk k cI (b 0) (fun _ => 0) (fun _ => 0) (fun _ => 0) ((pkL (otC (rs)) (cl) (nb) (qu) (nb)).1) ((pkL (otC (rs)) (cl) (nb) (qu) (nb)).2) ((scA ap cl gr bg bb ab (pkL (otC rs) cl nb qu nb).1 nx (pkL (otC rs) cl nb qu nb).2 be).1) ((scA ap cl gr bg bb ab (pkL (otC rs) cl nb qu nb).1 nx (pkL (otC rs) cl nb qu nb).2 be).2.1) 6 fd ++ (wBx b cI bx ++ (wSt s cI cl gr sp rs aw nb na bg bb ab nx ++ (wRl w cI ap pt rk cd mc mg mz nc nt oc fr))))) (by rw [scA, if_neg (by rw [h36]; decide)]) ?_
      refine wk_weq (ws' := (wPk k cI (b 0) (fun _ => 0) (fun _ => 0) (fun _ => 0) ((pkL (otC (rs)) (cl) (nb) (qu) (nb)).1) ((pkL (otC (rs)) (cl) (nb) (qu) (nb)).2) ((scA ap cl gr bg bb ab (pkL (otC rs) cl nb qu nb).1 nx (pkL (otC rs) cl nb qu nb).2 be).1) ((scA ap cl gr bg bb ab (pkL (otC rs) cl nb qu nb).1 nx (pkL (otC rs) cl nb qu nb).2 be).2.1) ((scA ap cl gr bg bb ab (pkL (otC rs) cl nb qu nb).1 nx (pkL (otC rs) cl nb qu nb).2 be).2.2) fd ++ (wBx b cI bx ++ (wSt s cI cl gr sp rs aw nb na bg bb ab nx ++ (wRl w cI ap pt rk cd mc mg mz nc nt oc fr))))) (by rw [scA, if_neg (by rw [h36]; decide)]) ?_
      refine wk_aload_n (pc := 47) S_ 0 d_Pk_search_47 rfl rfl ?_
      refine wk_get (pc := 48) (v := .int (nI ((scA ap cl gr bg bb ab (pkL (otC rs) cl nb qu nb).1 nx (pkL (otC rs) cl nb qu nb).2 be).2.2))) S_ 3 7 0 in_Pk rfl (by decide) rfl fl_Pk_55 d_Pk_search_48 rfl rfl ?_
      have hfw9 := scA_le ap cl gr bg bb ab (pkL (otC rs) cl nb qu nb).1 nx be (n := (pkL (otC rs) cl nb qu nb).2) (by omega)
      refine wk_iconst (pc := 51) (v := (nI (5))) S_ d_Pk_search_51 (by decide) ?_
      refine wk_icmp_leN (pc := 52) (tgt := 57) S_ d_Pk_search_52 (by decide) (by omega) (by omega) (fun h52 => ?_) (fun h52 => ?_)
      · -- taken
        refine wk_aload_n (pc := 57) S_ 0 d_Pk_search_57 rfl rfl ?_
        refine wk_get (pc := 58) (v := .ref (k 6)) S_ 3 6 0 in_Pk rfl (by decide) rfl fl_Pk_27 d_Pk_search_58 rfl rfl ?_
        refine wk_iconst (pc := 61) (v := (nI (0))) S_ d_Pk_search_61 (by decide) ?_
        refine wk_aload_n (pc := 62) S_ 0 d_Pk_search_62 rfl rfl ?_
        refine wk_get (pc := 63) (v := .ref (b 0)) S_ 3 8 0 in_Pk rfl (by decide) rfl fl_Pk_30 d_Pk_search_63 rfl rfl ?_
        refine wk_iconst (pc := 66) (v := (nI (0))) S_ d_Pk_search_66 (by decide) ?_
        refine wk_bipush (pc := 67) (v := (nI (8))) S_ d_Pk_search_67 (by decide) ?_
        refine wk_copyY (pc := 69) (f := (scA ap cl gr bg bb ab (pkL (otC rs) cl nb qu nb).1 nx (pkL (otC rs) cl nb qu nb).2 be).2.1) (g := bx) (ws' := (wPk k cI (b 0) (fun _ => 0) (fun _ => 0) (fun _ => 0) ((pkL (otC (rs)) (cl) (nb) (qu) (nb)).1) ((pkL (otC (rs)) (cl) (nb) (qu) (nb)).2) ((scA ap cl gr bg bb ab (pkL (otC rs) cl nb qu nb).1 nx (pkL (otC rs) cl nb qu nb).2 be).1) ((scA ap cl gr bg bb ab (pkL (otC rs) cl nb qu nb).1 nx (pkL (otC rs) cl nb qu nb).2 be).2.1) ((scA ap cl gr bg bb ab (pkL (otC rs) cl nb qu nb).1 nx (pkL (otC rs) cl nb qu nb).2 be).2.2) fd ++ (wBx b cI (va_cpy ((scA ap cl gr bg bb ab (pkL (otC rs) cl nb qu nb).1 nx (pkL (otC rs) cl nb qu nb).2 be).2.1) (bx) (0) (0) (8)) ++ (wSt s cI cl gr sp rs aw nb na bg bb ab nx ++ (wRl w cI ap pt rk cd mc mg mz nc nt oc fr))))) S_ 6 7 0 ml_Pk_66 in_cpN in_cpS in_cpI rfl rfl rfl (by decide) (by decide) (by decide) (by decide) (by rw [hR_]; decide) (by rw [hR_]; decide) d_Pk_search_69 rfl ?_
        refine wk_aload_n (pc := 72) S_ 0 d_Pk_search_72 rfl rfl ?_
        refine wk_iconst (pc := 73) (v := (nI (1))) S_ d_Pk_search_73 (by decide) ?_
        refine wk_put (pc := 74) (ty := .boolean) (ws' := (wPk k cI (b 0) (fun _ => 0) (fun _ => 0) (fun _ => 0) ((pkL (otC (rs)) (cl) (nb) (qu) (nb)).1) ((pkL (otC (rs)) (cl) (nb) (qu) (nb)).2) ((scA ap cl gr bg bb ab (pkL (otC rs) cl nb qu nb).1 nx (pkL (otC rs) cl nb qu nb).2 be).1) ((scA ap cl gr bg bb ab (pkL (otC rs) cl nb qu nb).1 nx (pkL (otC rs) cl nb qu nb).2 be).2.1) ((scA ap cl gr bg bb ab (pkL (otC rs) cl nb qu nb).1 nx (pkL (otC rs) cl nb qu nb).2 be).2.2) true ++ (wBx b cI (va_cpy ((scA ap cl gr bg bb ab (pkL (otC rs) cl nb qu nb).1 nx (pkL (otC rs) cl nb qu nb).2 be).2.1) (bx) (0) (0) (8)) ++ (wSt s cI cl gr sp rs aw nb na bg bb ab nx ++ (wRl w cI ap pt rk cd mc mg mz nc nt oc fr))))) S_ 3 9 0 in_Pk t_Pk t_Pk_ok n_Pk rfl (by decide) rfl fl_Pk_72 (by decide +kernel) d_Pk_search_74 rfl rfl rfl (Nat.le_of_ble_eq_true rfl) rfl ?_
        refine wk_aload_n (pc := 77) S_ 0 d_Pk_search_77 rfl rfl ?_
        refine wk_get (pc := 78) (v := .int (nI ((scA ap cl gr bg bb ab (pkL (otC rs) cl nb qu nb).1 nx (pkL (otC rs) cl nb qu nb).2 be).2.2))) S_ 3 7 0 in_Pk rfl (by decide) rfl fl_Pk_55 d_Pk_search_78 rfl rfl ?_
        exact hQ_ (nI ((scA ap cl gr bg bb ab (pkL (otC rs) cl nb qu nb).1 nx (pkL (otC rs) cl nb qu nb).2 be).2.2)) (fun _ => 0, fun _ => 0, fun _ => 0, (pkL (otC (rs)) (cl) (nb) (qu) (nb)).1, (pkL (otC (rs)) (cl) (nb) (qu) (nb)).2, (scA ap cl gr bg bb ab (pkL (otC rs) cl nb qu nb).1 nx (pkL (otC rs) cl nb qu nb).2 be).1, (scA ap cl gr bg bb ab (pkL (otC rs) cl nb qu nb).1 nx (pkL (otC rs) cl nb qu nb).2 be).2.1, (scA ap cl gr bg bb ab (pkL (otC rs) cl nb qu nb).1 nx (pkL (otC rs) cl nb qu nb).2 be).2.2, va_cpy ((scA ap cl gr bg bb ab (pkL (otC rs) cl nb qu nb).1 nx (pkL (otC rs) cl nb qu nb).2 be).2.1) (bx) (0) (0) (8), true) d_Pk_search_81 rfl ⟨hP8.2.1, by rw [scS, if_neg (Int64.not_lt.mpr h15), if_neg (by omega)]⟩
      · -- on
        refine wk_iconst (pc := 55) (v := (-1)) S_ d_Pk_search_55 (by decide) ?_
        exact hQ_ (-1) (fun _ => 0, fun _ => 0, fun _ => 0, (pkL (otC (rs)) (cl) (nb) (qu) (nb)).1, (pkL (otC (rs)) (cl) (nb) (qu) (nb)).2, (scA ap cl gr bg bb ab (pkL (otC rs) cl nb qu nb).1 nx (pkL (otC rs) cl nb qu nb).2 be).1, (scA ap cl gr bg bb ab (pkL (otC rs) cl nb qu nb).1 nx (pkL (otC rs) cl nb qu nb).2 be).2.1, (scA ap cl gr bg bb ab (pkL (otC rs) cl nb qu nb).1 nx (pkL (otC rs) cl nb qu nb).2 be).2.2, bx, fd) d_Pk_search_56 rfl ⟨hP8.2.1, by rw [scS, if_neg (Int64.not_lt.mpr h15), if_pos h52]⟩
    · -- on
      refine wk_aload_n (pc := 39) S_ 0 d_Pk_search_39 rfl rfl ?_
      refine wk_aload_n (pc := 40) S_ 1 d_Pk_search_40 rfl rfl ?_
      refine wk_aload_n (pc := 41) S_ 2 d_Pk_search_41 rfl rfl ?_
      refine wk_iconst (pc := 42) (v := (nI (0))) S_ d_Pk_search_42 (by decide) ?_
      refine wk_iconst (pc := 43) (v := (nI (0))) S_ d_Pk_search_43 (by decide) ?_
      refine wk_run (pc := 44) (rest := []) (wr := (wBx b cI bx)) (wN := fun _ => (wPk k cI (b 0) (fun _ => 0) (fun _ => 0) (fun _ => 0) ((pkL (otC (rs)) (cl) (nb) (qu) (nb)).1) ((pkL (otC (rs)) (cl) (nb) (qu) (nb)).2) ((pcF (ap) (cl) (gr) (bg) (bb) (ab) ((pkL (otC (rs)) (cl) (nb) (qu) (nb)).1) (nx) ((pkL (otC rs) cl nb qu nb).2) (0) (fun _ => 0) (fun _ => 0) (fun _ => 0) ((fun _ => 0), (be), (6)) (0)).1) ((pcF (ap) (cl) (gr) (bg) (bb) (ab) ((pkL (otC (rs)) (cl) (nb) (qu) (nb)).1) (nx) ((pkL (otC rs) cl nb qu nb).2) (0) (fun _ => 0) (fun _ => 0) (fun _ => 0) ((fun _ => 0), (be), (6)) (0)).2.1) ((pcF (ap) (cl) (gr) (bg) (bb) (ab) ((pkL (otC (rs)) (cl) (nb) (qu) (nb)).1) (nx) ((pkL (otC rs) cl nb qu nb).2) (0) (fun _ => 0) (fun _ => 0) (fun _ => 0) ((fun _ => 0), (be), (6)) (0)).2.2) fd ++ (wBx b cI bx ++ (wSt s cI cl gr sp rs aw nb na bg bb ab nx ++ (wRl w cI ap pt rk cd mc mg mz nc nt oc fr))))) S_ (wk_rS S_ (c_Pk_place l D cI z (pkL (otC rs) cl nb qu nb).2 (k) (s) (w) (b) (fun _ => 0) (fun _ => 0) (fun _ => 0) ((pkL (otC (rs)) (cl) (nb) (qu) (nb)).1) ((pkL (otC (rs)) (cl) (nb) (qu) (nb)).2) (fun _ => 0) (be) (6) (fd) (cl) (gr) (sp) (rs) (aw) (nb) (na) (bg) (bb) (ab) (nx) (ap) (pt) (rk) (cd) (mc) (mg) (mz) (nc) (nt) (oc) (fr) (0) (0) (Nat.zero_add _) (by omega) (by omega) (by omega) (by omega) (fun _ => Nat.zero_le _) (fun _ => Nat.zero_le _) (fun _ => by decide) hqq hcl hgr hab hbb hbg) mv_Pk_62 rfl rfl (Nat.le_of_ble_eq_true rfl) (by subst hR_; exact ⟨by show (pkL (otC rs) cl nb qu nb).2 + 1 + 1 ≤ 10; omega, by show 8 + (9 + 11) + (28 * (pkL (otC rs) cl nb qu nb).2 + 60) ≤ 400; omega⟩) (by rw [hR_]; decide) d_Pk_search_44) [0, 1, 2, 3, 4, 5, 6, 8, 9, 10, 11, 12, 13, 14, 15, 16, 17, 18, 19, 20, 21, 22, 23, 24, 25, 26, 27] [7] [1, 2, 3, 4, 5, 6, 7, 0, 8, 9, 10, 11, 12, 13, 14, 15, 16, 17, 18, 19, 20, 21, 22, 23, 24, 25, 26, 27] rfl rfl rfl (by decide) (by decide) (by decide) (by decide) (fun _ => rfl) (fun _ => rfl) (fun r44 _ hw44 => ?_)
      refine wk_st (st' := []) rfl ?_
      refine wk_weq (ws' := (wPk k cI (b 0) (fun _ => 0) (fun _ => 0) (fun _ => 0) ((pkL (otC (rs)) (cl) (nb) (qu) (nb)).1) ((pkL (otC (rs)) (cl) (nb) (qu) (nb)).2) ((scA ap cl gr bg bb ab (pkL (otC rs) cl nb qu nb).1 nx (pkL (otC rs) cl nb qu nb).2 be).1) ((pcF (ap) (cl) (gr) (bg) (bb) (ab) ((pkL (otC (rs)) (cl) (nb) (qu) (nb)).1) (nx) ((pkL (otC rs) cl nb qu nb).2) (0) (fun _ => 0) (fun _ => 0) (fun _ => 0) ((fun _ => 0), (be), (6)) (0)).2.1) ((pcF (ap) (cl) (gr) (bg) (bb) (ab) ((pkL (otC (rs)) (cl) (nb) (qu) (nb)).1) (nx) ((pkL (otC rs) cl nb qu nb).2) (0) (fun _ => 0) (fun _ => 0) (fun _ => 0) ((fun _ => 0), (be), (6)) (0)).2.2) fd ++ (wBx b cI bx ++ (wSt s cI cl gr sp rs aw nb na bg bb ab nx ++ (wRl w cI ap pt rk cd mc mg mz nc nt oc fr))))) (by rw [scA, if_pos h36]) ?_
      refine wk_weq (ws' := (wPk k cI (b 0) (fun _ => 0) (fun _ => 0) (fun _ => 0) ((pkL (otC (rs)) (cl) (nb) (qu) (nb)).1) ((pkL (otC (rs)) (cl) (nb) (qu) (nb)).2) ((scA ap cl gr bg bb ab (pkL (otC rs) cl nb qu nb).1 nx (pkL (otC rs) cl nb qu nb).2 be).1) ((scA ap cl gr bg bb ab (pkL (otC rs) cl nb qu nb).1 nx (pkL (otC rs) cl nb qu nb).2 be).2.1) ((pcF (ap) (cl) (gr) (bg) (bb) (ab) ((pkL (otC (rs)) (cl) (nb) (qu) (nb)).1) (nx) ((pkL (otC rs) cl nb qu nb).2) (0) (fun _ => 0) (fun _ => 0) (fun _ => 0) ((fun _ => 0), (be), (6)) (0)).2.2) fd ++ (wBx b cI bx ++ (wSt s cI cl gr sp rs aw nb na bg bb ab nx ++ (wRl w cI ap pt rk cd mc mg mz nc nt oc fr))))) (by rw [scA, if_pos h36]) ?_
      refine wk_weq (ws' := (wPk k cI (b 0) (fun _ => 0) (fun _ => 0) (fun _ => 0) ((pkL (otC (rs)) (cl) (nb) (qu) (nb)).1) ((pkL (otC (rs)) (cl) (nb) (qu) (nb)).2) ((scA ap cl gr bg bb ab (pkL (otC rs) cl nb qu nb).1 nx (pkL (otC rs) cl nb qu nb).2 be).1) ((scA ap cl gr bg bb ab (pkL (otC rs) cl nb qu nb).1 nx (pkL (otC rs) cl nb qu nb).2 be).2.1) ((scA ap cl gr bg bb ab (pkL (otC rs) cl nb qu nb).1 nx (pkL (otC rs) cl nb qu nb).2 be).2.2) fd ++ (wBx b cI bx ++ (wSt s cI cl gr sp rs aw nb na bg bb ab nx ++ (wRl w cI ap pt rk cd mc mg mz nc nt oc fr))))) (by rw [scA, if_pos h36]) ?_
      refine wk_aload_n (pc := 47) S_ 0 d_Pk_search_47 rfl rfl ?_
      refine wk_get (pc := 48) (v := .int (nI ((scA ap cl gr bg bb ab (pkL (otC rs) cl nb qu nb).1 nx (pkL (otC rs) cl nb qu nb).2 be).2.2))) S_ 3 7 0 in_Pk rfl (by decide) rfl fl_Pk_55 d_Pk_search_48 rfl rfl ?_
      have hfw9 := scA_le ap cl gr bg bb ab (pkL (otC rs) cl nb qu nb).1 nx be (n := (pkL (otC rs) cl nb qu nb).2) (by omega)
      refine wk_iconst (pc := 51) (v := (nI (5))) S_ d_Pk_search_51 (by decide) ?_
      refine wk_icmp_leN (pc := 52) (tgt := 57) S_ d_Pk_search_52 (by decide) (by omega) (by omega) (fun h52 => ?_) (fun h52 => ?_)
      · -- taken
        refine wk_aload_n (pc := 57) S_ 0 d_Pk_search_57 rfl rfl ?_
        refine wk_get (pc := 58) (v := .ref (k 6)) S_ 3 6 0 in_Pk rfl (by decide) rfl fl_Pk_27 d_Pk_search_58 rfl rfl ?_
        refine wk_iconst (pc := 61) (v := (nI (0))) S_ d_Pk_search_61 (by decide) ?_
        refine wk_aload_n (pc := 62) S_ 0 d_Pk_search_62 rfl rfl ?_
        refine wk_get (pc := 63) (v := .ref (b 0)) S_ 3 8 0 in_Pk rfl (by decide) rfl fl_Pk_30 d_Pk_search_63 rfl rfl ?_
        refine wk_iconst (pc := 66) (v := (nI (0))) S_ d_Pk_search_66 (by decide) ?_
        refine wk_bipush (pc := 67) (v := (nI (8))) S_ d_Pk_search_67 (by decide) ?_
        refine wk_copyY (pc := 69) (f := (scA ap cl gr bg bb ab (pkL (otC rs) cl nb qu nb).1 nx (pkL (otC rs) cl nb qu nb).2 be).2.1) (g := bx) (ws' := (wPk k cI (b 0) (fun _ => 0) (fun _ => 0) (fun _ => 0) ((pkL (otC (rs)) (cl) (nb) (qu) (nb)).1) ((pkL (otC (rs)) (cl) (nb) (qu) (nb)).2) ((scA ap cl gr bg bb ab (pkL (otC rs) cl nb qu nb).1 nx (pkL (otC rs) cl nb qu nb).2 be).1) ((scA ap cl gr bg bb ab (pkL (otC rs) cl nb qu nb).1 nx (pkL (otC rs) cl nb qu nb).2 be).2.1) ((scA ap cl gr bg bb ab (pkL (otC rs) cl nb qu nb).1 nx (pkL (otC rs) cl nb qu nb).2 be).2.2) fd ++ (wBx b cI (va_cpy ((scA ap cl gr bg bb ab (pkL (otC rs) cl nb qu nb).1 nx (pkL (otC rs) cl nb qu nb).2 be).2.1) (bx) (0) (0) (8)) ++ (wSt s cI cl gr sp rs aw nb na bg bb ab nx ++ (wRl w cI ap pt rk cd mc mg mz nc nt oc fr))))) S_ 6 7 0 ml_Pk_66 in_cpN in_cpS in_cpI rfl rfl rfl (by decide) (by decide) (by decide) (by decide) (by rw [hR_]; decide) (by rw [hR_]; decide) d_Pk_search_69 rfl ?_
        refine wk_aload_n (pc := 72) S_ 0 d_Pk_search_72 rfl rfl ?_
        refine wk_iconst (pc := 73) (v := (nI (1))) S_ d_Pk_search_73 (by decide) ?_
        refine wk_put (pc := 74) (ty := .boolean) (ws' := (wPk k cI (b 0) (fun _ => 0) (fun _ => 0) (fun _ => 0) ((pkL (otC (rs)) (cl) (nb) (qu) (nb)).1) ((pkL (otC (rs)) (cl) (nb) (qu) (nb)).2) ((scA ap cl gr bg bb ab (pkL (otC rs) cl nb qu nb).1 nx (pkL (otC rs) cl nb qu nb).2 be).1) ((scA ap cl gr bg bb ab (pkL (otC rs) cl nb qu nb).1 nx (pkL (otC rs) cl nb qu nb).2 be).2.1) ((scA ap cl gr bg bb ab (pkL (otC rs) cl nb qu nb).1 nx (pkL (otC rs) cl nb qu nb).2 be).2.2) true ++ (wBx b cI (va_cpy ((scA ap cl gr bg bb ab (pkL (otC rs) cl nb qu nb).1 nx (pkL (otC rs) cl nb qu nb).2 be).2.1) (bx) (0) (0) (8)) ++ (wSt s cI cl gr sp rs aw nb na bg bb ab nx ++ (wRl w cI ap pt rk cd mc mg mz nc nt oc fr))))) S_ 3 9 0 in_Pk t_Pk t_Pk_ok n_Pk rfl (by decide) rfl fl_Pk_72 (by decide +kernel) d_Pk_search_74 rfl rfl rfl (Nat.le_of_ble_eq_true rfl) rfl ?_
        refine wk_aload_n (pc := 77) S_ 0 d_Pk_search_77 rfl rfl ?_
        refine wk_get (pc := 78) (v := .int (nI ((scA ap cl gr bg bb ab (pkL (otC rs) cl nb qu nb).1 nx (pkL (otC rs) cl nb qu nb).2 be).2.2))) S_ 3 7 0 in_Pk rfl (by decide) rfl fl_Pk_55 d_Pk_search_78 rfl rfl ?_
        exact hQ_ (nI ((scA ap cl gr bg bb ab (pkL (otC rs) cl nb qu nb).1 nx (pkL (otC rs) cl nb qu nb).2 be).2.2)) (fun _ => 0, fun _ => 0, fun _ => 0, (pkL (otC (rs)) (cl) (nb) (qu) (nb)).1, (pkL (otC (rs)) (cl) (nb) (qu) (nb)).2, (scA ap cl gr bg bb ab (pkL (otC rs) cl nb qu nb).1 nx (pkL (otC rs) cl nb qu nb).2 be).1, (scA ap cl gr bg bb ab (pkL (otC rs) cl nb qu nb).1 nx (pkL (otC rs) cl nb qu nb).2 be).2.1, (scA ap cl gr bg bb ab (pkL (otC rs) cl nb qu nb).1 nx (pkL (otC rs) cl nb qu nb).2 be).2.2, va_cpy ((scA ap cl gr bg bb ab (pkL (otC rs) cl nb qu nb).1 nx (pkL (otC rs) cl nb qu nb).2 be).2.1) (bx) (0) (0) (8), true) d_Pk_search_81 rfl ⟨hP8.2.1, by rw [scS, if_neg (Int64.not_lt.mpr h15), if_neg (by omega)]⟩
      · -- on
        refine wk_iconst (pc := 55) (v := (-1)) S_ d_Pk_search_55 (by decide) ?_
        exact hQ_ (-1) (fun _ => 0, fun _ => 0, fun _ => 0, (pkL (otC (rs)) (cl) (nb) (qu) (nb)).1, (pkL (otC (rs)) (cl) (nb) (qu) (nb)).2, (scA ap cl gr bg bb ab (pkL (otC rs) cl nb qu nb).1 nx (pkL (otC rs) cl nb qu nb).2 be).1, (scA ap cl gr bg bb ab (pkL (otC rs) cl nb qu nb).1 nx (pkL (otC rs) cl nb qu nb).2 be).2.1, (scA ap cl gr bg bb ab (pkL (otC rs) cl nb qu nb).1 nx (pkL (otC rs) cl nb qu nb).2 be).2.2, bx, fd) d_Pk_search_56 rfl ⟨hP8.2.1, by rw [scS, if_neg (Int64.not_lt.mpr h15), if_pos h52]⟩
  · -- on
    refine wk_iconst (pc := 18) (v := (-1)) S_ d_Pk_search_18 (by decide) ?_
    exact hQ_ (-1) (gi, bi, ki, (pkL (otC (rs)) (cl) (nb) (qu) (nb)).1, (pkL (otC (rs)) (cl) (nb) (qu) (nb)).2, fun _ => 0, be, fw, bx, fd) d_Pk_search_19 rfl ⟨hP8.2.1, by rw [scS, if_pos (Int64.not_le.mp h15)]⟩
