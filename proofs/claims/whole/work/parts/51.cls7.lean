theorem hr_mono {nc : Nat → Nat} {k : Nat} (h : decide (nc k < 8) = true) : ∀ {n}, k < n → hrS nc n = true
  | 0, h0 => absurd h0 (Nat.not_lt_zero _)
  | n + 1, h0 => by
    rw [hrS]
    by_cases e : k = n
    · subst e; rw [h]; simp
    · rw [hr_mono h (show k < n by omega)]; rfl
theorem mx_pl {m p : Nat} (h : p ≤ 0 + m) (hm : m < 2 ^ 30) : (if nI m < nI (p + 1) then nI (p + 1) else nI m) = nI (m + (if p = m then 1 else 0)) := by
  by_cases e : p = m
  · subst e
    rw [if_pos ((nI_ltI (by omega) (by omega)).mpr (by omega)), if_pos rfl]
  · rw [if_neg (fun z => by have := (nI_ltI (by omega) (by omega)).mp z; omega), if_neg e]; rfl
theorem up_p1 {nu : Nat → Nat} {p v : Nat} (h : v ≠ 0) : va_up (fun i => nu i + 1) p v = fun i => va_up nu p (v - 1) i + 1 := by
  funext i
  by_cases e : i = p
  · subst e; rw [up_s, up_s]; omega
  · rw [up_n e, up_n e]
theorem nuN_le (tx : Nat → Nat) (s e : Nat) : nuN tx s e ≤ 1000000 := by
  unfold nuN
  split
  · rename_i h
    exact nuS_le _ _ 1 (Nat.pow_pos (by decide)) h.2
  · omega
/-- what the class's reading keeps -/
def csOk (w : Nat) (cs : CS) : Prop := ctOk cs.2.2.2.2 ∧ (cs.1 = 0 ∨ (cs.1 ≤ 9 ∧ cs.2.1 < ptsK (cs.1 - 1) ∧ tdP (cs.1 - 1) (cNc cs.2.2.2.2) (cMc cs.2.2.2.2) (cMg cs.2.2.2.2) cs.2.1 (fun i => cs.2.2.2.1 i + 1))) ∧ cs.2.2.1 ≤ w
theorem ln_ok {x a b c : Nat} {q : CT} (hq : ctOk q) (hb : x = 4 → b ≤ 999999) (hm : x = 4 → mpS (cMg q) a b (cMc q a) 0 < 6) (hn : x = 6 → cNc q a < 8) : ctOk (lnS x a b c q) := by
  obtain ⟨ap, pt, rk, cd, fr, mc, mg, mz, nc, nt, oc⟩ := q
  have h := tell_ok (x := x) (a := a) (b := b) (c := c) (q := (fun _ => false, pt, rk, cd, fr, mc, mg, mz, nc, nt, oc)) hq hb hm hn
  rcases x with _ | _ | _ | _ | _ | _ | _ | _ | x
  all_goals exact h
theorem tw_ok {tx : Nat → Nat} {s e w : Nat} {cs : CS} (h : csOk w cs) (ht : (twC tx s e cs).1 = true) : csOk (w + 1) (twC tx s e cs).2 := by
  obtain ⟨ok, gt, sn, nu, q⟩ := cs
  obtain ⟨h1, h2, h3⟩ := h
  have h3' : sn ≤ w := h3
  revert ht
  show (twS tx s e ok gt sn nu q).1 = true → csOk (w + 1) (twS tx s e ok gt sn nu q).2
  rw [twS]
  by_cases e0 : ok = 0
  · rw [if_pos e0]
    intro ht
    have ht' := of_decide_eq_true ht
    have hk9 := kdS_le (tx := tx) (s := s) (e := e) 9 0
    refine ⟨h1, Or.inr ⟨by show kdS tx s e 9 0 ≤ 9; omega, ptsK_pos _, fun i hi => absurd hi (Nat.not_lt_zero i), fun _ z => absurd z (Nat.lt_irrefl _), fun _ z => absurd z (show ¬ 1 < 0 by decide)⟩, ?_⟩
    show sn ≤ w + 1
    omega
  · rw [if_neg e0]
    have h2' : ok ≤ 9 ∧ gt < ptsK (ok - 1) ∧ tdP (ok - 1) (cNc q) (cMc q) (cMg q) gt (fun i => nu i + 1) := by
      rcases h2 with z | z
      · exact absurd z e0
      · exact z
    obtain ⟨h9, hg, hP⟩ := h2'
    rw [tnW]
    by_cases c1 : gt < 3 ∧ gdN (ok - 1) gt (nuN tx s e) (fun i => nu i + 1) (cNc q) (cMc q) (cMg q) = true
    · rw [if_pos c1]
      intro _
      have hv0 : nuN tx s e ≠ 0 := by
        have c2 := c1.2
        rw [gdN, decide_eq_true_eq] at c2
        omega
      have hP2 := tdP_s h1.2.2 h1.1 hP c1.2
      rw [up_p1 hv0] at hP2
      by_cases c3 : ptsK (ok - 1) ≤ gt + 1
      · rw [if_pos c3]
        refine ⟨ln_ok h1 (fun e4 => ?_) (fun e4 => ?_) (fun e6 => ?_), Or.inl rfl, ?_⟩
        · rw [e4] at hP2 c3
          exact (hP2.1 1 (by have : ptsK 4 = 3 := rfl; omega)).2
        · exact hP2.2.2 e4 (by rw [e4] at c3; have : ptsK 4 = 3 := rfl; omega)
        · exact hP2.2.1 e6 (by omega)
        · show sn + 1 ≤ w + 1
          omega
      · rw [if_neg c3]
        refine ⟨h1, Or.inr ⟨?_, ?_, ?_⟩, ?_⟩
        · show ok - 1 + 1 ≤ 9
          omega
        · show gt + 1 < ptsK (ok - 1 + 1 - 1)
          rw [Nat.add_sub_cancel]
          omega
        · show tdP (ok - 1 + 1 - 1) (cNc q) (cMc q) (cMg q) (gt + 1) _
          rw [Nat.add_sub_cancel]
          exact hP2
        · show sn ≤ w + 1
          omega
    · rw [if_neg c1]
      intro z
      exact absurd z Bool.false_ne_true
/-- a word that can't stand leaves the rules as they are -/
theorem tw_f {tx : Nat → Nat} {s e : Nat} {cs : CS} (ht : (twC tx s e cs).1 = false) : (twC tx s e cs).2.2.2.2.2 = cs.2.2.2.2 := by
  obtain ⟨ok, gt, sn, nu, q⟩ := cs
  revert ht
  show (twS tx s e ok gt sn nu q).1 = false → (twS tx s e ok gt sn nu q).2.2.2.2.2 = q
  rw [twS]
  by_cases e0 : ok = 0
  · rw [if_pos e0]; intro _; rfl
  · rw [if_neg e0, tnW]
    split
    · split
      · intro z; exact absurd z (by simp)
      · intro z; exact absurd z (by simp)
    · intro _; rfl
theorem fl_Kd_58 : Cond.fieldLink R_Kd 58 R_Kd "mostFirst" "I" ∈ lw_gd := (gd _ (tb4 _ (List.mem_of_getElem? (i := 8) rfl)) rfl)
theorem fl_Kd_61 : Cond.fieldLink R_Kd 61 R_Kd "mostSecond" "I" ∈ lw_gd := (gd _ (tb4 _ (List.mem_of_getElem? (i := 9) rfl)) rfl)
theorem fl_Kd_64 : Cond.fieldLink R_Kd 64 R_Kd "mostThird" "I" ∈ lw_gd := (gd _ (tb4 _ (List.mem_of_getElem? (i := 10) rfl)) rfl)
theorem d_Kd_most_0 : decode b_Kd_most 0 = .ok (.iload_n 1, 1) := by decide +kernel
theorem d_Kd_most_1 : decode b_Kd_most 1 = .ok (.ifCond .ne 8, 3) := by decide +kernel
theorem d_Kd_most_4 : decode b_Kd_most 4 = .ok (.aload_n 0, 1) := by decide +kernel
theorem d_Kd_most_5 : decode b_Kd_most 5 = .ok (.getfield 58, 3) := by decide +kernel
theorem d_Kd_most_8 : decode b_Kd_most 8 = .ok (.ireturn, 1) := by decide +kernel
theorem d_Kd_most_9 : decode b_Kd_most 9 = .ok (.iload_n 1, 1) := by decide +kernel
theorem d_Kd_most_10 : decode b_Kd_most 10 = .ok (.iconst 1, 1) := by decide +kernel
theorem d_Kd_most_11 : decode b_Kd_most 11 = .ok (.if_icmp .ne 10, 3) := by decide +kernel
theorem d_Kd_most_14 : decode b_Kd_most 14 = .ok (.aload_n 0, 1) := by decide +kernel
theorem d_Kd_most_15 : decode b_Kd_most 15 = .ok (.getfield 61, 3) := by decide +kernel
theorem d_Kd_most_18 : decode b_Kd_most 18 = .ok (.goto 7, 3) := by decide +kernel
theorem d_Kd_most_21 : decode b_Kd_most 21 = .ok (.aload_n 0, 1) := by decide +kernel
theorem d_Kd_most_22 : decode b_Kd_most 22 = .ok (.getfield 64, 3) := by decide +kernel
theorem d_Kd_most_25 : decode b_Kd_most 25 = .ok (.ireturn, 1) := by decide +kernel
theorem fl_Kd_16 : Cond.fieldLink R_Kd 16 R_Kd "MARK" "LPackLists$Kind;" ∈ lw_gd := (gd _ (tb1 _ (List.mem_of_getElem? (i := 119) rfl)) rfl)
theorem fl_Kd_19 : Cond.fieldLink R_Kd 19 R_Kd "TUNNEL" "LPackLists$Kind;" ∈ lw_gd := (gd _ (tb1 _ (List.mem_of_getElem? (i := 121) rfl)) rfl)
theorem d_Kd_least_0 : decode b_Kd_least 0 = .ok (.aload_n 0, 1) := by decide +kernel
theorem d_Kd_least_1 : decode b_Kd_least 1 = .ok (.getstatic 16, 3) := by decide +kernel
theorem d_Kd_least_4 : decode b_Kd_least 4 = .ok (.if_acmp .ne 12, 3) := by decide +kernel
theorem d_Kd_least_7 : decode b_Kd_least 7 = .ok (.iload_n 1, 1) := by decide +kernel
theorem d_Kd_least_8 : decode b_Kd_least 8 = .ok (.iconst 2, 1) := by decide +kernel
theorem d_Kd_least_9 : decode b_Kd_least 9 = .ok (.if_icmp .ne 7, 3) := by decide +kernel
theorem d_Kd_least_12 : decode b_Kd_least 12 = .ok (.iconst 1, 1) := by decide +kernel
theorem d_Kd_least_13 : decode b_Kd_least 13 = .ok (.goto 4, 3) := by decide +kernel
theorem d_Kd_least_16 : decode b_Kd_least 16 = .ok (.iconst 0, 1) := by decide +kernel
theorem d_Kd_least_17 : decode b_Kd_least 17 = .ok (.istore_n 2, 1) := by decide +kernel
theorem d_Kd_least_18 : decode b_Kd_least 18 = .ok (.aload_n 0, 1) := by decide +kernel
theorem d_Kd_least_19 : decode b_Kd_least 19 = .ok (.getstatic 19, 3) := by decide +kernel
theorem d_Kd_least_22 : decode b_Kd_least 22 = .ok (.if_acmp .ne 12, 3) := by decide +kernel
theorem d_Kd_least_25 : decode b_Kd_least 25 = .ok (.iload_n 1, 1) := by decide +kernel
theorem d_Kd_least_26 : decode b_Kd_least 26 = .ok (.iconst 1, 1) := by decide +kernel
theorem d_Kd_least_27 : decode b_Kd_least 27 = .ok (.if_icmp .ne 7, 3) := by decide +kernel
theorem d_Kd_least_30 : decode b_Kd_least 30 = .ok (.iconst 1, 1) := by decide +kernel
theorem d_Kd_least_31 : decode b_Kd_least 31 = .ok (.goto 4, 3) := by decide +kernel
theorem d_Kd_least_34 : decode b_Kd_least 34 = .ok (.iconst 0, 1) := by decide +kernel
theorem d_Kd_least_35 : decode b_Kd_least 35 = .ok (.istore_n 3, 1) := by decide +kernel
theorem d_Kd_least_36 : decode b_Kd_least 36 = .ok (.iload_n 2, 1) := by decide +kernel
theorem d_Kd_least_37 : decode b_Kd_least 37 = .ok (.ifCond .ne 7, 3) := by decide +kernel
theorem d_Kd_least_40 : decode b_Kd_least 40 = .ok (.iload_n 3, 1) := by decide +kernel
theorem d_Kd_least_41 : decode b_Kd_least 41 = .ok (.ifCond .eq 7, 3) := by decide +kernel
theorem d_Kd_least_44 : decode b_Kd_least 44 = .ok (.iconst 1, 1) := by decide +kernel
theorem d_Kd_least_45 : decode b_Kd_least 45 = .ok (.goto 4, 3) := by decide +kernel
theorem d_Kd_least_48 : decode b_Kd_least 48 = .ok (.iconst 0, 1) := by decide +kernel
theorem d_Kd_least_49 : decode b_Kd_least 49 = .ok (.ireturn, 1) := by decide +kernel
theorem fl_Rl_9 : Cond.fieldLink R_Rl 9 R_Rl "apart" "[I" ∈ lw_gd := (gd _ (tb0 _ (List.mem_of_getElem? (i := 186) rfl)) rfl)
theorem mv_Rl_42 : wk_T R_Rl 42 y_Ar_fill b_Ar_fill 4 none 2 := ⟨(gd _ (tb0 _ (List.mem_of_getElem? (i := 118) rfl)) rfl), (gd _ (tb0 _ (List.mem_of_getElem? (i := 5) rfl)) rfl), (gd _ (tb0 _ (List.mem_of_getElem? (i := 185) rfl)) rfl), (by decide +kernel), (gd _ (tb0 _ (List.mem_of_getElem? (i := 117) rfl)) rfl)⟩
theorem fl_Rl_15 : Cond.fieldLink R_Rl 15 R_Rl "perThousand" "[I" ∈ lw_gd := (gd _ (tb0 _ (List.mem_of_getElem? (i := 188) rfl)) rfl)
theorem fl_Rl_18 : Cond.fieldLink R_Rl 18 R_Rl "ranks" "[I" ∈ lw_gd := (gd _ (tb0 _ (List.mem_of_getElem? (i := 190) rfl)) rfl)
theorem fl_Rl_21 : Cond.fieldLink R_Rl 21 R_Rl "codes" "[I" ∈ lw_gd := (gd _ (tb0 _ (List.mem_of_getElem? (i := 192) rfl)) rfl)
theorem fl_Rl_48 : Cond.fieldLink R_Rl 48 R_Rl "free" "I" ∈ lw_gd := (gd _ (tb0 _ (List.mem_of_getElem? (i := 200) rfl)) rfl)
theorem d_Rl_forget_0 : decode b_Rl_forget 0 = .ok (.aload_n 0, 1) := by decide +kernel
theorem d_Rl_forget_1 : decode b_Rl_forget 1 = .ok (.getfield 9, 3) := by decide +kernel
theorem d_Rl_forget_4 : decode b_Rl_forget 4 = .ok (.iconst 0, 1) := by decide +kernel
theorem d_Rl_forget_5 : decode b_Rl_forget 5 = .ok (.invokestatic 42, 3) := by decide +kernel
theorem d_Rl_forget_8 : decode b_Rl_forget 8 = .ok (.aload_n 0, 1) := by decide +kernel
theorem d_Rl_forget_9 : decode b_Rl_forget 9 = .ok (.getfield 15, 3) := by decide +kernel
theorem d_Rl_forget_12 : decode b_Rl_forget 12 = .ok (.iconst 0, 1) := by decide +kernel
theorem d_Rl_forget_13 : decode b_Rl_forget 13 = .ok (.invokestatic 42, 3) := by decide +kernel
theorem d_Rl_forget_16 : decode b_Rl_forget 16 = .ok (.aload_n 0, 1) := by decide +kernel
theorem d_Rl_forget_17 : decode b_Rl_forget 17 = .ok (.getfield 18, 3) := by decide +kernel
theorem d_Rl_forget_20 : decode b_Rl_forget 20 = .ok (.iconst 0, 1) := by decide +kernel
theorem d_Rl_forget_21 : decode b_Rl_forget 21 = .ok (.invokestatic 42, 3) := by decide +kernel
theorem d_Rl_forget_24 : decode b_Rl_forget 24 = .ok (.aload_n 0, 1) := by decide +kernel
theorem d_Rl_forget_25 : decode b_Rl_forget 25 = .ok (.getfield 21, 3) := by decide +kernel
theorem d_Rl_forget_28 : decode b_Rl_forget 28 = .ok (.iconst 0, 1) := by decide +kernel
theorem d_Rl_forget_29 : decode b_Rl_forget 29 = .ok (.invokestatic 42, 3) := by decide +kernel
theorem d_Rl_forget_32 : decode b_Rl_forget 32 = .ok (.aload_n 0, 1) := by decide +kernel
theorem d_Rl_forget_33 : decode b_Rl_forget 33 = .ok (.getfield 24, 3) := by decide +kernel
theorem d_Rl_forget_36 : decode b_Rl_forget 36 = .ok (.iconst 0, 1) := by decide +kernel
theorem d_Rl_forget_37 : decode b_Rl_forget 37 = .ok (.invokestatic 42, 3) := by decide +kernel
theorem d_Rl_forget_40 : decode b_Rl_forget 40 = .ok (.aload_n 0, 1) := by decide +kernel
theorem d_Rl_forget_41 : decode b_Rl_forget 41 = .ok (.getfield 33, 3) := by decide +kernel
theorem d_Rl_forget_44 : decode b_Rl_forget 44 = .ok (.iconst 0, 1) := by decide +kernel
theorem d_Rl_forget_45 : decode b_Rl_forget 45 = .ok (.invokestatic 42, 3) := by decide +kernel
theorem d_Rl_forget_48 : decode b_Rl_forget 48 = .ok (.aload_n 0, 1) := by decide +kernel
theorem d_Rl_forget_49 : decode b_Rl_forget 49 = .ok (.getfield 39, 3) := by decide +kernel
theorem d_Rl_forget_52 : decode b_Rl_forget 52 = .ok (.iconst (-1), 1) := by decide +kernel
theorem d_Rl_forget_53 : decode b_Rl_forget 53 = .ok (.invokestatic 42, 3) := by decide +kernel
theorem d_Rl_forget_56 : decode b_Rl_forget 56 = .ok (.aload_n 0, 1) := by decide +kernel
theorem d_Rl_forget_57 : decode b_Rl_forget 57 = .ok (.iconst 0, 1) := by decide +kernel
theorem d_Rl_forget_58 : decode b_Rl_forget 58 = .ok (.putfield 48, 3) := by decide +kernel
theorem d_Rl_forget_61 : decode b_Rl_forget 61 = .ok (.return_, 1) := by decide +kernel
theorem mv_Rl_71 : wk_V R_Rl 71 R_Rl y_Rl_hasRoomForNote b_Rl_hasRoomForNote 2 (some .boolean) 1 := ⟨(gd _ (tb1 _ (List.mem_of_getElem? (i := 102) rfl)) rfl), (gd _ (tb0 _ (List.mem_of_getElem? (i := 7) rfl)) rfl), (gd _ (tb1 _ (List.mem_of_getElem? (i := 99) rfl)) rfl), (by decide +kernel), (gd _ (tb1 _ (List.mem_of_getElem? (i := 100) rfl)) rfl), (gd _ (tb1 _ (List.mem_of_getElem? (i := 101) rfl)) rfl)⟩
theorem d_Rl_hasRoomForNotes_0 : decode b_Rl_hasRoomForNotes 0 = .ok (.iconst 0, 1) := by decide +kernel
theorem d_Rl_hasRoomForNotes_1 : decode b_Rl_hasRoomForNotes 1 = .ok (.istore_n 1, 1) := by decide +kernel
theorem d_Rl_hasRoomForNotes_2 : decode b_Rl_hasRoomForNotes 2 = .ok (.iload_n 1, 1) := by decide +kernel
theorem d_Rl_hasRoomForNotes_3 : decode b_Rl_hasRoomForNotes 3 = .ok (.iconst 4, 1) := by decide +kernel
theorem d_Rl_hasRoomForNotes_4 : decode b_Rl_hasRoomForNotes 4 = .ok (.if_icmp .ge 19, 3) := by decide +kernel
theorem d_Rl_hasRoomForNotes_7 : decode b_Rl_hasRoomForNotes 7 = .ok (.aload_n 0, 1) := by decide +kernel
theorem d_Rl_hasRoomForNotes_8 : decode b_Rl_hasRoomForNotes 8 = .ok (.iload_n 1, 1) := by decide +kernel
theorem d_Rl_hasRoomForNotes_9 : decode b_Rl_hasRoomForNotes 9 = .ok (.invokevirtual 71, 3) := by decide +kernel
theorem d_Rl_hasRoomForNotes_12 : decode b_Rl_hasRoomForNotes 12 = .ok (.ifCond .eq 5, 3) := by decide +kernel
theorem d_Rl_hasRoomForNotes_15 : decode b_Rl_hasRoomForNotes 15 = .ok (.iconst 1, 1) := by decide +kernel
theorem d_Rl_hasRoomForNotes_16 : decode b_Rl_hasRoomForNotes 16 = .ok (.ireturn, 1) := by decide +kernel
theorem d_Rl_hasRoomForNotes_17 : decode b_Rl_hasRoomForNotes 17 = .ok (.iinc 1 1, 3) := by decide +kernel
theorem d_Rl_hasRoomForNotes_20 : decode b_Rl_hasRoomForNotes 20 = .ok (.goto (-18), 3) := by decide +kernel
theorem d_Rl_hasRoomForNotes_23 : decode b_Rl_hasRoomForNotes 23 = .ok (.iconst 0, 1) := by decide +kernel
theorem d_Rl_hasRoomForNotes_24 : decode b_Rl_hasRoomForNotes 24 = .ok (.ireturn, 1) := by decide +kernel
theorem mv_Rl_75 : wk_V R_Rl 75 R_Rl y_Rl_placeOfMark b_Rl_placeOfMark 4 (some .int) 2 := ⟨(gd _ (tb1 _ (List.mem_of_getElem? (i := 136) rfl)) rfl), (gd _ (tb0 _ (List.mem_of_getElem? (i := 7) rfl)) rfl), (gd _ (tb1 _ (List.mem_of_getElem? (i := 133) rfl)) rfl), (by decide +kernel), (gd _ (tb1 _ (List.mem_of_getElem? (i := 135) rfl)) rfl), (gd _ (List.mem_append_left _ (by decide +kernel)) rfl)⟩
theorem d_Rl_hasRoomForMark_0 : decode b_Rl_hasRoomForMark 0 = .ok (.aload_n 0, 1) := by decide +kernel
theorem d_Rl_hasRoomForMark_1 : decode b_Rl_hasRoomForMark 1 = .ok (.iload_n 1, 1) := by decide +kernel
theorem d_Rl_hasRoomForMark_2 : decode b_Rl_hasRoomForMark 2 = .ok (.iload_n 2, 1) := by decide +kernel
theorem d_Rl_hasRoomForMark_3 : decode b_Rl_hasRoomForMark 3 = .ok (.invokevirtual 75, 3) := by decide +kernel
theorem d_Rl_hasRoomForMark_6 : decode b_Rl_hasRoomForMark 6 = .ok (.bipush 6, 2) := by decide +kernel
theorem d_Rl_hasRoomForMark_8 : decode b_Rl_hasRoomForMark 8 = .ok (.if_icmp .ge 7, 3) := by decide +kernel
theorem d_Rl_hasRoomForMark_11 : decode b_Rl_hasRoomForMark 11 = .ok (.iconst 1, 1) := by decide +kernel
theorem d_Rl_hasRoomForMark_12 : decode b_Rl_hasRoomForMark 12 = .ok (.goto 4, 3) := by decide +kernel
theorem d_Rl_hasRoomForMark_15 : decode b_Rl_hasRoomForMark 15 = .ok (.iconst 0, 1) := by decide +kernel
theorem d_Rl_hasRoomForMark_16 : decode b_Rl_hasRoomForMark 16 = .ok (.ireturn, 1) := by decide +kernel
theorem ml_Rl_79 : Cond.methodLink R_Rl 79 Lib.Math.max.name ∈ lw_gd := (gd _ (tb1 _ (List.mem_of_getElem? (i := 153) rfl)) rfl)
theorem d_Rl_setMark_0 : decode b_Rl_setMark 0 = .ok (.aload_n 0, 1) := by decide +kernel
theorem d_Rl_setMark_1 : decode b_Rl_setMark 1 = .ok (.iload_n 1, 1) := by decide +kernel
theorem d_Rl_setMark_2 : decode b_Rl_setMark 2 = .ok (.iload_n 2, 1) := by decide +kernel
theorem d_Rl_setMark_3 : decode b_Rl_setMark 3 = .ok (.invokevirtual 75, 3) := by decide +kernel
theorem d_Rl_setMark_6 : decode b_Rl_setMark 6 = .ok (.istore 4, 2) := by decide +kernel
theorem d_Rl_setMark_8 : decode b_Rl_setMark 8 = .ok (.iload 4, 2) := by decide +kernel
theorem d_Rl_setMark_10 : decode b_Rl_setMark 10 = .ok (.bipush 6, 2) := by decide +kernel
theorem d_Rl_setMark_12 : decode b_Rl_setMark 12 = .ok (.if_icmp .lt 4, 3) := by decide +kernel
theorem d_Rl_setMark_15 : decode b_Rl_setMark 15 = .ok (.return_, 1) := by decide +kernel
theorem d_Rl_setMark_16 : decode b_Rl_setMark 16 = .ok (.aload_n 0, 1) := by decide +kernel
theorem d_Rl_setMark_17 : decode b_Rl_setMark 17 = .ok (.getfield 27, 3) := by decide +kernel
theorem d_Rl_setMark_20 : decode b_Rl_setMark 20 = .ok (.iload_n 1, 1) := by decide +kernel
theorem d_Rl_setMark_21 : decode b_Rl_setMark 21 = .ok (.bipush 6, 2) := by decide +kernel
theorem d_Rl_setMark_23 : decode b_Rl_setMark 23 = .ok (.imul, 1) := by decide +kernel
theorem d_Rl_setMark_24 : decode b_Rl_setMark 24 = .ok (.iload 4, 2) := by decide +kernel
theorem d_Rl_setMark_26 : decode b_Rl_setMark 26 = .ok (.iadd, 1) := by decide +kernel
theorem d_Rl_setMark_27 : decode b_Rl_setMark 27 = .ok (.iload_n 2, 1) := by decide +kernel
theorem d_Rl_setMark_28 : decode b_Rl_setMark 28 = .ok (.iastore, 1) := by decide +kernel
theorem d_Rl_setMark_29 : decode b_Rl_setMark 29 = .ok (.aload_n 0, 1) := by decide +kernel
theorem d_Rl_setMark_30 : decode b_Rl_setMark 30 = .ok (.getfield 30, 3) := by decide +kernel
theorem d_Rl_setMark_33 : decode b_Rl_setMark 33 = .ok (.iload_n 1, 1) := by decide +kernel
theorem d_Rl_setMark_34 : decode b_Rl_setMark 34 = .ok (.bipush 6, 2) := by decide +kernel
theorem d_Rl_setMark_36 : decode b_Rl_setMark 36 = .ok (.imul, 1) := by decide +kernel
theorem d_Rl_setMark_37 : decode b_Rl_setMark 37 = .ok (.iload 4, 2) := by decide +kernel
theorem d_Rl_setMark_39 : decode b_Rl_setMark 39 = .ok (.iadd, 1) := by decide +kernel
theorem d_Rl_setMark_40 : decode b_Rl_setMark 40 = .ok (.iload_n 3, 1) := by decide +kernel
theorem d_Rl_setMark_41 : decode b_Rl_setMark 41 = .ok (.iastore, 1) := by decide +kernel
theorem d_Rl_setMark_42 : decode b_Rl_setMark 42 = .ok (.aload_n 0, 1) := by decide +kernel
theorem d_Rl_setMark_43 : decode b_Rl_setMark 43 = .ok (.getfield 24, 3) := by decide +kernel
theorem d_Rl_setMark_46 : decode b_Rl_setMark 46 = .ok (.iload_n 1, 1) := by decide +kernel
theorem d_Rl_setMark_47 : decode b_Rl_setMark 47 = .ok (.aload_n 0, 1) := by decide +kernel
theorem d_Rl_setMark_48 : decode b_Rl_setMark 48 = .ok (.getfield 24, 3) := by decide +kernel
theorem d_Rl_setMark_51 : decode b_Rl_setMark 51 = .ok (.iload_n 1, 1) := by decide +kernel
theorem d_Rl_setMark_52 : decode b_Rl_setMark 52 = .ok (.iaload, 1) := by decide +kernel
theorem d_Rl_setMark_53 : decode b_Rl_setMark 53 = .ok (.iload 4, 2) := by decide +kernel
theorem d_Rl_setMark_55 : decode b_Rl_setMark 55 = .ok (.iconst 1, 1) := by decide +kernel
theorem d_Rl_setMark_56 : decode b_Rl_setMark 56 = .ok (.iadd, 1) := by decide +kernel
theorem d_Rl_setMark_57 : decode b_Rl_setMark 57 = .ok (.invokestatic 79, 3) := by decide +kernel
theorem d_Rl_setMark_60 : decode b_Rl_setMark 60 = .ok (.iastore, 1) := by decide +kernel
theorem d_Rl_setMark_61 : decode b_Rl_setMark 61 = .ok (.return_, 1) := by decide +kernel
theorem d_Rl_addNote_0 : decode b_Rl_addNote 0 = .ok (.aload_n 0, 1) := by decide +kernel
theorem d_Rl_addNote_1 : decode b_Rl_addNote 1 = .ok (.iload_n 1, 1) := by decide +kernel
theorem d_Rl_addNote_2 : decode b_Rl_addNote 2 = .ok (.invokevirtual 71, 3) := by decide +kernel
theorem d_Rl_addNote_5 : decode b_Rl_addNote 5 = .ok (.ifCond .ne 4, 3) := by decide +kernel
theorem d_Rl_addNote_8 : decode b_Rl_addNote 8 = .ok (.return_, 1) := by decide +kernel
theorem d_Rl_addNote_9 : decode b_Rl_addNote 9 = .ok (.aload_n 0, 1) := by decide +kernel
theorem d_Rl_addNote_10 : decode b_Rl_addNote 10 = .ok (.getfield 36, 3) := by decide +kernel
theorem d_Rl_addNote_13 : decode b_Rl_addNote 13 = .ok (.iload_n 1, 1) := by decide +kernel
theorem d_Rl_addNote_14 : decode b_Rl_addNote 14 = .ok (.bipush 8, 2) := by decide +kernel
theorem d_Rl_addNote_16 : decode b_Rl_addNote 16 = .ok (.imul, 1) := by decide +kernel
theorem d_Rl_addNote_17 : decode b_Rl_addNote 17 = .ok (.aload_n 0, 1) := by decide +kernel
theorem d_Rl_addNote_18 : decode b_Rl_addNote 18 = .ok (.getfield 33, 3) := by decide +kernel
theorem d_Rl_addNote_21 : decode b_Rl_addNote 21 = .ok (.iload_n 1, 1) := by decide +kernel
theorem d_Rl_addNote_22 : decode b_Rl_addNote 22 = .ok (.iaload, 1) := by decide +kernel
theorem d_Rl_addNote_23 : decode b_Rl_addNote 23 = .ok (.iadd, 1) := by decide +kernel
theorem d_Rl_addNote_24 : decode b_Rl_addNote 24 = .ok (.iload_n 2, 1) := by decide +kernel
theorem d_Rl_addNote_25 : decode b_Rl_addNote 25 = .ok (.iastore, 1) := by decide +kernel
theorem d_Rl_addNote_26 : decode b_Rl_addNote 26 = .ok (.aload_n 0, 1) := by decide +kernel
theorem d_Rl_addNote_27 : decode b_Rl_addNote 27 = .ok (.getfield 33, 3) := by decide +kernel
theorem d_Rl_addNote_30 : decode b_Rl_addNote 30 = .ok (.iload_n 1, 1) := by decide +kernel
theorem d_Rl_addNote_31 : decode b_Rl_addNote 31 = .ok (.dup2, 1) := by decide +kernel
theorem d_Rl_addNote_32 : decode b_Rl_addNote 32 = .ok (.iaload, 1) := by decide +kernel
theorem d_Rl_addNote_33 : decode b_Rl_addNote 33 = .ok (.iconst 1, 1) := by decide +kernel
theorem d_Rl_addNote_34 : decode b_Rl_addNote 34 = .ok (.iadd, 1) := by decide +kernel
theorem d_Rl_addNote_35 : decode b_Rl_addNote 35 = .ok (.iastore, 1) := by decide +kernel
theorem d_Rl_addNote_36 : decode b_Rl_addNote 36 = .ok (.return_, 1) := by decide +kernel
theorem fl_Rl_52 : Cond.fieldLink R_Rl 52 R_Sw "$SwitchMap$PackLists$Kind" "[I" ∈ lw_gd := (gd _ (tb1 _ (List.mem_of_getElem? (i := 141) rfl)) rfl)
theorem mu_Rl_57 : wk_U R_Rl 57 R_Kd R_En ⟨R_Kd, "ordinal", "()I"⟩ y_En_ordinal b_En_ordinal 1 (some .int) 0 := ⟨(gd _ (tb1 _ (List.mem_of_getElem? (i := 148) rfl)) rfl), (gd _ (tb0 _ (List.mem_of_getElem? (i := 13) rfl)) rfl), (gd _ (tb1 _ (List.mem_of_getElem? (i := 143) rfl)) rfl), (gd _ (tb1 _ (List.mem_of_getElem? (i := 144) rfl)) rfl), (gd _ (tb1 _ (List.mem_of_getElem? (i := 146) rfl)) rfl), (gd _ (tb1 _ (List.mem_of_getElem? (i := 147) rfl)) rfl), rfl, (by decide +kernel)⟩
theorem mv_Rl_63 : wk_V R_Rl 63 R_Rl y_Rl_setMark b_Rl_setMark 5 none 3 := ⟨(gd _ (tb1 _ (List.mem_of_getElem? (i := 152) rfl)) rfl), (gd _ (tb0 _ (List.mem_of_getElem? (i := 7) rfl)) rfl), (gd _ (tb1 _ (List.mem_of_getElem? (i := 149) rfl)) rfl), (by decide +kernel), (gd _ (tb1 _ (List.mem_of_getElem? (i := 151) rfl)) rfl), (gd _ (List.mem_append_left _ (by decide +kernel)) rfl)⟩
theorem mv_Rl_67 : wk_V R_Rl 67 R_Rl y_Rl_addNote b_Rl_addNote 3 none 2 := ⟨(gd _ (tb1 _ (List.mem_of_getElem? (i := 159) rfl)) rfl), (gd _ (tb0 _ (List.mem_of_getElem? (i := 7) rfl)) rfl), (gd _ (tb1 _ (List.mem_of_getElem? (i := 156) rfl)) rfl), (by decide +kernel), (gd _ (tb1 _ (List.mem_of_getElem? (i := 158) rfl)) rfl), (gd _ (List.mem_append_left _ (by decide +kernel)) rfl)⟩
theorem d_Rl_learn_0 : decode b_Rl_learn 0 = .ok (.getstatic 52, 3) := by decide +kernel
theorem d_Rl_learn_3 : decode b_Rl_learn 3 = .ok (.aload_n 1, 1) := by decide +kernel
theorem d_Rl_learn_4 : decode b_Rl_learn 4 = .ok (.invokevirtual 57, 3) := by decide +kernel
theorem d_Rl_learn_7 : decode b_Rl_learn 7 = .ok (.iaload, 1) := by decide +kernel
theorem d_Rl_learn_8 : decode b_Rl_learn 8 = .ok (.tableswitch 170 1 9 #[52, 79, 89, 99, 107, 118, 128, 137, 152], 52) := by decide +kernel
theorem d_Rl_learn_60 : decode b_Rl_learn 60 = .ok (.aload_n 0, 1) := by decide +kernel
theorem d_Rl_learn_61 : decode b_Rl_learn 61 = .ok (.getfield 9, 3) := by decide +kernel
theorem d_Rl_learn_64 : decode b_Rl_learn 64 = .ok (.iload_n 2, 1) := by decide +kernel
theorem d_Rl_learn_65 : decode b_Rl_learn 65 = .ok (.dup2, 1) := by decide +kernel
theorem d_Rl_learn_66 : decode b_Rl_learn 66 = .ok (.iaload, 1) := by decide +kernel
theorem d_Rl_learn_67 : decode b_Rl_learn 67 = .ok (.iconst 1, 1) := by decide +kernel
theorem d_Rl_learn_68 : decode b_Rl_learn 68 = .ok (.iload_n 3, 1) := by decide +kernel
theorem d_Rl_learn_69 : decode b_Rl_learn 69 = .ok (.ishl, 1) := by decide +kernel
theorem d_Rl_learn_70 : decode b_Rl_learn 70 = .ok (.ior, 1) := by decide +kernel
theorem d_Rl_learn_71 : decode b_Rl_learn 71 = .ok (.iastore, 1) := by decide +kernel
theorem d_Rl_learn_72 : decode b_Rl_learn 72 = .ok (.aload_n 0, 1) := by decide +kernel
theorem d_Rl_learn_73 : decode b_Rl_learn 73 = .ok (.getfield 9, 3) := by decide +kernel
theorem d_Rl_learn_76 : decode b_Rl_learn 76 = .ok (.iload_n 3, 1) := by decide +kernel
theorem d_Rl_learn_77 : decode b_Rl_learn 77 = .ok (.dup2, 1) := by decide +kernel
theorem d_Rl_learn_78 : decode b_Rl_learn 78 = .ok (.iaload, 1) := by decide +kernel
theorem d_Rl_learn_79 : decode b_Rl_learn 79 = .ok (.iconst 1, 1) := by decide +kernel
theorem d_Rl_learn_80 : decode b_Rl_learn 80 = .ok (.iload_n 2, 1) := by decide +kernel
theorem d_Rl_learn_81 : decode b_Rl_learn 81 = .ok (.ishl, 1) := by decide +kernel
theorem d_Rl_learn_82 : decode b_Rl_learn 82 = .ok (.ior, 1) := by decide +kernel
theorem d_Rl_learn_83 : decode b_Rl_learn 83 = .ok (.iastore, 1) := by decide +kernel
theorem d_Rl_learn_84 : decode b_Rl_learn 84 = .ok (.goto 94, 3) := by decide +kernel
theorem d_Rl_learn_87 : decode b_Rl_learn 87 = .ok (.aload_n 0, 1) := by decide +kernel
theorem d_Rl_learn_88 : decode b_Rl_learn 88 = .ok (.getfield 15, 3) := by decide +kernel
theorem d_Rl_learn_91 : decode b_Rl_learn 91 = .ok (.iload_n 2, 1) := by decide +kernel
theorem d_Rl_learn_92 : decode b_Rl_learn 92 = .ok (.iload_n 3, 1) := by decide +kernel
theorem d_Rl_learn_93 : decode b_Rl_learn 93 = .ok (.iastore, 1) := by decide +kernel
theorem d_Rl_learn_94 : decode b_Rl_learn 94 = .ok (.goto 84, 3) := by decide +kernel
theorem d_Rl_learn_97 : decode b_Rl_learn 97 = .ok (.aload_n 0, 1) := by decide +kernel
theorem d_Rl_learn_98 : decode b_Rl_learn 98 = .ok (.getfield 18, 3) := by decide +kernel
theorem d_Rl_learn_101 : decode b_Rl_learn 101 = .ok (.iload_n 2, 1) := by decide +kernel
theorem d_Rl_learn_102 : decode b_Rl_learn 102 = .ok (.iload_n 3, 1) := by decide +kernel
theorem d_Rl_learn_103 : decode b_Rl_learn 103 = .ok (.iastore, 1) := by decide +kernel
theorem d_Rl_learn_104 : decode b_Rl_learn 104 = .ok (.goto 74, 3) := by decide +kernel
theorem d_Rl_learn_107 : decode b_Rl_learn 107 = .ok (.aload_n 0, 1) := by decide +kernel
theorem d_Rl_learn_108 : decode b_Rl_learn 108 = .ok (.iload_n 2, 1) := by decide +kernel
theorem d_Rl_learn_109 : decode b_Rl_learn 109 = .ok (.putfield 48, 3) := by decide +kernel
theorem d_Rl_learn_112 : decode b_Rl_learn 112 = .ok (.goto 66, 3) := by decide +kernel
theorem d_Rl_learn_115 : decode b_Rl_learn 115 = .ok (.aload_n 0, 1) := by decide +kernel
theorem d_Rl_learn_116 : decode b_Rl_learn 116 = .ok (.iload_n 2, 1) := by decide +kernel
theorem d_Rl_learn_117 : decode b_Rl_learn 117 = .ok (.iload_n 3, 1) := by decide +kernel
theorem d_Rl_learn_118 : decode b_Rl_learn 118 = .ok (.iload 4, 2) := by decide +kernel
theorem d_Rl_learn_120 : decode b_Rl_learn 120 = .ok (.invokevirtual 63, 3) := by decide +kernel
theorem d_Rl_learn_123 : decode b_Rl_learn 123 = .ok (.goto 55, 3) := by decide +kernel
theorem d_Rl_learn_126 : decode b_Rl_learn 126 = .ok (.aload_n 0, 1) := by decide +kernel
theorem d_Rl_learn_127 : decode b_Rl_learn 127 = .ok (.getfield 21, 3) := by decide +kernel
theorem d_Rl_learn_130 : decode b_Rl_learn 130 = .ok (.iload_n 2, 1) := by decide +kernel
theorem d_Rl_learn_131 : decode b_Rl_learn 131 = .ok (.iload_n 3, 1) := by decide +kernel
theorem d_Rl_learn_132 : decode b_Rl_learn 132 = .ok (.iastore, 1) := by decide +kernel
theorem d_Rl_learn_133 : decode b_Rl_learn 133 = .ok (.goto 45, 3) := by decide +kernel
theorem d_Rl_learn_136 : decode b_Rl_learn 136 = .ok (.aload_n 0, 1) := by decide +kernel
theorem d_Rl_learn_137 : decode b_Rl_learn 137 = .ok (.iload_n 2, 1) := by decide +kernel
theorem d_Rl_learn_138 : decode b_Rl_learn 138 = .ok (.iload_n 3, 1) := by decide +kernel
theorem d_Rl_learn_139 : decode b_Rl_learn 139 = .ok (.invokevirtual 67, 3) := by decide +kernel
theorem d_Rl_learn_142 : decode b_Rl_learn 142 = .ok (.goto 36, 3) := by decide +kernel
theorem d_Rl_learn_145 : decode b_Rl_learn 145 = .ok (.aload_n 0, 1) := by decide +kernel
theorem d_Rl_learn_146 : decode b_Rl_learn 146 = .ok (.getfield 39, 3) := by decide +kernel
theorem d_Rl_learn_149 : decode b_Rl_learn 149 = .ok (.iload_n 2, 1) := by decide +kernel
theorem d_Rl_learn_150 : decode b_Rl_learn 150 = .ok (.iconst 4, 1) := by decide +kernel
theorem d_Rl_learn_151 : decode b_Rl_learn 151 = .ok (.imul, 1) := by decide +kernel
theorem d_Rl_learn_152 : decode b_Rl_learn 152 = .ok (.iload_n 3, 1) := by decide +kernel
theorem d_Rl_learn_153 : decode b_Rl_learn 153 = .ok (.iadd, 1) := by decide +kernel
theorem d_Rl_learn_154 : decode b_Rl_learn 154 = .ok (.iload 4, 2) := by decide +kernel
theorem d_Rl_learn_156 : decode b_Rl_learn 156 = .ok (.iastore, 1) := by decide +kernel
theorem d_Rl_learn_157 : decode b_Rl_learn 157 = .ok (.goto 21, 3) := by decide +kernel
theorem d_Rl_learn_160 : decode b_Rl_learn 160 = .ok (.aload_n 0, 1) := by decide +kernel
theorem d_Rl_learn_161 : decode b_Rl_learn 161 = .ok (.getfield 39, 3) := by decide +kernel
theorem d_Rl_learn_164 : decode b_Rl_learn 164 = .ok (.iload_n 2, 1) := by decide +kernel
theorem d_Rl_learn_165 : decode b_Rl_learn 165 = .ok (.iconst 4, 1) := by decide +kernel
theorem d_Rl_learn_166 : decode b_Rl_learn 166 = .ok (.imul, 1) := by decide +kernel
theorem d_Rl_learn_167 : decode b_Rl_learn 167 = .ok (.iload_n 3, 1) := by decide +kernel
theorem d_Rl_learn_168 : decode b_Rl_learn 168 = .ok (.iadd, 1) := by decide +kernel
theorem d_Rl_learn_169 : decode b_Rl_learn 169 = .ok (.bipush 10, 2) := by decide +kernel
theorem d_Rl_learn_171 : decode b_Rl_learn 171 = .ok (.iload 4, 2) := by decide +kernel
theorem d_Rl_learn_173 : decode b_Rl_learn 173 = .ok (.iadd, 1) := by decide +kernel
theorem d_Rl_learn_174 : decode b_Rl_learn 174 = .ok (.iastore, 1) := by decide +kernel
theorem d_Rl_learn_175 : decode b_Rl_learn 175 = .ok (.goto 3, 3) := by decide +kernel
theorem d_Rl_learn_178 : decode b_Rl_learn 178 = .ok (.return_, 1) := by decide +kernel
set_option maxHeartbeats 4000000 in
set_option maxRecDepth 100000 in
theorem c_Kd_most (l : Launch) (D : va_G) (cI : CiT) (z : GzT) (x : Nat) (p : Nat) (hx : x < 9) (hp : p < 3) : wk_C l D (tyK cI) (gX z) y_Kd_most b_Kd_most 2 (some .int) 0 0 0 0 [.ref (zA z (x)), .int (nI (p))] [] wk_i (fun (r : Int32) (_ : Unit) => r = (nI (moK x p))) (fun _ => []) := by
  refine wk_methI (own := R_Kd) [(0, .ref (zA z (x))), (1, .int (nI (p)))] (by decide) rfl (Nat.le_of_ble_eq_true rfl) rfl (gX_ok z) (fun p_ e_ R_ s_ m_ ar_ be_ me_ co_ Q_ A_ hR_ S_ hnm_ hQ_ => ?_)
  refine wk_iload_n (pc := 0) S_ 1 d_Kd_most_0 rfl rfl ?_
  refine wk_if_neN (pc := 1) (tgt := 9) S_ d_Kd_most_1 (by decide) (by omega) (fun h1 => ?_) (fun h1 => ?_)
  · -- taken
    refine wk_iload_n (pc := 9) S_ 1 d_Kd_most_9 rfl rfl ?_
    refine wk_iconst (pc := 10) (v := (nI (1))) S_ d_Kd_most_10 (by decide) ?_
    refine wk_icmp_neN (pc := 11) (tgt := 21) S_ d_Kd_most_11 (by decide) (by omega) (by omega) (fun h11 => ?_) (fun h11 => ?_)
    · -- taken
      refine wk_aload_n (pc := 21) S_ 0 d_Kd_most_21 rfl rfl ?_
      refine wk_getO (pc := 22) S_ (gx_m2 S_.2.2.2.1 (show x < 9 by omega)) fl_Kd_64 d_Kd_most_22 ?_
      exact hQ_ (nI (moK (x) 2)) () d_Kd_most_25 rfl (by rw [show p = 2 by omega])
    · -- on
      refine wk_aload_n (pc := 14) S_ 0 d_Kd_most_14 rfl rfl ?_
      refine wk_getO (pc := 15) S_ (gx_m1 S_.2.2.2.1 (show x < 9 by omega)) fl_Kd_61 d_Kd_most_15 ?_
      refine wk_goto (pc := 18) (tgt := 25) S_ d_Kd_most_18 (by decide) ?_
      exact hQ_ (nI (moK (x) 1)) () d_Kd_most_25 rfl (by rw [h11])
  · -- on
    refine wk_aload_n (pc := 4) S_ 0 d_Kd_most_4 rfl rfl ?_
    refine wk_getO (pc := 5) S_ (gx_m0 S_.2.2.2.1 (show x < 9 by omega)) fl_Kd_58 d_Kd_most_5 ?_
    exact hQ_ (nI (moK (x) 0)) () d_Kd_most_8 rfl (by rw [h1])
set_option maxHeartbeats 4000000 in
set_option maxRecDepth 100000 in
theorem c_Kd_least (l : Launch) (D : va_G) (cI : CiT) (z : GzT) (x : Nat) (p : Nat) (hx : x < 9) (hp : p < 3) : wk_C l D (tyK cI) (gX z) y_Kd_least b_Kd_least 4 (some .int) 0 0 0 0 [.ref (zA z (x)), .int (nI (p))] [] wk_i (fun (r : Int32) (_ : Unit) => r = (nI (lsK x p))) (fun _ => []) := by
  refine wk_methI (own := R_Kd) [(0, .ref (zA z (x))), (1, .int (nI (p)))] (by decide) rfl (Nat.le_of_ble_eq_true rfl) rfl (gX_ok z) (fun p_ e_ R_ s_ m_ ar_ be_ me_ co_ Q_ A_ hR_ S_ hnm_ hQ_ => ?_)
  refine wk_aload_n (pc := 0) S_ 0 d_Kd_least_0 rfl rfl ?_
  refine wk_gets (pc := 1) S_ (gx_k S_.2.2.2.1 4 (by decide) rfl) fl_Kd_16 d_Kd_least_1 ?_
  refine wk_acmp_ne (pc := 4) (tgt := 16) S_ d_Kd_least_4 (by decide) (fun h4_ => ?_) (fun h4_ => ?_)
  · -- taken
    have h4 : ¬ x = 4 := fun e9 => h4_ (congrArg (zA z) e9)
    refine wk_iconst (pc := 16) (v := (nI (0))) S_ d_Kd_least_16 (by decide) ?_
    refine wk_istore_n (pc := 17) (lv' := [(2, .int (nI (0))), (0, .ref (zA z (x))), (1, .int (nI (p)))]) S_ d_Kd_least_17 rfl (by decide) rfl ?_
    refine wk_aload_n (pc := 18) S_ 1 d_Kd_least_18 rfl rfl ?_
    refine wk_gets (pc := 19) S_ (gx_k S_.2.2.2.1 5 (by decide) rfl) fl_Kd_19 d_Kd_least_19 ?_
    refine wk_acmp_ne (pc := 22) (tgt := 34) S_ d_Kd_least_22 (by decide) (fun h22_ => ?_) (fun h22_ => ?_)
    · -- taken
      have h22 : ¬ x = 5 := fun e9 => h22_ (congrArg (zA z) e9)
      refine wk_iconst (pc := 34) (v := (nI (0))) S_ d_Kd_least_34 (by decide) ?_
      refine wk_istore_n (pc := 35) (lv' := [(3, .int (nI (0))), (2, .int (nI (0))), (0, .ref (zA z (x))), (1, .int (nI (p)))]) S_ d_Kd_least_35 rfl (by decide) rfl ?_
      refine wk_iload_n (pc := 36) S_ 1 d_Kd_least_36 rfl rfl ?_
      refine wk_if_neN (pc := 37) (tgt := 44) S_ d_Kd_least_37 (by decide) (by omega) (fun h37 => absurd h37 (by decide)) (fun h37 => ?_)
      refine wk_iload_n (pc := 40) S_ 0 d_Kd_least_40 rfl rfl ?_
      refine wk_if_eqN (pc := 41) (tgt := 48) S_ d_Kd_least_41 (by decide) (by omega) (fun h41 => ?_) (fun h41 => absurd h41 (by decide))
      refine wk_iconst (pc := 48) (v := (nI (0))) S_ d_Kd_least_48 (by decide) ?_
      exact hQ_ (nI (0)) () d_Kd_least_49 rfl (congrArg nI (by unfold lsK; split <;> omega))
    · -- on
      have h22 : x = 5 := gx_inj S_.2.2.2.1 (show x < 9 by omega) (by decide) h22_
      refine wk_iload_n (pc := 25) S_ 2 d_Kd_least_25 rfl rfl ?_
      refine wk_iconst (pc := 26) (v := (nI (1))) S_ d_Kd_least_26 (by decide) ?_
      refine wk_icmp_neN (pc := 27) (tgt := 34) S_ d_Kd_least_27 (by decide) (by omega) (by omega) (fun h27 => ?_) (fun h27 => ?_)
      · -- taken
        refine wk_iconst (pc := 34) (v := (nI (0))) S_ d_Kd_least_34 (by decide) ?_
        refine wk_istore_n (pc := 35) (lv' := [(3, .int (nI (0))), (2, .int (nI (0))), (0, .ref (zA z (x))), (1, .int (nI (p)))]) S_ d_Kd_least_35 rfl (by decide) rfl ?_
        refine wk_iload_n (pc := 36) S_ 1 d_Kd_least_36 rfl rfl ?_
        refine wk_if_neN (pc := 37) (tgt := 44) S_ d_Kd_least_37 (by decide) (by omega) (fun h37 => absurd h37 (by decide)) (fun h37 => ?_)
        refine wk_iload_n (pc := 40) S_ 0 d_Kd_least_40 rfl rfl ?_
        refine wk_if_eqN (pc := 41) (tgt := 48) S_ d_Kd_least_41 (by decide) (by omega) (fun h41 => ?_) (fun h41 => absurd h41 (by decide))
        refine wk_iconst (pc := 48) (v := (nI (0))) S_ d_Kd_least_48 (by decide) ?_
        exact hQ_ (nI (0)) () d_Kd_least_49 rfl (congrArg nI (by unfold lsK; split <;> omega))
      · -- on
        refine wk_iconst (pc := 30) (v := (nI (1))) S_ d_Kd_least_30 (by decide) ?_
        refine wk_goto (pc := 31) (tgt := 35) S_ d_Kd_least_31 (by decide) ?_
        refine wk_istore_n (pc := 35) (lv' := [(3, .int (nI (1))), (2, .int (nI (0))), (0, .ref (zA z (x))), (1, .int (nI (p)))]) S_ d_Kd_least_35 rfl (by decide) rfl ?_
        refine wk_iload_n (pc := 36) S_ 1 d_Kd_least_36 rfl rfl ?_
        refine wk_if_neN (pc := 37) (tgt := 44) S_ d_Kd_least_37 (by decide) (by omega) (fun h37 => absurd h37 (by decide)) (fun h37 => ?_)
        refine wk_iload_n (pc := 40) S_ 0 d_Kd_least_40 rfl rfl ?_
        refine wk_if_eqN (pc := 41) (tgt := 48) S_ d_Kd_least_41 (by decide) (by omega) (fun h41 => absurd h41 (by decide)) (fun h41 => ?_)
        refine wk_iconst (pc := 44) (v := (nI (1))) S_ d_Kd_least_44 (by decide) ?_
        refine wk_goto (pc := 45) (tgt := 49) S_ d_Kd_least_45 (by decide) ?_
        exact hQ_ (nI (1)) () d_Kd_least_49 rfl (congrArg nI (by unfold lsK; split <;> omega))
  · -- on
    have h4 : x = 4 := gx_inj S_.2.2.2.1 (show x < 9 by omega) (by decide) h4_
    refine wk_iload_n (pc := 7) S_ 1 d_Kd_least_7 rfl rfl ?_
    refine wk_iconst (pc := 8) (v := (nI (2))) S_ d_Kd_least_8 (by decide) ?_
    refine wk_icmp_neN (pc := 9) (tgt := 16) S_ d_Kd_least_9 (by decide) (by omega) (by omega) (fun h9 => ?_) (fun h9 => ?_)
    · -- taken
      refine wk_iconst (pc := 16) (v := (nI (0))) S_ d_Kd_least_16 (by decide) ?_
      refine wk_istore_n (pc := 17) (lv' := [(2, .int (nI (0))), (0, .ref (zA z (x))), (1, .int (nI (p)))]) S_ d_Kd_least_17 rfl (by decide) rfl ?_
      refine wk_aload_n (pc := 18) S_ 1 d_Kd_least_18 rfl rfl ?_
      refine wk_gets (pc := 19) S_ (gx_k S_.2.2.2.1 5 (by decide) rfl) fl_Kd_19 d_Kd_least_19 ?_
      refine wk_acmp_ne (pc := 22) (tgt := 34) S_ d_Kd_least_22 (by decide) (fun h22_ => ?_) (fun h22_ => ?_)
      · -- taken
        have h22 : ¬ x = 5 := fun e9 => h22_ (congrArg (zA z) e9)
        refine wk_iconst (pc := 34) (v := (nI (0))) S_ d_Kd_least_34 (by decide) ?_
        refine wk_istore_n (pc := 35) (lv' := [(3, .int (nI (0))), (2, .int (nI (0))), (0, .ref (zA z (x))), (1, .int (nI (p)))]) S_ d_Kd_least_35 rfl (by decide) rfl ?_
        refine wk_iload_n (pc := 36) S_ 1 d_Kd_least_36 rfl rfl ?_
        refine wk_if_neN (pc := 37) (tgt := 44) S_ d_Kd_least_37 (by decide) (by omega) (fun h37 => absurd h37 (by decide)) (fun h37 => ?_)
        refine wk_iload_n (pc := 40) S_ 0 d_Kd_least_40 rfl rfl ?_
        refine wk_if_eqN (pc := 41) (tgt := 48) S_ d_Kd_least_41 (by decide) (by omega) (fun h41 => ?_) (fun h41 => absurd h41 (by decide))
        refine wk_iconst (pc := 48) (v := (nI (0))) S_ d_Kd_least_48 (by decide) ?_
        exact hQ_ (nI (0)) () d_Kd_least_49 rfl (congrArg nI (by unfold lsK; split <;> omega))
      · -- on
        have h22 : x = 5 := gx_inj S_.2.2.2.1 (show x < 9 by omega) (by decide) h22_
        refine wk_iload_n (pc := 25) S_ 2 d_Kd_least_25 rfl rfl ?_
        refine wk_iconst (pc := 26) (v := (nI (1))) S_ d_Kd_least_26 (by decide) ?_
        refine wk_icmp_neN (pc := 27) (tgt := 34) S_ d_Kd_least_27 (by decide) (by omega) (by omega) (fun h27 => ?_) (fun h27 => ?_)
        · -- taken
          refine wk_iconst (pc := 34) (v := (nI (0))) S_ d_Kd_least_34 (by decide) ?_
          refine wk_istore_n (pc := 35) (lv' := [(3, .int (nI (0))), (2, .int (nI (0))), (0, .ref (zA z (x))), (1, .int (nI (p)))]) S_ d_Kd_least_35 rfl (by decide) rfl ?_
          refine wk_iload_n (pc := 36) S_ 1 d_Kd_least_36 rfl rfl ?_
          refine wk_if_neN (pc := 37) (tgt := 44) S_ d_Kd_least_37 (by decide) (by omega) (fun h37 => absurd h37 (by decide)) (fun h37 => ?_)
          refine wk_iload_n (pc := 40) S_ 0 d_Kd_least_40 rfl rfl ?_
          refine wk_if_eqN (pc := 41) (tgt := 48) S_ d_Kd_least_41 (by decide) (by omega) (fun h41 => ?_) (fun h41 => absurd h41 (by decide))
          refine wk_iconst (pc := 48) (v := (nI (0))) S_ d_Kd_least_48 (by decide) ?_
          exact hQ_ (nI (0)) () d_Kd_least_49 rfl (congrArg nI (by unfold lsK; split <;> omega))
        · -- on
          refine wk_iconst (pc := 30) (v := (nI (1))) S_ d_Kd_least_30 (by decide) ?_
          refine wk_goto (pc := 31) (tgt := 35) S_ d_Kd_least_31 (by decide) ?_
          refine wk_istore_n (pc := 35) (lv' := [(3, .int (nI (1))), (2, .int (nI (0))), (0, .ref (zA z (x))), (1, .int (nI (p)))]) S_ d_Kd_least_35 rfl (by decide) rfl ?_
          refine wk_iload_n (pc := 36) S_ 1 d_Kd_least_36 rfl rfl ?_
          refine wk_if_neN (pc := 37) (tgt := 44) S_ d_Kd_least_37 (by decide) (by omega) (fun h37 => absurd h37 (by decide)) (fun h37 => ?_)
          refine wk_iload_n (pc := 40) S_ 0 d_Kd_least_40 rfl rfl ?_
          refine wk_if_eqN (pc := 41) (tgt := 48) S_ d_Kd_least_41 (by decide) (by omega) (fun h41 => absurd h41 (by decide)) (fun h41 => ?_)
          refine wk_iconst (pc := 44) (v := (nI (1))) S_ d_Kd_least_44 (by decide) ?_
          refine wk_goto (pc := 45) (tgt := 49) S_ d_Kd_least_45 (by decide) ?_
          exact hQ_ (nI (1)) () d_Kd_least_49 rfl (congrArg nI (by unfold lsK; split <;> omega))
    · -- on
      refine wk_iconst (pc := 12) (v := (nI (1))) S_ d_Kd_least_12 (by decide) ?_
      refine wk_goto (pc := 13) (tgt := 17) S_ d_Kd_least_13 (by decide) ?_
      refine wk_istore_n (pc := 17) (lv' := [(2, .int (nI (1))), (0, .ref (zA z (x))), (1, .int (nI (p)))]) S_ d_Kd_least_17 rfl (by decide) rfl ?_
      refine wk_aload_n (pc := 18) S_ 1 d_Kd_least_18 rfl rfl ?_
      refine wk_gets (pc := 19) S_ (gx_k S_.2.2.2.1 5 (by decide) rfl) fl_Kd_19 d_Kd_least_19 ?_
      refine wk_acmp_ne (pc := 22) (tgt := 34) S_ d_Kd_least_22 (by decide) (fun h22_ => ?_) (fun h22_ => ?_)
      · -- taken
        have h22 : ¬ x = 5 := fun e9 => h22_ (congrArg (zA z) e9)
        refine wk_iconst (pc := 34) (v := (nI (0))) S_ d_Kd_least_34 (by decide) ?_
        refine wk_istore_n (pc := 35) (lv' := [(3, .int (nI (0))), (2, .int (nI (1))), (0, .ref (zA z (x))), (1, .int (nI (p)))]) S_ d_Kd_least_35 rfl (by decide) rfl ?_
        refine wk_iload_n (pc := 36) S_ 1 d_Kd_least_36 rfl rfl ?_
        refine wk_if_neN (pc := 37) (tgt := 44) S_ d_Kd_least_37 (by decide) (by omega) (fun h37 => ?_) (fun h37 => absurd h37 (by decide))
        refine wk_iconst (pc := 44) (v := (nI (1))) S_ d_Kd_least_44 (by decide) ?_
        refine wk_goto (pc := 45) (tgt := 49) S_ d_Kd_least_45 (by decide) ?_
        exact hQ_ (nI (1)) () d_Kd_least_49 rfl (congrArg nI (by unfold lsK; split <;> omega))
      · -- on
        have h22 : x = 5 := gx_inj S_.2.2.2.1 (show x < 9 by omega) (by decide) h22_
        refine wk_iload_n (pc := 25) S_ 2 d_Kd_least_25 rfl rfl ?_
        refine wk_iconst (pc := 26) (v := (nI (1))) S_ d_Kd_least_26 (by decide) ?_
        refine wk_icmp_neN (pc := 27) (tgt := 34) S_ d_Kd_least_27 (by decide) (by omega) (by omega) (fun h27 => ?_) (fun h27 => ?_)
        · -- taken
          refine wk_iconst (pc := 34) (v := (nI (0))) S_ d_Kd_least_34 (by decide) ?_
          refine wk_istore_n (pc := 35) (lv' := [(3, .int (nI (0))), (2, .int (nI (1))), (0, .ref (zA z (x))), (1, .int (nI (p)))]) S_ d_Kd_least_35 rfl (by decide) rfl ?_
          refine wk_iload_n (pc := 36) S_ 1 d_Kd_least_36 rfl rfl ?_
          refine wk_if_neN (pc := 37) (tgt := 44) S_ d_Kd_least_37 (by decide) (by omega) (fun h37 => ?_) (fun h37 => absurd h37 (by decide))
          refine wk_iconst (pc := 44) (v := (nI (1))) S_ d_Kd_least_44 (by decide) ?_
          refine wk_goto (pc := 45) (tgt := 49) S_ d_Kd_least_45 (by decide) ?_
          exact hQ_ (nI (1)) () d_Kd_least_49 rfl (congrArg nI (by unfold lsK; split <;> omega))
        · -- on
          refine wk_iconst (pc := 30) (v := (nI (1))) S_ d_Kd_least_30 (by decide) ?_
          refine wk_goto (pc := 31) (tgt := 35) S_ d_Kd_least_31 (by decide) ?_
          refine wk_istore_n (pc := 35) (lv' := [(3, .int (nI (1))), (2, .int (nI (1))), (0, .ref (zA z (x))), (1, .int (nI (p)))]) S_ d_Kd_least_35 rfl (by decide) rfl ?_
          refine wk_iload_n (pc := 36) S_ 1 d_Kd_least_36 rfl rfl ?_
          refine wk_if_neN (pc := 37) (tgt := 44) S_ d_Kd_least_37 (by decide) (by omega) (fun h37 => ?_) (fun h37 => absurd h37 (by decide))
          refine wk_iconst (pc := 44) (v := (nI (1))) S_ d_Kd_least_44 (by decide) ?_
          refine wk_goto (pc := 45) (tgt := 49) S_ d_Kd_least_45 (by decide) ?_
          exact hQ_ (nI (1)) () d_Kd_least_49 rfl (congrArg nI (by unfold lsK; split <;> omega))
set_option maxHeartbeats 4000000 in
set_option maxRecDepth 100000 in
theorem c_Rl_forget (l : Launch) (D : va_G) (cI : CiT) (z : GzT) (r : Nat → Nat) (ap : (Nat → Nat)) (pt : (Nat → Nat)) (rk : (Nat → Nat)) (cd : (Nat → Nat)) (mc : (Nat → Nat)) (mg : (Nat → Nat)) (mz : (Nat → Nat)) (nc : (Nat → Nat)) (nt : (Nat → Nat)) (oc : (Nat → Nat)) (fr : Nat) : wk_C l D (tyK cI) (gX z) y_Rl_forget b_Rl_forget 1 none 1 23 0 0 [.ref (r 0)] (wRl r cI ap pt rk cd mc mg mz nc nt oc fr) wk_v (fun (_ : Unit) (_ : Unit) => True) (fun _ => (wRl r cI (fun _ => 0) (fun _ => 0) (fun _ => 0) (fun _ => 0) (fun _ => 0) mg mz (fun _ => 0) nt (fun _ => 0) 0)) := by
  refine wk_methV (own := R_Rl) [(0, .ref (r 0))] (by decide) rfl (Nat.le_of_ble_eq_true rfl) rfl (gX_ok z) (fun p_ e_ R_ s_ m_ ar_ be_ me_ co_ Q_ A_ hR_ S_ hnm_ hQ_ => ?_)
  refine wk_aload_n (pc := 0) S_ 0 d_Rl_forget_0 rfl rfl ?_
  refine wk_get (pc := 1) (v := .ref (r 1)) S_ 5 0 0 in_Rl rfl (by decide) rfl fl_Rl_9 d_Rl_forget_1 rfl rfl ?_
  refine wk_iconst (pc := 4) (v := (nI (0))) S_ d_Rl_forget_4 (by decide) ?_
  refine wk_run (pc := 5) (rest := []) (wr := [(r 0, .inr (5, [.ref (r 1), .ref (r 2), .ref (r 3), .ref (r 4), .ref (r 5), .ref (r 6), .ref (r 7), .ref (r 8), .ref (r 9), .ref (r 10), .int (nI (fr))])), (r 2, .inl (cI.1, 9, .inl (nF (pt)))), (r 3, .inl (cI.1, 9, .inl (nF (rk)))), (r 4, .inl (cI.1, 9, .inl (nF (cd)))), (r 5, .inl (cI.1, 9, .inl (nF (mc)))), (r 6, .inl (cI.1, 54, .inl (nF (mg)))), (r 7, .inl (cI.1, 54, .inl (nF (mz)))), (r 8, .inl (cI.1, 4, .inl (nF (nc)))), (r 9, .inl (cI.1, 32, .inl (nF (nt)))), (r 10, .inl (cI.1, 40, .inl (zF (oc))))]) (wN := fun _ => (wRl r cI (fun _ => 0) pt rk cd mc mg mz nc nt oc fr)) S_ (wk_rS S_ (c_Ar_fill l D cI z (fun _ => r 1) 9 (nF (ap)) (nI (0)) (by decide)) mv_Rl_42 rfl rfl (Nat.le_of_ble_eq_true rfl) (by rw [hR_]; decide) (by rw [hR_]; decide) d_Rl_forget_5) [1] [0, 2, 3, 4, 5, 6, 7, 8, 9, 10] [0, 10, 1, 2, 3, 4, 5, 6, 7, 8, 9] rfl rfl rfl (by decide) (by decide) (by decide) (by decide) (fun _ => rfl) (fun _ => rfl) (fun _ _ _ => ?_)
  refine wk_st (st' := []) rfl ?_
  refine wk_aload_n (pc := 8) S_ 0 d_Rl_forget_8 rfl rfl ?_
  refine wk_get (pc := 9) (v := .ref (r 2)) S_ 5 1 0 in_Rl rfl (by decide) rfl fl_Rl_15 d_Rl_forget_9 rfl rfl ?_
  refine wk_iconst (pc := 12) (v := (nI (0))) S_ d_Rl_forget_12 (by decide) ?_
  refine wk_run (pc := 13) (rest := []) (wr := [(r 0, .inr (5, [.ref (r 1), .ref (r 2), .ref (r 3), .ref (r 4), .ref (r 5), .ref (r 6), .ref (r 7), .ref (r 8), .ref (r 9), .ref (r 10), .int (nI (fr))])), (r 1, .inl (cI.1, 9, .inl (nF (fun _ => 0)))), (r 3, .inl (cI.1, 9, .inl (nF (rk)))), (r 4, .inl (cI.1, 9, .inl (nF (cd)))), (r 5, .inl (cI.1, 9, .inl (nF (mc)))), (r 6, .inl (cI.1, 54, .inl (nF (mg)))), (r 7, .inl (cI.1, 54, .inl (nF (mz)))), (r 8, .inl (cI.1, 4, .inl (nF (nc)))), (r 9, .inl (cI.1, 32, .inl (nF (nt)))), (r 10, .inl (cI.1, 40, .inl (zF (oc))))]) (wN := fun _ => (wRl r cI (fun _ => 0) (fun _ => 0) rk cd mc mg mz nc nt oc fr)) S_ (wk_rS S_ (c_Ar_fill l D cI z (fun _ => r 2) 9 (nF (pt)) (nI (0)) (by decide)) mv_Rl_42 rfl rfl (Nat.le_of_ble_eq_true rfl) (by rw [hR_]; decide) (by rw [hR_]; decide) d_Rl_forget_13) [2] [0, 1, 3, 4, 5, 6, 7, 8, 9, 10] [0, 1, 10, 2, 3, 4, 5, 6, 7, 8, 9] rfl rfl rfl (by decide) (by decide) (by decide) (by decide) (fun _ => rfl) (fun _ => rfl) (fun _ _ _ => ?_)
  refine wk_st (st' := []) rfl ?_
  refine wk_aload_n (pc := 16) S_ 0 d_Rl_forget_16 rfl rfl ?_
  refine wk_get (pc := 17) (v := .ref (r 3)) S_ 5 2 0 in_Rl rfl (by decide) rfl fl_Rl_18 d_Rl_forget_17 rfl rfl ?_
  refine wk_iconst (pc := 20) (v := (nI (0))) S_ d_Rl_forget_20 (by decide) ?_
  refine wk_run (pc := 21) (rest := []) (wr := [(r 0, .inr (5, [.ref (r 1), .ref (r 2), .ref (r 3), .ref (r 4), .ref (r 5), .ref (r 6), .ref (r 7), .ref (r 8), .ref (r 9), .ref (r 10), .int (nI (fr))])), (r 1, .inl (cI.1, 9, .inl (nF (fun _ => 0)))), (r 2, .inl (cI.1, 9, .inl (nF (fun _ => 0)))), (r 4, .inl (cI.1, 9, .inl (nF (cd)))), (r 5, .inl (cI.1, 9, .inl (nF (mc)))), (r 6, .inl (cI.1, 54, .inl (nF (mg)))), (r 7, .inl (cI.1, 54, .inl (nF (mz)))), (r 8, .inl (cI.1, 4, .inl (nF (nc)))), (r 9, .inl (cI.1, 32, .inl (nF (nt)))), (r 10, .inl (cI.1, 40, .inl (zF (oc))))]) (wN := fun _ => (wRl r cI (fun _ => 0) (fun _ => 0) (fun _ => 0) cd mc mg mz nc nt oc fr)) S_ (wk_rS S_ (c_Ar_fill l D cI z (fun _ => r 3) 9 (nF (rk)) (nI (0)) (by decide)) mv_Rl_42 rfl rfl (Nat.le_of_ble_eq_true rfl) (by rw [hR_]; decide) (by rw [hR_]; decide) d_Rl_forget_21) [3] [0, 1, 2, 4, 5, 6, 7, 8, 9, 10] [0, 1, 2, 10, 3, 4, 5, 6, 7, 8, 9] rfl rfl rfl (by decide) (by decide) (by decide) (by decide) (fun _ => rfl) (fun _ => rfl) (fun _ _ _ => ?_)
  refine wk_st (st' := []) rfl ?_
  refine wk_aload_n (pc := 24) S_ 0 d_Rl_forget_24 rfl rfl ?_
  refine wk_get (pc := 25) (v := .ref (r 4)) S_ 5 3 0 in_Rl rfl (by decide) rfl fl_Rl_21 d_Rl_forget_25 rfl rfl ?_
  refine wk_iconst (pc := 28) (v := (nI (0))) S_ d_Rl_forget_28 (by decide) ?_
  refine wk_run (pc := 29) (rest := []) (wr := [(r 0, .inr (5, [.ref (r 1), .ref (r 2), .ref (r 3), .ref (r 4), .ref (r 5), .ref (r 6), .ref (r 7), .ref (r 8), .ref (r 9), .ref (r 10), .int (nI (fr))])), (r 1, .inl (cI.1, 9, .inl (nF (fun _ => 0)))), (r 2, .inl (cI.1, 9, .inl (nF (fun _ => 0)))), (r 3, .inl (cI.1, 9, .inl (nF (fun _ => 0)))), (r 5, .inl (cI.1, 9, .inl (nF (mc)))), (r 6, .inl (cI.1, 54, .inl (nF (mg)))), (r 7, .inl (cI.1, 54, .inl (nF (mz)))), (r 8, .inl (cI.1, 4, .inl (nF (nc)))), (r 9, .inl (cI.1, 32, .inl (nF (nt)))), (r 10, .inl (cI.1, 40, .inl (zF (oc))))]) (wN := fun _ => (wRl r cI (fun _ => 0) (fun _ => 0) (fun _ => 0) (fun _ => 0) mc mg mz nc nt oc fr)) S_ (wk_rS S_ (c_Ar_fill l D cI z (fun _ => r 4) 9 (nF (cd)) (nI (0)) (by decide)) mv_Rl_42 rfl rfl (Nat.le_of_ble_eq_true rfl) (by rw [hR_]; decide) (by rw [hR_]; decide) d_Rl_forget_29) [4] [0, 1, 2, 3, 5, 6, 7, 8, 9, 10] [0, 1, 2, 3, 10, 4, 5, 6, 7, 8, 9] rfl rfl rfl (by decide) (by decide) (by decide) (by decide) (fun _ => rfl) (fun _ => rfl) (fun _ _ _ => ?_)
  refine wk_st (st' := []) rfl ?_
  refine wk_aload_n (pc := 32) S_ 0 d_Rl_forget_32 rfl rfl ?_
  refine wk_get (pc := 33) (v := .ref (r 5)) S_ 5 4 0 in_Rl rfl (by decide) rfl fl_Rl_24 d_Rl_forget_33 rfl rfl ?_
  refine wk_iconst (pc := 36) (v := (nI (0))) S_ d_Rl_forget_36 (by decide) ?_
  refine wk_run (pc := 37) (rest := []) (wr := [(r 0, .inr (5, [.ref (r 1), .ref (r 2), .ref (r 3), .ref (r 4), .ref (r 5), .ref (r 6), .ref (r 7), .ref (r 8), .ref (r 9), .ref (r 10), .int (nI (fr))])), (r 1, .inl (cI.1, 9, .inl (nF (fun _ => 0)))), (r 2, .inl (cI.1, 9, .inl (nF (fun _ => 0)))), (r 3, .inl (cI.1, 9, .inl (nF (fun _ => 0)))), (r 4, .inl (cI.1, 9, .inl (nF (fun _ => 0)))), (r 6, .inl (cI.1, 54, .inl (nF (mg)))), (r 7, .inl (cI.1, 54, .inl (nF (mz)))), (r 8, .inl (cI.1, 4, .inl (nF (nc)))), (r 9, .inl (cI.1, 32, .inl (nF (nt)))), (r 10, .inl (cI.1, 40, .inl (zF (oc))))]) (wN := fun _ => (wRl r cI (fun _ => 0) (fun _ => 0) (fun _ => 0) (fun _ => 0) (fun _ => 0) mg mz nc nt oc fr)) S_ (wk_rS S_ (c_Ar_fill l D cI z (fun _ => r 5) 9 (nF (mc)) (nI (0)) (by decide)) mv_Rl_42 rfl rfl (Nat.le_of_ble_eq_true rfl) (by rw [hR_]; decide) (by rw [hR_]; decide) d_Rl_forget_37) [5] [0, 1, 2, 3, 4, 6, 7, 8, 9, 10] [0, 1, 2, 3, 4, 10, 5, 6, 7, 8, 9] rfl rfl rfl (by decide) (by decide) (by decide) (by decide) (fun _ => rfl) (fun _ => rfl) (fun _ _ _ => ?_)
  refine wk_st (st' := []) rfl ?_
  refine wk_aload_n (pc := 40) S_ 0 d_Rl_forget_40 rfl rfl ?_
  refine wk_get (pc := 41) (v := .ref (r 8)) S_ 5 7 0 in_Rl rfl (by decide) rfl fl_Rl_33 d_Rl_forget_41 rfl rfl ?_
  refine wk_iconst (pc := 44) (v := (nI (0))) S_ d_Rl_forget_44 (by decide) ?_
  refine wk_run (pc := 45) (rest := []) (wr := [(r 0, .inr (5, [.ref (r 1), .ref (r 2), .ref (r 3), .ref (r 4), .ref (r 5), .ref (r 6), .ref (r 7), .ref (r 8), .ref (r 9), .ref (r 10), .int (nI (fr))])), (r 1, .inl (cI.1, 9, .inl (nF (fun _ => 0)))), (r 2, .inl (cI.1, 9, .inl (nF (fun _ => 0)))), (r 3, .inl (cI.1, 9, .inl (nF (fun _ => 0)))), (r 4, .inl (cI.1, 9, .inl (nF (fun _ => 0)))), (r 5, .inl (cI.1, 9, .inl (nF (fun _ => 0)))), (r 6, .inl (cI.1, 54, .inl (nF (mg)))), (r 7, .inl (cI.1, 54, .inl (nF (mz)))), (r 9, .inl (cI.1, 32, .inl (nF (nt)))), (r 10, .inl (cI.1, 40, .inl (zF (oc))))]) (wN := fun _ => (wRl r cI (fun _ => 0) (fun _ => 0) (fun _ => 0) (fun _ => 0) (fun _ => 0) mg mz (fun _ => 0) nt oc fr)) S_ (wk_rS S_ (c_Ar_fill l D cI z (fun _ => r 8) 4 (nF (nc)) (nI (0)) (by decide)) mv_Rl_42 rfl rfl (Nat.le_of_ble_eq_true rfl) (by rw [hR_]; decide) (by rw [hR_]; decide) d_Rl_forget_45) [8] [0, 1, 2, 3, 4, 5, 6, 7, 9, 10] [0, 1, 2, 3, 4, 5, 6, 7, 10, 8, 9] rfl rfl rfl (by decide) (by decide) (by decide) (by decide) (fun _ => rfl) (fun _ => rfl) (fun _ _ _ => ?_)
  refine wk_st (st' := []) rfl ?_
  refine wk_aload_n (pc := 48) S_ 0 d_Rl_forget_48 rfl rfl ?_
  refine wk_get (pc := 49) (v := .ref (r 10)) S_ 5 9 0 in_Rl rfl (by decide) rfl fl_Rl_39 d_Rl_forget_49 rfl rfl ?_
  refine wk_iconst (pc := 52) (v := (-1)) S_ d_Rl_forget_52 (by decide) ?_
  refine wk_top (y := zI 0) zI_0.symm ?_
  refine wk_run (pc := 53) (rest := []) (wr := [(r 0, .inr (5, [.ref (r 1), .ref (r 2), .ref (r 3), .ref (r 4), .ref (r 5), .ref (r 6), .ref (r 7), .ref (r 8), .ref (r 9), .ref (r 10), .int (nI (fr))])), (r 1, .inl (cI.1, 9, .inl (nF (fun _ => 0)))), (r 2, .inl (cI.1, 9, .inl (nF (fun _ => 0)))), (r 3, .inl (cI.1, 9, .inl (nF (fun _ => 0)))), (r 4, .inl (cI.1, 9, .inl (nF (fun _ => 0)))), (r 5, .inl (cI.1, 9, .inl (nF (fun _ => 0)))), (r 6, .inl (cI.1, 54, .inl (nF (mg)))), (r 7, .inl (cI.1, 54, .inl (nF (mz)))), (r 8, .inl (cI.1, 4, .inl (nF (fun _ => 0)))), (r 9, .inl (cI.1, 32, .inl (nF (nt))))]) (wN := fun _ => (wRl r cI (fun _ => 0) (fun _ => 0) (fun _ => 0) (fun _ => 0) (fun _ => 0) mg mz (fun _ => 0) nt (fun _ => 0) fr)) S_ (wk_rS S_ (c_Ar_fill l D cI z (fun _ => r 10) 40 (zF (oc)) (zI (0)) (by decide)) mv_Rl_42 rfl rfl (Nat.le_of_ble_eq_true rfl) (by rw [hR_]; decide) (by rw [hR_]; decide) d_Rl_forget_53) [10] [0, 1, 2, 3, 4, 5, 6, 7, 8, 9] [0, 1, 2, 3, 4, 5, 6, 7, 8, 9, 10] rfl rfl rfl (by decide) (by decide) (by decide) (by decide) (fun _ => rfl) (fun _ => rfl) (fun _ _ _ => ?_)
  refine wk_st (st' := []) rfl ?_
  refine wk_aload_n (pc := 56) S_ 0 d_Rl_forget_56 rfl rfl ?_
  refine wk_iconst (pc := 57) (v := (nI (0))) S_ d_Rl_forget_57 (by decide) ?_
  refine wk_put (pc := 58) (ty := .int) (ws' := (wRl r cI (fun _ => 0) (fun _ => 0) (fun _ => 0) (fun _ => 0) (fun _ => 0) mg mz (fun _ => 0) nt (fun _ => 0) 0)) S_ 5 10 0 in_Rl t_Rl t_Rl_ok n_Rl rfl (by decide) rfl fl_Rl_48 (by decide +kernel) d_Rl_forget_58 rfl rfl rfl (Nat.le_of_ble_eq_true rfl) rfl ?_
  exact hQ_ () d_Rl_forget_61 rfl trivial
set_option maxHeartbeats 4000000 in
set_option maxRecDepth 100000 in
theorem c_Rl_hasRoomForNotes (l : Launch) (D : va_G) (cI : CiT) (z : GzT) (r : Nat → Nat) (ap : (Nat → Nat)) (pt : (Nat → Nat)) (rk : (Nat → Nat)) (cd : (Nat → Nat)) (mc : (Nat → Nat)) (mg : (Nat → Nat)) (mz : (Nat → Nat)) (nc : (Nat → Nat)) (nt : (Nat → Nat)) (oc : (Nat → Nat)) (fr : Nat) (hnc : ∀ c, nc c ≤ 8) : wk_C l D (tyK cI) (gX z) y_Rl_hasRoomForNotes b_Rl_hasRoomForNotes 2 (some .boolean) 1 21 0 0 [.ref (r 0)] (wRl r cI ap pt rk cd mc mg mz nc nt oc fr) wk_i (fun (r : Int32) (_ : Unit) => r = (bI (hrS nc 4))) (fun _ => (wRl r cI ap pt rk cd mc mg mz nc nt oc fr)) := by
  refine wk_methZ (own := R_Rl) [(0, .ref (r 0))] (by decide) rfl (Nat.le_of_ble_eq_true rfl) rfl (gX_ok z) (fun p_ e_ R_ s_ m_ ar_ be_ me_ co_ Q_ A_ hR_ S_ hnm_ hQ_ => ?_)
  refine wk_iconst (pc := 0) (v := (nI (0))) S_ d_Rl_hasRoomForNotes_0 (by decide) ?_
  refine wk_istore_n (pc := 1) (lv' := [(1, .int (nI (0))), (0, .ref (r 0))]) S_ d_Rl_hasRoomForNotes_1 rfl (by decide) rfl ?_
  have hL2 : ∀ (fuel2 : Nat), ∀ (k : Nat), 4 - k < fuel2 → (k ≤ 4) → (hrS nc k = false) → wk_G p_ l e_ R_ s_ m_ ar_ be_ me_ co_ Q_ D A_ 2 0 0 (wRl r cI ap pt rk cd mc mg mz nc nt oc fr) 2 [(0, .ref (r 0)), (1, .int (nI (k)))] [] := by
    intro fuel2
    induction fuel2 with
    | zero => intro k hm; exact absurd hm (Nat.not_lt_zero _)
    | succ fuel2 ih2 =>
      intro k hm hk hE
      refine wk_iload_n (pc := 2) S_ 1 d_Rl_hasRoomForNotes_2 rfl rfl ?_
      refine wk_iconst (pc := 3) (v := (nI (4))) S_ d_Rl_hasRoomForNotes_3 (by decide) ?_
      refine wk_icmp_geN (pc := 4) (tgt := 23) S_ d_Rl_hasRoomForNotes_4 (by decide) (by omega) (by omega) (fun h4 => ?_) (fun h4 => ?_)
      · -- taken
        refine wk_iconst (pc := 23) (v := (nI (0))) S_ d_Rl_hasRoomForNotes_23 (by decide) ?_
        exact hQ_ (nI (0)) () d_Rl_hasRoomForNotes_24 rfl rfl (bI_f (by rw [show (4 : Nat) = k by omega]; exact hE))
      · -- on
        refine wk_aload_n (pc := 7) S_ 0 d_Rl_hasRoomForNotes_7 rfl rfl ?_
        refine wk_iload_n (pc := 8) S_ 1 d_Rl_hasRoomForNotes_8 rfl rfl ?_
        refine wk_run (pc := 9) (rest := []) (wr := []) (wN := fun _ => (wRl r cI ap pt rk cd mc mg mz nc nt oc fr)) S_ (wk_rV S_ (c_Rl_hasRoomForNote l D cI z (r) (ap) (pt) (rk) (cd) (mc) (mg) (mz) (nc) (nt) (oc) (fr) (k) (by omega) hnc) mv_Rl_71 (wk_rcv S_ 0 5 rfl rfl rfl) rfl rfl (Nat.le_of_ble_eq_true rfl) (by rw [hR_]; decide) (by rw [hR_]; decide) d_Rl_hasRoomForNotes_9) [0, 1, 2, 3, 4, 5, 6, 7, 8, 9, 10] [] [0, 1, 2, 3, 4, 5, 6, 7, 8, 9, 10] rfl rfl rfl (by decide) (by decide) (by decide) (by decide) (fun _ => rfl) (fun _ => rfl) (fun r9 _ hw9 => ?_)
        refine wk_st (st' := [.int (r9)]) rfl ?_
        refine wk_top (y := (bI (decide ((nc) (k) < 8)))) hw9 ?_
        refine wk_if_eqB (pc := 12) (tgt := 17) S_ d_Rl_hasRoomForNotes_12 (by decide) (fun h12 => ?_) (fun h12 => ?_)
        · -- taken
          refine wk_iincN (pc := 17) (d := 1) (lv' := [(1, .int (nI (k + 1))), (0, .ref (r 0))]) S_ 1 d_Rl_hasRoomForNotes_17 (by decide) rfl (by decide) rfl ?_
          refine wk_goto (pc := 20) (tgt := 2) S_ d_Rl_hasRoomForNotes_20 (by decide) ?_
          refine wk_lv [1, 0] ?_ (ih2 (k + 1) (by omega) (by omega) (by rw [hrS, hE]; simpa using h12))
          rfl
        · -- on
          refine wk_iconst (pc := 15) (v := (nI (1))) S_ d_Rl_hasRoomForNotes_15 (by decide) ?_
          exact hQ_ (nI (1)) () d_Rl_hasRoomForNotes_16 rfl rfl (bI_t (hr_mono h12 (by omega)))
  refine wk_lv [1, 0] ?_ (hL2 _ (0) (Nat.lt_succ_self _) (by omega) rfl)
  rfl
set_option maxHeartbeats 4000000 in
set_option maxRecDepth 100000 in
theorem c_Rl_hasRoomForMark (l : Launch) (D : va_G) (cI : CiT) (z : GzT) (r : Nat → Nat) (ap : (Nat → Nat)) (pt : (Nat → Nat)) (rk : (Nat → Nat)) (cd : (Nat → Nat)) (mc : (Nat → Nat)) (mg : (Nat → Nat)) (mz : (Nat → Nat)) (nc : (Nat → Nat)) (nt : (Nat → Nat)) (oc : (Nat → Nat)) (fr : Nat) (c : Nat) (w : Nat) (hc : c < 9) (hw : w < 2 ^ 31) (hmc : ∀ c, mc c ≤ 6) (hmg : ∀ c, mg c ≤ 999999) : wk_C l D (tyK cI) (gX z) y_Rl_hasRoomForMark b_Rl_hasRoomForMark 3 (some .boolean) 1 23 0 0 [.ref (r 0), .int (nI (c)), .int (nI (w))] (wRl r cI ap pt rk cd mc mg mz nc nt oc fr) wk_i (fun (r : Int32) (_ : Unit) => r = (bI (decide (mpS mg c w (mc c) 0 < 6)))) (fun _ => (wRl r cI ap pt rk cd mc mg mz nc nt oc fr)) := by
  refine wk_methZ (own := R_Rl) [(0, .ref (r 0)), (1, .int (nI (c))), (2, .int (nI (w)))] (by decide) rfl (Nat.le_of_ble_eq_true rfl) rfl (gX_ok z) (fun p_ e_ R_ s_ m_ ar_ be_ me_ co_ Q_ A_ hR_ S_ hnm_ hQ_ => ?_)
  refine wk_aload_n (pc := 0) S_ 0 d_Rl_hasRoomForMark_0 rfl rfl ?_
  refine wk_iload_n (pc := 1) S_ 1 d_Rl_hasRoomForMark_1 rfl rfl ?_
  refine wk_iload_n (pc := 2) S_ 2 d_Rl_hasRoomForMark_2 rfl rfl ?_
  refine wk_run (pc := 3) (rest := []) (wr := []) (wN := fun _ => (wRl r cI ap pt rk cd mc mg mz nc nt oc fr)) S_ (wk_rV S_ (c_Rl_placeOfMark l D cI z (r) (ap) (pt) (rk) (cd) (mc) (mg) (mz) (nc) (nt) (oc) (fr) (c) (w) (by omega) (by omega) hmc hmg) mv_Rl_75 (wk_rcv S_ 0 5 rfl rfl rfl) rfl rfl (Nat.le_of_ble_eq_true rfl) (by rw [hR_]; decide) (by rw [hR_]; decide) d_Rl_hasRoomForMark_3) [0, 1, 2, 3, 4, 5, 6, 7, 8, 9, 10] [] [0, 1, 2, 3, 4, 5, 6, 7, 8, 9, 10] rfl rfl rfl (by decide) (by decide) (by decide) (by decide) (fun _ => rfl) (fun _ => rfl) (fun r3 _ hw3 => ?_)
  refine wk_st (st' := [.int (r3)]) rfl ?_
  refine wk_top (y := (nI (mpS (mg) (c) (w) ((mc) (c)) 0))) hw3 ?_
  have hm1 := hmc c
  have hm2 := (mpS_le (mg := mg) (c := c) (g := w) (mc c) 0).2
  refine wk_bipush (pc := 6) (v := (nI (6))) S_ d_Rl_hasRoomForMark_6 (by decide) ?_
  refine wk_icmp_geN (pc := 8) (tgt := 15) S_ d_Rl_hasRoomForMark_8 (by decide) (by omega) (by omega) (fun h8 => ?_) (fun h8 => ?_)
  · -- taken
    refine wk_iconst (pc := 15) (v := (nI (0))) S_ d_Rl_hasRoomForMark_15 (by decide) ?_
    exact hQ_ (nI (0)) () d_Rl_hasRoomForMark_16 rfl rfl (bI_f (by (try simp at h8); simp [h8]))
  · -- on
    refine wk_iconst (pc := 11) (v := (nI (1))) S_ d_Rl_hasRoomForMark_11 (by decide) ?_
    refine wk_goto (pc := 12) (tgt := 16) S_ d_Rl_hasRoomForMark_12 (by decide) ?_
    exact hQ_ (nI (1)) () d_Rl_hasRoomForMark_16 rfl rfl (bI_t (by (try simp at h8); simp [h8]))
set_option maxHeartbeats 4000000 in
set_option maxRecDepth 100000 in
theorem c_Rl_setMark (l : Launch) (D : va_G) (cI : CiT) (z : GzT) (r : Nat → Nat) (ap : (Nat → Nat)) (pt : (Nat → Nat)) (rk : (Nat → Nat)) (cd : (Nat → Nat)) (mc : (Nat → Nat)) (mg : (Nat → Nat)) (mz : (Nat → Nat)) (nc : (Nat → Nat)) (nt : (Nat → Nat)) (oc : (Nat → Nat)) (fr : Nat) (a : Nat) (b : Nat) (c : Nat) (ha : a < 9) (hb : b ≤ 999999) (hm : mpS mg a b (mc a) 0 < 6) (hmc : ∀ c, mc c ≤ 6) (hmg : ∀ c, mg c ≤ 999999) : wk_C l D (tyK cI) (gX z) y_Rl_setMark b_Rl_setMark 5 none 1 23 0 0 [.ref (r 0), .int (nI (a)), .int (nI (b)), .int (nI (c))] (wRl r cI ap pt rk cd mc mg mz nc nt oc fr) wk_v (fun (_ : Unit) (_ : Unit) => True) (fun _ => (wRl r cI ap pt rk cd (va_up mc a (mc a + (if mpS mg a b (mc a) 0 = mc a then 1 else 0))) (va_up mg (6 * a + mpS mg a b (mc a) 0) b) (va_up mz (6 * a + mpS mg a b (mc a) 0) c) nc nt oc fr)) := by
  refine wk_methV (own := R_Rl) [(0, .ref (r 0)), (1, .int (nI (a))), (2, .int (nI (b))), (3, .int (nI (c)))] (by decide) rfl (Nat.le_of_ble_eq_true rfl) rfl (gX_ok z) (fun p_ e_ R_ s_ m_ ar_ be_ me_ co_ Q_ A_ hR_ S_ hnm_ hQ_ => ?_)
  refine wk_aload_n (pc := 0) S_ 0 d_Rl_setMark_0 rfl rfl ?_
  refine wk_iload_n (pc := 1) S_ 1 d_Rl_setMark_1 rfl rfl ?_
  refine wk_iload_n (pc := 2) S_ 2 d_Rl_setMark_2 rfl rfl ?_
  refine wk_run (pc := 3) (rest := []) (wr := []) (wN := fun _ => (wRl r cI ap pt rk cd mc mg mz nc nt oc fr)) S_ (wk_rV S_ (c_Rl_placeOfMark l D cI z (r) (ap) (pt) (rk) (cd) (mc) (mg) (mz) (nc) (nt) (oc) (fr) (a) (b) (by omega) (by omega) hmc hmg) mv_Rl_75 (wk_rcv S_ 0 5 rfl rfl rfl) rfl rfl (Nat.le_of_ble_eq_true rfl) (by rw [hR_]; decide) (by rw [hR_]; decide) d_Rl_setMark_3) [0, 1, 2, 3, 4, 5, 6, 7, 8, 9, 10] [] [0, 1, 2, 3, 4, 5, 6, 7, 8, 9, 10] rfl rfl rfl (by decide) (by decide) (by decide) (by decide) (fun _ => rfl) (fun _ => rfl) (fun r3 _ hw3 => ?_)
  refine wk_st (st' := [.int (r3)]) rfl ?_
  refine wk_top (y := (nI (mpS (mg) (a) (b) ((mc) (a)) 0))) hw3 ?_
  have hm1 := hmc a
  have hm2 := (mpS_le (mg := mg) (c := a) (g := b) (mc a) 0).2
  refine wk_istore (pc := 6) (lv' := [(4, .int (nI (mpS (mg) (a) (b) ((mc) (a)) 0))), (0, .ref (r 0)), (1, .int (nI (a))), (2, .int (nI (b))), (3, .int (nI (c)))]) S_ d_Rl_setMark_6 (by decide) rfl ?_
  refine wk_iload (pc := 8) S_ 0 d_Rl_setMark_8 rfl ?_
  refine wk_bipush (pc := 10) (v := (nI (6))) S_ d_Rl_setMark_10 (by decide) ?_
  refine wk_icmp_ltN (pc := 12) (tgt := 16) S_ d_Rl_setMark_12 (by decide) (by omega) (by omega) (fun h12 => ?_) (fun h12 => absurd hm (Nat.not_lt.mpr h12))
  refine wk_aload_n (pc := 16) S_ 1 d_Rl_setMark_16 rfl rfl ?_
  refine wk_get (pc := 17) (v := .ref (r 6)) S_ 5 5 0 in_Rl rfl (by decide) rfl fl_Rl_27 d_Rl_setMark_17 rfl rfl ?_
  refine wk_iload_n (pc := 20) S_ 2 d_Rl_setMark_20 rfl rfl ?_
  refine wk_bipush (pc := 21) (v := (nI (6))) S_ d_Rl_setMark_21 (by decide) ?_
  refine wk_imulN (pc := 23) S_ d_Rl_setMark_23 ?_
  refine wk_iload (pc := 24) S_ 0 d_Rl_setMark_24 rfl ?_
  refine wk_iaddN (pc := 26) S_ d_Rl_setMark_26 ?_
  refine wk_iload_n (pc := 27) S_ 3 d_Rl_setMark_27 rfl rfl ?_
  refine wk_iastN (pc := 28) (g := mg) (ws' := (wRl r cI ap pt rk cd mc (va_up (mg) (((a) * (6)) + (mpS (mg) (a) (b) ((mc) (a)) 0)) (b)) mz nc nt oc fr)) S_ 6 0 d_Rl_setMark_28 rfl rfl (by omega) (by decide) rfl ?_
  refine wk_aload_n (pc := 29) S_ 1 d_Rl_setMark_29 rfl rfl ?_
  refine wk_get (pc := 30) (v := .ref (r 7)) S_ 5 6 0 in_Rl rfl (by decide) rfl fl_Rl_30 d_Rl_setMark_30 rfl rfl ?_
  refine wk_iload_n (pc := 33) S_ 2 d_Rl_setMark_33 rfl rfl ?_
  refine wk_bipush (pc := 34) (v := (nI (6))) S_ d_Rl_setMark_34 (by decide) ?_
  refine wk_imulN (pc := 36) S_ d_Rl_setMark_36 ?_
  refine wk_iload (pc := 37) S_ 0 d_Rl_setMark_37 rfl ?_
  refine wk_iaddN (pc := 39) S_ d_Rl_setMark_39 ?_
  refine wk_iload_n (pc := 40) S_ 4 d_Rl_setMark_40 rfl rfl ?_
  refine wk_iastN (pc := 41) (g := mz) (ws' := (wRl r cI ap pt rk cd mc (va_up (mg) (((a) * (6)) + (mpS (mg) (a) (b) ((mc) (a)) 0)) (b)) (va_up (mz) (((a) * (6)) + (mpS (mg) (a) (b) ((mc) (a)) 0)) (c)) nc nt oc fr)) S_ 7 0 d_Rl_setMark_41 rfl rfl (by omega) (by decide) rfl ?_
  refine wk_aload_n (pc := 42) S_ 1 d_Rl_setMark_42 rfl rfl ?_
  refine wk_get (pc := 43) (v := .ref (r 5)) S_ 5 4 0 in_Rl rfl (by decide) rfl fl_Rl_24 d_Rl_setMark_43 rfl rfl ?_
  refine wk_iload_n (pc := 46) S_ 2 d_Rl_setMark_46 rfl rfl ?_
  refine wk_aload_n (pc := 47) S_ 1 d_Rl_setMark_47 rfl rfl ?_
  refine wk_get (pc := 48) (v := .ref (r 5)) S_ 5 4 0 in_Rl rfl (by decide) rfl fl_Rl_24 d_Rl_setMark_48 rfl rfl ?_
  refine wk_iload_n (pc := 51) S_ 2 d_Rl_setMark_51 rfl rfl ?_
  refine wk_ialdN (pc := 52) (g := mc) S_ 5 0 d_Rl_setMark_52 rfl rfl (by omega) (by decide) ?_
  refine wk_iload (pc := 53) S_ 0 d_Rl_setMark_53 rfl ?_
  refine wk_iconst (pc := 55) (v := (nI (1))) S_ d_Rl_setMark_55 (by decide) ?_
  refine wk_iaddN (pc := 56) S_ d_Rl_setMark_56 ?_
  refine wk_mmax (pc := 57) S_ ml_Rl_79 in_mmaxS in_mI in_mmaxC (by rw [hR_]; decide) (by rw [hR_]; exact Nat.le_of_ble_eq_true rfl) (by rw [hR_]; decide) (by rw [hR_]; decide) d_Rl_setMark_57 ?_
  refine wk_top (y := (nI (mc a + (if mpS mg a b (mc a) 0 = mc a then 1 else 0)))) (mx_pl hm2 (by omega)) ?_
  refine wk_iastN (pc := 60) (g := mc) (ws' := (wRl r cI ap pt rk cd (va_up (mc) (a) (mc a + (if mpS mg a b (mc a) 0 = mc a then 1 else 0))) (va_up (mg) (((a) * (6)) + (mpS (mg) (a) (b) ((mc) (a)) 0)) (b)) (va_up (mz) (((a) * (6)) + (mpS (mg) (a) (b) ((mc) (a)) 0)) (c)) nc nt oc fr)) S_ 5 0 d_Rl_setMark_60 rfl rfl (by omega) (by decide) rfl ?_
  rw [Nat.mul_comm a 6]
  exact hQ_ () d_Rl_setMark_61 rfl trivial
set_option maxHeartbeats 4000000 in
set_option maxRecDepth 100000 in
theorem c_Rl_addNote (l : Launch) (D : va_G) (cI : CiT) (z : GzT) (r : Nat → Nat) (ap : (Nat → Nat)) (pt : (Nat → Nat)) (rk : (Nat → Nat)) (cd : (Nat → Nat)) (mc : (Nat → Nat)) (mg : (Nat → Nat)) (mz : (Nat → Nat)) (nc : (Nat → Nat)) (nt : (Nat → Nat)) (oc : (Nat → Nat)) (fr : Nat) (a : Nat) (b : Nat) (ha : a < 4) (hn : nc a < 8) (hnc : ∀ c, nc c ≤ 8) : wk_C l D (tyK cI) (gX z) y_Rl_addNote b_Rl_addNote 3 none 1 21 0 0 [.ref (r 0), .int (nI (a)), .int (nI (b))] (wRl r cI ap pt rk cd mc mg mz nc nt oc fr) wk_v (fun (_ : Unit) (_ : Unit) => True) (fun _ => (wRl r cI ap pt rk cd mc mg mz (va_up nc a (nc a + 1)) (va_up nt (8 * a + nc a) b) oc fr)) := by
  refine wk_methV (own := R_Rl) [(0, .ref (r 0)), (1, .int (nI (a))), (2, .int (nI (b)))] (by decide) rfl (Nat.le_of_ble_eq_true rfl) rfl (gX_ok z) (fun p_ e_ R_ s_ m_ ar_ be_ me_ co_ Q_ A_ hR_ S_ hnm_ hQ_ => ?_)
  refine wk_aload_n (pc := 0) S_ 0 d_Rl_addNote_0 rfl rfl ?_
  refine wk_iload_n (pc := 1) S_ 1 d_Rl_addNote_1 rfl rfl ?_
  refine wk_run (pc := 2) (rest := []) (wr := []) (wN := fun _ => (wRl r cI ap pt rk cd mc mg mz nc nt oc fr)) S_ (wk_rV S_ (c_Rl_hasRoomForNote l D cI z (r) (ap) (pt) (rk) (cd) (mc) (mg) (mz) (nc) (nt) (oc) (fr) (a) (by omega) hnc) mv_Rl_71 (wk_rcv S_ 0 5 rfl rfl rfl) rfl rfl (Nat.le_of_ble_eq_true rfl) (by rw [hR_]; decide) (by rw [hR_]; decide) d_Rl_addNote_2) [0, 1, 2, 3, 4, 5, 6, 7, 8, 9, 10] [] [0, 1, 2, 3, 4, 5, 6, 7, 8, 9, 10] rfl rfl rfl (by decide) (by decide) (by decide) (by decide) (fun _ => rfl) (fun _ => rfl) (fun r2 _ hw2 => ?_)
  refine wk_st (st' := [.int (r2)]) rfl ?_
  refine wk_top (y := (bI (decide ((nc) (a) < 8)))) hw2 ?_
  refine wk_if_neB (pc := 5) (tgt := 9) S_ d_Rl_addNote_5 (by decide) (fun h5 => ?_) (fun h5 => absurd hn (of_decide_eq_false h5))
  refine wk_aload_n (pc := 9) S_ 0 d_Rl_addNote_9 rfl rfl ?_
  refine wk_get (pc := 10) (v := .ref (r 9)) S_ 5 8 0 in_Rl rfl (by decide) rfl fl_Rl_36 d_Rl_addNote_10 rfl rfl ?_
  refine wk_iload_n (pc := 13) S_ 1 d_Rl_addNote_13 rfl rfl ?_
  refine wk_bipush (pc := 14) (v := (nI (8))) S_ d_Rl_addNote_14 (by decide) ?_
  refine wk_imulN (pc := 16) S_ d_Rl_addNote_16 ?_
  refine wk_aload_n (pc := 17) S_ 0 d_Rl_addNote_17 rfl rfl ?_
  refine wk_get (pc := 18) (v := .ref (r 8)) S_ 5 7 0 in_Rl rfl (by decide) rfl fl_Rl_33 d_Rl_addNote_18 rfl rfl ?_
  refine wk_iload_n (pc := 21) S_ 1 d_Rl_addNote_21 rfl rfl ?_
  refine wk_ialdN (pc := 22) (g := nc) S_ 8 0 d_Rl_addNote_22 rfl rfl (by omega) (by decide) ?_
  refine wk_iaddN (pc := 23) S_ d_Rl_addNote_23 ?_
  refine wk_iload_n (pc := 24) S_ 2 d_Rl_addNote_24 rfl rfl ?_
  refine wk_iastN (pc := 25) (g := nt) (ws' := (wRl r cI ap pt rk cd mc mg mz nc (va_up (nt) (((a) * (8)) + ((nc) (a))) (b)) oc fr)) S_ 9 0 d_Rl_addNote_25 rfl rfl (by omega) (by decide) rfl ?_
  refine wk_aload_n (pc := 26) S_ 0 d_Rl_addNote_26 rfl rfl ?_
  refine wk_get (pc := 27) (v := .ref (r 8)) S_ 5 7 0 in_Rl rfl (by decide) rfl fl_Rl_33 d_Rl_addNote_27 rfl rfl ?_
  refine wk_iload_n (pc := 30) S_ 1 d_Rl_addNote_30 rfl rfl ?_
  refine wk_dup2 (pc := 31) S_ d_Rl_addNote_31 rfl rfl ?_
  refine wk_ialdN (pc := 32) (g := nc) S_ 8 0 d_Rl_addNote_32 rfl rfl (by omega) (by decide) ?_
  refine wk_iconst (pc := 33) (v := (nI (1))) S_ d_Rl_addNote_33 (by decide) ?_
  refine wk_iaddN (pc := 34) S_ d_Rl_addNote_34 ?_
  refine wk_iastN (pc := 35) (g := nc) (ws' := (wRl r cI ap pt rk cd mc mg mz (va_up (nc) (a) (((nc) (a)) + (1))) (va_up (nt) (((a) * (8)) + ((nc) (a))) (b)) oc fr)) S_ 8 0 d_Rl_addNote_35 rfl rfl (by omega) (by decide) rfl ?_
  rw [Nat.mul_comm a 8]
  exact hQ_ () d_Rl_addNote_36 rfl trivial
set_option maxHeartbeats 4000000 in
set_option maxRecDepth 100000 in
theorem c_Rl_learn (l : Launch) (D : va_G) (cI : CiT) (z : GzT) (r : Nat → Nat) (ap : (Nat → Nat)) (pt : (Nat → Nat)) (rk : (Nat → Nat)) (cd : (Nat → Nat)) (mc : (Nat → Nat)) (mg : (Nat → Nat)) (mz : (Nat → Nat)) (nc : (Nat → Nat)) (nt : (Nat → Nat)) (oc : (Nat → Nat)) (fr : Nat) (x : Nat) (a : Nat) (b : Nat) (c : Nat) (hx : x < 9) (hA : a ≤ grK x 0) (hB : x = 3 ∨ b ≤ grK x 1) (hC : (x ≠ 4 ∧ x < 7) ∨ c ≤ grK x 2) (hmc : ∀ c, mc c ≤ 6) (hmg : ∀ c, mg c ≤ 999999) (hnc : ∀ c, nc c ≤ 8) (hnf : x = 6 → nc a < 8) (hmf : x = 4 → mpS mg a b (mc a) 0 < 6) : wk_C l D (tyK cI) (gX z) y_Rl_learn b_Rl_learn 5 none 2 47 0 0 [.ref (r 0), .ref (zA z (x)), .int (nI (a)), .int (nI (b)), .int (nI (c))] (wRl r cI ap pt rk cd mc mg mz nc nt oc fr) wk_v (fun (r : Unit) (u : (Nat → Nat) × (Nat → Nat) × (Nat → Nat) × (Nat → Nat) × Nat × (Nat → Nat) × (Nat → Nat) × (Nat → Nat) × (Nat → Nat) × (Nat → Nat) × (Nat → Nat)) => u = lnS x a b c (ap, pt, rk, cd, fr, mc, mg, mz, nc, nt, oc)) (fun u => (wRl r cI u.1 u.2.1 u.2.2.1 u.2.2.2.1 u.2.2.2.2.2.1 u.2.2.2.2.2.2.1 u.2.2.2.2.2.2.2.1 u.2.2.2.2.2.2.2.2.1 u.2.2.2.2.2.2.2.2.2.1 u.2.2.2.2.2.2.2.2.2.2 u.2.2.2.2.1)) := by
  refine wk_methV (own := R_Rl) [(0, .ref (r 0)), (1, .ref (zA z (x))), (2, .int (nI (a))), (3, .int (nI (b))), (4, .int (nI (c)))] (by decide) rfl (Nat.le_of_ble_eq_true rfl) rfl (gX_ok z) (fun p_ e_ R_ s_ m_ ar_ be_ me_ co_ Q_ A_ hR_ S_ hnm_ hQ_ => ?_)
  rcases (show x = 0 ∨ x = 1 ∨ x = 2 ∨ x = 3 ∨ x = 4 ∨ x = 5 ∨ x = 6 ∨ x = 7 ∨ x = 8 by omega) with rfl | rfl | rfl | rfl | rfl | rfl | rfl | rfl | rfl
  · -- 0
    have hA' : a ≤ 8 := hA
    have hB' : b ≤ 8 := by rcases hB with z | z; exact absurd z (by decide); exact z
    refine wk_gets (pc := 0) S_ (gx_ms S_.2.2.2.1) fl_Rl_52 d_Rl_learn_0 ?_
    refine wk_aload_n (pc := 3) S_ 1 d_Rl_learn_3 rfl rfl ?_
    refine wk_run (pc := 4) (rest := [.ref (zM z)]) (wr := (wRl r cI ap pt rk cd mc mg mz nc nt oc fr)) (wN := fun _ => (wRl r cI ap pt rk cd mc mg mz nc nt oc fr)) S_ (wk_rU S_ (c_En_ordinal l D cI z (0) (by omega)) mu_Rl_57 (fun H locs _ hS => va_recvE (S_.2.2.2.1).1 (show 0 < 9 by omega) hS) rfl rfl (Nat.le_of_ble_eq_true rfl) (by rw [hR_]; decide) (by rw [hR_]; decide) d_Rl_learn_4) [] [0, 1, 2, 3, 4, 5, 6, 7, 8, 9, 10] [0, 1, 2, 3, 4, 5, 6, 7, 8, 9, 10] rfl rfl rfl (by decide) (by decide) (by decide) (by decide) (fun _ => rfl) (fun _ => rfl) (fun r4 _ hw4 => ?_)
    refine wk_st (st' := [.int (r4), .ref (zM z)]) rfl ?_
    refine wk_top (y := (nI ((0)))) hw4 ?_
    refine wk_ti (pc := 7) S_ (gx_mt S_.2.2.2.1) (by decide) (by decide) d_Rl_learn_7 ?_
    refine wk_st (st' := [.int (nI (1))]) rfl ?_
    refine wk_tblI (pc := 8) (off := 52) (tgt := 60) S_ d_Rl_learn_8 (by decide) (by decide) (by decide) (by decide) ?_
    refine wk_aload_n (pc := 60) S_ 0 d_Rl_learn_60 rfl rfl ?_
    refine wk_get (pc := 61) (v := .ref (r 1)) S_ 5 0 0 in_Rl rfl (by decide) rfl fl_Rl_9 d_Rl_learn_61 rfl rfl ?_
    refine wk_iload_n (pc := 64) S_ 2 d_Rl_learn_64 rfl rfl ?_
    refine wk_dup2 (pc := 65) S_ d_Rl_learn_65 rfl rfl ?_
    refine wk_ialdN (pc := 66) (g := ap) S_ 1 0 d_Rl_learn_66 rfl rfl (by omega) (by decide) ?_
    refine wk_iconst (pc := 67) (v := (nI (1))) S_ d_Rl_learn_67 (by decide) ?_
    refine wk_iload_n (pc := 68) S_ 3 d_Rl_learn_68 rfl rfl ?_
    refine wk_ishlN (pc := 69) S_ d_Rl_learn_69 (by omega) ?_
    refine wk_iorN (pc := 70) S_ d_Rl_learn_70 ?_
    refine wk_iastN (pc := 71) (g := ap) (ws' := (wRl r cI (va_up (ap) (a) (((ap) (a)) ||| (2 ^ (b)))) pt rk cd mc mg mz nc nt oc fr)) S_ 1 0 d_Rl_learn_71 rfl rfl (by omega) (by decide) rfl ?_
    refine wk_aload_n (pc := 72) S_ 0 d_Rl_learn_72 rfl rfl ?_
    refine wk_get (pc := 73) (v := .ref (r 1)) S_ 5 0 0 in_Rl rfl (by decide) rfl fl_Rl_9 d_Rl_learn_73 rfl rfl ?_
    refine wk_iload_n (pc := 76) S_ 3 d_Rl_learn_76 rfl rfl ?_
    refine wk_dup2 (pc := 77) S_ d_Rl_learn_77 rfl rfl ?_
    refine wk_ialdN (pc := 78) (g := va_up (ap) (a) (((ap) (a)) ||| (2 ^ (b)))) S_ 1 0 d_Rl_learn_78 rfl rfl (by omega) (by decide) ?_
    refine wk_iconst (pc := 79) (v := (nI (1))) S_ d_Rl_learn_79 (by decide) ?_
    refine wk_iload_n (pc := 80) S_ 2 d_Rl_learn_80 rfl rfl ?_
    refine wk_ishlN (pc := 81) S_ d_Rl_learn_81 (by omega) ?_
    refine wk_iorN (pc := 82) S_ d_Rl_learn_82 ?_
    refine wk_iastN (pc := 83) (g := va_up (ap) (a) (((ap) (a)) ||| (2 ^ (b)))) (ws' := (wRl r cI (va_up (va_up (ap) (a) (((ap) (a)) ||| (2 ^ (b)))) (b) (((va_up (ap) (a) (((ap) (a)) ||| (2 ^ (b)))) (b)) ||| (2 ^ (a)))) pt rk cd mc mg mz nc nt oc fr)) S_ 1 0 d_Rl_learn_83 rfl rfl (by omega) (by decide) rfl ?_
    refine wk_goto (pc := 84) (tgt := 178) S_ d_Rl_learn_84 (by decide) ?_
    exact hQ_ (va_up (va_up (ap) (a) (((ap) (a)) ||| (2 ^ (b)))) (b) (((va_up (ap) (a) (((ap) (a)) ||| (2 ^ (b)))) (b)) ||| (2 ^ (a))), pt, rk, cd, fr, mc, mg, mz, nc, nt, oc) d_Rl_learn_178 rfl rfl
  · -- 1
    have hA' : a ≤ 8 := hA
    have hB' : b ≤ 1000 := by rcases hB with z | z; exact absurd z (by decide); exact z
    refine wk_gets (pc := 0) S_ (gx_ms S_.2.2.2.1) fl_Rl_52 d_Rl_learn_0 ?_
    refine wk_aload_n (pc := 3) S_ 1 d_Rl_learn_3 rfl rfl ?_
    refine wk_run (pc := 4) (rest := [.ref (zM z)]) (wr := (wRl r cI ap pt rk cd mc mg mz nc nt oc fr)) (wN := fun _ => (wRl r cI ap pt rk cd mc mg mz nc nt oc fr)) S_ (wk_rU S_ (c_En_ordinal l D cI z (1) (by omega)) mu_Rl_57 (fun H locs _ hS => va_recvE (S_.2.2.2.1).1 (show 1 < 9 by omega) hS) rfl rfl (Nat.le_of_ble_eq_true rfl) (by rw [hR_]; decide) (by rw [hR_]; decide) d_Rl_learn_4) [] [0, 1, 2, 3, 4, 5, 6, 7, 8, 9, 10] [0, 1, 2, 3, 4, 5, 6, 7, 8, 9, 10] rfl rfl rfl (by decide) (by decide) (by decide) (by decide) (fun _ => rfl) (fun _ => rfl) (fun r4 _ hw4 => ?_)
    refine wk_st (st' := [.int (r4), .ref (zM z)]) rfl ?_
    refine wk_top (y := (nI ((1)))) hw4 ?_
    refine wk_ti (pc := 7) S_ (gx_mt S_.2.2.2.1) (by decide) (by decide) d_Rl_learn_7 ?_
    refine wk_st (st' := [.int (nI (2))]) rfl ?_
    refine wk_tblI (pc := 8) (off := 79) (tgt := 87) S_ d_Rl_learn_8 (by decide) (by decide) (by decide) (by decide) ?_
    refine wk_aload_n (pc := 87) S_ 0 d_Rl_learn_87 rfl rfl ?_
    refine wk_get (pc := 88) (v := .ref (r 2)) S_ 5 1 0 in_Rl rfl (by decide) rfl fl_Rl_15 d_Rl_learn_88 rfl rfl ?_
    refine wk_iload_n (pc := 91) S_ 2 d_Rl_learn_91 rfl rfl ?_
    refine wk_iload_n (pc := 92) S_ 3 d_Rl_learn_92 rfl rfl ?_
    refine wk_iastN (pc := 93) (g := pt) (ws' := (wRl r cI ap (va_up (pt) (a) (b)) rk cd mc mg mz nc nt oc fr)) S_ 2 0 d_Rl_learn_93 rfl rfl (by omega) (by decide) rfl ?_
    refine wk_goto (pc := 94) (tgt := 178) S_ d_Rl_learn_94 (by decide) ?_
    exact hQ_ (ap, va_up (pt) (a) (b), rk, cd, fr, mc, mg, mz, nc, nt, oc) d_Rl_learn_178 rfl rfl
  · -- 2
    have hA' : a ≤ 8 := hA
    have hB' : b ≤ 99 := by rcases hB with z | z; exact absurd z (by decide); exact z
    refine wk_gets (pc := 0) S_ (gx_ms S_.2.2.2.1) fl_Rl_52 d_Rl_learn_0 ?_
    refine wk_aload_n (pc := 3) S_ 1 d_Rl_learn_3 rfl rfl ?_
    refine wk_run (pc := 4) (rest := [.ref (zM z)]) (wr := (wRl r cI ap pt rk cd mc mg mz nc nt oc fr)) (wN := fun _ => (wRl r cI ap pt rk cd mc mg mz nc nt oc fr)) S_ (wk_rU S_ (c_En_ordinal l D cI z (2) (by omega)) mu_Rl_57 (fun H locs _ hS => va_recvE (S_.2.2.2.1).1 (show 2 < 9 by omega) hS) rfl rfl (Nat.le_of_ble_eq_true rfl) (by rw [hR_]; decide) (by rw [hR_]; decide) d_Rl_learn_4) [] [0, 1, 2, 3, 4, 5, 6, 7, 8, 9, 10] [0, 1, 2, 3, 4, 5, 6, 7, 8, 9, 10] rfl rfl rfl (by decide) (by decide) (by decide) (by decide) (fun _ => rfl) (fun _ => rfl) (fun r4 _ hw4 => ?_)
    refine wk_st (st' := [.int (r4), .ref (zM z)]) rfl ?_
    refine wk_top (y := (nI ((2)))) hw4 ?_
    refine wk_ti (pc := 7) S_ (gx_mt S_.2.2.2.1) (by decide) (by decide) d_Rl_learn_7 ?_
    refine wk_st (st' := [.int (nI (3))]) rfl ?_
    refine wk_tblI (pc := 8) (off := 89) (tgt := 97) S_ d_Rl_learn_8 (by decide) (by decide) (by decide) (by decide) ?_
    refine wk_aload_n (pc := 97) S_ 0 d_Rl_learn_97 rfl rfl ?_
    refine wk_get (pc := 98) (v := .ref (r 3)) S_ 5 2 0 in_Rl rfl (by decide) rfl fl_Rl_18 d_Rl_learn_98 rfl rfl ?_
    refine wk_iload_n (pc := 101) S_ 2 d_Rl_learn_101 rfl rfl ?_
    refine wk_iload_n (pc := 102) S_ 3 d_Rl_learn_102 rfl rfl ?_
    refine wk_iastN (pc := 103) (g := rk) (ws' := (wRl r cI ap pt (va_up (rk) (a) (b)) cd mc mg mz nc nt oc fr)) S_ 3 0 d_Rl_learn_103 rfl rfl (by omega) (by decide) rfl ?_
    refine wk_goto (pc := 104) (tgt := 178) S_ d_Rl_learn_104 (by decide) ?_
    exact hQ_ (ap, pt, va_up (rk) (a) (b), cd, fr, mc, mg, mz, nc, nt, oc) d_Rl_learn_178 rfl rfl
  · -- 3
    have hA' : a ≤ 999999 := hA
    refine wk_gets (pc := 0) S_ (gx_ms S_.2.2.2.1) fl_Rl_52 d_Rl_learn_0 ?_
    refine wk_aload_n (pc := 3) S_ 1 d_Rl_learn_3 rfl rfl ?_
    refine wk_run (pc := 4) (rest := [.ref (zM z)]) (wr := (wRl r cI ap pt rk cd mc mg mz nc nt oc fr)) (wN := fun _ => (wRl r cI ap pt rk cd mc mg mz nc nt oc fr)) S_ (wk_rU S_ (c_En_ordinal l D cI z (3) (by omega)) mu_Rl_57 (fun H locs _ hS => va_recvE (S_.2.2.2.1).1 (show 3 < 9 by omega) hS) rfl rfl (Nat.le_of_ble_eq_true rfl) (by rw [hR_]; decide) (by rw [hR_]; decide) d_Rl_learn_4) [] [0, 1, 2, 3, 4, 5, 6, 7, 8, 9, 10] [0, 1, 2, 3, 4, 5, 6, 7, 8, 9, 10] rfl rfl rfl (by decide) (by decide) (by decide) (by decide) (fun _ => rfl) (fun _ => rfl) (fun r4 _ hw4 => ?_)
    refine wk_st (st' := [.int (r4), .ref (zM z)]) rfl ?_
    refine wk_top (y := (nI ((3)))) hw4 ?_
    refine wk_ti (pc := 7) S_ (gx_mt S_.2.2.2.1) (by decide) (by decide) d_Rl_learn_7 ?_
    refine wk_st (st' := [.int (nI (4))]) rfl ?_
    refine wk_tblI (pc := 8) (off := 99) (tgt := 107) S_ d_Rl_learn_8 (by decide) (by decide) (by decide) (by decide) ?_
    refine wk_aload_n (pc := 107) S_ 0 d_Rl_learn_107 rfl rfl ?_
    refine wk_iload_n (pc := 108) S_ 2 d_Rl_learn_108 rfl rfl ?_
    refine wk_put (pc := 109) (ty := .int) (ws' := (wRl r cI ap pt rk cd mc mg mz nc nt oc a)) S_ 5 10 0 in_Rl t_Rl t_Rl_ok n_Rl rfl (by decide) rfl fl_Rl_48 (by decide +kernel) d_Rl_learn_109 rfl rfl rfl (Nat.le_of_ble_eq_true rfl) rfl ?_
    refine wk_goto (pc := 112) (tgt := 178) S_ d_Rl_learn_112 (by decide) ?_
    exact hQ_ (ap, pt, rk, cd, a, mc, mg, mz, nc, nt, oc) d_Rl_learn_178 rfl rfl
  · -- 4
    have hA' : a ≤ 8 := hA
    have hB' : b ≤ 999999 := by rcases hB with z | z; exact absurd z (by decide); exact z
    have hC' : c ≤ 9 := by rcases hC with z | z; exact absurd z (by decide); exact z
    refine wk_gets (pc := 0) S_ (gx_ms S_.2.2.2.1) fl_Rl_52 d_Rl_learn_0 ?_
    refine wk_aload_n (pc := 3) S_ 1 d_Rl_learn_3 rfl rfl ?_
    refine wk_run (pc := 4) (rest := [.ref (zM z)]) (wr := (wRl r cI ap pt rk cd mc mg mz nc nt oc fr)) (wN := fun _ => (wRl r cI ap pt rk cd mc mg mz nc nt oc fr)) S_ (wk_rU S_ (c_En_ordinal l D cI z (4) (by omega)) mu_Rl_57 (fun H locs _ hS => va_recvE (S_.2.2.2.1).1 (show 4 < 9 by omega) hS) rfl rfl (Nat.le_of_ble_eq_true rfl) (by rw [hR_]; decide) (by rw [hR_]; decide) d_Rl_learn_4) [] [0, 1, 2, 3, 4, 5, 6, 7, 8, 9, 10] [0, 1, 2, 3, 4, 5, 6, 7, 8, 9, 10] rfl rfl rfl (by decide) (by decide) (by decide) (by decide) (fun _ => rfl) (fun _ => rfl) (fun r4 _ hw4 => ?_)
    refine wk_st (st' := [.int (r4), .ref (zM z)]) rfl ?_
    refine wk_top (y := (nI ((4)))) hw4 ?_
    refine wk_ti (pc := 7) S_ (gx_mt S_.2.2.2.1) (by decide) (by decide) d_Rl_learn_7 ?_
    refine wk_st (st' := [.int (nI (5))]) rfl ?_
    refine wk_tblI (pc := 8) (off := 107) (tgt := 115) S_ d_Rl_learn_8 (by decide) (by decide) (by decide) (by decide) ?_
    refine wk_aload_n (pc := 115) S_ 0 d_Rl_learn_115 rfl rfl ?_
    refine wk_iload_n (pc := 116) S_ 2 d_Rl_learn_116 rfl rfl ?_
    refine wk_iload_n (pc := 117) S_ 3 d_Rl_learn_117 rfl rfl ?_
    refine wk_iload (pc := 118) S_ 4 d_Rl_learn_118 rfl ?_
    refine wk_run (pc := 120) (rest := []) (wr := []) (wN := fun _ => (wRl r cI ap pt rk cd (va_up (mc) (a) ((mc) (a) + (if mpS (mg) (a) (b) ((mc) (a)) 0 = (mc) (a) then 1 else 0))) (va_up (mg) (6 * (a) + mpS (mg) (a) (b) ((mc) (a)) 0) (b)) (va_up (mz) (6 * (a) + mpS (mg) (a) (b) ((mc) (a)) 0) (c)) nc nt oc fr)) S_ (wk_rV S_ (c_Rl_setMark l D cI z (r) (ap) (pt) (rk) (cd) (mc) (mg) (mz) (nc) (nt) (oc) (fr) (a) (b) (c) (by omega) (by omega) (hmf rfl) hmc hmg) mv_Rl_63 (wk_rcv S_ 0 5 rfl rfl rfl) rfl rfl (Nat.le_of_ble_eq_true rfl) (by rw [hR_]; decide) (by rw [hR_]; decide) d_Rl_learn_120) [0, 1, 2, 3, 4, 5, 6, 7, 8, 9, 10] [] [0, 1, 2, 3, 4, 5, 6, 7, 8, 9, 10] rfl rfl rfl (by decide) (by decide) (by decide) (by decide) (fun _ => rfl) (fun _ => rfl) (fun r120 _ hw120 => ?_)
    refine wk_st (st' := []) rfl ?_
    refine wk_goto (pc := 123) (tgt := 178) S_ d_Rl_learn_123 (by decide) ?_
    exact hQ_ (ap, pt, rk, cd, fr, va_up (mc) (a) ((mc) (a) + (if mpS (mg) (a) (b) ((mc) (a)) 0 = (mc) (a) then 1 else 0)), va_up (mg) (6 * (a) + mpS (mg) (a) (b) ((mc) (a)) 0) (b), va_up (mz) (6 * (a) + mpS (mg) (a) (b) ((mc) (a)) 0) (c), nc, nt, oc) d_Rl_learn_178 rfl rfl
  · -- 5
    have hA' : a ≤ 8 := hA
    have hB' : b ≤ 5 := by rcases hB with z | z; exact absurd z (by decide); exact z
    refine wk_gets (pc := 0) S_ (gx_ms S_.2.2.2.1) fl_Rl_52 d_Rl_learn_0 ?_
    refine wk_aload_n (pc := 3) S_ 1 d_Rl_learn_3 rfl rfl ?_
    refine wk_run (pc := 4) (rest := [.ref (zM z)]) (wr := (wRl r cI ap pt rk cd mc mg mz nc nt oc fr)) (wN := fun _ => (wRl r cI ap pt rk cd mc mg mz nc nt oc fr)) S_ (wk_rU S_ (c_En_ordinal l D cI z (5) (by omega)) mu_Rl_57 (fun H locs _ hS => va_recvE (S_.2.2.2.1).1 (show 5 < 9 by omega) hS) rfl rfl (Nat.le_of_ble_eq_true rfl) (by rw [hR_]; decide) (by rw [hR_]; decide) d_Rl_learn_4) [] [0, 1, 2, 3, 4, 5, 6, 7, 8, 9, 10] [0, 1, 2, 3, 4, 5, 6, 7, 8, 9, 10] rfl rfl rfl (by decide) (by decide) (by decide) (by decide) (fun _ => rfl) (fun _ => rfl) (fun r4 _ hw4 => ?_)
    refine wk_st (st' := [.int (r4), .ref (zM z)]) rfl ?_
    refine wk_top (y := (nI ((5)))) hw4 ?_
    refine wk_ti (pc := 7) S_ (gx_mt S_.2.2.2.1) (by decide) (by decide) d_Rl_learn_7 ?_
    refine wk_st (st' := [.int (nI (6))]) rfl ?_
    refine wk_tblI (pc := 8) (off := 118) (tgt := 126) S_ d_Rl_learn_8 (by decide) (by decide) (by decide) (by decide) ?_
    refine wk_aload_n (pc := 126) S_ 0 d_Rl_learn_126 rfl rfl ?_
    refine wk_get (pc := 127) (v := .ref (r 4)) S_ 5 3 0 in_Rl rfl (by decide) rfl fl_Rl_21 d_Rl_learn_127 rfl rfl ?_
    refine wk_iload_n (pc := 130) S_ 2 d_Rl_learn_130 rfl rfl ?_
    refine wk_iload_n (pc := 131) S_ 3 d_Rl_learn_131 rfl rfl ?_
    refine wk_iastN (pc := 132) (g := cd) (ws' := (wRl r cI ap pt rk (va_up (cd) (a) (b)) mc mg mz nc nt oc fr)) S_ 4 0 d_Rl_learn_132 rfl rfl (by omega) (by decide) rfl ?_
    refine wk_goto (pc := 133) (tgt := 178) S_ d_Rl_learn_133 (by decide) ?_
    exact hQ_ (ap, pt, rk, va_up (cd) (a) (b), fr, mc, mg, mz, nc, nt, oc) d_Rl_learn_178 rfl rfl
  · -- 6
    have hA' : a ≤ 3 := hA
    have hB' : b ≤ 999999 := by rcases hB with z | z; exact absurd z (by decide); exact z
    refine wk_gets (pc := 0) S_ (gx_ms S_.2.2.2.1) fl_Rl_52 d_Rl_learn_0 ?_
    refine wk_aload_n (pc := 3) S_ 1 d_Rl_learn_3 rfl rfl ?_
    refine wk_run (pc := 4) (rest := [.ref (zM z)]) (wr := (wRl r cI ap pt rk cd mc mg mz nc nt oc fr)) (wN := fun _ => (wRl r cI ap pt rk cd mc mg mz nc nt oc fr)) S_ (wk_rU S_ (c_En_ordinal l D cI z (6) (by omega)) mu_Rl_57 (fun H locs _ hS => va_recvE (S_.2.2.2.1).1 (show 6 < 9 by omega) hS) rfl rfl (Nat.le_of_ble_eq_true rfl) (by rw [hR_]; decide) (by rw [hR_]; decide) d_Rl_learn_4) [] [0, 1, 2, 3, 4, 5, 6, 7, 8, 9, 10] [0, 1, 2, 3, 4, 5, 6, 7, 8, 9, 10] rfl rfl rfl (by decide) (by decide) (by decide) (by decide) (fun _ => rfl) (fun _ => rfl) (fun r4 _ hw4 => ?_)
    refine wk_st (st' := [.int (r4), .ref (zM z)]) rfl ?_
    refine wk_top (y := (nI ((6)))) hw4 ?_
    refine wk_ti (pc := 7) S_ (gx_mt S_.2.2.2.1) (by decide) (by decide) d_Rl_learn_7 ?_
    refine wk_st (st' := [.int (nI (7))]) rfl ?_
    refine wk_tblI (pc := 8) (off := 128) (tgt := 136) S_ d_Rl_learn_8 (by decide) (by decide) (by decide) (by decide) ?_
    refine wk_aload_n (pc := 136) S_ 0 d_Rl_learn_136 rfl rfl ?_
    refine wk_iload_n (pc := 137) S_ 2 d_Rl_learn_137 rfl rfl ?_
    refine wk_iload_n (pc := 138) S_ 3 d_Rl_learn_138 rfl rfl ?_
    refine wk_run (pc := 139) (rest := []) (wr := []) (wN := fun _ => (wRl r cI ap pt rk cd mc mg mz (va_up (nc) (a) ((nc) (a) + 1)) (va_up (nt) (8 * (a) + (nc) (a)) (b)) oc fr)) S_ (wk_rV S_ (c_Rl_addNote l D cI z (r) (ap) (pt) (rk) (cd) (mc) (mg) (mz) (nc) (nt) (oc) (fr) (a) (b) (by omega) (hnf rfl) hnc) mv_Rl_67 (wk_rcv S_ 0 5 rfl rfl rfl) rfl rfl (Nat.le_of_ble_eq_true rfl) (by rw [hR_]; decide) (by rw [hR_]; decide) d_Rl_learn_139) [0, 1, 2, 3, 4, 5, 6, 7, 8, 9, 10] [] [0, 1, 2, 3, 4, 5, 6, 7, 8, 9, 10] rfl rfl rfl (by decide) (by decide) (by decide) (by decide) (fun _ => rfl) (fun _ => rfl) (fun r139 _ hw139 => ?_)
    refine wk_st (st' := []) rfl ?_
    refine wk_goto (pc := 142) (tgt := 178) S_ d_Rl_learn_142 (by decide) ?_
    exact hQ_ (ap, pt, rk, cd, fr, mc, mg, mz, va_up (nc) (a) ((nc) (a) + 1), va_up (nt) (8 * (a) + (nc) (a)) (b), oc) d_Rl_learn_178 rfl rfl
  · -- 7
    have hA' : a ≤ 9 := hA
    have hB' : b ≤ 3 := by rcases hB with z | z; exact absurd z (by decide); exact z
    have hC' : c ≤ 9 := by rcases hC with z | z; exact absurd z (by decide); exact z
    refine wk_gets (pc := 0) S_ (gx_ms S_.2.2.2.1) fl_Rl_52 d_Rl_learn_0 ?_
    refine wk_aload_n (pc := 3) S_ 1 d_Rl_learn_3 rfl rfl ?_
    refine wk_run (pc := 4) (rest := [.ref (zM z)]) (wr := (wRl r cI ap pt rk cd mc mg mz nc nt oc fr)) (wN := fun _ => (wRl r cI ap pt rk cd mc mg mz nc nt oc fr)) S_ (wk_rU S_ (c_En_ordinal l D cI z (7) (by omega)) mu_Rl_57 (fun H locs _ hS => va_recvE (S_.2.2.2.1).1 (show 7 < 9 by omega) hS) rfl rfl (Nat.le_of_ble_eq_true rfl) (by rw [hR_]; decide) (by rw [hR_]; decide) d_Rl_learn_4) [] [0, 1, 2, 3, 4, 5, 6, 7, 8, 9, 10] [0, 1, 2, 3, 4, 5, 6, 7, 8, 9, 10] rfl rfl rfl (by decide) (by decide) (by decide) (by decide) (fun _ => rfl) (fun _ => rfl) (fun r4 _ hw4 => ?_)
    refine wk_st (st' := [.int (r4), .ref (zM z)]) rfl ?_
    refine wk_top (y := (nI ((7)))) hw4 ?_
    refine wk_ti (pc := 7) S_ (gx_mt S_.2.2.2.1) (by decide) (by decide) d_Rl_learn_7 ?_
    refine wk_st (st' := [.int (nI (8))]) rfl ?_
    refine wk_tblI (pc := 8) (off := 137) (tgt := 145) S_ d_Rl_learn_8 (by decide) (by decide) (by decide) (by decide) ?_
    refine wk_aload_n (pc := 145) S_ 0 d_Rl_learn_145 rfl rfl ?_
    refine wk_get (pc := 146) (v := .ref (r 10)) S_ 5 9 0 in_Rl rfl (by decide) rfl fl_Rl_39 d_Rl_learn_146 rfl rfl ?_
    refine wk_iload_n (pc := 149) S_ 2 d_Rl_learn_149 rfl rfl ?_
    refine wk_iconst (pc := 150) (v := (nI (4))) S_ d_Rl_learn_150 (by decide) ?_
    refine wk_imulN (pc := 151) S_ d_Rl_learn_151 ?_
    refine wk_iload_n (pc := 152) S_ 3 d_Rl_learn_152 rfl rfl ?_
    refine wk_iaddN (pc := 153) S_ d_Rl_learn_153 ?_
    refine wk_iload (pc := 154) S_ 4 d_Rl_learn_154 rfl ?_
    refine wk_iastYN (pc := 156) (g := oc) (ws' := (wRl r cI ap pt rk cd mc mg mz nc nt (va_up (oc) (((a) * (4)) + (b)) ((c) + 1)) fr)) S_ 10 0 d_Rl_learn_156 rfl rfl (by omega) (by decide) rfl ?_
    refine wk_goto (pc := 157) (tgt := 178) S_ d_Rl_learn_157 (by decide) ?_
    exact hQ_ (ap, pt, rk, cd, fr, mc, mg, mz, nc, nt, va_up (oc) (((a) * (4)) + (b)) ((c) + 1)) d_Rl_learn_178 rfl (by rw [Nat.mul_comm a 4]; rfl)
  · -- 8
    have hA' : a ≤ 9 := hA
    have hB' : b ≤ 3 := by rcases hB with z | z; exact absurd z (by decide); exact z
    have hC' : c ≤ 8 := by rcases hC with z | z; exact absurd z (by decide); exact z
    refine wk_gets (pc := 0) S_ (gx_ms S_.2.2.2.1) fl_Rl_52 d_Rl_learn_0 ?_
    refine wk_aload_n (pc := 3) S_ 1 d_Rl_learn_3 rfl rfl ?_
    refine wk_run (pc := 4) (rest := [.ref (zM z)]) (wr := (wRl r cI ap pt rk cd mc mg mz nc nt oc fr)) (wN := fun _ => (wRl r cI ap pt rk cd mc mg mz nc nt oc fr)) S_ (wk_rU S_ (c_En_ordinal l D cI z (8) (by omega)) mu_Rl_57 (fun H locs _ hS => va_recvE (S_.2.2.2.1).1 (show 8 < 9 by omega) hS) rfl rfl (Nat.le_of_ble_eq_true rfl) (by rw [hR_]; decide) (by rw [hR_]; decide) d_Rl_learn_4) [] [0, 1, 2, 3, 4, 5, 6, 7, 8, 9, 10] [0, 1, 2, 3, 4, 5, 6, 7, 8, 9, 10] rfl rfl rfl (by decide) (by decide) (by decide) (by decide) (fun _ => rfl) (fun _ => rfl) (fun r4 _ hw4 => ?_)
    refine wk_st (st' := [.int (r4), .ref (zM z)]) rfl ?_
    refine wk_top (y := (nI ((8)))) hw4 ?_
    refine wk_ti (pc := 7) S_ (gx_mt S_.2.2.2.1) (by decide) (by decide) d_Rl_learn_7 ?_
    refine wk_st (st' := [.int (nI (9))]) rfl ?_
    refine wk_tblI (pc := 8) (off := 152) (tgt := 160) S_ d_Rl_learn_8 (by decide) (by decide) (by decide) (by decide) ?_
    refine wk_aload_n (pc := 160) S_ 0 d_Rl_learn_160 rfl rfl ?_
    refine wk_get (pc := 161) (v := .ref (r 10)) S_ 5 9 0 in_Rl rfl (by decide) rfl fl_Rl_39 d_Rl_learn_161 rfl rfl ?_
    refine wk_iload_n (pc := 164) S_ 2 d_Rl_learn_164 rfl rfl ?_
    refine wk_iconst (pc := 165) (v := (nI (4))) S_ d_Rl_learn_165 (by decide) ?_
    refine wk_imulN (pc := 166) S_ d_Rl_learn_166 ?_
    refine wk_iload_n (pc := 167) S_ 3 d_Rl_learn_167 rfl rfl ?_
    refine wk_iaddN (pc := 168) S_ d_Rl_learn_168 ?_
    refine wk_bipush (pc := 169) (v := (nI (10))) S_ d_Rl_learn_169 (by decide) ?_
    refine wk_iload (pc := 171) S_ 4 d_Rl_learn_171 rfl ?_
    refine wk_iaddN (pc := 173) S_ d_Rl_learn_173 ?_
    refine wk_iastYN (pc := 174) (g := oc) (ws' := (wRl r cI ap pt rk cd mc mg mz nc nt (va_up (oc) (((a) * (4)) + (b)) (((10) + (c)) + 1)) fr)) S_ 10 0 d_Rl_learn_174 rfl rfl (by omega) (by decide) rfl ?_
    refine wk_goto (pc := 175) (tgt := 178) S_ d_Rl_learn_175 (by decide) ?_
    exact hQ_ (ap, pt, rk, cd, fr, mc, mg, mz, nc, nt, va_up (oc) (((a) * (4)) + (b)) (((10) + (c)) + 1)) d_Rl_learn_178 rfl (by rw [Nat.mul_comm a 4]; rw [show 10 + c + 1 = c + 11 by omega]; rfl)
