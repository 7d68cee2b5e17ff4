def bfO (rk : Nat → Nat) (x y : Nat) : Prop := rk x < rk y ∨ (rk x = rk y ∧ x < y)
theorem plN_mono {rk go : Nat → Nat} {d e : Nat} (h : bfO rk d e) : ∀ n, plN rk go d n ≤ plN rk go e n ∧ (d < n → 0 < go d → plN rk go d n + 1 ≤ plN rk go e n)
  | 0 => ⟨Nat.le_refl _, fun h => absurd h (Nat.not_lt_zero _)⟩
  | n + 1 => by
    have ih := plN_mono (go := go) h n
    unfold bfO at h
    rw [plN, plN]
    by_cases c1 : (rk n < rk d ∨ (rk n = rk d ∧ n < d)) ∧ 0 < go n
    · have c2 : (rk n < rk e ∨ (rk n = rk e ∧ n < e)) ∧ 0 < go n := ⟨by omega, c1.2⟩
      rw [if_pos c1, if_pos c2]
      exact ⟨by omega, fun h1 h2 => by have := ih.2 (by rcases Nat.lt_or_ge d n with z | z; exact z; rw [show n = d by omega] at c1; omega) h2; omega⟩
    · rw [if_neg c1]
      by_cases e1 : n = d
      · subst e1
        refine ⟨by split <;> omega, fun _ h2 => ?_⟩
        rw [if_pos ⟨by omega, h2⟩]
        omega
      · refine ⟨by split <;> omega, fun h1 h2 => ?_⟩
        have := ih.2 (by omega) h2
        split <;> omega
def ctN (go : Nat → Nat) : Nat → Nat
  | 0 => 0
  | n + 1 => ctN go n + (if 0 < go n then 1 else 0)
theorem pl_ct {rk go : Nat → Nat} {c : Nat} : ∀ n, plN rk go c n ≤ ctN go n
  | 0 => Nat.le_refl _
  | n + 1 => by
    have ih := pl_ct (rk := rk) (go := go) (c := c) n
    rw [plN, ctN]
    split <;> split <;> omega
theorem ctN_le {go : Nat → Nat} : ∀ n, ctN go n ≤ n
  | 0 => Nat.le_refl _
  | n + 1 => by
    have ih := ctN_le (go := go) n
    rw [ctN]
    split <;> omega
/-- the first ct places hold the kinds below c of the load, in their order -/
def sO (rk go : Nat → Nat) (c : Nat) (io : Nat → Nat) (ct : Nat) : Prop :=
  ct = ctN go c ∧ (∀ i, i < ct → io i < c ∧ 0 < go (io i) ∧ plN rk go (io i) c = i) ∧ (∀ d, d < c → 0 < go d → plN rk go d c < ct ∧ io (plN rk go d c) = d)
theorem sO_0 (rk go io : Nat → Nat) : sO rk go 0 io 0 := ⟨rfl, fun i h => absurd h (Nat.not_lt_zero _), fun d h => absurd h (Nat.not_lt_zero _)⟩
theorem sO_no {rk go io : Nat → Nat} {c ct : Nat} (h : sO rk go c io ct) (hg : go c = 0) : sO rk go (c + 1) io ct := by
  obtain ⟨h1, h2, h3⟩ := h
  have e : ∀ d, plN rk go d (c + 1) = plN rk go d c := fun d => by rw [plN, if_neg (by omega), Nat.add_zero]
  refine ⟨by rw [ctN, if_neg (by omega), Nat.add_zero]; exact h1, fun i hi => ?_, fun d hd hd2 => ?_⟩
  · have := h2 i hi
    exact ⟨by omega, this.2.1, by rw [e]; exact this.2.2⟩
  · rw [e]
    exact h3 d (by rcases Nat.lt_or_ge d c with z | z; exact z; rw [show d = c by omega] at hd2; omega) hd2
theorem sO_in {rk go io io1 : Nat → Nat} {c ct t : Nat} (h : sO rk go c io ct) (hg : 0 < go c) (ht : t ≤ ct) (h0 : t = 0 ∨ rk (io (t - 1)) ≤ rk c) (hr : ∀ i, t ≤ i → i < ct → rk c < rk (io i)) (hl : ∀ i, i < t → io1 i = io i) (hu : ∀ i, t < i → i ≤ ct → io1 i = io (i - 1)) : sO rk go (c + 1) (va_up io1 t c) (ct + 1) := by
  obtain ⟨h1, h2, h3⟩ := h
  have lo : ∀ i, i < t → rk (io i) ≤ rk c := by
    intro i hi
    rcases h0 with z | z
    · omega
    · rcases Nat.lt_or_ge (rk (io (t - 1))) (rk (io i)) with y | y
      · have q1 := h2 i (by omega)
        have q2 := h2 (t - 1) (by omega)
        have := (plN_mono (rk := rk) (go := go) (d := io (t - 1)) (e := io i) (Or.inl y) c).2 q2.1 q2.2.1
        omega
      · omega
  have e : ∀ d, d < c → plN rk go d (c + 1) = plN rk go d c + (if rk c < rk d then 1 else 0) := by
    intro d hd
    rw [plN]
    by_cases q : rk c < rk d
    · rw [if_pos ⟨Or.inl q, hg⟩, if_pos q]
    · rw [if_neg (by omega), if_neg q]
  have ec : plN rk go c (c + 1) = t := by
    rw [plN, if_neg (by omega), Nat.add_zero]
    have u1 : plN rk go c c ≤ t := by
      rcases Nat.lt_or_ge t ct with z | z
      · have q := h2 t z
        have := (plN_mono (rk := rk) (go := go) (d := c) (e := io t) (Or.inl (hr t (Nat.le_refl _) z)) c).1
        omega
      · have := pl_ct (rk := rk) (go := go) (c := c) c
        omega
    have u2 : t ≤ plN rk go c c := by
      rcases h0 with z | z
      · omega
      · by_cases z0 : t = 0
        · omega
        · have q := h2 (t - 1) (by omega)
          have := (plN_mono (rk := rk) (go := go) (d := io (t - 1)) (e := c) (by unfold bfO; omega) c).2 q.1 q.2.1
          omega
    omega
  refine ⟨by rw [ctN, if_pos hg, h1], fun i hi => ?_, fun d hd hd2 => ?_⟩
  · by_cases z : i = t
    · rw [z, va_up_self]
      exact ⟨by omega, hg, ec⟩
    · rw [va_up_ne _ _ z]
      rcases Nat.lt_or_ge i t with y | y
      · rw [hl i y]
        have q := h2 i (by omega)
        refine ⟨by omega, q.2.1, ?_⟩
        rw [e _ q.1, if_neg (by have := lo i y; omega)]
        omega
      · rw [hu i (by omega) (by omega)]
        have q := h2 (i - 1) (by omega)
        refine ⟨by omega, q.2.1, ?_⟩
        rw [e _ q.1, if_pos (hr (i - 1) (by omega) (by omega))]
        omega
  · by_cases z : d = c
    · rw [z, ec, va_up_self]
      exact ⟨by omega, rfl⟩
    · have q := h3 d (by omega) hd2
      rw [e d (by omega)]
      by_cases y : rk c < rk d
      · rw [if_pos y]
        have q3 : t ≤ plN rk go d c := by
          rcases Nat.lt_or_ge (plN rk go d c) t with x | x
          · have := lo _ x
            rw [q.2] at this
            omega
          · exact x
        refine ⟨by omega, ?_⟩
        rw [va_up_ne _ _ (by omega), hu _ (by omega) (by omega)]
        exact q.2
      · rw [if_neg y, Nat.add_zero]
        have q3 : plN rk go d c < t := by
          rcases Nat.lt_or_ge (plN rk go d c) t with x | x
          · exact x
          · have := hr _ x q.1
            rw [q.2] at this
            omega
        refine ⟨by omega, ?_⟩
        rw [va_up_ne _ _ (by omega), hl _ q3]
        exact q.2
theorem sO_le {rk go io : Nat → Nat} {c ct : Nat} (h : sO rk go c io ct) : ct ≤ c := by rw [h.1]; exact ctN_le c
/-- behind a sort, the kind at a place is what the order says -/
theorem sO_nm {rk go io : Nat → Nat} {ct : Nat} (h : sO rk go 9 io ct) (k : Int32) : nmS rk go k 9 0 = pick ct io k := by
  have hc := sO_le h
  obtain ⟨h1, h2, h3⟩ := h
  have key : ∀ r c, c + r = 9 → (∀ x, x < c → ¬ (0 < go x ∧ nI (plN rk go x 9) = k)) → nmS rk go k r c = pick ct io k := by
    intro r
    induction r with
    | zero =>
      intro c hc2 hx
      rw [nmS]
      rcases pk_ix k (n := ct) (by omega) with z | z | ⟨j, hj, rfl⟩
      · rw [pick_a z]
      · rw [pick_b z]
      · have q := h2 j hj
        exact absurd ⟨q.2.1, by rw [q.2.2]⟩ (hx (io j) (by omega))
    | succ r ih =>
      intro c hc2 hx
      rw [nmS]
      by_cases q : 0 < go c ∧ nI (plN rk go c 9) = k
      · rw [if_pos q, ← q.2]
        have q2 := h3 c (by omega) q.1
        rw [pick_in q2.1 (by omega), q2.2]
      · rw [if_neg q]
        refine ih (c + 1) (by omega) (fun x hx2 => ?_)
        by_cases z : x = c
        · rw [z]; exact q
        · exact hx x (by omega)
  exact key 9 0 rfl (fun x hx => absurd hx (Nat.not_lt_zero _))
theorem fl_Ld_39 : Cond.fieldLink R_Ld 39 R_Ld "count" "I" ∈ lw_gd := (gd _ (tb0 _ (List.mem_of_getElem? (i := 162) rfl)) rfl)
theorem fl_Ld_46 : Cond.fieldLink R_Ld 46 R_Rl "ranks" "[I" ∈ lw_gd := (gd _ (tb0 _ (List.mem_of_getElem? (i := 191) rfl)) rfl)
theorem fl_Ld_15 : Cond.fieldLink R_Ld 15 R_Ld "inOrder" "[I" ∈ lw_gd := (gd _ (tb0 _ (List.mem_of_getElem? (i := 160) rfl)) rfl)
theorem d_Ld_insert_0 : decode b_Ld_insert 0 = .ok (.aload_n 0, 1) := by decide +kernel
theorem d_Ld_insert_1 : decode b_Ld_insert 1 = .ok (.getfield 39, 3) := by decide +kernel
theorem d_Ld_insert_4 : decode b_Ld_insert 4 = .ok (.istore_n 3, 1) := by decide +kernel
theorem d_Ld_insert_5 : decode b_Ld_insert 5 = .ok (.iload_n 3, 1) := by decide +kernel
theorem d_Ld_insert_6 : decode b_Ld_insert 6 = .ok (.ifCond .le 45, 3) := by decide +kernel
theorem d_Ld_insert_9 : decode b_Ld_insert 9 = .ok (.aload_n 1, 1) := by decide +kernel
theorem d_Ld_insert_10 : decode b_Ld_insert 10 = .ok (.getfield 46, 3) := by decide +kernel
theorem d_Ld_insert_13 : decode b_Ld_insert 13 = .ok (.aload_n 0, 1) := by decide +kernel
theorem d_Ld_insert_14 : decode b_Ld_insert 14 = .ok (.getfield 15, 3) := by decide +kernel
theorem d_Ld_insert_17 : decode b_Ld_insert 17 = .ok (.iload_n 3, 1) := by decide +kernel
theorem d_Ld_insert_18 : decode b_Ld_insert 18 = .ok (.iconst 1, 1) := by decide +kernel
theorem d_Ld_insert_19 : decode b_Ld_insert 19 = .ok (.isub, 1) := by decide +kernel
theorem d_Ld_insert_20 : decode b_Ld_insert 20 = .ok (.iaload, 1) := by decide +kernel
theorem d_Ld_insert_21 : decode b_Ld_insert 21 = .ok (.iaload, 1) := by decide +kernel
theorem d_Ld_insert_22 : decode b_Ld_insert 22 = .ok (.aload_n 1, 1) := by decide +kernel
theorem d_Ld_insert_23 : decode b_Ld_insert 23 = .ok (.getfield 46, 3) := by decide +kernel
theorem d_Ld_insert_26 : decode b_Ld_insert 26 = .ok (.iload_n 2, 1) := by decide +kernel
theorem d_Ld_insert_27 : decode b_Ld_insert 27 = .ok (.iaload, 1) := by decide +kernel
theorem d_Ld_insert_28 : decode b_Ld_insert 28 = .ok (.if_icmp .le 23, 3) := by decide +kernel
theorem d_Ld_insert_31 : decode b_Ld_insert 31 = .ok (.aload_n 0, 1) := by decide +kernel
theorem d_Ld_insert_32 : decode b_Ld_insert 32 = .ok (.getfield 15, 3) := by decide +kernel
theorem d_Ld_insert_35 : decode b_Ld_insert 35 = .ok (.iload_n 3, 1) := by decide +kernel
theorem d_Ld_insert_36 : decode b_Ld_insert 36 = .ok (.aload_n 0, 1) := by decide +kernel
theorem d_Ld_insert_37 : decode b_Ld_insert 37 = .ok (.getfield 15, 3) := by decide +kernel
theorem d_Ld_insert_40 : decode b_Ld_insert 40 = .ok (.iload_n 3, 1) := by decide +kernel
theorem d_Ld_insert_41 : decode b_Ld_insert 41 = .ok (.iconst 1, 1) := by decide +kernel
theorem d_Ld_insert_42 : decode b_Ld_insert 42 = .ok (.isub, 1) := by decide +kernel
theorem d_Ld_insert_43 : decode b_Ld_insert 43 = .ok (.iaload, 1) := by decide +kernel
theorem d_Ld_insert_44 : decode b_Ld_insert 44 = .ok (.iastore, 1) := by decide +kernel
theorem d_Ld_insert_45 : decode b_Ld_insert 45 = .ok (.iinc 3 (-1), 3) := by decide +kernel
theorem d_Ld_insert_48 : decode b_Ld_insert 48 = .ok (.goto (-43), 3) := by decide +kernel
theorem d_Ld_insert_51 : decode b_Ld_insert 51 = .ok (.aload_n 0, 1) := by decide +kernel
theorem d_Ld_insert_52 : decode b_Ld_insert 52 = .ok (.getfield 15, 3) := by decide +kernel
theorem d_Ld_insert_55 : decode b_Ld_insert 55 = .ok (.iload_n 3, 1) := by decide +kernel
theorem d_Ld_insert_56 : decode b_Ld_insert 56 = .ok (.iload_n 2, 1) := by decide +kernel
theorem d_Ld_insert_57 : decode b_Ld_insert 57 = .ok (.iastore, 1) := by decide +kernel
theorem d_Ld_insert_58 : decode b_Ld_insert 58 = .ok (.aload_n 0, 1) := by decide +kernel
theorem d_Ld_insert_59 : decode b_Ld_insert 59 = .ok (.dup, 1) := by decide +kernel
theorem d_Ld_insert_60 : decode b_Ld_insert 60 = .ok (.getfield 39, 3) := by decide +kernel
theorem d_Ld_insert_63 : decode b_Ld_insert 63 = .ok (.iconst 1, 1) := by decide +kernel
theorem d_Ld_insert_64 : decode b_Ld_insert 64 = .ok (.iadd, 1) := by decide +kernel
theorem d_Ld_insert_65 : decode b_Ld_insert 65 = .ok (.putfield 39, 3) := by decide +kernel
theorem d_Ld_insert_68 : decode b_Ld_insert 68 = .ok (.return_, 1) := by decide +kernel
theorem mv_Ld_42 : wk_V R_Ld 42 R_Ld y_Ld_insert b_Ld_insert 4 none 2 := ⟨(gd _ (tb2 _ (List.mem_of_getElem? (i := 63) rfl)) rfl), (gd _ (tb0 _ (List.mem_of_getElem? (i := 6) rfl)) rfl), (gd _ (tb2 _ (List.mem_of_getElem? (i := 60) rfl)) rfl), (by decide +kernel), (gd _ (tb2 _ (List.mem_of_getElem? (i := 62) rfl)) rfl), (gd _ (List.mem_append_left _ (by decide +kernel)) rfl)⟩
theorem d_Ld_sort_0 : decode b_Ld_sort 0 = .ok (.aload_n 0, 1) := by decide +kernel
theorem d_Ld_sort_1 : decode b_Ld_sort 1 = .ok (.iconst 0, 1) := by decide +kernel
theorem d_Ld_sort_2 : decode b_Ld_sort 2 = .ok (.putfield 39, 3) := by decide +kernel
theorem d_Ld_sort_5 : decode b_Ld_sort 5 = .ok (.iconst 0, 1) := by decide +kernel
theorem d_Ld_sort_6 : decode b_Ld_sort 6 = .ok (.istore_n 2, 1) := by decide +kernel
theorem d_Ld_sort_7 : decode b_Ld_sort 7 = .ok (.iload_n 2, 1) := by decide +kernel
theorem d_Ld_sort_8 : decode b_Ld_sort 8 = .ok (.bipush 9, 2) := by decide +kernel
theorem d_Ld_sort_10 : decode b_Ld_sort 10 = .ok (.if_icmp .ge 24, 3) := by decide +kernel
theorem d_Ld_sort_13 : decode b_Ld_sort 13 = .ok (.aload_n 0, 1) := by decide +kernel
theorem d_Ld_sort_14 : decode b_Ld_sort 14 = .ok (.getfield 9, 3) := by decide +kernel
theorem d_Ld_sort_17 : decode b_Ld_sort 17 = .ok (.iload_n 2, 1) := by decide +kernel
theorem d_Ld_sort_18 : decode b_Ld_sort 18 = .ok (.iaload, 1) := by decide +kernel
theorem d_Ld_sort_19 : decode b_Ld_sort 19 = .ok (.ifCond .le 9, 3) := by decide +kernel
theorem d_Ld_sort_22 : decode b_Ld_sort 22 = .ok (.aload_n 0, 1) := by decide +kernel
theorem d_Ld_sort_23 : decode b_Ld_sort 23 = .ok (.aload_n 1, 1) := by decide +kernel
theorem d_Ld_sort_24 : decode b_Ld_sort 24 = .ok (.iload_n 2, 1) := by decide +kernel
theorem d_Ld_sort_25 : decode b_Ld_sort 25 = .ok (.invokevirtual 42, 3) := by decide +kernel
theorem d_Ld_sort_28 : decode b_Ld_sort 28 = .ok (.iinc 2 1, 3) := by decide +kernel
theorem d_Ld_sort_31 : decode b_Ld_sort 31 = .ok (.goto (-24), 3) := by decide +kernel
theorem d_Ld_sort_34 : decode b_Ld_sort 34 = .ok (.return_, 1) := by decide +kernel
theorem d_Ld_bottleAt_0 : decode b_Ld_bottleAt 0 = .ok (.iconst 0, 1) := by decide +kernel
theorem d_Ld_bottleAt_1 : decode b_Ld_bottleAt 1 = .ok (.istore 4, 2) := by decide +kernel
theorem d_Ld_bottleAt_3 : decode b_Ld_bottleAt 3 = .ok (.iconst 0, 1) := by decide +kernel
theorem d_Ld_bottleAt_4 : decode b_Ld_bottleAt 4 = .ok (.istore 5, 2) := by decide +kernel
theorem d_Ld_bottleAt_6 : decode b_Ld_bottleAt 6 = .ok (.iload 5, 2) := by decide +kernel
theorem d_Ld_bottleAt_8 : decode b_Ld_bottleAt 8 = .ok (.aload_n 0, 1) := by decide +kernel
theorem d_Ld_bottleAt_9 : decode b_Ld_bottleAt 9 = .ok (.getfield 39, 3) := by decide +kernel
theorem d_Ld_bottleAt_12 : decode b_Ld_bottleAt 12 = .ok (.if_icmp .ge 64, 3) := by decide +kernel
theorem d_Ld_bottleAt_15 : decode b_Ld_bottleAt 15 = .ok (.iconst 0, 1) := by decide +kernel
theorem d_Ld_bottleAt_16 : decode b_Ld_bottleAt 16 = .ok (.istore 6, 2) := by decide +kernel
theorem d_Ld_bottleAt_18 : decode b_Ld_bottleAt 18 = .ok (.iload 6, 2) := by decide +kernel
theorem d_Ld_bottleAt_20 : decode b_Ld_bottleAt 20 = .ok (.aload_n 1, 1) := by decide +kernel
theorem d_Ld_bottleAt_21 : decode b_Ld_bottleAt 21 = .ok (.getfield 27, 3) := by decide +kernel
theorem d_Ld_bottleAt_24 : decode b_Ld_bottleAt 24 = .ok (.if_icmp .ge 46, 3) := by decide +kernel
theorem d_Ld_bottleAt_27 : decode b_Ld_bottleAt 27 = .ok (.aload_n 2, 1) := by decide +kernel
theorem d_Ld_bottleAt_28 : decode b_Ld_bottleAt 28 = .ok (.iload 6, 2) := by decide +kernel
theorem d_Ld_bottleAt_30 : decode b_Ld_bottleAt 30 = .ok (.iaload, 1) := by decide +kernel
theorem d_Ld_bottleAt_31 : decode b_Ld_bottleAt 31 = .ok (.iconst (-1), 1) := by decide +kernel
theorem d_Ld_bottleAt_32 : decode b_Ld_bottleAt 32 = .ok (.if_icmp .eq 32, 3) := by decide +kernel
theorem d_Ld_bottleAt_35 : decode b_Ld_bottleAt 35 = .ok (.aload_n 1, 1) := by decide +kernel
theorem d_Ld_bottleAt_36 : decode b_Ld_bottleAt 36 = .ok (.getfield 33, 3) := by decide +kernel
theorem d_Ld_bottleAt_39 : decode b_Ld_bottleAt 39 = .ok (.iload 6, 2) := by decide +kernel
theorem d_Ld_bottleAt_41 : decode b_Ld_bottleAt 41 = .ok (.iaload, 1) := by decide +kernel
theorem d_Ld_bottleAt_42 : decode b_Ld_bottleAt 42 = .ok (.aload_n 0, 1) := by decide +kernel
theorem d_Ld_bottleAt_43 : decode b_Ld_bottleAt 43 = .ok (.getfield 15, 3) := by decide +kernel
theorem d_Ld_bottleAt_46 : decode b_Ld_bottleAt 46 = .ok (.iload 5, 2) := by decide +kernel
theorem d_Ld_bottleAt_48 : decode b_Ld_bottleAt 48 = .ok (.iaload, 1) := by decide +kernel
theorem d_Ld_bottleAt_49 : decode b_Ld_bottleAt 49 = .ok (.if_icmp .ne 15, 3) := by decide +kernel
theorem d_Ld_bottleAt_52 : decode b_Ld_bottleAt 52 = .ok (.iload 4, 2) := by decide +kernel
theorem d_Ld_bottleAt_54 : decode b_Ld_bottleAt 54 = .ok (.iload_n 3, 1) := by decide +kernel
theorem d_Ld_bottleAt_55 : decode b_Ld_bottleAt 55 = .ok (.if_icmp .ne 6, 3) := by decide +kernel
theorem d_Ld_bottleAt_58 : decode b_Ld_bottleAt 58 = .ok (.iload 6, 2) := by decide +kernel
theorem d_Ld_bottleAt_60 : decode b_Ld_bottleAt 60 = .ok (.ireturn, 1) := by decide +kernel
theorem d_Ld_bottleAt_61 : decode b_Ld_bottleAt 61 = .ok (.iinc 4 1, 3) := by decide +kernel
theorem d_Ld_bottleAt_64 : decode b_Ld_bottleAt 64 = .ok (.iinc 6 1, 3) := by decide +kernel
theorem d_Ld_bottleAt_67 : decode b_Ld_bottleAt 67 = .ok (.goto (-49), 3) := by decide +kernel
theorem d_Ld_bottleAt_70 : decode b_Ld_bottleAt 70 = .ok (.iinc 5 1, 3) := by decide +kernel
theorem d_Ld_bottleAt_73 : decode b_Ld_bottleAt 73 = .ok (.goto (-67), 3) := by decide +kernel
theorem d_Ld_bottleAt_76 : decode b_Ld_bottleAt 76 = .ok (.iconst (-1), 1) := by decide +kernel
theorem d_Ld_bottleAt_77 : decode b_Ld_bottleAt 77 = .ok (.ireturn, 1) := by decide +kernel
set_option maxHeartbeats 4000000 in
set_option maxRecDepth 100000 in
theorem c_Ld_insert (l : Launch) (D : va_G) (cI : CiT) (z : GzT) (a : Nat → Nat) (r : Nat → Nat) (go : (Nat → Nat)) (io : (Nat → Nat)) (ct : Nat) (sh : (Nat → Nat)) (wr : Nat) (ap : (Nat → Nat)) (pt : (Nat → Nat)) (rk : (Nat → Nat)) (cd : (Nat → Nat)) (mc : (Nat → Nat)) (mg : (Nat → Nat)) (mz : (Nat → Nat)) (nc : (Nat → Nat)) (nt : (Nat → Nat)) (oc : (Nat → Nat)) (fr : Nat) (c : Nat) (hc : c < 9) (hg : 0 < go c) (hO : sO rk go c io ct) (hrk : ∀ c, rk c ≤ 99) : wk_C l D (tyK cI) (gX z) y_Ld_insert b_Ld_insert 4 none 0 0 0 0 [.ref (a 0), .ref (r 0), .int (nI (c))] (wLd a cI go io ct sh wr ++ (wRl r cI ap pt rk cd mc mg mz nc nt oc fr)) wk_v (fun (r : Unit) (u : (Nat → Nat)) => sO rk go (c + 1) u (ct + 1)) (fun u => (wLd a cI go u (ct + 1) sh wr ++ (wRl r cI ap pt rk cd mc mg mz nc nt oc fr))) := by
  refine wk_methV (own := R_Ld) [(0, .ref (a 0)), (1, .ref (r 0)), (2, .int (nI (c)))] (by decide) rfl (Nat.le_of_ble_eq_true rfl) rfl (gX_ok z) (fun p_ e_ R_ s_ m_ ar_ be_ me_ co_ Q_ A_ hR_ S_ hnm_ hQ_ => ?_)
  have hct := sO_le hO
  refine wk_aload_n (pc := 0) S_ 0 d_Ld_insert_0 rfl rfl ?_
  refine wk_get (pc := 1) (v := .int (nI (ct))) S_ 4 2 0 in_Ld rfl (by decide) rfl fl_Ld_39 d_Ld_insert_1 rfl rfl ?_
  refine wk_istore_n (pc := 4) (lv' := [(3, .int (nI (ct))), (0, .ref (a 0)), (1, .ref (r 0)), (2, .int (nI (c)))]) S_ d_Ld_insert_4 rfl (by decide) rfl ?_
  have hL5 : ∀ (fuel5 : Nat), ∀ (t : Nat) (io1 : Nat → Nat), t < fuel5 → (t ≤ ct) → (∀ i, t ≤ i → i < ct → rk c < rk (io i)) → (∀ i, i < t → io1 i = io i) → (∀ i, t < i → i ≤ ct → io1 i = io (i - 1)) → wk_G p_ l e_ R_ s_ m_ ar_ be_ me_ co_ Q_ D A_ 4 0 0 (wLd a cI go io1 ct sh wr ++ (wRl r cI ap pt rk cd mc mg mz nc nt oc fr)) 5 [(0, .ref (a 0)), (1, .ref (r 0)), (2, .int (nI (c))), (3, .int (nI (t)))] [] := by
    intro fuel5
    induction fuel5 with
    | zero => intro t io1 hm; exact absurd hm (Nat.not_lt_zero _)
    | succ fuel5 ih5 =>
      intro t io1 hm ht hr hl hu
      refine wk_iload_n (pc := 5) S_ 3 d_Ld_insert_5 rfl rfl ?_
      refine wk_if_leN (pc := 6) (tgt := 51) S_ d_Ld_insert_6 (by decide) (by omega) (fun h6 => ?_) (fun h6 => ?_)
      · -- taken
        refine wk_aload_n (pc := 51) S_ 0 d_Ld_insert_51 rfl rfl ?_
        refine wk_get (pc := 52) (v := .ref (a 2)) S_ 4 1 0 in_Ld rfl (by decide) rfl fl_Ld_15 d_Ld_insert_52 rfl rfl ?_
        refine wk_iload_n (pc := 55) S_ 3 d_Ld_insert_55 rfl rfl ?_
        refine wk_iload_n (pc := 56) S_ 2 d_Ld_insert_56 rfl rfl ?_
        refine wk_iastN (pc := 57) (g := io1) (ws' := (wLd a cI go (va_up (io1) (t) (c)) ct sh wr ++ (wRl r cI ap pt rk cd mc mg mz nc nt oc fr))) S_ 2 0 d_Ld_insert_57 rfl rfl (by omega) (by decide) rfl ?_
        refine wk_aload_n (pc := 58) S_ 0 d_Ld_insert_58 rfl rfl ?_
        refine wk_dup (pc := 59) S_ d_Ld_insert_59 rfl ?_
        refine wk_get (pc := 60) (v := .int (nI (ct))) S_ 4 2 0 in_Ld rfl (by decide) rfl fl_Ld_39 d_Ld_insert_60 rfl rfl ?_
        refine wk_iconst (pc := 63) (v := (nI (1))) S_ d_Ld_insert_63 (by decide) ?_
        refine wk_iaddN (pc := 64) S_ d_Ld_insert_64 ?_
        refine wk_put (pc := 65) (ty := .int) (ws' := (wLd a cI go (va_up (io1) (t) (c)) ((ct) + (1)) sh wr ++ (wRl r cI ap pt rk cd mc mg mz nc nt oc fr))) S_ 4 2 0 in_Ld t_Ld t_Ld_ok n_Ld rfl (by decide) rfl fl_Ld_39 (by decide +kernel) d_Ld_insert_65 rfl rfl rfl (Nat.le_of_ble_eq_true rfl) rfl ?_
        exact hQ_ (va_up (io1) (t) (c)) d_Ld_insert_68 rfl (sO_in hO hg ht (Or.inl h6) hr hl hu)
      · -- on
        have hq := hO.2.1 (t - 1) (by omega)
        have hq2 := hl (t - 1) (by omega)
        have hr1 := hrk (io1 (t - 1))
        have hr2 := hrk c
        refine wk_aload_n (pc := 9) S_ 1 d_Ld_insert_9 rfl rfl ?_
        refine wk_get (pc := 10) (v := .ref (r 3)) S_ 5 2 4 in_Rl rfl (by decide) rfl fl_Ld_46 d_Ld_insert_10 rfl rfl ?_
        refine wk_aload_n (pc := 13) S_ 0 d_Ld_insert_13 rfl rfl ?_
        refine wk_get (pc := 14) (v := .ref (a 2)) S_ 4 1 0 in_Ld rfl (by decide) rfl fl_Ld_15 d_Ld_insert_14 rfl rfl ?_
        refine wk_iload_n (pc := 17) S_ 3 d_Ld_insert_17 rfl rfl ?_
        refine wk_iconst (pc := 18) (v := (nI (1))) S_ d_Ld_insert_18 (by decide) ?_
        refine wk_isubN (pc := 19) S_ d_Ld_insert_19 (by omega) ?_
        refine wk_ialdN (pc := 20) (g := io1) S_ 2 0 d_Ld_insert_20 rfl rfl (by omega) (by decide) ?_
        refine wk_ialdN (pc := 21) (g := rk) S_ 7 0 d_Ld_insert_21 rfl rfl (by omega) (by decide) ?_
        refine wk_aload_n (pc := 22) S_ 1 d_Ld_insert_22 rfl rfl ?_
        refine wk_get (pc := 23) (v := .ref (r 3)) S_ 5 2 4 in_Rl rfl (by decide) rfl fl_Ld_46 d_Ld_insert_23 rfl rfl ?_
        refine wk_iload_n (pc := 26) S_ 2 d_Ld_insert_26 rfl rfl ?_
        refine wk_ialdN (pc := 27) (g := rk) S_ 7 0 d_Ld_insert_27 rfl rfl (by omega) (by decide) ?_
        refine wk_icmp_leN (pc := 28) (tgt := 51) S_ d_Ld_insert_28 (by decide) (by omega) (by omega) (fun h28 => ?_) (fun h28 => ?_)
        · -- taken
          refine wk_aload_n (pc := 51) S_ 0 d_Ld_insert_51 rfl rfl ?_
          refine wk_get (pc := 52) (v := .ref (a 2)) S_ 4 1 0 in_Ld rfl (by decide) rfl fl_Ld_15 d_Ld_insert_52 rfl rfl ?_
          refine wk_iload_n (pc := 55) S_ 3 d_Ld_insert_55 rfl rfl ?_
          refine wk_iload_n (pc := 56) S_ 2 d_Ld_insert_56 rfl rfl ?_
          refine wk_iastN (pc := 57) (g := io1) (ws' := (wLd a cI go (va_up (io1) (t) (c)) ct sh wr ++ (wRl r cI ap pt rk cd mc mg mz nc nt oc fr))) S_ 2 0 d_Ld_insert_57 rfl rfl (by omega) (by decide) rfl ?_
          refine wk_aload_n (pc := 58) S_ 0 d_Ld_insert_58 rfl rfl ?_
          refine wk_dup (pc := 59) S_ d_Ld_insert_59 rfl ?_
          refine wk_get (pc := 60) (v := .int (nI (ct))) S_ 4 2 0 in_Ld rfl (by decide) rfl fl_Ld_39 d_Ld_insert_60 rfl rfl ?_
          refine wk_iconst (pc := 63) (v := (nI (1))) S_ d_Ld_insert_63 (by decide) ?_
          refine wk_iaddN (pc := 64) S_ d_Ld_insert_64 ?_
          refine wk_put (pc := 65) (ty := .int) (ws' := (wLd a cI go (va_up (io1) (t) (c)) ((ct) + (1)) sh wr ++ (wRl r cI ap pt rk cd mc mg mz nc nt oc fr))) S_ 4 2 0 in_Ld t_Ld t_Ld_ok n_Ld rfl (by decide) rfl fl_Ld_39 (by decide +kernel) d_Ld_insert_65 rfl rfl rfl (Nat.le_of_ble_eq_true rfl) rfl ?_
          exact hQ_ (va_up (io1) (t) (c)) d_Ld_insert_68 rfl (sO_in hO hg ht (Or.inr (by rw [← hq2]; exact h28)) hr hl hu)
        · -- on
          refine wk_aload_n (pc := 31) S_ 0 d_Ld_insert_31 rfl rfl ?_
          refine wk_get (pc := 32) (v := .ref (a 2)) S_ 4 1 0 in_Ld rfl (by decide) rfl fl_Ld_15 d_Ld_insert_32 rfl rfl ?_
          refine wk_iload_n (pc := 35) S_ 3 d_Ld_insert_35 rfl rfl ?_
          refine wk_aload_n (pc := 36) S_ 0 d_Ld_insert_36 rfl rfl ?_
          refine wk_get (pc := 37) (v := .ref (a 2)) S_ 4 1 0 in_Ld rfl (by decide) rfl fl_Ld_15 d_Ld_insert_37 rfl rfl ?_
          refine wk_iload_n (pc := 40) S_ 3 d_Ld_insert_40 rfl rfl ?_
          refine wk_iconst (pc := 41) (v := (nI (1))) S_ d_Ld_insert_41 (by decide) ?_
          refine wk_isubN (pc := 42) S_ d_Ld_insert_42 (by omega) ?_
          refine wk_ialdN (pc := 43) (g := io1) S_ 2 0 d_Ld_insert_43 rfl rfl (by omega) (by decide) ?_
          refine wk_iastN (pc := 44) (g := io1) (ws' := (wLd a cI go (va_up (io1) (t) ((io1) ((t) - (1)))) ct sh wr ++ (wRl r cI ap pt rk cd mc mg mz nc nt oc fr))) S_ 2 0 d_Ld_insert_44 rfl rfl (by omega) (by decide) rfl ?_
          refine wk_iincM (pc := 45) (lv' := [(3, .int (nI (t - 1))), (0, .ref (a 0)), (1, .ref (r 0)), (2, .int (nI (c)))]) S_ 3 d_Ld_insert_45 (by decide) (by omega) rfl (by decide) rfl ?_
          refine wk_goto (pc := 48) (tgt := 5) S_ d_Ld_insert_48 (by decide) ?_
          refine wk_lv [1, 2, 3, 0] ?_ (ih5 (t - 1) (va_up (io1) (t) ((io1) ((t) - (1)))) (by omega) (by omega) (fun i h1 h2 => by by_cases z : i = t - 1; rw [z, ← hl (t - 1) (by omega)]; omega; exact hr i (by omega) h2) (fun i h1 => by rw [va_up_ne _ _ (by omega)]; exact hl i (by omega)) (fun i h1 h2 => by by_cases z : i = t; rw [z, va_up_self]; exact hl (t - 1) (by omega); rw [va_up_ne _ _ z]; exact hu i (by omega) h2))
          rfl
  refine wk_lv [1, 2, 3, 0] ?_ (hL5 _ (ct) (io) (Nat.lt_succ_self _) (Nat.le_refl _) (fun i h1 h2 => by omega) (fun i _ => rfl) (fun i h1 h2 => by omega))
  rfl
set_option maxHeartbeats 4000000 in
set_option maxRecDepth 100000 in
theorem c_Ld_sort (l : Launch) (D : va_G) (cI : CiT) (z : GzT) (a : Nat → Nat) (r : Nat → Nat) (go : (Nat → Nat)) (io : (Nat → Nat)) (ct : Nat) (sh : (Nat → Nat)) (wr : Nat) (ap : (Nat → Nat)) (pt : (Nat → Nat)) (rk : (Nat → Nat)) (cd : (Nat → Nat)) (mc : (Nat → Nat)) (mg : (Nat → Nat)) (mz : (Nat → Nat)) (nc : (Nat → Nat)) (nt : (Nat → Nat)) (oc : (Nat → Nat)) (fr : Nat) (hrk : ∀ c, rk c ≤ 99) (hgo : ∀ c, go c ≤ 800000) : wk_C l D (tyK cI) (gX z) y_Ld_sort b_Ld_sort 3 none 1 23 0 0 [.ref (a 0), .ref (r 0)] (wLd a cI go io ct sh wr ++ (wRl r cI ap pt rk cd mc mg mz nc nt oc fr)) wk_v (fun (r : Unit) (u : (Nat → Nat) × Nat) => sO rk go 9 u.1 u.2) (fun u => (wLd a cI go u.1 u.2 sh wr ++ (wRl r cI ap pt rk cd mc mg mz nc nt oc fr))) := by
  refine wk_methV (own := R_Ld) [(0, .ref (a 0)), (1, .ref (r 0))] (by decide) rfl (Nat.le_of_ble_eq_true rfl) rfl (gX_ok z) (fun p_ e_ R_ s_ m_ ar_ be_ me_ co_ Q_ A_ hR_ S_ hnm_ hQ_ => ?_)
  refine wk_aload_n (pc := 0) S_ 0 d_Ld_sort_0 rfl rfl ?_
  refine wk_iconst (pc := 1) (v := (nI (0))) S_ d_Ld_sort_1 (by decide) ?_
  refine wk_put (pc := 2) (ty := .int) (ws' := (wLd a cI go io 0 sh wr ++ (wRl r cI ap pt rk cd mc mg mz nc nt oc fr))) S_ 4 2 0 in_Ld t_Ld t_Ld_ok n_Ld rfl (by decide) rfl fl_Ld_39 (by decide +kernel) d_Ld_sort_2 rfl rfl rfl (Nat.le_of_ble_eq_true rfl) rfl ?_
  refine wk_iconst (pc := 5) (v := (nI (0))) S_ d_Ld_sort_5 (by decide) ?_
  refine wk_istore_n (pc := 6) (lv' := [(2, .int (nI (0))), (0, .ref (a 0)), (1, .ref (r 0))]) S_ d_Ld_sort_6 rfl (by decide) rfl ?_
  have hL7 : ∀ (fuel7 : Nat), ∀ (k : Nat) (io1 : Nat → Nat) (ct1 : Nat), 9 - k < fuel7 → (k ≤ 9) → (sO rk go k io1 ct1) → wk_G p_ l e_ R_ s_ m_ ar_ be_ me_ co_ Q_ D A_ 3 0 0 (wLd a cI go io1 ct1 sh wr ++ (wRl r cI ap pt rk cd mc mg mz nc nt oc fr)) 7 [(0, .ref (a 0)), (1, .ref (r 0)), (2, .int (nI (k)))] [] := by
    intro fuel7
    induction fuel7 with
    | zero => intro k io1 ct1 hm; exact absurd hm (Nat.not_lt_zero _)
    | succ fuel7 ih7 =>
      intro k io1 ct1 hm hk hO
      refine wk_iload_n (pc := 7) S_ 2 d_Ld_sort_7 rfl rfl ?_
      refine wk_bipush (pc := 8) (v := (nI (9))) S_ d_Ld_sort_8 (by decide) ?_
      refine wk_icmp_geN (pc := 10) (tgt := 34) S_ d_Ld_sort_10 (by decide) (by omega) (by omega) (fun h10 => ?_) (fun h10 => ?_)
      · -- taken
        exact hQ_ (io1, ct1) d_Ld_sort_34 rfl (by rw [show k = 9 by omega] at hO; exact hO)
      · -- on
        refine wk_aload_n (pc := 13) S_ 0 d_Ld_sort_13 rfl rfl ?_
        refine wk_get (pc := 14) (v := .ref (a 1)) S_ 4 0 0 in_Ld rfl (by decide) rfl fl_Ld_9 d_Ld_sort_14 rfl rfl ?_
        refine wk_iload_n (pc := 17) S_ 2 d_Ld_sort_17 rfl rfl ?_
        refine wk_ialdN (pc := 18) (g := go) S_ 1 0 d_Ld_sort_18 rfl rfl (by omega) (by decide) ?_
        have hg1 := hgo k
        refine wk_if_leN (pc := 19) (tgt := 28) S_ d_Ld_sort_19 (by decide) (by omega) (fun h19 => ?_) (fun h19 => ?_)
        · -- taken
          refine wk_iincN (pc := 28) (d := 1) (lv' := [(2, .int (nI (k + 1))), (0, .ref (a 0)), (1, .ref (r 0))]) S_ 2 d_Ld_sort_28 (by decide) rfl (by decide) rfl ?_
          refine wk_goto (pc := 31) (tgt := 7) S_ d_Ld_sort_31 (by decide) ?_
          refine wk_lv [1, 2, 0] ?_ (ih7 (k + 1) (io1) (ct1) (by omega) (by omega) (sO_no hO (by omega)))
          rfl
        · -- on
          refine wk_aload_n (pc := 22) S_ 0 d_Ld_sort_22 rfl rfl ?_
          refine wk_aload_n (pc := 23) S_ 1 d_Ld_sort_23 rfl rfl ?_
          refine wk_iload_n (pc := 24) S_ 2 d_Ld_sort_24 rfl rfl ?_
          refine wk_run (pc := 25) (rest := []) (wr := []) (wN := fun u25 => (wLd a cI go u25 ((ct1) + 1) sh wr ++ (wRl r cI ap pt rk cd mc mg mz nc nt oc fr))) S_ (wk_rV S_ (c_Ld_insert l D cI z (a) (r) (go) (io1) (ct1) (sh) (wr) (ap) (pt) (rk) (cd) (mc) (mg) (mz) (nc) (nt) (oc) (fr) (k) (by omega) (by omega) hO hrk) mv_Ld_42 (wk_rcv S_ 0 4 rfl rfl rfl) rfl rfl (Nat.le_of_ble_eq_true rfl) (by rw [hR_]; decide) (by rw [hR_]; decide) d_Ld_sort_25) [0, 1, 2, 3, 4, 5, 6, 7, 8, 9, 10, 11, 12, 13, 14] [] [0, 1, 2, 3, 4, 5, 6, 7, 8, 9, 10, 11, 12, 13, 14] rfl rfl rfl (by decide) (by decide) (by decide) (by decide) (fun _ => rfl) (fun _ => rfl) (fun r25 u25 hw25 => ?_)
          refine wk_st (st' := []) rfl ?_
          refine wk_iincN (pc := 28) (d := 1) (lv' := [(2, .int (nI (k + 1))), (0, .ref (a 0)), (1, .ref (r 0))]) S_ 2 d_Ld_sort_28 (by decide) rfl (by decide) rfl ?_
          refine wk_goto (pc := 31) (tgt := 7) S_ d_Ld_sort_31 (by decide) ?_
          refine wk_lv [1, 2, 0] ?_ (ih7 (k + 1) (u25) ((ct1) + 1) (by omega) (by omega) hw25)
          rfl
  refine wk_lv [1, 2, 0] ?_ (hL7 _ (0) (io) (0) (Nat.lt_succ_self _) (by omega) (sO_0 _ _ _))
  rfl
set_option maxHeartbeats 4000000 in
set_option maxRecDepth 100000 in
theorem c_Ld_bottleAt (l : Launch) (D : va_G) (cI : CiT) (z : GzT) (a : Nat → Nat) (s : Nat → Nat) (b : Nat → Nat) (go : (Nat → Nat)) (io : (Nat → Nat)) (ct : Nat) (sh : (Nat → Nat)) (wr : Nat) (cl : (Nat → Nat)) (gr : (Nat → Nat)) (sp : (Nat → Nat)) (rs : (Nat → Nat)) (aw : (Nat → Nat)) (nb : Nat) (na : Nat) (bg : (Nat → Nat)) (bb : (Nat → Nat)) (ab : (Nat → Nat)) (nx : Nat) (bx : (Nat → Nat)) (k : Int32) (hnb : nb ≤ 8) (hct : ct ≤ 9) (hcl : ∀ b, cl b ≤ 9) (hb : ∀ b, bx b ≤ 5) (hio : ∀ i, i < ct → io i < 9) : wk_C l D (tyK cI) (gX z) y_Ld_bottleAt b_Ld_bottleAt 7 (some .int) 0 0 0 0 [.ref (a 0), .ref (s 0), .ref (b 0), .int (k)] (wLd a cI go io ct sh wr ++ (wSt s cI cl gr sp rs aw nb na bg bb ab nx ++ (wBx b cI bx))) wk_i (fun (r : Int32) (_ : Unit) => r = (zI (odS cl bx nb (fun i => io i + 1) k ct 0 0))) (fun _ => (wLd a cI go io ct sh wr ++ (wSt s cI cl gr sp rs aw nb na bg bb ab nx ++ (wBx b cI bx)))) := by
  refine wk_methI (own := R_Ld) [(0, .ref (a 0)), (1, .ref (s 0)), (2, .ref (b 0)), (3, .int (k))] (by decide) rfl (Nat.le_of_ble_eq_true rfl) rfl (gX_ok z) (fun p_ e_ R_ s_ m_ ar_ be_ me_ co_ Q_ A_ hR_ S_ hnm_ hQ_ => ?_)
  refine wk_iconst (pc := 0) (v := (nI (0))) S_ d_Ld_bottleAt_0 (by decide) ?_
  refine wk_istore (pc := 1) (lv' := [(4, .int (nI (0))), (0, .ref (a 0)), (1, .ref (s 0)), (2, .ref (b 0)), (3, .int (k))]) S_ d_Ld_bottleAt_1 (by decide) rfl ?_
  refine wk_iconst (pc := 3) (v := (nI (0))) S_ d_Ld_bottleAt_3 (by decide) ?_
  refine wk_istore (pc := 4) (lv' := [(5, .int (nI (0))), (4, .int (nI (0))), (0, .ref (a 0)), (1, .ref (s 0)), (2, .ref (b 0)), (3, .int (k))]) S_ d_Ld_bottleAt_4 (by decide) rfl ?_
  have hL6 : ∀ (fuel6 : Nat), ∀ (q : Nat) (i : Nat) (t : Nat), q < fuel6 → (i + q = ct) → (t ≤ 8 * i) → (odS cl bx nb (fun i => io i + 1) k q i t = odS cl bx nb (fun i => io i + 1) k ct 0 0) → wk_G p_ l e_ R_ s_ m_ ar_ be_ me_ co_ Q_ D A_ 7 0 0 (wLd a cI go io ct sh wr ++ (wSt s cI cl gr sp rs aw nb na bg bb ab nx ++ (wBx b cI bx))) 6 [(0, .ref (a 0)), (1, .ref (s 0)), (2, .ref (b 0)), (3, .int (k)), (4, .int (nI (t))), (5, .int (nI (i)))] [] := by
    intro fuel6
    induction fuel6 with
    | zero => intro q i t hm; exact absurd hm (Nat.not_lt_zero _)
    | succ fuel6 ih6 =>
      intro q i t hm hk ht hE
      refine wk_iload (pc := 6) S_ 5 d_Ld_bottleAt_6 rfl ?_
      refine wk_aload_n (pc := 8) S_ 0 d_Ld_bottleAt_8 rfl rfl ?_
      refine wk_get (pc := 9) (v := .int (nI (ct))) S_ 4 2 0 in_Ld rfl (by decide) rfl fl_Ld_39 d_Ld_bottleAt_9 rfl rfl ?_
      refine wk_icmp_geN (pc := 12) (tgt := 76) S_ d_Ld_bottleAt_12 (by decide) (by omega) (by omega) (fun h12 => ?_) (fun h12 => ?_)
      · -- taken
        refine wk_iconst (pc := 76) (v := (-1)) S_ d_Ld_bottleAt_76 (by decide) ?_
        exact hQ_ (-1) () d_Ld_bottleAt_77 rfl (by rw [← hE, show q = 0 by omega]; exact zI_0.symm)
      · -- on
        refine wk_iconst (pc := 15) (v := (nI (0))) S_ d_Ld_bottleAt_15 (by decide) ?_
        refine wk_istore (pc := 16) (lv' := [(6, .int (nI (0))), (0, .ref (a 0)), (1, .ref (s 0)), (2, .ref (b 0)), (3, .int (k)), (4, .int (nI (t))), (5, .int (nI (i)))]) S_ d_Ld_bottleAt_16 (by decide) rfl ?_
        have hL18 : ∀ (fuel18 : Nat), ∀ (q2 : Nat) (c : Nat) (y : Nat), q2 < fuel18 → (c + q2 = nb) → (y ≤ t + c) → (obS cl bx (io i + 1) k q2 c y = obS cl bx (io i + 1) k nb 0 t) → wk_G p_ l e_ R_ s_ m_ ar_ be_ me_ co_ Q_ D A_ 7 0 0 (wLd a cI go io ct sh wr ++ (wSt s cI cl gr sp rs aw nb na bg bb ab nx ++ (wBx b cI bx))) 18 [(0, .ref (a 0)), (1, .ref (s 0)), (2, .ref (b 0)), (3, .int (k)), (4, .int (nI (y))), (5, .int (nI (i))), (6, .int (nI (c)))] [] := by
          intro fuel18
          induction fuel18 with
          | zero => intro q2 c y hm; exact absurd hm (Nat.not_lt_zero _)
          | succ fuel18 ih18 =>
            intro q2 c y hm hk2 hy hE2
            refine wk_iload (pc := 18) S_ 6 d_Ld_bottleAt_18 rfl ?_
            refine wk_aload_n (pc := 20) S_ 1 d_Ld_bottleAt_20 rfl rfl ?_
            refine wk_get (pc := 21) (v := .int (nI (nb))) S_ 2 5 4 in_St rfl (by decide) rfl fl_Ld_27 d_Ld_bottleAt_21 rfl rfl ?_
            refine wk_icmp_geN (pc := 24) (tgt := 70) S_ d_Ld_bottleAt_24 (by decide) (by omega) (by omega) (fun h24 => ?_) (fun h24 => ?_)
            · -- taken
              refine wk_iincN (pc := 70) (d := 1) (lv' := [(5, .int (nI (i + 1))), (0, .ref (a 0)), (1, .ref (s 0)), (2, .ref (b 0)), (3, .int (k)), (4, .int (nI (y))), (6, .int (nI (c)))]) S_ 5 d_Ld_bottleAt_70 (by decide) rfl (by decide) rfl ?_
              refine wk_goto (pc := 73) (tgt := 6) S_ d_Ld_bottleAt_73 (by decide) ?_
              refine wk_lv [1, 2, 3, 4, 5, 0] ?_ (ih6 (q - 1) (i + 1) (y) (by omega) (by omega) (by omega) (by rw [← hE]; obtain ⟨r, rfl⟩ : ∃ r, q = r + 1 := ⟨q - 1, by omega⟩; rw [odS, ← hE2, show q2 = 0 by omega, obS]; rfl))
              rfl
            · -- on
              refine wk_aload_n (pc := 27) S_ 2 d_Ld_bottleAt_27 rfl rfl ?_
              refine wk_iload (pc := 28) S_ 6 d_Ld_bottleAt_28 rfl ?_
              refine wk_ialdY (pc := 30) (g := bx) S_ 13 0 d_Ld_bottleAt_30 rfl rfl (by omega) (by decide) ?_
              refine wk_iconst (pc := 31) (v := (-1)) S_ d_Ld_bottleAt_31 (by decide) ?_
              have hb1 := hb c
              have hc1 := hcl c
              have hi1 := hio i (by omega)
              refine wk_icmp_eqY (pc := 32) (tgt := 64) S_ d_Ld_bottleAt_32 (by decide) (by omega) (fun h32 => ?_) (fun h32 => ?_)
              · -- taken
                refine wk_iincN (pc := 64) (d := 1) (lv' := [(6, .int (nI (c + 1))), (0, .ref (a 0)), (1, .ref (s 0)), (2, .ref (b 0)), (3, .int (k)), (4, .int (nI (y))), (5, .int (nI (i)))]) S_ 6 d_Ld_bottleAt_64 (by decide) rfl (by decide) rfl ?_
                refine wk_goto (pc := 67) (tgt := 18) S_ d_Ld_bottleAt_67 (by decide) ?_
                refine wk_lv [1, 2, 3, 4, 5, 6, 0] ?_ (ih18 (q2 - 1) (c + 1) (y) (by omega) (by omega) (by omega) (by rw [← hE2]; obtain ⟨r, rfl⟩ : ∃ r, q2 = r + 1 := ⟨q2 - 1, by omega⟩; rw [obS, if_neg (fun z => z.1 h32)]; rfl))
                rfl
              · -- on
                refine wk_aload_n (pc := 35) S_ 1 d_Ld_bottleAt_35 rfl rfl ?_
                refine wk_get (pc := 36) (v := .ref (s 1)) S_ 2 0 4 in_St rfl (by decide) rfl fl_Ld_33 d_Ld_bottleAt_36 rfl rfl ?_
                refine wk_iload (pc := 39) S_ 6 d_Ld_bottleAt_39 rfl ?_
                refine wk_ialdY (pc := 41) (g := cl) S_ 5 0 d_Ld_bottleAt_41 rfl rfl (by omega) (by decide) ?_
                refine wk_aload_n (pc := 42) S_ 0 d_Ld_bottleAt_42 rfl rfl ?_
                refine wk_get (pc := 43) (v := .ref (a 2)) S_ 4 1 0 in_Ld rfl (by decide) rfl fl_Ld_15 d_Ld_bottleAt_43 rfl rfl ?_
                refine wk_iload (pc := 46) S_ 5 d_Ld_bottleAt_46 rfl ?_
                refine wk_ialdN (pc := 48) (g := io) S_ 2 0 d_Ld_bottleAt_48 rfl rfl (by omega) (by decide) ?_
                refine wk_icmp_neYN (pc := 49) (tgt := 64) S_ d_Ld_bottleAt_49 (by decide) (by omega) (by omega) (fun h49 => ?_) (fun h49 => ?_)
                · -- taken
                  refine wk_iincN (pc := 64) (d := 1) (lv' := [(6, .int (nI (c + 1))), (0, .ref (a 0)), (1, .ref (s 0)), (2, .ref (b 0)), (3, .int (k)), (4, .int (nI (y))), (5, .int (nI (i)))]) S_ 6 d_Ld_bottleAt_64 (by decide) rfl (by decide) rfl ?_
                  refine wk_goto (pc := 67) (tgt := 18) S_ d_Ld_bottleAt_67 (by decide) ?_
                  refine wk_lv [1, 2, 3, 4, 5, 6, 0] ?_ (ih18 (q2 - 1) (c + 1) (y) (by omega) (by omega) (by omega) (by rw [← hE2]; obtain ⟨r, rfl⟩ : ∃ r, q2 = r + 1 := ⟨q2 - 1, by omega⟩; rw [obS, if_neg (fun z => h49 z.2)]; rfl))
                  rfl
                · -- on
                  refine wk_iload (pc := 52) S_ 4 d_Ld_bottleAt_52 rfl ?_
                  refine wk_iload_n (pc := 54) S_ 3 d_Ld_bottleAt_54 rfl rfl ?_
                  refine wk_icmp_ne (pc := 55) (tgt := 61) S_ d_Ld_bottleAt_55 (by decide) (fun h55 => ?_) (fun h55 => ?_)
                  · -- taken
                    refine wk_iincN (pc := 61) (d := 1) (lv' := [(4, .int (nI (y + 1))), (0, .ref (a 0)), (1, .ref (s 0)), (2, .ref (b 0)), (3, .int (k)), (5, .int (nI (i))), (6, .int (nI (c)))]) S_ 4 d_Ld_bottleAt_61 (by decide) rfl (by decide) rfl ?_
                    refine wk_iincN (pc := 64) (d := 1) (lv' := [(6, .int (nI (c + 1))), (4, .int (nI (y + 1))), (0, .ref (a 0)), (1, .ref (s 0)), (2, .ref (b 0)), (3, .int (k)), (5, .int (nI (i)))]) S_ 6 d_Ld_bottleAt_64 (by decide) rfl (by decide) rfl ?_
                    refine wk_goto (pc := 67) (tgt := 18) S_ d_Ld_bottleAt_67 (by decide) ?_
                    refine wk_lv [2, 3, 4, 5, 1, 6, 0] ?_ (ih18 (q2 - 1) (c + 1) (y + 1) (by omega) (by omega) (by omega) (by rw [← hE2]; obtain ⟨r, rfl⟩ : ∃ r, q2 = r + 1 := ⟨q2 - 1, by omega⟩; rw [obS, if_pos ⟨h32, h49⟩, if_neg h55]; rfl))
                    rfl
                  · -- on
                    refine wk_iload (pc := 58) S_ 6 d_Ld_bottleAt_58 rfl ?_
                    exact hQ_ (nI (c)) () d_Ld_bottleAt_60 rfl (by have h9 : obS cl bx (io i + 1) k nb 0 t = (c + 1, y) := (by rw [← hE2]; obtain ⟨r2, rfl⟩ : ∃ r, q2 = r + 1 := ⟨q2 - 1, by omega⟩; rw [obS, if_pos ⟨h32, h49⟩, if_pos h55]); rw [← hE]; obtain ⟨r, rfl⟩ : ∃ r, q = r + 1 := ⟨q - 1, by omega⟩; rw [odS, h9, if_pos (by show c + 1 ≠ 0; omega)]; exact (zI_s c).symm)
        refine wk_lv [1, 2, 3, 4, 5, 6, 0] ?_ (hL18 _ (nb) (0) (t) (Nat.lt_succ_self _) (by omega) (by omega) rfl)
        rfl
  refine wk_lv [2, 3, 4, 5, 1, 0] ?_ (hL6 _ (ct) (0) (0) (Nat.lt_succ_self _) (by omega) (by omega) rfl)
  rfl
