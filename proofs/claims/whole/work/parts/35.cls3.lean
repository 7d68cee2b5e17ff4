/-- the sheet's first wr bytes are the row L -/
def shP (sh : Nat → Nat) (wr : Nat) (L : List Nat) : Prop := wr = L.length ∧ ∀ i, i < L.length → sh i = L.getD i 0
theorem shP_0 (sh : Nat → Nat) : shP sh 0 [] := ⟨rfl, fun i h => absurd h (Nat.not_lt_zero _)⟩
theorem shP_1 {sh : Nat → Nat} {wr : Nat} {L : List Nat} (h : shP sh wr L) (x : Nat) : shP (va_up sh wr x) (wr + 1) (L ++ [x]) := by
  obtain ⟨h1, h2⟩ := h
  refine ⟨by simp [h1], fun i hi => ?_⟩
  rw [List.length_append] at hi
  have hi' : i < L.length + 1 := hi
  by_cases e : i = wr
  · rw [e, va_up_self, h1]
    simp [List.getD_eq_getElem?_getD]
  · rw [va_up_ne _ _ e, h2 i (by omega)]
    simp [List.getD_eq_getElem?_getD, List.getElem?_append_left (show i < L.length by omega)]
theorem dgL_len (v : Nat) : ∀ k, (dgL v k).length = k + 1
  | 0 => rfl
  | k + 1 => by rw [dgL, List.length_cons, dgL_len v k]
theorem dgK_m {v m : Nat} (hv : v < 10 ^ (m + 1)) : ∀ f k, k ≤ m → dgK v f k ≤ m
  | 0, k, h => h
  | f + 1, k, h => by
    rw [dgK]
    split
    · rename_i c
      refine dgK_m hv f (k + 1) ?_
      rcases Nat.lt_or_ge k m with z | z
      · omega
      · rw [show k = m by omega] at c
        have : v / 10 ^ m < 10 := Nat.div_lt_of_lt_mul (by rw [Nat.pow_succ] at hv; omega)
        omega
    · exact h
theorem decs_len {v m : Nat} (hv : v < 10 ^ (m + 1)) : (decs v).length ≤ m + 1 := by
  rw [decs, dgL_len]
  have := dgK_m hv 9 0 (Nat.zero_le _)
  omega
theorem decs_J (v : Nat) : decs v = dgJ v (dgK v 9 0 + 1) := rfl
theorem dgJ_len (v : Nat) : ∀ j, (dgJ v j).length = j
  | 0 => rfl
  | j + 1 => dgL_len v j
theorem lineB_len {c g p : Nat} (hc : c < 10) (hg : g < 1000000) (hp : p < 1000000) : (lineB c g p).length ≤ 16 := by
  have h1 := decs_len (m := 0) hc
  have h2 := decs_len (m := 5) hg
  have h3 := decs_len (m := 5) hp
  unfold lineB
  simp only [List.length_append, List.length_cons, List.length_nil]
  omega
theorem papL_s {nm go pt : Nat → Nat} {k : Nat} (h : nm k ≠ 0) (f : Nat) : papL nm go pt (f + 1) k = lineB (nm k - 1) (go (nm k - 1)) ((go (nm k - 1) + 999) / 1000 * pt (nm k - 1)) ++ papL nm go pt f (k + 1) := by rw [papL, if_neg h]
theorem putL_c (a y : Int32) (u : Nat) (us : List Nat) : putL (a, y) (u :: us) = putL (a - 1, if a = 0 then nI u else y) us := rfl
theorem putL_off : ∀ (L : List Nat) (n : Nat) (y : Int32), L.length ≤ n → n < 2 ^ 31 → (putL (nI n, y) L).2 = y
  | [], _, _, _, _ => rfl
  | u :: us, n, y, h, hn => by
    have h' : us.length + 1 ≤ n := h
    show (putL (nI n - 1, if nI n = 0 then nI u else y) us).2 = y
    rw [if_neg (nI_ne0 (by omega) hn), show nI n - 1 = nI (n - 1) from by rw [show (1 : Int32) = nI 1 from rfl, pk_sub (by omega)]]
    exact putL_off us (n - 1) y (by omega) (by omega)
theorem putL_neg : ∀ (L : List Nat) (a y : Int32), a.toInt < 0 → -2147483648 ≤ a.toInt - (L.length : Int) → (putL (a, y) L).2 = y
  | [], _, _, _, _ => rfl
  | u :: us, a, y, h1, h2 => by
    rw [List.length_cons] at h2
    have e0 : (0 : Int32).toInt = 0 := rfl
    have e1 : ¬ a = 0 := fun z => by rw [z, e0] at h1; omega
    have e2 : (a - 1).toInt = a.toInt - 1 := by
      rw [Int32.toInt_sub]
      have e3 : (1 : Int32).toInt = 1 := rfl
      rw [e3]
      exact Int.bmod_eq_of_le (by omega) (by omega)
    rw [putL_c, if_neg e1]
    exact putL_neg us (a - 1) y (by omega) (by omega)
theorem putL_in : ∀ (L : List Nat) (n : Nat) (y : Int32), n < L.length → L.length < 2 ^ 30 → (putL (nI n, y) L).2 = nI (L.getD n 0)
  | [], _, _, h, _ => absurd h (Nat.not_lt_zero _)
  | u :: us, n, y, h, hl => by
    have h' : n < us.length + 1 := h
    have hl' : us.length + 1 < 2 ^ 30 := hl
    show (putL (nI n - 1, if nI n = 0 then nI u else y) us).2 = _
    by_cases e : n = 0
    · subst e
      rw [if_pos nI_0, putL_neg us (nI 0 - 1) _ (by decide) (by have : (nI 0 - 1).toInt = -1 := rfl; omega)]
      rfl
    · rw [if_neg (nI_ne0 (by omega) (by omega)), show nI n - 1 = nI (n - 1) from by rw [show (1 : Int32) = nI 1 from rfl, pk_sub (by omega)], putL_in us (n - 1) y (by omega) (by omega)]
      obtain ⟨m, rfl⟩ : ∃ m, n = m + 1 := ⟨n - 1, by omega⟩
      rfl
theorem pp_pick {nm go pt sh : Nat → Nat} {wr : Nat} (h : shP sh wr (papL nm go pt 9 0)) (hw : wr < 2 ^ 30) (x : Int32) : ppN nm go pt x = zI (pick wr sh x) := by
  obtain ⟨h1, h2⟩ := h
  unfold ppN
  rcases pk_ix x (n := wr) (by omega) with z | z | ⟨j, hj, rfl⟩
  · rw [if_pos z, pick_a z, zI_0]
  · by_cases y : x < 0
    · rw [if_pos y, pick_a y, zI_0]
    · rw [if_neg y, pick_b z, zI_0]
      obtain ⟨n, hn, rfl⟩ := nI_of y
      exact putL_off _ n _ (by have := (nI_leI (by omega) hn).mp z; omega) hn
  · rw [if_neg (nI_pos (by omega)), pick_in hj (by omega), zI_s, putL_in _ j _ (by omega) (by omega), h2 j (by omega)]
theorem fl_Ld_74 : Cond.fieldLink R_Ld 74 R_Ld "written" "I" ∈ lw_gd := (gd _ (tb0 _ (List.mem_of_getElem? (i := 166) rfl)) rfl)
theorem fl_Ld_18 : Cond.fieldLink R_Ld 18 R_Ld "sheet" "[I" ∈ lw_gd := (gd _ (tb0 _ (List.mem_of_getElem? (i := 164) rfl)) rfl)
theorem d_Ld_writeByte_0 : decode b_Ld_writeByte 0 = .ok (.aload_n 0, 1) := by decide +kernel
theorem d_Ld_writeByte_1 : decode b_Ld_writeByte 1 = .ok (.getfield 74, 3) := by decide +kernel
theorem d_Ld_writeByte_4 : decode b_Ld_writeByte 4 = .ok (.sipush 162, 3) := by decide +kernel
theorem d_Ld_writeByte_7 : decode b_Ld_writeByte 7 = .ok (.if_icmp .ge 23, 3) := by decide +kernel
theorem d_Ld_writeByte_10 : decode b_Ld_writeByte 10 = .ok (.aload_n 0, 1) := by decide +kernel
theorem d_Ld_writeByte_11 : decode b_Ld_writeByte 11 = .ok (.getfield 18, 3) := by decide +kernel
theorem d_Ld_writeByte_14 : decode b_Ld_writeByte 14 = .ok (.aload_n 0, 1) := by decide +kernel
theorem d_Ld_writeByte_15 : decode b_Ld_writeByte 15 = .ok (.getfield 74, 3) := by decide +kernel
theorem d_Ld_writeByte_18 : decode b_Ld_writeByte 18 = .ok (.iload_n 1, 1) := by decide +kernel
theorem d_Ld_writeByte_19 : decode b_Ld_writeByte 19 = .ok (.iastore, 1) := by decide +kernel
theorem d_Ld_writeByte_20 : decode b_Ld_writeByte 20 = .ok (.aload_n 0, 1) := by decide +kernel
theorem d_Ld_writeByte_21 : decode b_Ld_writeByte 21 = .ok (.dup, 1) := by decide +kernel
theorem d_Ld_writeByte_22 : decode b_Ld_writeByte 22 = .ok (.getfield 74, 3) := by decide +kernel
theorem d_Ld_writeByte_25 : decode b_Ld_writeByte 25 = .ok (.iconst 1, 1) := by decide +kernel
theorem d_Ld_writeByte_26 : decode b_Ld_writeByte 26 = .ok (.iadd, 1) := by decide +kernel
theorem d_Ld_writeByte_27 : decode b_Ld_writeByte 27 = .ok (.putfield 74, 3) := by decide +kernel
theorem d_Ld_writeByte_30 : decode b_Ld_writeByte 30 = .ok (.return_, 1) := by decide +kernel
theorem mv_Ld_81 : wk_V R_Ld 81 R_Ld y_Ld_writeByte b_Ld_writeByte 2 none 1 := ⟨(gd _ (tb2 _ (List.mem_of_getElem? (i := 87) rfl)) rfl), (gd _ (tb0 _ (List.mem_of_getElem? (i := 6) rfl)) rfl), (gd _ (tb2 _ (List.mem_of_getElem? (i := 84) rfl)) rfl), (by decide +kernel), (gd _ (tb2 _ (List.mem_of_getElem? (i := 86) rfl)) rfl), (gd _ (List.mem_append_left _ (by decide +kernel)) rfl)⟩
theorem d_Ld_writeDecimals_0 : decode b_Ld_writeDecimals 0 = .ok (.iconst 1, 1) := by decide +kernel
theorem d_Ld_writeDecimals_1 : decode b_Ld_writeDecimals 1 = .ok (.istore_n 2, 1) := by decide +kernel
theorem d_Ld_writeDecimals_2 : decode b_Ld_writeDecimals 2 = .ok (.iconst 0, 1) := by decide +kernel
theorem d_Ld_writeDecimals_3 : decode b_Ld_writeDecimals 3 = .ok (.istore_n 3, 1) := by decide +kernel
theorem d_Ld_writeDecimals_4 : decode b_Ld_writeDecimals 4 = .ok (.iload_n 3, 1) := by decide +kernel
theorem d_Ld_writeDecimals_5 : decode b_Ld_writeDecimals 5 = .ok (.bipush 9, 2) := by decide +kernel
theorem d_Ld_writeDecimals_7 : decode b_Ld_writeDecimals 7 = .ok (.if_icmp .ge 22, 3) := by decide +kernel
theorem d_Ld_writeDecimals_10 : decode b_Ld_writeDecimals 10 = .ok (.iload_n 1, 1) := by decide +kernel
theorem d_Ld_writeDecimals_11 : decode b_Ld_writeDecimals 11 = .ok (.iload_n 2, 1) := by decide +kernel
theorem d_Ld_writeDecimals_12 : decode b_Ld_writeDecimals 12 = .ok (.idiv, 1) := by decide +kernel
theorem d_Ld_writeDecimals_13 : decode b_Ld_writeDecimals 13 = .ok (.bipush 10, 2) := by decide +kernel
theorem d_Ld_writeDecimals_15 : decode b_Ld_writeDecimals 15 = .ok (.if_icmp .lt 14, 3) := by decide +kernel
theorem d_Ld_writeDecimals_18 : decode b_Ld_writeDecimals 18 = .ok (.iload_n 2, 1) := by decide +kernel
theorem d_Ld_writeDecimals_19 : decode b_Ld_writeDecimals 19 = .ok (.bipush 10, 2) := by decide +kernel
theorem d_Ld_writeDecimals_21 : decode b_Ld_writeDecimals 21 = .ok (.imul, 1) := by decide +kernel
theorem d_Ld_writeDecimals_22 : decode b_Ld_writeDecimals 22 = .ok (.istore_n 2, 1) := by decide +kernel
theorem d_Ld_writeDecimals_23 : decode b_Ld_writeDecimals 23 = .ok (.iinc 3 1, 3) := by decide +kernel
theorem d_Ld_writeDecimals_26 : decode b_Ld_writeDecimals 26 = .ok (.goto (-22), 3) := by decide +kernel
theorem d_Ld_writeDecimals_29 : decode b_Ld_writeDecimals 29 = .ok (.iload_n 2, 1) := by decide +kernel
theorem d_Ld_writeDecimals_30 : decode b_Ld_writeDecimals 30 = .ok (.ifCond .le 24, 3) := by decide +kernel
theorem d_Ld_writeDecimals_33 : decode b_Ld_writeDecimals 33 = .ok (.aload_n 0, 1) := by decide +kernel
theorem d_Ld_writeDecimals_34 : decode b_Ld_writeDecimals 34 = .ok (.bipush 48, 2) := by decide +kernel
theorem d_Ld_writeDecimals_36 : decode b_Ld_writeDecimals 36 = .ok (.iload_n 1, 1) := by decide +kernel
theorem d_Ld_writeDecimals_37 : decode b_Ld_writeDecimals 37 = .ok (.iload_n 2, 1) := by decide +kernel
theorem d_Ld_writeDecimals_38 : decode b_Ld_writeDecimals 38 = .ok (.idiv, 1) := by decide +kernel
theorem d_Ld_writeDecimals_39 : decode b_Ld_writeDecimals 39 = .ok (.bipush 10, 2) := by decide +kernel
theorem d_Ld_writeDecimals_41 : decode b_Ld_writeDecimals 41 = .ok (.irem, 1) := by decide +kernel
theorem d_Ld_writeDecimals_42 : decode b_Ld_writeDecimals 42 = .ok (.iadd, 1) := by decide +kernel
theorem d_Ld_writeDecimals_43 : decode b_Ld_writeDecimals 43 = .ok (.invokevirtual 81, 3) := by decide +kernel
theorem d_Ld_writeDecimals_46 : decode b_Ld_writeDecimals 46 = .ok (.iload_n 2, 1) := by decide +kernel
theorem d_Ld_writeDecimals_47 : decode b_Ld_writeDecimals 47 = .ok (.bipush 10, 2) := by decide +kernel
theorem d_Ld_writeDecimals_49 : decode b_Ld_writeDecimals 49 = .ok (.idiv, 1) := by decide +kernel
theorem d_Ld_writeDecimals_50 : decode b_Ld_writeDecimals 50 = .ok (.istore_n 2, 1) := by decide +kernel
theorem d_Ld_writeDecimals_51 : decode b_Ld_writeDecimals 51 = .ok (.goto (-22), 3) := by decide +kernel
theorem d_Ld_writeDecimals_54 : decode b_Ld_writeDecimals 54 = .ok (.return_, 1) := by decide +kernel
theorem mv_Ld_77 : wk_V R_Ld 77 R_Ld y_Ld_writeDecimals b_Ld_writeDecimals 4 none 1 := ⟨(gd _ (tb2 _ (List.mem_of_getElem? (i := 83) rfl)) rfl), (gd _ (tb0 _ (List.mem_of_getElem? (i := 6) rfl)) rfl), (gd _ (tb2 _ (List.mem_of_getElem? (i := 80) rfl)) rfl), (by decide +kernel), (gd _ (tb2 _ (List.mem_of_getElem? (i := 82) rfl)) rfl), (gd _ (List.mem_append_left _ (by decide +kernel)) rfl)⟩
theorem d_Ld_write_0 : decode b_Ld_write 0 = .ok (.aload_n 0, 1) := by decide +kernel
theorem d_Ld_write_1 : decode b_Ld_write 1 = .ok (.iconst 0, 1) := by decide +kernel
theorem d_Ld_write_2 : decode b_Ld_write 2 = .ok (.putfield 74, 3) := by decide +kernel
theorem d_Ld_write_5 : decode b_Ld_write 5 = .ok (.iconst 0, 1) := by decide +kernel
theorem d_Ld_write_6 : decode b_Ld_write 6 = .ok (.istore_n 2, 1) := by decide +kernel
theorem d_Ld_write_7 : decode b_Ld_write 7 = .ok (.iload_n 2, 1) := by decide +kernel
theorem d_Ld_write_8 : decode b_Ld_write 8 = .ok (.aload_n 0, 1) := by decide +kernel
theorem d_Ld_write_9 : decode b_Ld_write 9 = .ok (.getfield 39, 3) := by decide +kernel
theorem d_Ld_write_12 : decode b_Ld_write 12 = .ok (.if_icmp .ge 67, 3) := by decide +kernel
theorem d_Ld_write_15 : decode b_Ld_write 15 = .ok (.aload_n 0, 1) := by decide +kernel
theorem d_Ld_write_16 : decode b_Ld_write 16 = .ok (.aload_n 0, 1) := by decide +kernel
theorem d_Ld_write_17 : decode b_Ld_write 17 = .ok (.getfield 15, 3) := by decide +kernel
theorem d_Ld_write_20 : decode b_Ld_write 20 = .ok (.iload_n 2, 1) := by decide +kernel
theorem d_Ld_write_21 : decode b_Ld_write 21 = .ok (.iaload, 1) := by decide +kernel
theorem d_Ld_write_22 : decode b_Ld_write 22 = .ok (.invokevirtual 77, 3) := by decide +kernel
theorem d_Ld_write_25 : decode b_Ld_write 25 = .ok (.aload_n 0, 1) := by decide +kernel
theorem d_Ld_write_26 : decode b_Ld_write 26 = .ok (.bipush 32, 2) := by decide +kernel
theorem d_Ld_write_28 : decode b_Ld_write 28 = .ok (.invokevirtual 81, 3) := by decide +kernel
theorem d_Ld_write_31 : decode b_Ld_write 31 = .ok (.aload_n 0, 1) := by decide +kernel
theorem d_Ld_write_32 : decode b_Ld_write 32 = .ok (.aload_n 0, 1) := by decide +kernel
theorem d_Ld_write_33 : decode b_Ld_write 33 = .ok (.getfield 9, 3) := by decide +kernel
theorem d_Ld_write_36 : decode b_Ld_write 36 = .ok (.aload_n 0, 1) := by decide +kernel
theorem d_Ld_write_37 : decode b_Ld_write 37 = .ok (.getfield 15, 3) := by decide +kernel
theorem d_Ld_write_40 : decode b_Ld_write 40 = .ok (.iload_n 2, 1) := by decide +kernel
theorem d_Ld_write_41 : decode b_Ld_write 41 = .ok (.iaload, 1) := by decide +kernel
theorem d_Ld_write_42 : decode b_Ld_write 42 = .ok (.iaload, 1) := by decide +kernel
theorem d_Ld_write_43 : decode b_Ld_write 43 = .ok (.invokevirtual 77, 3) := by decide +kernel
theorem d_Ld_write_46 : decode b_Ld_write 46 = .ok (.aload_n 0, 1) := by decide +kernel
theorem d_Ld_write_47 : decode b_Ld_write 47 = .ok (.bipush 32, 2) := by decide +kernel
theorem d_Ld_write_49 : decode b_Ld_write 49 = .ok (.invokevirtual 81, 3) := by decide +kernel
theorem d_Ld_write_52 : decode b_Ld_write 52 = .ok (.aload_n 0, 1) := by decide +kernel
theorem d_Ld_write_53 : decode b_Ld_write 53 = .ok (.aload_n 0, 1) := by decide +kernel
theorem d_Ld_write_54 : decode b_Ld_write 54 = .ok (.aload_n 1, 1) := by decide +kernel
theorem d_Ld_write_55 : decode b_Ld_write 55 = .ok (.aload_n 0, 1) := by decide +kernel
theorem d_Ld_write_56 : decode b_Ld_write 56 = .ok (.getfield 15, 3) := by decide +kernel
theorem d_Ld_write_59 : decode b_Ld_write 59 = .ok (.iload_n 2, 1) := by decide +kernel
theorem d_Ld_write_60 : decode b_Ld_write 60 = .ok (.iaload, 1) := by decide +kernel
theorem d_Ld_write_61 : decode b_Ld_write 61 = .ok (.invokevirtual 54, 3) := by decide +kernel
theorem d_Ld_write_64 : decode b_Ld_write 64 = .ok (.invokevirtual 77, 3) := by decide +kernel
theorem d_Ld_write_67 : decode b_Ld_write 67 = .ok (.aload_n 0, 1) := by decide +kernel
theorem d_Ld_write_68 : decode b_Ld_write 68 = .ok (.bipush 10, 2) := by decide +kernel
theorem d_Ld_write_70 : decode b_Ld_write 70 = .ok (.invokevirtual 81, 3) := by decide +kernel
theorem d_Ld_write_73 : decode b_Ld_write 73 = .ok (.iinc 2 1, 3) := by decide +kernel
theorem d_Ld_write_76 : decode b_Ld_write 76 = .ok (.goto (-69), 3) := by decide +kernel
theorem d_Ld_write_79 : decode b_Ld_write 79 = .ok (.return_, 1) := by decide +kernel
set_option maxHeartbeats 4000000 in
set_option maxRecDepth 100000 in
theorem c_Ld_writeByte (l : Launch) (D : va_G) (cI : CiT) (z : GzT) (a : Nat → Nat) (go : (Nat → Nat)) (io : (Nat → Nat)) (ct : Nat) (sh : (Nat → Nat)) (wr : Nat) (x : Nat) (hw : wr < 162) : wk_C l D (tyK cI) (gX z) y_Ld_writeByte b_Ld_writeByte 2 none 0 0 0 0 [.ref (a 0), .int (nI (x))] (wLd a cI go io ct sh wr) wk_v (fun (_ : Unit) (_ : Unit) => True) (fun _ => (wLd a cI go io ct (va_up sh wr x) (wr + 1))) := by
  refine wk_methV (own := R_Ld) [(0, .ref (a 0)), (1, .int (nI (x)))] (by decide) rfl (Nat.le_of_ble_eq_true rfl) rfl (gX_ok z) (fun p_ e_ R_ s_ m_ ar_ be_ me_ co_ Q_ A_ hR_ S_ hnm_ hQ_ => ?_)
  refine wk_aload_n (pc := 0) S_ 0 d_Ld_writeByte_0 rfl rfl ?_
  refine wk_get (pc := 1) (v := .int (nI (wr))) S_ 4 4 0 in_Ld rfl (by decide) rfl fl_Ld_74 d_Ld_writeByte_1 rfl rfl ?_
  refine wk_sipush (pc := 4) (v := (nI (162))) S_ d_Ld_writeByte_4 (by decide) ?_
  refine wk_icmp_geN (pc := 7) (tgt := 30) S_ d_Ld_writeByte_7 (by decide) (by omega) (by omega) (fun h7 => absurd h7 (by omega)) (fun h7 => ?_)
  refine wk_aload_n (pc := 10) S_ 0 d_Ld_writeByte_10 rfl rfl ?_
  refine wk_get (pc := 11) (v := .ref (a 3)) S_ 4 3 0 in_Ld rfl (by decide) rfl fl_Ld_18 d_Ld_writeByte_11 rfl rfl ?_
  refine wk_aload_n (pc := 14) S_ 0 d_Ld_writeByte_14 rfl rfl ?_
  refine wk_get (pc := 15) (v := .int (nI (wr))) S_ 4 4 0 in_Ld rfl (by decide) rfl fl_Ld_74 d_Ld_writeByte_15 rfl rfl ?_
  refine wk_iload_n (pc := 18) S_ 1 d_Ld_writeByte_18 rfl rfl ?_
  refine wk_iastN (pc := 19) (g := sh) (ws' := (wLd a cI go io ct (va_up (sh) (wr) (x)) wr)) S_ 3 0 d_Ld_writeByte_19 rfl rfl (by omega) (by decide) rfl ?_
  refine wk_aload_n (pc := 20) S_ 0 d_Ld_writeByte_20 rfl rfl ?_
  refine wk_dup (pc := 21) S_ d_Ld_writeByte_21 rfl ?_
  refine wk_get (pc := 22) (v := .int (nI (wr))) S_ 4 4 0 in_Ld rfl (by decide) rfl fl_Ld_74 d_Ld_writeByte_22 rfl rfl ?_
  refine wk_iconst (pc := 25) (v := (nI (1))) S_ d_Ld_writeByte_25 (by decide) ?_
  refine wk_iaddN (pc := 26) S_ d_Ld_writeByte_26 ?_
  refine wk_put (pc := 27) (ty := .int) (ws' := (wLd a cI go io ct (va_up (sh) (wr) (x)) ((wr) + (1)))) S_ 4 4 0 in_Ld t_Ld t_Ld_ok n_Ld rfl (by decide) rfl fl_Ld_74 (by decide +kernel) d_Ld_writeByte_27 rfl rfl rfl (Nat.le_of_ble_eq_true rfl) rfl ?_
  exact hQ_ () d_Ld_writeByte_30 rfl trivial
set_option maxHeartbeats 4000000 in
set_option maxRecDepth 100000 in
theorem c_Ld_writeDecimals (l : Launch) (D : va_G) (cI : CiT) (z : GzT) (a : Nat → Nat) (go : (Nat → Nat)) (io : (Nat → Nat)) (ct : Nat) (sh : (Nat → Nat)) (wr : Nat) (v : Nat) (L : List Nat) (hv : v < 1000000000) (hS : shP sh wr L) (hlen : L.length + (decs v).length ≤ 162) : wk_C l D (tyK cI) (gX z) y_Ld_writeDecimals b_Ld_writeDecimals 4 none 1 21 0 0 [.ref (a 0), .int (nI (v))] (wLd a cI go io ct sh wr) wk_v (fun (r : Unit) (u : (Nat → Nat) × Nat) => shP u.1 u.2 (L ++ decs v)) (fun u => (wLd a cI go io ct u.1 u.2)) := by
  refine wk_methV (own := R_Ld) [(0, .ref (a 0)), (1, .int (nI (v)))] (by decide) rfl (Nat.le_of_ble_eq_true rfl) rfl (gX_ok z) (fun p_ e_ R_ s_ m_ ar_ be_ me_ co_ Q_ A_ hR_ S_ hnm_ hQ_ => ?_)
  refine wk_iconst (pc := 0) (v := (nI (1))) S_ d_Ld_writeDecimals_0 (by decide) ?_
  refine wk_istore_n (pc := 1) (lv' := [(2, .int (nI (1))), (0, .ref (a 0)), (1, .int (nI (v)))]) S_ d_Ld_writeDecimals_1 rfl (by decide) rfl ?_
  refine wk_iconst (pc := 2) (v := (nI (0))) S_ d_Ld_writeDecimals_2 (by decide) ?_
  refine wk_istore_n (pc := 3) (lv' := [(3, .int (nI (0))), (2, .int (nI (1))), (0, .ref (a 0)), (1, .int (nI (v)))]) S_ d_Ld_writeDecimals_3 rfl (by decide) rfl ?_
  have hL4 : ∀ (fuel4 : Nat), ∀ (f : Nat) (k : Nat), f < fuel4 → (k + f = 9) → (dgK v f k = dgK v 9 0) → wk_G p_ l e_ R_ s_ m_ ar_ be_ me_ co_ Q_ D A_ 4 0 0 (wLd a cI go io ct sh wr) 4 [(0, .ref (a 0)), (1, .int (nI (v))), (2, .int (nI (10 ^ k))), (3, .int (nI (k)))] [] := by
    intro fuel4
    induction fuel4 with
    | zero => intro f k hm; exact absurd hm (Nat.not_lt_zero _)
    | succ fuel4 ih4 =>
      intro f k hm hk hE
      refine wk_iload_n (pc := 4) S_ 3 d_Ld_writeDecimals_4 rfl rfl ?_
      refine wk_bipush (pc := 5) (v := (nI (9))) S_ d_Ld_writeDecimals_5 (by decide) ?_
      refine wk_icmp_geN (pc := 7) (tgt := 29) S_ d_Ld_writeDecimals_7 (by decide) (by omega) (by omega) (fun h7 => ?_) (fun h7 => ?_)
      · -- taken
        have hL29 : ∀ (fuel29 : Nat), ∀ (j : Nat) (sh1 : Nat → Nat) (wr1 : Nat) (M : List Nat), j < fuel29 → (j ≤ 10) → (shP sh1 wr1 M) → (M ++ dgJ v j = L ++ decs v) → wk_G p_ l e_ R_ s_ m_ ar_ be_ me_ co_ Q_ D A_ 4 0 0 (wLd a cI go io ct sh1 wr1) 29 [(0, .ref (a 0)), (1, .int (nI (v))), (2, .int (nI (pw j)))] [] := by
          intro fuel29
          induction fuel29 with
          | zero => intro j sh1 wr1 M hm; exact absurd hm (Nat.not_lt_zero _)
          | succ fuel29 ih29 =>
            intro j sh1 wr1 M hm hj hM hJ
            refine wk_iload_n (pc := 29) S_ 2 d_Ld_writeDecimals_29 rfl rfl ?_
            have hpj : pw j ≤ 1000000000 := by { cases j with | zero => exact Nat.zero_le _ | succ j => exact p10 (by omega) }
            refine wk_if_leN (pc := 30) (tgt := 54) S_ d_Ld_writeDecimals_30 (by decide) (by omega) (fun h30 => ?_) (fun h30 => ?_)
            · -- taken
              exact hQ_ (sh1, wr1) d_Ld_writeDecimals_54 rfl (by have hj0 : j = 0 := by { cases j with | zero => rfl | succ j => exact absurd h30 (Nat.pos_iff_ne_zero.mp (p10_0 j)) }; rw [← hJ, hj0]; show shP _ _ (M ++ []); rw [List.append_nil]; exact hM)
            · -- on
              have hj0 : j ≠ 0 := fun z => by rw [z] at h30; exact absurd h30 (by decide)
              have hwl : wr1 < 162 := by have e1 := congrArg List.length hJ; rw [List.length_append, List.length_append, dgJ_len] at e1; have e2 := hM.1; omega
              refine wk_aload_n (pc := 33) S_ 0 d_Ld_writeDecimals_33 rfl rfl ?_
              refine wk_bipush (pc := 34) (v := (nI (48))) S_ d_Ld_writeDecimals_34 (by decide) ?_
              refine wk_iload_n (pc := 36) S_ 1 d_Ld_writeDecimals_36 rfl rfl ?_
              refine wk_iload_n (pc := 37) S_ 2 d_Ld_writeDecimals_37 rfl rfl ?_
              refine wk_idivN (pc := 38) S_ d_Ld_writeDecimals_38 (by omega) (by omega) (by omega) ?_
              refine wk_bipush (pc := 39) (v := (nI (10))) S_ d_Ld_writeDecimals_39 (by decide) ?_
              have hd2 := Nat.div_le_self v (pw j)
              refine wk_iremN (pc := 41) S_ d_Ld_writeDecimals_41 (by omega) (by omega) (by omega) ?_
              refine wk_iaddN (pc := 42) S_ d_Ld_writeDecimals_42 ?_
              refine wk_top (y := (nI (48 + v / 10 ^ (j - 1) % 10))) (by obtain ⟨r, rfl⟩ : ∃ r, j = r + 1 := ⟨j - 1, by omega⟩; rfl) ?_
              refine wk_run (pc := 43) (rest := []) (wr := []) (wN := fun _ => (wLd a cI go io ct (va_up (sh1) (wr1) (48 + v / 10 ^ (j - 1) % 10)) ((wr1) + 1))) S_ (wk_rV S_ (c_Ld_writeByte l D cI z (a) (go) (io) (ct) (sh1) (wr1) (48 + v / 10 ^ (j - 1) % 10) (by omega)) mv_Ld_81 (wk_rcv S_ 0 4 rfl rfl rfl) rfl rfl (Nat.le_of_ble_eq_true rfl) (by rw [hR_]; decide) (by rw [hR_]; decide) d_Ld_writeDecimals_43) [0, 1, 2, 3] [] [0, 1, 2, 3] rfl rfl rfl (by decide) (by decide) (by decide) (by decide) (fun _ => rfl) (fun _ => rfl) (fun r43 _ hw43 => ?_)
              refine wk_st (st' := []) rfl ?_
              refine wk_iload_n (pc := 46) S_ 2 d_Ld_writeDecimals_46 rfl rfl ?_
              refine wk_bipush (pc := 47) (v := (nI (10))) S_ d_Ld_writeDecimals_47 (by decide) ?_
              refine wk_idivN (pc := 49) S_ d_Ld_writeDecimals_49 (by omega) (by omega) (by omega) ?_
              refine wk_top (y := (nI (pw (j - 1)))) (congrArg nI (by obtain ⟨r, rfl⟩ : ∃ r, j = r + 1 := ⟨j - 1, by omega⟩; exact pw_div r)) ?_
              refine wk_istore_n (pc := 50) (lv' := [(2, .int (nI (pw (j - 1)))), (0, .ref (a 0)), (1, .int (nI (v)))]) S_ d_Ld_writeDecimals_50 rfl (by decide) rfl ?_
              refine wk_goto (pc := 51) (tgt := 29) S_ d_Ld_writeDecimals_51 (by decide) ?_
              refine wk_lv [1, 2, 0] ?_ (ih29 (j - 1) (va_up (sh1) (wr1) (48 + v / 10 ^ (j - 1) % 10)) ((wr1) + 1) (M ++ [48 + v / 10 ^ (j - 1) % 10]) (by omega) (by omega) (shP_1 hM _) (by rw [← hJ]; obtain ⟨r, rfl⟩ : ∃ r, j = r + 1 := ⟨j - 1, by omega⟩; rw [dgJ_s, List.append_assoc]; rfl))
              rfl
        refine wk_lv [0, 1, 2] ?_ (hL29 _ (k + 1) (sh) (wr) (L) (Nat.lt_succ_self _) (by omega) hS (by rw [decs, ← hE]; have h8 : dgK v f k = k := by { cases f with | zero => rfl | succ f => omega }; rw [h8]; rfl))
        rfl
      · -- on
        refine wk_iload_n (pc := 10) S_ 1 d_Ld_writeDecimals_10 rfl rfl ?_
        refine wk_iload_n (pc := 11) S_ 2 d_Ld_writeDecimals_11 rfl rfl ?_
        have hp1 := p10 (show k ≤ 9 by omega)
        have hp0 := p10_0 k
        have hd1 := Nat.div_le_self v (10 ^ k)
        refine wk_idivN (pc := 12) S_ d_Ld_writeDecimals_12 (by omega) (by omega) (by omega) ?_
        refine wk_bipush (pc := 13) (v := (nI (10))) S_ d_Ld_writeDecimals_13 (by decide) ?_
        refine wk_icmp_ltN (pc := 15) (tgt := 29) S_ d_Ld_writeDecimals_15 (by decide) (by omega) (by omega) (fun h15 => ?_) (fun h15 => ?_)
        · -- taken
          have hL29 : ∀ (fuel29 : Nat), ∀ (j : Nat) (sh1 : Nat → Nat) (wr1 : Nat) (M : List Nat), j < fuel29 → (j ≤ 10) → (shP sh1 wr1 M) → (M ++ dgJ v j = L ++ decs v) → wk_G p_ l e_ R_ s_ m_ ar_ be_ me_ co_ Q_ D A_ 4 0 0 (wLd a cI go io ct sh1 wr1) 29 [(0, .ref (a 0)), (1, .int (nI (v))), (2, .int (nI (pw j)))] [] := by
            intro fuel29
            induction fuel29 with
            | zero => intro j sh1 wr1 M hm; exact absurd hm (Nat.not_lt_zero _)
            | succ fuel29 ih29 =>
              intro j sh1 wr1 M hm hj hM hJ
              refine wk_iload_n (pc := 29) S_ 2 d_Ld_writeDecimals_29 rfl rfl ?_
              have hpj : pw j ≤ 1000000000 := by { cases j with | zero => exact Nat.zero_le _ | succ j => exact p10 (by omega) }
              refine wk_if_leN (pc := 30) (tgt := 54) S_ d_Ld_writeDecimals_30 (by decide) (by omega) (fun h30 => ?_) (fun h30 => ?_)
              · -- taken
                exact hQ_ (sh1, wr1) d_Ld_writeDecimals_54 rfl (by have hj0 : j = 0 := by { cases j with | zero => rfl | succ j => exact absurd h30 (Nat.pos_iff_ne_zero.mp (p10_0 j)) }; rw [← hJ, hj0]; show shP _ _ (M ++ []); rw [List.append_nil]; exact hM)
              · -- on
                have hj0 : j ≠ 0 := fun z => by rw [z] at h30; exact absurd h30 (by decide)
                have hwl : wr1 < 162 := by have e1 := congrArg List.length hJ; rw [List.length_append, List.length_append, dgJ_len] at e1; have e2 := hM.1; omega
                refine wk_aload_n (pc := 33) S_ 0 d_Ld_writeDecimals_33 rfl rfl ?_
                refine wk_bipush (pc := 34) (v := (nI (48))) S_ d_Ld_writeDecimals_34 (by decide) ?_
                refine wk_iload_n (pc := 36) S_ 1 d_Ld_writeDecimals_36 rfl rfl ?_
                refine wk_iload_n (pc := 37) S_ 2 d_Ld_writeDecimals_37 rfl rfl ?_
                refine wk_idivN (pc := 38) S_ d_Ld_writeDecimals_38 (by omega) (by omega) (by omega) ?_
                refine wk_bipush (pc := 39) (v := (nI (10))) S_ d_Ld_writeDecimals_39 (by decide) ?_
                have hd2 := Nat.div_le_self v (pw j)
                refine wk_iremN (pc := 41) S_ d_Ld_writeDecimals_41 (by omega) (by omega) (by omega) ?_
                refine wk_iaddN (pc := 42) S_ d_Ld_writeDecimals_42 ?_
                refine wk_top (y := (nI (48 + v / 10 ^ (j - 1) % 10))) (by obtain ⟨r, rfl⟩ : ∃ r, j = r + 1 := ⟨j - 1, by omega⟩; rfl) ?_
                refine wk_run (pc := 43) (rest := []) (wr := []) (wN := fun _ => (wLd a cI go io ct (va_up (sh1) (wr1) (48 + v / 10 ^ (j - 1) % 10)) ((wr1) + 1))) S_ (wk_rV S_ (c_Ld_writeByte l D cI z (a) (go) (io) (ct) (sh1) (wr1) (48 + v / 10 ^ (j - 1) % 10) (by omega)) mv_Ld_81 (wk_rcv S_ 0 4 rfl rfl rfl) rfl rfl (Nat.le_of_ble_eq_true rfl) (by rw [hR_]; decide) (by rw [hR_]; decide) d_Ld_writeDecimals_43) [0, 1, 2, 3] [] [0, 1, 2, 3] rfl rfl rfl (by decide) (by decide) (by decide) (by decide) (fun _ => rfl) (fun _ => rfl) (fun r43 _ hw43 => ?_)
                refine wk_st (st' := []) rfl ?_
                refine wk_iload_n (pc := 46) S_ 2 d_Ld_writeDecimals_46 rfl rfl ?_
                refine wk_bipush (pc := 47) (v := (nI (10))) S_ d_Ld_writeDecimals_47 (by decide) ?_
                refine wk_idivN (pc := 49) S_ d_Ld_writeDecimals_49 (by omega) (by omega) (by omega) ?_
                refine wk_top (y := (nI (pw (j - 1)))) (congrArg nI (by obtain ⟨r, rfl⟩ : ∃ r, j = r + 1 := ⟨j - 1, by omega⟩; exact pw_div r)) ?_
                refine wk_istore_n (pc := 50) (lv' := [(2, .int (nI (pw (j - 1)))), (0, .ref (a 0)), (1, .int (nI (v)))]) S_ d_Ld_writeDecimals_50 rfl (by decide) rfl ?_
                refine wk_goto (pc := 51) (tgt := 29) S_ d_Ld_writeDecimals_51 (by decide) ?_
                refine wk_lv [1, 2, 0] ?_ (ih29 (j - 1) (va_up (sh1) (wr1) (48 + v / 10 ^ (j - 1) % 10)) ((wr1) + 1) (M ++ [48 + v / 10 ^ (j - 1) % 10]) (by omega) (by omega) (shP_1 hM _) (by rw [← hJ]; obtain ⟨r, rfl⟩ : ∃ r, j = r + 1 := ⟨j - 1, by omega⟩; rw [dgJ_s, List.append_assoc]; rfl))
                rfl
          refine wk_lv [0, 1, 2] ?_ (hL29 _ (k + 1) (sh) (wr) (L) (Nat.lt_succ_self _) (by omega) hS (by rw [decs, ← hE]; have h8 : dgK v f k = k := by { cases f with | zero => rfl | succ f => rw [dgK, if_neg (by omega)] }; rw [h8]; rfl))
          rfl
        · -- on
          refine wk_iload_n (pc := 18) S_ 2 d_Ld_writeDecimals_18 rfl rfl ?_
          refine wk_bipush (pc := 19) (v := (nI (10))) S_ d_Ld_writeDecimals_19 (by decide) ?_
          refine wk_imulN (pc := 21) S_ d_Ld_writeDecimals_21 ?_
          refine wk_top (y := (nI (10 ^ (k + 1)))) (congrArg nI (Nat.pow_succ 10 k).symm) ?_
          refine wk_istore_n (pc := 22) (lv' := [(2, .int (nI (10 ^ (k + 1)))), (0, .ref (a 0)), (1, .int (nI (v))), (3, .int (nI (k)))]) S_ d_Ld_writeDecimals_22 rfl (by decide) rfl ?_
          refine wk_iincN (pc := 23) (d := 1) (lv' := [(3, .int (nI (k + 1))), (2, .int (nI (10 ^ (k + 1)))), (0, .ref (a 0)), (1, .int (nI (v)))]) S_ 3 d_Ld_writeDecimals_23 (by decide) rfl (by decide) rfl ?_
          refine wk_goto (pc := 26) (tgt := 4) S_ d_Ld_writeDecimals_26 (by decide) ?_
          refine wk_lv [2, 3, 1, 0] ?_ (ih4 (f - 1) (k + 1) (by omega) (by omega) (by rw [← hE]; obtain ⟨r, rfl⟩ : ∃ r, f = r + 1 := ⟨f - 1, by omega⟩; rw [dgK, if_pos (by omega)]; rfl))
          rfl
  refine wk_lv [2, 3, 1, 0] ?_ (hL4 _ (9) (0) (Nat.lt_succ_self _) (by omega) rfl)
  rfl
set_option maxHeartbeats 4000000 in
set_option maxRecDepth 100000 in
theorem c_Ld_write (l : Launch) (D : va_G) (cI : CiT) (z : GzT) (a : Nat → Nat) (r : Nat → Nat) (go : (Nat → Nat)) (io : (Nat → Nat)) (ct : Nat) (sh : (Nat → Nat)) (wr : Nat) (ap : (Nat → Nat)) (pt : (Nat → Nat)) (rk : (Nat → Nat)) (cd : (Nat → Nat)) (mc : (Nat → Nat)) (mg : (Nat → Nat)) (mz : (Nat → Nat)) (nc : (Nat → Nat)) (nt : (Nat → Nat)) (oc : (Nat → Nat)) (fr : Nat) (hgo : ∀ c, go c ≤ 800000) (hpt : ∀ c, pt c ≤ 1000) (hO : sO rk go 9 io ct) : wk_C l D (tyK cI) (gX z) y_Ld_write b_Ld_write 3 none 2 44 0 0 [.ref (a 0), .ref (r 0)] (wLd a cI go io ct sh wr ++ (wRl r cI ap pt rk cd mc mg mz nc nt oc fr)) wk_v (fun (r : Unit) (u : (Nat → Nat) × Nat) => shP u.1 u.2 (papL (nmF rk go) go pt 9 0) ∧ u.2 ≤ 144) (fun u => (wLd a cI go io ct u.1 u.2 ++ (wRl r cI ap pt rk cd mc mg mz nc nt oc fr))) := by
  refine wk_methV (own := R_Ld) [(0, .ref (a 0)), (1, .ref (r 0))] (by decide) rfl (Nat.le_of_ble_eq_true rfl) rfl (gX_ok z) (fun p_ e_ R_ s_ m_ ar_ be_ me_ co_ Q_ A_ hR_ S_ hnm_ hQ_ => ?_)
  have hct := sO_le hO
  refine wk_aload_n (pc := 0) S_ 0 d_Ld_write_0 rfl rfl ?_
  refine wk_iconst (pc := 1) (v := (nI (0))) S_ d_Ld_write_1 (by decide) ?_
  refine wk_put (pc := 2) (ty := .int) (ws' := (wLd a cI go io ct sh 0 ++ (wRl r cI ap pt rk cd mc mg mz nc nt oc fr))) S_ 4 4 0 in_Ld t_Ld t_Ld_ok n_Ld rfl (by decide) rfl fl_Ld_74 (by decide +kernel) d_Ld_write_2 rfl rfl rfl (Nat.le_of_ble_eq_true rfl) rfl ?_
  refine wk_iconst (pc := 5) (v := (nI (0))) S_ d_Ld_write_5 (by decide) ?_
  refine wk_istore_n (pc := 6) (lv' := [(2, .int (nI (0))), (0, .ref (a 0)), (1, .ref (r 0))]) S_ d_Ld_write_6 rfl (by decide) rfl ?_
  have hL7 : ∀ (fuel7 : Nat), ∀ (k : Nat) (sh1 : Nat → Nat) (wr1 : Nat) (M : List Nat), ct - k < fuel7 → (k ≤ ct) → (shP sh1 wr1 M) → (M.length ≤ 16 * k) → (M ++ papL (nmF rk go) go pt (9 - k) k = papL (nmF rk go) go pt 9 0) → wk_G p_ l e_ R_ s_ m_ ar_ be_ me_ co_ Q_ D A_ 3 0 0 (wLd a cI go io ct sh1 wr1 ++ (wRl r cI ap pt rk cd mc mg mz nc nt oc fr)) 7 [(0, .ref (a 0)), (1, .ref (r 0)), (2, .int (nI (k)))] [] := by
    intro fuel7
    induction fuel7 with
    | zero => intro k sh1 wr1 M hm; exact absurd hm (Nat.not_lt_zero _)
    | succ fuel7 ih7 =>
      intro k sh1 wr1 M hm hk hM hl hJ
      refine wk_iload_n (pc := 7) S_ 2 d_Ld_write_7 rfl rfl ?_
      refine wk_aload_n (pc := 8) S_ 0 d_Ld_write_8 rfl rfl ?_
      refine wk_get (pc := 9) (v := .int (nI (ct))) S_ 4 2 0 in_Ld rfl (by decide) rfl fl_Ld_39 d_Ld_write_9 rfl rfl ?_
      refine wk_icmp_geN (pc := 12) (tgt := 79) S_ d_Ld_write_12 (by decide) (by omega) (by omega) (fun h12 => ?_) (fun h12 => ?_)
      · -- taken
        exact hQ_ (sh1, wr1) d_Ld_write_79 rfl (by have e1 := hJ; rw [papL_0 (by rw [sO_nF hO k (by omega), if_neg (by omega)]), List.append_nil] at e1; rw [← e1]; exact ⟨hM, by have := hM.1; omega⟩)
      · -- on
        have hq := hO.2.1 k (by omega)
        have hg1 := hgo (io k)
        have hp2 : (go (io k) + 999) / 1000 * pt (io k) ≤ 801 * 1000 := Nat.mul_le_mul (by omega) (hpt (io k))
        have hLl := lineB_len (c := io k) (g := go (io k)) (p := ((go (io k) + 999) / 1000 * pt (io k))) (by omega) (by omega) (by omega)
        have hLB : (M ++ decs (io k) ++ [32] ++ decs (go (io k)) ++ [32] ++ decs ((go (io k) + 999) / 1000 * pt (io k)) ++ [10]) = M ++ lineB (io k) (go (io k)) ((go (io k) + 999) / 1000 * pt (io k)) := by unfold lineB; simp only [List.append_assoc, List.cons_append, List.nil_append]
        have hLen := hLl
        unfold lineB at hLen
        simp only [List.length_append, List.length_cons, List.length_nil] at hLen
        have hnm : nmF rk go k = io k + 1 := by rw [sO_nF hO k (by omega), if_pos (by omega)]
        have hd9 : 16 * k ≤ 16 * 8 := by omega
        refine wk_aload_n (pc := 15) S_ 0 d_Ld_write_15 rfl rfl ?_
        refine wk_aload_n (pc := 16) S_ 0 d_Ld_write_16 rfl rfl ?_
        refine wk_get (pc := 17) (v := .ref (a 2)) S_ 4 1 0 in_Ld rfl (by decide) rfl fl_Ld_15 d_Ld_write_17 rfl rfl ?_
        refine wk_iload_n (pc := 20) S_ 2 d_Ld_write_20 rfl rfl ?_
        refine wk_ialdN (pc := 21) (g := io) S_ 2 0 d_Ld_write_21 rfl rfl (by omega) (by decide) ?_
        refine wk_run (pc := 22) (rest := []) (wr := (wRl r cI ap pt rk cd mc mg mz nc nt oc fr)) (wN := fun u22 => (wLd a cI go io ct u22.1 u22.2 ++ (wRl r cI ap pt rk cd mc mg mz nc nt oc fr))) S_ (wk_rV S_ (c_Ld_writeDecimals l D cI z (a) (go) (io) (ct) (sh1) (wr1) ((io) (k)) (M) (by omega) hM (by omega)) mv_Ld_77 (wk_rcv S_ 0 4 rfl rfl rfl) rfl rfl (Nat.le_of_ble_eq_true rfl) (by rw [hR_]; decide) (by rw [hR_]; decide) d_Ld_write_22) [0, 1, 2, 3] [4, 5, 6, 7, 8, 9, 10, 11, 12, 13, 14] [11, 12, 13, 14, 0, 1, 2, 3, 4, 5, 6, 7, 8, 9, 10] rfl rfl rfl (by decide) (by decide) (by decide) (by decide) (fun _ => rfl) (fun _ => rfl) (fun r22 u22 hw22 => ?_)
        refine wk_st (st' := []) rfl ?_
        have hM1 := hw22
        refine wk_aload_n (pc := 25) S_ 0 d_Ld_write_25 rfl rfl ?_
        refine wk_bipush (pc := 26) (v := (nI (32))) S_ d_Ld_write_26 (by decide) ?_
        refine wk_run (pc := 28) (rest := []) (wr := (wRl r cI ap pt rk cd mc mg mz nc nt oc fr)) (wN := fun _ => (wLd a cI go io ct (va_up (u22.1) (u22.2) (32)) ((u22.2) + 1) ++ (wRl r cI ap pt rk cd mc mg mz nc nt oc fr))) S_ (wk_rV S_ (c_Ld_writeByte l D cI z (a) (go) (io) (ct) (u22.1) (u22.2) (32) (by have := hM1.1; simp only [List.length_append, List.length_cons, List.length_nil] at this; omega)) mv_Ld_81 (wk_rcv S_ 0 4 rfl rfl rfl) rfl rfl (Nat.le_of_ble_eq_true rfl) (by rw [hR_]; decide) (by rw [hR_]; decide) d_Ld_write_28) [0, 1, 2, 3] [4, 5, 6, 7, 8, 9, 10, 11, 12, 13, 14] [11, 12, 13, 14, 0, 1, 2, 3, 4, 5, 6, 7, 8, 9, 10] rfl rfl rfl (by decide) (by decide) (by decide) (by decide) (fun _ => rfl) (fun _ => rfl) (fun r28 _ hw28 => ?_)
        refine wk_st (st' := []) rfl ?_
        have hM2 := shP_1 hM1 32
        refine wk_aload_n (pc := 31) S_ 0 d_Ld_write_31 rfl rfl ?_
        refine wk_aload_n (pc := 32) S_ 0 d_Ld_write_32 rfl rfl ?_
        refine wk_get (pc := 33) (v := .ref (a 1)) S_ 4 0 0 in_Ld rfl (by decide) rfl fl_Ld_9 d_Ld_write_33 rfl rfl ?_
        refine wk_aload_n (pc := 36) S_ 0 d_Ld_write_36 rfl rfl ?_
        refine wk_get (pc := 37) (v := .ref (a 2)) S_ 4 1 0 in_Ld rfl (by decide) rfl fl_Ld_15 d_Ld_write_37 rfl rfl ?_
        refine wk_iload_n (pc := 40) S_ 2 d_Ld_write_40 rfl rfl ?_
        refine wk_ialdN (pc := 41) (g := io) S_ 2 0 d_Ld_write_41 rfl rfl (by omega) (by decide) ?_
        refine wk_ialdN (pc := 42) (g := go) S_ 1 0 d_Ld_write_42 rfl rfl (by omega) (by decide) ?_
        refine wk_run (pc := 43) (rest := []) (wr := (wRl r cI ap pt rk cd mc mg mz nc nt oc fr)) (wN := fun u43 => (wLd a cI go io ct u43.1 u43.2 ++ (wRl r cI ap pt rk cd mc mg mz nc nt oc fr))) S_ (wk_rV S_ (c_Ld_writeDecimals l D cI z (a) (go) (io) (ct) (va_up (u22.1) (u22.2) (32)) ((u22.2) + 1) ((go) ((io) (k))) ((M ++ decs (io k) ++ [32])) (by omega) hM2 (by simp only [List.length_append, List.length_cons, List.length_nil]; omega)) mv_Ld_77 (wk_rcv S_ 0 4 rfl rfl rfl) rfl rfl (Nat.le_of_ble_eq_true rfl) (by rw [hR_]; decide) (by rw [hR_]; decide) d_Ld_write_43) [0, 1, 2, 3] [4, 5, 6, 7, 8, 9, 10, 11, 12, 13, 14] [11, 12, 13, 14, 0, 1, 2, 3, 4, 5, 6, 7, 8, 9, 10] rfl rfl rfl (by decide) (by decide) (by decide) (by decide) (fun _ => rfl) (fun _ => rfl) (fun r43 u43 hw43 => ?_)
        refine wk_st (st' := []) rfl ?_
        have hM3 := hw43
        refine wk_aload_n (pc := 46) S_ 0 d_Ld_write_46 rfl rfl ?_
        refine wk_bipush (pc := 47) (v := (nI (32))) S_ d_Ld_write_47 (by decide) ?_
        refine wk_run (pc := 49) (rest := []) (wr := (wRl r cI ap pt rk cd mc mg mz nc nt oc fr)) (wN := fun _ => (wLd a cI go io ct (va_up (u43.1) (u43.2) (32)) ((u43.2) + 1) ++ (wRl r cI ap pt rk cd mc mg mz nc nt oc fr))) S_ (wk_rV S_ (c_Ld_writeByte l D cI z (a) (go) (io) (ct) (u43.1) (u43.2) (32) (by have := hM3.1; simp only [List.length_append, List.length_cons, List.length_nil] at this; omega)) mv_Ld_81 (wk_rcv S_ 0 4 rfl rfl rfl) rfl rfl (Nat.le_of_ble_eq_true rfl) (by rw [hR_]; decide) (by rw [hR_]; decide) d_Ld_write_49) [0, 1, 2, 3] [4, 5, 6, 7, 8, 9, 10, 11, 12, 13, 14] [11, 12, 13, 14, 0, 1, 2, 3, 4, 5, 6, 7, 8, 9, 10] rfl rfl rfl (by decide) (by decide) (by decide) (by decide) (fun _ => rfl) (fun _ => rfl) (fun r49 _ hw49 => ?_)
        refine wk_st (st' := []) rfl ?_
        have hM4 := shP_1 hM3 32
        refine wk_aload_n (pc := 52) S_ 0 d_Ld_write_52 rfl rfl ?_
        refine wk_aload_n (pc := 53) S_ 0 d_Ld_write_53 rfl rfl ?_
        refine wk_aload_n (pc := 54) S_ 1 d_Ld_write_54 rfl rfl ?_
        refine wk_aload_n (pc := 55) S_ 0 d_Ld_write_55 rfl rfl ?_
        refine wk_get (pc := 56) (v := .ref (a 2)) S_ 4 1 0 in_Ld rfl (by decide) rfl fl_Ld_15 d_Ld_write_56 rfl rfl ?_
        refine wk_iload_n (pc := 59) S_ 2 d_Ld_write_59 rfl rfl ?_
        refine wk_ialdN (pc := 60) (g := io) S_ 2 0 d_Ld_write_60 rfl rfl (by omega) (by decide) ?_
        refine wk_run (pc := 61) (rest := [.ref (a 0)]) (wr := []) (wN := fun _ => (wLd a cI go io ct (va_up (u43.1) (u43.2) (32)) ((u43.2) + 1) ++ (wRl r cI ap pt rk cd mc mg mz nc nt oc fr))) S_ (wk_rV S_ (c_Ld_pointsOfClass l D cI z (a) (r) (go) (io) (ct) (va_up (u43.1) (u43.2) (32)) ((u43.2) + 1) (ap) (pt) (rk) (cd) (mc) (mg) (mz) (nc) (nt) (oc) (fr) ((io) (k)) (by omega) hgo) mv_Ld_54 (wk_rcv S_ 0 4 rfl rfl rfl) rfl rfl (Nat.le_of_ble_eq_true rfl) (by rw [hR_]; decide) (by rw [hR_]; decide) d_Ld_write_61) [0, 1, 2, 3, 4, 5, 6, 7, 8, 9, 10, 11, 12, 13, 14] [] [0, 1, 2, 3, 4, 5, 6, 7, 8, 9, 10, 11, 12, 13, 14] rfl rfl rfl (by decide) (by decide) (by decide) (by decide) (fun _ => rfl) (fun _ => rfl) (fun r61 _ hw61 => ?_)
        refine wk_st (st' := [.int (r61), .ref (a 0)]) rfl ?_
        refine wk_top (y := (nI ((((go) ((io) (k))) + (999)) / (1000) * ((pt) ((io) (k)))))) hw61 ?_
        refine wk_run (pc := 64) (rest := []) (wr := (wRl r cI ap pt rk cd mc mg mz nc nt oc fr)) (wN := fun u64 => (wLd a cI go io ct u64.1 u64.2 ++ (wRl r cI ap pt rk cd mc mg mz nc nt oc fr))) S_ (wk_rV S_ (c_Ld_writeDecimals l D cI z (a) (go) (io) (ct) (va_up (u43.1) (u43.2) (32)) ((u43.2) + 1) ((((go) ((io) (k))) + (999)) / (1000) * ((pt) ((io) (k)))) ((M ++ decs (io k) ++ [32] ++ decs (go (io k)) ++ [32])) (by omega) hM4 (by simp only [List.length_append, List.length_cons, List.length_nil]; omega)) mv_Ld_77 (wk_rcv S_ 0 4 rfl rfl rfl) rfl rfl (Nat.le_of_ble_eq_true rfl) (by rw [hR_]; decide) (by rw [hR_]; decide) d_Ld_write_64) [0, 1, 2, 3] [4, 5, 6, 7, 8, 9, 10, 11, 12, 13, 14] [11, 12, 13, 14, 0, 1, 2, 3, 4, 5, 6, 7, 8, 9, 10] rfl rfl rfl (by decide) (by decide) (by decide) (by decide) (fun _ => rfl) (fun _ => rfl) (fun r64 u64 hw64 => ?_)
        refine wk_st (st' := []) rfl ?_
        have hM5 := hw64
        refine wk_aload_n (pc := 67) S_ 0 d_Ld_write_67 rfl rfl ?_
        refine wk_bipush (pc := 68) (v := (nI (10))) S_ d_Ld_write_68 (by decide) ?_
        refine wk_run (pc := 70) (rest := []) (wr := (wRl r cI ap pt rk cd mc mg mz nc nt oc fr)) (wN := fun _ => (wLd a cI go io ct (va_up (u64.1) (u64.2) (10)) ((u64.2) + 1) ++ (wRl r cI ap pt rk cd mc mg mz nc nt oc fr))) S_ (wk_rV S_ (c_Ld_writeByte l D cI z (a) (go) (io) (ct) (u64.1) (u64.2) (10) (by have := hM5.1; simp only [List.length_append, List.length_cons, List.length_nil] at this; omega)) mv_Ld_81 (wk_rcv S_ 0 4 rfl rfl rfl) rfl rfl (Nat.le_of_ble_eq_true rfl) (by rw [hR_]; decide) (by rw [hR_]; decide) d_Ld_write_70) [0, 1, 2, 3] [4, 5, 6, 7, 8, 9, 10, 11, 12, 13, 14] [11, 12, 13, 14, 0, 1, 2, 3, 4, 5, 6, 7, 8, 9, 10] rfl rfl rfl (by decide) (by decide) (by decide) (by decide) (fun _ => rfl) (fun _ => rfl) (fun r70 _ hw70 => ?_)
        refine wk_st (st' := []) rfl ?_
        have hM6 := shP_1 hM5 10
        refine wk_iincN (pc := 73) (d := 1) (lv' := [(2, .int (nI (k + 1))), (0, .ref (a 0)), (1, .ref (r 0))]) S_ 2 d_Ld_write_73 (by decide) rfl (by decide) rfl ?_
        refine wk_goto (pc := 76) (tgt := 7) S_ d_Ld_write_76 (by decide) ?_
        refine wk_lv [1, 2, 0] ?_ (ih7 (k + 1) (va_up (u64.1) (u64.2) (10)) ((u64.2) + 1) ((M ++ decs (io k) ++ [32] ++ decs (go (io k)) ++ [32] ++ decs ((go (io k) + 999) / 1000 * pt (io k)) ++ [10])) (by omega) (by omega) hM6 (by have e1 := hLB; have e2 := hLl; rw [e1, List.length_append]; omega) (by rw [hLB, ← hJ, show 9 - k = (9 - (k + 1)) + 1 by omega, papL_s (by rw [hnm]; omega), hnm, Nat.add_sub_cancel, List.append_assoc]))
        rfl
  refine wk_lv [1, 2, 0] ?_ (hL7 _ (0) (sh) (0) ([]) (Nat.lt_succ_self _) (by omega) (shP_0 _) (Nat.zero_le _) rfl)
  rfl
