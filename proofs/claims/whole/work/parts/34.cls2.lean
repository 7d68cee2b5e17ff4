theorem unS_no {ty : Nat → Nat} {ln : Nat} {x : Int32} (h : (unS ty ln true x).1 = false) (pv : Bool) : unS ty ln pv x = (false, ty, ln, pv) := by
  unfold unS at h ⊢
  by_cases c : ixI 256 x = true ∧ ln ≠ 1500
  · rw [if_pos c] at h; cases h
  · rw [if_neg c]
theorem unS_yes {ty : Nat → Nat} {ln : Nat} {x : Int32} (h : (unS ty ln true x).1 = true) (pv : Bool) : unS ty ln pv x = (true, va_up ty ln x.toNatClampNeg, ln + 1, false) := by
  unfold unS at h ⊢
  by_cases c : ixI 256 x = true ∧ ln ≠ 1500
  · rw [if_pos c]
  · rw [if_neg c] at h; cases h
theorem lxI_lo {v : Int64} {a b : Nat} (h : v < lN a) : lxI v (lN a) (lN b) = false := by simp [lxI, show ¬ lN a ≤ v from Int64.not_le.mpr h]
theorem lxI_hi {v : Int64} {a b : Nat} (h : lN b < v) : lxI v (lN a) (lN b) = false := by simp [lxI, show ¬ v ≤ lN b from Int64.not_le.mpr h]
theorem lxI_ok {v : Int64} {a b : Nat} (h1 : ¬ v < lN a) (h2 : ¬ lN b < v) : lxI v (lN a) (lN b) = true := by simp [lxI, Int64.not_lt.mp h1, Int64.not_lt.mp h2]
theorem clOk_f {x : Int32} (h1 : ¬ x = -1) (h2 : ixI 9 x = false) : clOk x = false := by simp [clOk, h1, h2]
theorem clOk_1 {x : Int32} (h1 : x = -1) : clOk x = true := by simp [clOk, h1]
theorem clOk_2 {x : Int32} (h2 : ixI 9 x = true) : clOk x = true := by simp [clOk, h2]
/-- above n is n + 1 and more -/
theorem gt_ge {x : Int32} {n : Nat} (hn : n + 1 < 2 ^ 31) (h : nI n < x) : nI (n + 1) ≤ x := by
  rw [Int32.lt_iff_toInt_lt, nI_toInt (by omega)] at h
  rw [Int32.le_iff_toInt_le, nI_toInt (by omega)]
  omega
theorem ngt_nge {x : Int32} {n : Nat} (hn : n + 1 < 2 ^ 31) (h : ¬ nI n < x) : ¬ nI (n + 1) ≤ x := by
  intro z
  apply h
  rw [Int32.le_iff_toInt_le, nI_toInt (by omega)] at z
  rw [Int32.lt_iff_toInt_lt, nI_toInt (by omega)]
  omega
theorem rs_t {q : Int32} (h1 : ¬ q < nI 1) (h2 : ¬ nI 9 < q) : rsOk q = true := by
  have e2 : q.toInt64.toInt = q.toInt := Int32.toInt_toInt64 q
  rw [Int32.lt_iff_toInt_lt, nI_toInt (by decide)] at h1 h2
  unfold rsOk lxI
  simp only [Bool.and_eq_true, decide_eq_true_eq, Int64.le_iff_toInt_le, e2, lN_toInt (show 1 < 2 ^ 31 by decide), lN_toInt (show 9 < 2 ^ 31 by decide)]
  omega
theorem rs_a {q : Int32} (h1 : q < nI 1) : rsOk q = false := by
  have e2 : q.toInt64.toInt = q.toInt := Int32.toInt_toInt64 q
  rw [Int32.lt_iff_toInt_lt, nI_toInt (by decide)] at h1
  unfold rsOk lxI
  simp only [Bool.and_eq_false_iff, decide_eq_false_iff_not, Int64.le_iff_toInt_le, e2, lN_toInt (show 1 < 2 ^ 31 by decide), lN_toInt (show 9 < 2 ^ 31 by decide)]
  omega
theorem rs_b {q : Int32} (h2 : nI 9 < q) : rsOk q = false := by
  have e2 : q.toInt64.toInt = q.toInt := Int32.toInt_toInt64 q
  rw [Int32.lt_iff_toInt_lt, nI_toInt (by decide)] at h2
  unfold rsOk lxI
  simp only [Bool.and_eq_false_iff, decide_eq_false_iff_not, Int64.le_iff_toInt_le, e2, lN_toInt (show 1 < 2 ^ 31 by decide), lN_toInt (show 9 < 2 ^ 31 by decide)]
  omega
def reC (rs aw : Nat → Nat) (na : Nat) (pv : Bool) (nb : Nat) (b q : Int32) : Nat × (Nat → Nat) × (Nat → Nat) × Nat × Bool := if ixI nb b = true ∧ rsOk q = true ∧ rs b.toNatClampNeg = 0 then (na + 2, va_up rs b.toNatClampNeg q.toNatClampNeg, va_up aw na b.toNatClampNeg, na + 1, false) else (0, rs, aw, na, pv)
theorem sO_nF {rk go io : Nat → Nat} {ct : Nat} (h : sO rk go 9 io ct) (i : Nat) (hi : i < 2 ^ 31) : nmF rk go i = if i < ct then io i + 1 else 0 := by
  have hc := sO_le h
  show nmS rk go (nI i) 9 0 = _
  rw [sO_nm h]
  by_cases c : i < ct
  · rw [if_pos c, pick_in c (by omega)]
  · rw [if_neg c, pick_b (nI_le (by omega) hi)]
theorem ob_0 {cl bx : Nat → Nat} {nb : Nat} (hcv : ∀ b, b < nb → bx b ≠ 0 → cl b ≠ 0) (k : Int32) : ∀ r b s, b + r = nb → obS cl bx 0 k r b s = (0, s)
  | 0, _, _, _ => rfl
  | r + 1, b, s, h => by
    rw [obS, if_neg (fun z => hcv b (by omega) z.1 z.2)]
    exact ob_0 hcv k r (b + 1) s (by omega)
theorem od_0 {cl bx : Nat → Nat} {nb : Nat} {nm : Nat → Nat} (hcv : ∀ b, b < nb → bx b ≠ 0 → cl b ≠ 0) (k : Int32) : ∀ r i s, (∀ j, i ≤ j → j < i + r → nm j = 0) → odS cl bx nb nm k r i s = 0
  | 0, _, _, _ => rfl
  | r + 1, i, s, h => by
    rw [odS, h i (Nat.le_refl _) (by omega), ob_0 hcv k nb 0 s (by omega), if_neg (by simp)]
    exact od_0 hcv k r (i + 1) s (fun j h1 h2 => h j (by omega) (by omega))
theorem od_eq {cl bx : Nat → Nat} {nb : Nat} {nm nm2 : Nat → Nat} (hcv : ∀ b, b < nb → bx b ≠ 0 → cl b ≠ 0) (k : Int32) (ct : Nat) : ∀ r q i s, i + q = ct → (∀ j, i ≤ j → j < ct → nm j = nm2 j) → (∀ j, ct ≤ j → j < ct + r → nm j = 0) → odS cl bx nb nm k (q + r) i s = odS cl bx nb nm2 k q i s
  | r, 0, i, s, h, _, h0 => by
    rw [Nat.zero_add, od_0 hcv k r i s (fun j h1 h2 => h0 j (by omega) (by omega))]
    rfl
  | r, q + 1, i, s, h, h1, h0 => by
    rw [show q + 1 + r = (q + r) + 1 by omega, odS, odS, h1 i (Nat.le_refl _) (by omega)]
    split
    · rfl
    · exact od_eq hcv k ct r q (i + 1) _ (by omega) (fun j h2 h3 => h1 j (by omega) h3) h0
theorem sO_od {rk go io cl bx : Nat → Nat} {ct nb : Nat} (h : sO rk go 9 io ct) (hcv : ∀ b, b < nb → bx b ≠ 0 → cl b ≠ 0) (k : Int32) : odS cl bx nb (fun i => io i + 1) k ct 0 0 = odS cl bx nb (nmF rk go) k 9 0 0 := by
  have hc := sO_le h
  have e := od_eq (nm := nmF rk go) (nm2 := fun i => io i + 1) hcv k ct (9 - ct) ct 0 0 (by omega) (fun j _ h2 => by rw [sO_nF h j (by omega), if_pos h2]) (fun j h1 h2 => by rw [sO_nF h j (by omega), if_neg (by omega)])
  rw [← e, show ct + (9 - ct) = 9 by omega]
theorem fl_PL_12 : Cond.fieldLink R_PL 12 R_PL "text" "LPackLists$Text;" ∈ lw_gd := (gd _ (tb0 _ (List.mem_of_getElem? (i := 225) rfl)) rfl)
theorem mv_PL_51 : wk_V R_PL 51 R_Tx y_Tx_takeByte b_Tx_takeByte 2 (some .boolean) 1 := ⟨(gd _ (tb1 _ (List.mem_of_getElem? (i := 14) rfl)) rfl), (gd _ (tb0 _ (List.mem_of_getElem? (i := 2) rfl)) rfl), (gd _ (tb1 _ (List.mem_of_getElem? (i := 11) rfl)) rfl), (by decide +kernel), (gd _ (tb1 _ (List.mem_of_getElem? (i := 12) rfl)) rfl), (gd _ (tb1 _ (List.mem_of_getElem? (i := 13) rfl)) rfl)⟩
theorem fl_PL_47 : Cond.fieldLink R_PL 47 R_PL "untouched" "Z" ∈ lw_gd := (gd _ (tb0 _ (List.mem_of_getElem? (i := 231) rfl)) rfl)
theorem d_PL_unit_0 : decode b_PL_unit 0 = .ok (.aload_n 0, 1) := by decide +kernel
theorem d_PL_unit_1 : decode b_PL_unit 1 = .ok (.getfield 12, 3) := by decide +kernel
theorem d_PL_unit_4 : decode b_PL_unit 4 = .ok (.iload_n 1, 1) := by decide +kernel
theorem d_PL_unit_5 : decode b_PL_unit 5 = .ok (.invokevirtual 51, 3) := by decide +kernel
theorem d_PL_unit_8 : decode b_PL_unit 8 = .ok (.ifCond .ne 5, 3) := by decide +kernel
theorem d_PL_unit_11 : decode b_PL_unit 11 = .ok (.iconst 0, 1) := by decide +kernel
theorem d_PL_unit_12 : decode b_PL_unit 12 = .ok (.ireturn, 1) := by decide +kernel
theorem d_PL_unit_13 : decode b_PL_unit 13 = .ok (.aload_n 0, 1) := by decide +kernel
theorem d_PL_unit_14 : decode b_PL_unit 14 = .ok (.iconst 0, 1) := by decide +kernel
theorem d_PL_unit_15 : decode b_PL_unit 15 = .ok (.putfield 47, 3) := by decide +kernel
theorem d_PL_unit_18 : decode b_PL_unit 18 = .ok (.iconst 1, 1) := by decide +kernel
theorem d_PL_unit_19 : decode b_PL_unit 19 = .ok (.ireturn, 1) := by decide +kernel
theorem mv_PL_65 : wk_T R_PL 65 y_PL_isClass b_PL_isClass 1 (some .boolean) 1 := ⟨(gd _ (tb1 _ (List.mem_of_getElem? (i := 170) rfl)) rfl), (gd _ (tb0 _ (List.mem_of_getElem? (i := 1) rfl)) rfl), (gd _ (tb1 _ (List.mem_of_getElem? (i := 168) rfl)) rfl), (by decide +kernel), (gd _ (tb1 _ (List.mem_of_getElem? (i := 169) rfl)) rfl)⟩
theorem kc_PL_68 : Cond.constantLong R_PL 68 (lN 100000) ∈ lw_gd := (gd _ (tb1 _ (List.mem_of_getElem? (i := 171) rfl)) rfl)
theorem fl_PL_19 : Cond.fieldLink R_PL 19 R_PL "stock" "LPackLists$Stock;" ∈ lw_gd := (gd _ (tb0 _ (List.mem_of_getElem? (i := 226) rfl)) rfl)
theorem fl_PL_70 : Cond.fieldLink R_PL 70 R_St "bottles" "I" ∈ lw_gd := (gd _ (tb0 _ (List.mem_of_getElem? (i := 74) rfl)) rfl)
theorem mv_PL_74 : wk_V R_PL 74 R_St y_St_addBottle b_St_addBottle 3 (some .int) 2 := ⟨(gd _ (tb1 _ (List.mem_of_getElem? (i := 175) rfl)) rfl), (gd _ (tb0 _ (List.mem_of_getElem? (i := 3) rfl)) rfl), (gd _ (tb1 _ (List.mem_of_getElem? (i := 172) rfl)) rfl), (by decide +kernel), (gd _ (tb1 _ (List.mem_of_getElem? (i := 173) rfl)) rfl), (gd _ (tb1 _ (List.mem_of_getElem? (i := 174) rfl)) rfl)⟩
theorem d_PL_bottle_0 : decode b_PL_bottle 0 = .ok (.iload_n 1, 1) := by decide +kernel
theorem d_PL_bottle_1 : decode b_PL_bottle 1 = .ok (.iconst (-1), 1) := by decide +kernel
theorem d_PL_bottle_2 : decode b_PL_bottle 2 = .ok (.if_icmp .eq 10, 3) := by decide +kernel
theorem d_PL_bottle_5 : decode b_PL_bottle 5 = .ok (.iload_n 1, 1) := by decide +kernel
theorem d_PL_bottle_6 : decode b_PL_bottle 6 = .ok (.invokestatic 65, 3) := by decide +kernel
theorem d_PL_bottle_9 : decode b_PL_bottle 9 = .ok (.ifCond .eq 21, 3) := by decide +kernel
theorem d_PL_bottle_12 : decode b_PL_bottle 12 = .ok (.lload_n 2, 1) := by decide +kernel
theorem d_PL_bottle_13 : decode b_PL_bottle 13 = .ok (.lconst 1, 1) := by decide +kernel
theorem d_PL_bottle_14 : decode b_PL_bottle 14 = .ok (.lcmp, 1) := by decide +kernel
theorem d_PL_bottle_15 : decode b_PL_bottle 15 = .ok (.ifCond .lt 15, 3) := by decide +kernel
theorem d_PL_bottle_18 : decode b_PL_bottle 18 = .ok (.lload_n 2, 1) := by decide +kernel
theorem d_PL_bottle_19 : decode b_PL_bottle 19 = .ok (.ldc2_w 68, 3) := by decide +kernel
theorem d_PL_bottle_22 : decode b_PL_bottle 22 = .ok (.lcmp, 1) := by decide +kernel
theorem d_PL_bottle_23 : decode b_PL_bottle 23 = .ok (.ifCond .gt 7, 3) := by decide +kernel
theorem d_PL_bottle_26 : decode b_PL_bottle 26 = .ok (.iconst 1, 1) := by decide +kernel
theorem d_PL_bottle_27 : decode b_PL_bottle 27 = .ok (.goto 4, 3) := by decide +kernel
theorem d_PL_bottle_30 : decode b_PL_bottle 30 = .ok (.iconst 0, 1) := by decide +kernel
theorem d_PL_bottle_31 : decode b_PL_bottle 31 = .ok (.istore 4, 2) := by decide +kernel
theorem d_PL_bottle_33 : decode b_PL_bottle 33 = .ok (.iload 4, 2) := by decide +kernel
theorem d_PL_bottle_35 : decode b_PL_bottle 35 = .ok (.ifCond .eq 15, 3) := by decide +kernel
theorem d_PL_bottle_38 : decode b_PL_bottle 38 = .ok (.aload_n 0, 1) := by decide +kernel
theorem d_PL_bottle_39 : decode b_PL_bottle 39 = .ok (.getfield 19, 3) := by decide +kernel
theorem d_PL_bottle_42 : decode b_PL_bottle 42 = .ok (.getfield 70, 3) := by decide +kernel
theorem d_PL_bottle_45 : decode b_PL_bottle 45 = .ok (.bipush 8, 2) := by decide +kernel
theorem d_PL_bottle_47 : decode b_PL_bottle 47 = .ok (.if_icmp .lt 5, 3) := by decide +kernel
theorem d_PL_bottle_50 : decode b_PL_bottle 50 = .ok (.iconst (-1), 1) := by decide +kernel
theorem d_PL_bottle_51 : decode b_PL_bottle 51 = .ok (.ireturn, 1) := by decide +kernel
theorem d_PL_bottle_52 : decode b_PL_bottle 52 = .ok (.aload_n 0, 1) := by decide +kernel
theorem d_PL_bottle_53 : decode b_PL_bottle 53 = .ok (.iconst 0, 1) := by decide +kernel
theorem d_PL_bottle_54 : decode b_PL_bottle 54 = .ok (.putfield 47, 3) := by decide +kernel
theorem d_PL_bottle_57 : decode b_PL_bottle 57 = .ok (.aload_n 0, 1) := by decide +kernel
theorem d_PL_bottle_58 : decode b_PL_bottle 58 = .ok (.getfield 19, 3) := by decide +kernel
theorem d_PL_bottle_61 : decode b_PL_bottle 61 = .ok (.iload_n 1, 1) := by decide +kernel
theorem d_PL_bottle_62 : decode b_PL_bottle 62 = .ok (.lload_n 2, 1) := by decide +kernel
theorem d_PL_bottle_63 : decode b_PL_bottle 63 = .ok (.l2i, 1) := by decide +kernel
theorem d_PL_bottle_64 : decode b_PL_bottle 64 = .ok (.invokevirtual 74, 3) := by decide +kernel
theorem d_PL_bottle_67 : decode b_PL_bottle 67 = .ok (.ireturn, 1) := by decide +kernel
theorem mv_PL_78 : wk_T R_PL 78 y_PL_isBoxGrams b_PL_isBoxGrams 2 (some .boolean) 1 := ⟨(gd _ (tb1 _ (List.mem_of_getElem? (i := 182) rfl)) rfl), (gd _ (tb0 _ (List.mem_of_getElem? (i := 1) rfl)) rfl), (gd _ (tb1 _ (List.mem_of_getElem? (i := 180) rfl)) rfl), (by decide +kernel), (gd _ (tb1 _ (List.mem_of_getElem? (i := 181) rfl)) rfl)⟩
theorem fl_PL_82 : Cond.fieldLink R_PL 82 R_St "boxes" "I" ∈ lw_gd := (gd _ (tb0 _ (List.mem_of_getElem? (i := 86) rfl)) rfl)
theorem mv_PL_85 : wk_V R_PL 85 R_St y_St_addBox b_St_addBox 3 (some .int) 2 := ⟨(gd _ (tb1 _ (List.mem_of_getElem? (i := 187) rfl)) rfl), (gd _ (tb0 _ (List.mem_of_getElem? (i := 3) rfl)) rfl), (gd _ (tb1 _ (List.mem_of_getElem? (i := 184) rfl)) rfl), (by decide +kernel), (gd _ (tb1 _ (List.mem_of_getElem? (i := 185) rfl)) rfl), (gd _ (tb1 _ (List.mem_of_getElem? (i := 186) rfl)) rfl)⟩
theorem d_PL_box_0 : decode b_PL_box 0 = .ok (.iload_n 1, 1) := by decide +kernel
theorem d_PL_box_1 : decode b_PL_box 1 = .ok (.ifCond .lt 31, 3) := by decide +kernel
theorem d_PL_box_4 : decode b_PL_box 4 = .ok (.iload_n 1, 1) := by decide +kernel
theorem d_PL_box_5 : decode b_PL_box 5 = .ok (.iconst 3, 1) := by decide +kernel
theorem d_PL_box_6 : decode b_PL_box 6 = .ok (.if_icmp .gt 26, 3) := by decide +kernel
theorem d_PL_box_9 : decode b_PL_box 9 = .ok (.lload_n 2, 1) := by decide +kernel
theorem d_PL_box_10 : decode b_PL_box 10 = .ok (.invokestatic 78, 3) := by decide +kernel
theorem d_PL_box_13 : decode b_PL_box 13 = .ok (.ifCond .eq 19, 3) := by decide +kernel
theorem d_PL_box_16 : decode b_PL_box 16 = .ok (.iload 4, 2) := by decide +kernel
theorem d_PL_box_18 : decode b_PL_box 18 = .ok (.ifCond .lt 14, 3) := by decide +kernel
theorem d_PL_box_21 : decode b_PL_box 21 = .ok (.iload 4, 2) := by decide +kernel
theorem d_PL_box_23 : decode b_PL_box 23 = .ok (.bipush 8, 2) := by decide +kernel
theorem d_PL_box_25 : decode b_PL_box 25 = .ok (.if_icmp .gt 7, 3) := by decide +kernel
theorem d_PL_box_28 : decode b_PL_box 28 = .ok (.iconst 1, 1) := by decide +kernel
theorem d_PL_box_29 : decode b_PL_box 29 = .ok (.goto 4, 3) := by decide +kernel
theorem d_PL_box_32 : decode b_PL_box 32 = .ok (.iconst 0, 1) := by decide +kernel
theorem d_PL_box_33 : decode b_PL_box 33 = .ok (.istore 5, 2) := by decide +kernel
theorem d_PL_box_35 : decode b_PL_box 35 = .ok (.iload 5, 2) := by decide +kernel
theorem d_PL_box_37 : decode b_PL_box 37 = .ok (.ifCond .eq 14, 3) := by decide +kernel
theorem d_PL_box_40 : decode b_PL_box 40 = .ok (.aload_n 0, 1) := by decide +kernel
theorem d_PL_box_41 : decode b_PL_box 41 = .ok (.getfield 19, 3) := by decide +kernel
theorem d_PL_box_44 : decode b_PL_box 44 = .ok (.getfield 82, 3) := by decide +kernel
theorem d_PL_box_47 : decode b_PL_box 47 = .ok (.iconst 5, 1) := by decide +kernel
theorem d_PL_box_48 : decode b_PL_box 48 = .ok (.if_icmp .lt 5, 3) := by decide +kernel
theorem d_PL_box_51 : decode b_PL_box 51 = .ok (.iconst (-1), 1) := by decide +kernel
theorem d_PL_box_52 : decode b_PL_box 52 = .ok (.ireturn, 1) := by decide +kernel
theorem d_PL_box_53 : decode b_PL_box 53 = .ok (.aload_n 0, 1) := by decide +kernel
theorem d_PL_box_54 : decode b_PL_box 54 = .ok (.iconst 0, 1) := by decide +kernel
theorem d_PL_box_55 : decode b_PL_box 55 = .ok (.putfield 47, 3) := by decide +kernel
theorem d_PL_box_58 : decode b_PL_box 58 = .ok (.aload_n 0, 1) := by decide +kernel
theorem d_PL_box_59 : decode b_PL_box 59 = .ok (.getfield 19, 3) := by decide +kernel
theorem d_PL_box_62 : decode b_PL_box 62 = .ok (.lload_n 2, 1) := by decide +kernel
theorem d_PL_box_63 : decode b_PL_box 63 = .ok (.l2i, 1) := by decide +kernel
theorem d_PL_box_64 : decode b_PL_box 64 = .ok (.iload 4, 2) := by decide +kernel
theorem d_PL_box_66 : decode b_PL_box 66 = .ok (.invokevirtual 85, 3) := by decide +kernel
theorem d_PL_box_69 : decode b_PL_box 69 = .ok (.ireturn, 1) := by decide +kernel
theorem mv_PL_88 : wk_V R_PL 88 R_St y_St_hasBox b_St_hasBox 2 (some .boolean) 1 := ⟨(gd _ (tb1 _ (List.mem_of_getElem? (i := 195) rfl)) rfl), (gd _ (tb0 _ (List.mem_of_getElem? (i := 3) rfl)) rfl), (gd _ (tb1 _ (List.mem_of_getElem? (i := 192) rfl)) rfl), (by decide +kernel), (gd _ (tb1 _ (List.mem_of_getElem? (i := 193) rfl)) rfl), (gd _ (tb1 _ (List.mem_of_getElem? (i := 194) rfl)) rfl)⟩
theorem fl_PL_91 : Cond.fieldLink R_PL 91 R_St "absorbers" "[I" ∈ lw_gd := (gd _ (tb0 _ (List.mem_of_getElem? (i := 82) rfl)) rfl)
theorem d_PL_absorber_0 : decode b_PL_absorber 0 = .ok (.aload_n 0, 1) := by decide +kernel
theorem d_PL_absorber_1 : decode b_PL_absorber 1 = .ok (.getfield 19, 3) := by decide +kernel
theorem d_PL_absorber_4 : decode b_PL_absorber 4 = .ok (.iload_n 1, 1) := by decide +kernel
theorem d_PL_absorber_5 : decode b_PL_absorber 5 = .ok (.invokevirtual 88, 3) := by decide +kernel
theorem d_PL_absorber_8 : decode b_PL_absorber 8 = .ok (.ifCond .eq 10, 3) := by decide +kernel
theorem d_PL_absorber_11 : decode b_PL_absorber 11 = .ok (.lload_n 2, 1) := by decide +kernel
theorem d_PL_absorber_12 : decode b_PL_absorber 12 = .ok (.invokestatic 78, 3) := by decide +kernel
theorem d_PL_absorber_15 : decode b_PL_absorber 15 = .ok (.ifCond .ne 5, 3) := by decide +kernel
theorem d_PL_absorber_18 : decode b_PL_absorber 18 = .ok (.iconst 0, 1) := by decide +kernel
theorem d_PL_absorber_19 : decode b_PL_absorber 19 = .ok (.ireturn, 1) := by decide +kernel
theorem d_PL_absorber_20 : decode b_PL_absorber 20 = .ok (.aload_n 0, 1) := by decide +kernel
theorem d_PL_absorber_21 : decode b_PL_absorber 21 = .ok (.iconst 0, 1) := by decide +kernel
theorem d_PL_absorber_22 : decode b_PL_absorber 22 = .ok (.putfield 47, 3) := by decide +kernel
theorem d_PL_absorber_25 : decode b_PL_absorber 25 = .ok (.aload_n 0, 1) := by decide +kernel
theorem d_PL_absorber_26 : decode b_PL_absorber 26 = .ok (.getfield 19, 3) := by decide +kernel
theorem d_PL_absorber_29 : decode b_PL_absorber 29 = .ok (.getfield 91, 3) := by decide +kernel
theorem d_PL_absorber_32 : decode b_PL_absorber 32 = .ok (.iload_n 1, 1) := by decide +kernel
theorem d_PL_absorber_33 : decode b_PL_absorber 33 = .ok (.lload_n 2, 1) := by decide +kernel
theorem d_PL_absorber_34 : decode b_PL_absorber 34 = .ok (.l2i, 1) := by decide +kernel
theorem d_PL_absorber_35 : decode b_PL_absorber 35 = .ok (.iastore, 1) := by decide +kernel
theorem d_PL_absorber_36 : decode b_PL_absorber 36 = .ok (.iconst 1, 1) := by decide +kernel
theorem d_PL_absorber_37 : decode b_PL_absorber 37 = .ok (.ireturn, 1) := by decide +kernel
theorem mv_PL_99 : wk_V R_PL 99 R_St y_St_hasBottle b_St_hasBottle 2 (some .boolean) 1 := ⟨(gd _ (tb2 _ (List.mem_of_getElem? (i := 13) rfl)) rfl), (gd _ (tb0 _ (List.mem_of_getElem? (i := 3) rfl)) rfl), (gd _ (tb2 _ (List.mem_of_getElem? (i := 10) rfl)) rfl), (by decide +kernel), (gd _ (tb2 _ (List.mem_of_getElem? (i := 11) rfl)) rfl), (gd _ (tb2 _ (List.mem_of_getElem? (i := 12) rfl)) rfl)⟩
theorem fl_PL_26 : Cond.fieldLink R_PL 26 R_PL "packer" "LPackLists$Packer;" ∈ lw_gd := (gd _ (tb0 _ (List.mem_of_getElem? (i := 227) rfl)) rfl)
theorem fl_PL_102 : Cond.fieldLink R_PL 102 R_Pk "boxes" "[I" ∈ lw_gd := (gd _ (tb0 _ (List.mem_of_getElem? (i := 128) rfl)) rfl)
theorem d_PL_boxOf_0 : decode b_PL_boxOf 0 = .ok (.aload_n 0, 1) := by decide +kernel
theorem d_PL_boxOf_1 : decode b_PL_boxOf 1 = .ok (.getfield 19, 3) := by decide +kernel
theorem d_PL_boxOf_4 : decode b_PL_boxOf 4 = .ok (.iload_n 1, 1) := by decide +kernel
theorem d_PL_boxOf_5 : decode b_PL_boxOf 5 = .ok (.invokevirtual 99, 3) := by decide +kernel
theorem d_PL_boxOf_8 : decode b_PL_boxOf 8 = .ok (.ifCond .eq 15, 3) := by decide +kernel
theorem d_PL_boxOf_11 : decode b_PL_boxOf 11 = .ok (.aload_n 0, 1) := by decide +kernel
theorem d_PL_boxOf_12 : decode b_PL_boxOf 12 = .ok (.getfield 26, 3) := by decide +kernel
theorem d_PL_boxOf_15 : decode b_PL_boxOf 15 = .ok (.getfield 102, 3) := by decide +kernel
theorem d_PL_boxOf_18 : decode b_PL_boxOf 18 = .ok (.iload_n 1, 1) := by decide +kernel
theorem d_PL_boxOf_19 : decode b_PL_boxOf 19 = .ok (.iaload, 1) := by decide +kernel
theorem d_PL_boxOf_20 : decode b_PL_boxOf 20 = .ok (.goto 4, 3) := by decide +kernel
theorem d_PL_boxOf_23 : decode b_PL_boxOf 23 = .ok (.iconst (-1), 1) := by decide +kernel
theorem d_PL_boxOf_24 : decode b_PL_boxOf 24 = .ok (.ireturn, 1) := by decide +kernel
theorem fl_PL_104 : Cond.fieldLink R_PL 104 R_Pk "found" "Z" ∈ lw_gd := (gd _ (tb0 _ (List.mem_of_getElem? (i := 130) rfl)) rfl)
theorem d_PL_proved_0 : decode b_PL_proved 0 = .ok (.aload_n 0, 1) := by decide +kernel
theorem d_PL_proved_1 : decode b_PL_proved 1 = .ok (.getfield 26, 3) := by decide +kernel
theorem d_PL_proved_4 : decode b_PL_proved 4 = .ok (.getfield 104, 3) := by decide +kernel
theorem d_PL_proved_7 : decode b_PL_proved 7 = .ok (.ifCond .eq 14, 3) := by decide +kernel
theorem d_PL_proved_10 : decode b_PL_proved 10 = .ok (.aload_n 0, 1) := by decide +kernel
theorem d_PL_proved_11 : decode b_PL_proved 11 = .ok (.getfield 47, 3) := by decide +kernel
theorem d_PL_proved_14 : decode b_PL_proved 14 = .ok (.ifCond .eq 7, 3) := by decide +kernel
theorem d_PL_proved_17 : decode b_PL_proved 17 = .ok (.iconst 1, 1) := by decide +kernel
theorem d_PL_proved_18 : decode b_PL_proved 18 = .ok (.goto 4, 3) := by decide +kernel
theorem d_PL_proved_21 : decode b_PL_proved 21 = .ok (.iconst 0, 1) := by decide +kernel
theorem d_PL_proved_22 : decode b_PL_proved 22 = .ok (.ireturn, 1) := by decide +kernel
theorem fl_PL_33 : Cond.fieldLink R_PL 33 R_PL "load" "LPackLists$Load;" ∈ lw_gd := (gd _ (tb0 _ (List.mem_of_getElem? (i := 228) rfl)) rfl)
theorem mv_PL_111 : wk_V R_PL 111 R_Ld y_Ld_gather b_Ld_gather 4 none 2 := ⟨(gd _ (tb2 _ (List.mem_of_getElem? (i := 33) rfl)) rfl), (gd _ (tb0 _ (List.mem_of_getElem? (i := 6) rfl)) rfl), (gd _ (tb2 _ (List.mem_of_getElem? (i := 30) rfl)) rfl), (by decide +kernel), (gd _ (tb2 _ (List.mem_of_getElem? (i := 31) rfl)) rfl), (gd _ (tb2 _ (List.mem_of_getElem? (i := 32) rfl)) rfl)⟩
theorem fl_PL_40 : Cond.fieldLink R_PL 40 R_PL "now" "LPackLists$Rules;" ∈ lw_gd := (gd _ (tb0 _ (List.mem_of_getElem? (i := 229) rfl)) rfl)
theorem mv_PL_115 : wk_V R_PL 115 R_Ld y_Ld_pointsOfAll b_Ld_pointsOfAll 5 (some .long) 1 := ⟨(gd _ (tb2 _ (List.mem_of_getElem? (i := 38) rfl)) rfl), (gd _ (tb0 _ (List.mem_of_getElem? (i := 6) rfl)) rfl), (gd _ (tb2 _ (List.mem_of_getElem? (i := 35) rfl)) rfl), (by decide +kernel), (gd _ (tb2 _ (List.mem_of_getElem? (i := 36) rfl)) rfl), (gd _ (tb2 _ (List.mem_of_getElem? (i := 37) rfl)) rfl)⟩
theorem d_PL_points_0 : decode b_PL_points 0 = .ok (.aload_n 0, 1) := by decide +kernel
theorem d_PL_points_1 : decode b_PL_points 1 = .ok (.getfield 33, 3) := by decide +kernel
theorem d_PL_points_4 : decode b_PL_points 4 = .ok (.aload_n 0, 1) := by decide +kernel
theorem d_PL_points_5 : decode b_PL_points 5 = .ok (.getfield 19, 3) := by decide +kernel
theorem d_PL_points_8 : decode b_PL_points 8 = .ok (.aload_n 0, 1) := by decide +kernel
theorem d_PL_points_9 : decode b_PL_points 9 = .ok (.getfield 26, 3) := by decide +kernel
theorem d_PL_points_12 : decode b_PL_points 12 = .ok (.getfield 102, 3) := by decide +kernel
theorem d_PL_points_15 : decode b_PL_points 15 = .ok (.invokevirtual 111, 3) := by decide +kernel
theorem d_PL_points_18 : decode b_PL_points 18 = .ok (.aload_n 0, 1) := by decide +kernel
theorem d_PL_points_19 : decode b_PL_points 19 = .ok (.getfield 33, 3) := by decide +kernel
theorem d_PL_points_22 : decode b_PL_points 22 = .ok (.aload_n 0, 1) := by decide +kernel
theorem d_PL_points_23 : decode b_PL_points 23 = .ok (.getfield 40, 3) := by decide +kernel
theorem d_PL_points_26 : decode b_PL_points 26 = .ok (.invokevirtual 115, 3) := by decide +kernel
theorem d_PL_points_29 : decode b_PL_points 29 = .ok (.lreturn, 1) := by decide +kernel
theorem mv_PL_119 : wk_V R_PL 119 R_Ld y_Ld_isFree b_Ld_isFree 2 (some .boolean) 1 := ⟨(gd _ (tb2 _ (List.mem_of_getElem? (i := 50) rfl)) rfl), (gd _ (tb0 _ (List.mem_of_getElem? (i := 6) rfl)) rfl), (gd _ (tb2 _ (List.mem_of_getElem? (i := 47) rfl)) rfl), (by decide +kernel), (gd _ (tb2 _ (List.mem_of_getElem? (i := 48) rfl)) rfl), (gd _ (tb2 _ (List.mem_of_getElem? (i := 49) rfl)) rfl)⟩
theorem d_PL_exempt_0 : decode b_PL_exempt 0 = .ok (.aload_n 0, 1) := by decide +kernel
theorem d_PL_exempt_1 : decode b_PL_exempt 1 = .ok (.getfield 33, 3) := by decide +kernel
theorem d_PL_exempt_4 : decode b_PL_exempt 4 = .ok (.aload_n 0, 1) := by decide +kernel
theorem d_PL_exempt_5 : decode b_PL_exempt 5 = .ok (.getfield 19, 3) := by decide +kernel
theorem d_PL_exempt_8 : decode b_PL_exempt 8 = .ok (.aload_n 0, 1) := by decide +kernel
theorem d_PL_exempt_9 : decode b_PL_exempt 9 = .ok (.getfield 26, 3) := by decide +kernel
theorem d_PL_exempt_12 : decode b_PL_exempt 12 = .ok (.getfield 102, 3) := by decide +kernel
theorem d_PL_exempt_15 : decode b_PL_exempt 15 = .ok (.invokevirtual 111, 3) := by decide +kernel
theorem d_PL_exempt_18 : decode b_PL_exempt 18 = .ok (.aload_n 0, 1) := by decide +kernel
theorem d_PL_exempt_19 : decode b_PL_exempt 19 = .ok (.getfield 33, 3) := by decide +kernel
theorem d_PL_exempt_22 : decode b_PL_exempt 22 = .ok (.aload_n 0, 1) := by decide +kernel
theorem d_PL_exempt_23 : decode b_PL_exempt 23 = .ok (.getfield 40, 3) := by decide +kernel
theorem d_PL_exempt_26 : decode b_PL_exempt 26 = .ok (.invokevirtual 119, 3) := by decide +kernel
theorem d_PL_exempt_29 : decode b_PL_exempt 29 = .ok (.ireturn, 1) := by decide +kernel
theorem mv_PL_152 : wk_V R_PL 152 R_Ld y_Ld_greatestCode b_Ld_greatestCode 4 (some .int) 1 := ⟨(gd _ (tb2 _ (List.mem_of_getElem? (i := 103) rfl)) rfl), (gd _ (tb0 _ (List.mem_of_getElem? (i := 6) rfl)) rfl), (gd _ (tb2 _ (List.mem_of_getElem? (i := 100) rfl)) rfl), (by decide +kernel), (gd _ (tb2 _ (List.mem_of_getElem? (i := 101) rfl)) rfl), (gd _ (tb2 _ (List.mem_of_getElem? (i := 102) rfl)) rfl)⟩
theorem d_PL_tunnel_0 : decode b_PL_tunnel 0 = .ok (.aload_n 0, 1) := by decide +kernel
theorem d_PL_tunnel_1 : decode b_PL_tunnel 1 = .ok (.getfield 33, 3) := by decide +kernel
theorem d_PL_tunnel_4 : decode b_PL_tunnel 4 = .ok (.aload_n 0, 1) := by decide +kernel
theorem d_PL_tunnel_5 : decode b_PL_tunnel 5 = .ok (.getfield 19, 3) := by decide +kernel
theorem d_PL_tunnel_8 : decode b_PL_tunnel 8 = .ok (.aload_n 0, 1) := by decide +kernel
theorem d_PL_tunnel_9 : decode b_PL_tunnel 9 = .ok (.getfield 26, 3) := by decide +kernel
theorem d_PL_tunnel_12 : decode b_PL_tunnel 12 = .ok (.getfield 102, 3) := by decide +kernel
theorem d_PL_tunnel_15 : decode b_PL_tunnel 15 = .ok (.invokevirtual 111, 3) := by decide +kernel
theorem d_PL_tunnel_18 : decode b_PL_tunnel 18 = .ok (.aload_n 0, 1) := by decide +kernel
theorem d_PL_tunnel_19 : decode b_PL_tunnel 19 = .ok (.getfield 33, 3) := by decide +kernel
theorem d_PL_tunnel_22 : decode b_PL_tunnel 22 = .ok (.aload_n 0, 1) := by decide +kernel
theorem d_PL_tunnel_23 : decode b_PL_tunnel 23 = .ok (.getfield 40, 3) := by decide +kernel
theorem d_PL_tunnel_26 : decode b_PL_tunnel 26 = .ok (.invokevirtual 119, 3) := by decide +kernel
theorem d_PL_tunnel_29 : decode b_PL_tunnel 29 = .ok (.ifCond .eq 7, 3) := by decide +kernel
theorem d_PL_tunnel_32 : decode b_PL_tunnel 32 = .ok (.iconst 0, 1) := by decide +kernel
theorem d_PL_tunnel_33 : decode b_PL_tunnel 33 = .ok (.goto 14, 3) := by decide +kernel
theorem d_PL_tunnel_36 : decode b_PL_tunnel 36 = .ok (.aload_n 0, 1) := by decide +kernel
theorem d_PL_tunnel_37 : decode b_PL_tunnel 37 = .ok (.getfield 33, 3) := by decide +kernel
theorem d_PL_tunnel_40 : decode b_PL_tunnel 40 = .ok (.aload_n 0, 1) := by decide +kernel
theorem d_PL_tunnel_41 : decode b_PL_tunnel 41 = .ok (.getfield 40, 3) := by decide +kernel
theorem d_PL_tunnel_44 : decode b_PL_tunnel 44 = .ok (.invokevirtual 152, 3) := by decide +kernel
theorem d_PL_tunnel_47 : decode b_PL_tunnel 47 = .ok (.ireturn, 1) := by decide +kernel
theorem fl_PL_146 : Cond.fieldLink R_PL 146 R_Ld "gramsOf" "[I" ∈ lw_gd := (gd _ (tb0 _ (List.mem_of_getElem? (i := 159) rfl)) rfl)
theorem mv_PL_149 : wk_V R_PL 149 R_Rl y_Rl_markSize b_Rl_markSize 4 (some .int) 2 := ⟨(gd _ (tb2 _ (List.mem_of_getElem? (i := 95) rfl)) rfl), (gd _ (tb0 _ (List.mem_of_getElem? (i := 7) rfl)) rfl), (gd _ (tb2 _ (List.mem_of_getElem? (i := 92) rfl)) rfl), (by decide +kernel), (gd _ (tb2 _ (List.mem_of_getElem? (i := 93) rfl)) rfl), (gd _ (tb2 _ (List.mem_of_getElem? (i := 94) rfl)) rfl)⟩
theorem d_PL_mark_0 : decode b_PL_mark 0 = .ok (.iload_n 1, 1) := by decide +kernel
theorem d_PL_mark_1 : decode b_PL_mark 1 = .ok (.invokestatic 65, 3) := by decide +kernel
theorem d_PL_mark_4 : decode b_PL_mark 4 = .ok (.ifCond .ne 5, 3) := by decide +kernel
theorem d_PL_mark_7 : decode b_PL_mark 7 = .ok (.iconst (-1), 1) := by decide +kernel
theorem d_PL_mark_8 : decode b_PL_mark 8 = .ok (.ireturn, 1) := by decide +kernel
theorem d_PL_mark_9 : decode b_PL_mark 9 = .ok (.aload_n 0, 1) := by decide +kernel
theorem d_PL_mark_10 : decode b_PL_mark 10 = .ok (.getfield 33, 3) := by decide +kernel
theorem d_PL_mark_13 : decode b_PL_mark 13 = .ok (.aload_n 0, 1) := by decide +kernel
theorem d_PL_mark_14 : decode b_PL_mark 14 = .ok (.getfield 19, 3) := by decide +kernel
theorem d_PL_mark_17 : decode b_PL_mark 17 = .ok (.aload_n 0, 1) := by decide +kernel
theorem d_PL_mark_18 : decode b_PL_mark 18 = .ok (.getfield 26, 3) := by decide +kernel
theorem d_PL_mark_21 : decode b_PL_mark 21 = .ok (.getfield 102, 3) := by decide +kernel
theorem d_PL_mark_24 : decode b_PL_mark 24 = .ok (.invokevirtual 111, 3) := by decide +kernel
theorem d_PL_mark_27 : decode b_PL_mark 27 = .ok (.aload_n 0, 1) := by decide +kernel
theorem d_PL_mark_28 : decode b_PL_mark 28 = .ok (.getfield 33, 3) := by decide +kernel
theorem d_PL_mark_31 : decode b_PL_mark 31 = .ok (.getfield 146, 3) := by decide +kernel
theorem d_PL_mark_34 : decode b_PL_mark 34 = .ok (.iload_n 1, 1) := by decide +kernel
theorem d_PL_mark_35 : decode b_PL_mark 35 = .ok (.iaload, 1) := by decide +kernel
theorem d_PL_mark_36 : decode b_PL_mark 36 = .ok (.istore_n 2, 1) := by decide +kernel
theorem d_PL_mark_37 : decode b_PL_mark 37 = .ok (.iload_n 2, 1) := by decide +kernel
theorem d_PL_mark_38 : decode b_PL_mark 38 = .ok (.ifCond .le 15, 3) := by decide +kernel
theorem d_PL_mark_41 : decode b_PL_mark 41 = .ok (.aload_n 0, 1) := by decide +kernel
theorem d_PL_mark_42 : decode b_PL_mark 42 = .ok (.getfield 40, 3) := by decide +kernel
theorem d_PL_mark_45 : decode b_PL_mark 45 = .ok (.iload_n 1, 1) := by decide +kernel
theorem d_PL_mark_46 : decode b_PL_mark 46 = .ok (.iload_n 2, 1) := by decide +kernel
theorem d_PL_mark_47 : decode b_PL_mark 47 = .ok (.invokevirtual 149, 3) := by decide +kernel
theorem d_PL_mark_50 : decode b_PL_mark 50 = .ok (.goto 4, 3) := by decide +kernel
theorem d_PL_mark_53 : decode b_PL_mark 53 = .ok (.iconst 0, 1) := by decide +kernel
theorem d_PL_mark_54 : decode b_PL_mark 54 = .ok (.ireturn, 1) := by decide +kernel
theorem mv_PL_123 : wk_V R_PL 123 R_Ld y_Ld_sort b_Ld_sort 3 none 1 := ⟨(gd _ (tb2 _ (List.mem_of_getElem? (i := 59) rfl)) rfl), (gd _ (tb0 _ (List.mem_of_getElem? (i := 6) rfl)) rfl), (gd _ (tb2 _ (List.mem_of_getElem? (i := 56) rfl)) rfl), (by decide +kernel), (gd _ (tb2 _ (List.mem_of_getElem? (i := 57) rfl)) rfl), (gd _ (tb2 _ (List.mem_of_getElem? (i := 58) rfl)) rfl)⟩
theorem fl_PL_127 : Cond.fieldLink R_PL 127 R_Ld "count" "I" ∈ lw_gd := (gd _ (tb0 _ (List.mem_of_getElem? (i := 163) rfl)) rfl)
theorem fl_PL_130 : Cond.fieldLink R_PL 130 R_Ld "inOrder" "[I" ∈ lw_gd := (gd _ (tb0 _ (List.mem_of_getElem? (i := 161) rfl)) rfl)
theorem d_PL_name_0 : decode b_PL_name 0 = .ok (.aload_n 0, 1) := by decide +kernel
theorem d_PL_name_1 : decode b_PL_name 1 = .ok (.getfield 33, 3) := by decide +kernel
theorem d_PL_name_4 : decode b_PL_name 4 = .ok (.aload_n 0, 1) := by decide +kernel
theorem d_PL_name_5 : decode b_PL_name 5 = .ok (.getfield 19, 3) := by decide +kernel
theorem d_PL_name_8 : decode b_PL_name 8 = .ok (.aload_n 0, 1) := by decide +kernel
theorem d_PL_name_9 : decode b_PL_name 9 = .ok (.getfield 26, 3) := by decide +kernel
theorem d_PL_name_12 : decode b_PL_name 12 = .ok (.getfield 102, 3) := by decide +kernel
theorem d_PL_name_15 : decode b_PL_name 15 = .ok (.invokevirtual 111, 3) := by decide +kernel
theorem d_PL_name_18 : decode b_PL_name 18 = .ok (.aload_n 0, 1) := by decide +kernel
theorem d_PL_name_19 : decode b_PL_name 19 = .ok (.getfield 33, 3) := by decide +kernel
theorem d_PL_name_22 : decode b_PL_name 22 = .ok (.aload_n 0, 1) := by decide +kernel
theorem d_PL_name_23 : decode b_PL_name 23 = .ok (.getfield 40, 3) := by decide +kernel
theorem d_PL_name_26 : decode b_PL_name 26 = .ok (.invokevirtual 123, 3) := by decide +kernel
theorem d_PL_name_29 : decode b_PL_name 29 = .ok (.iload_n 1, 1) := by decide +kernel
theorem d_PL_name_30 : decode b_PL_name 30 = .ok (.ifCond .lt 26, 3) := by decide +kernel
theorem d_PL_name_33 : decode b_PL_name 33 = .ok (.iload_n 1, 1) := by decide +kernel
theorem d_PL_name_34 : decode b_PL_name 34 = .ok (.aload_n 0, 1) := by decide +kernel
theorem d_PL_name_35 : decode b_PL_name 35 = .ok (.getfield 33, 3) := by decide +kernel
theorem d_PL_name_38 : decode b_PL_name 38 = .ok (.getfield 127, 3) := by decide +kernel
theorem d_PL_name_41 : decode b_PL_name 41 = .ok (.if_icmp .ge 15, 3) := by decide +kernel
theorem d_PL_name_44 : decode b_PL_name 44 = .ok (.aload_n 0, 1) := by decide +kernel
theorem d_PL_name_45 : decode b_PL_name 45 = .ok (.getfield 33, 3) := by decide +kernel
theorem d_PL_name_48 : decode b_PL_name 48 = .ok (.getfield 130, 3) := by decide +kernel
theorem d_PL_name_51 : decode b_PL_name 51 = .ok (.iload_n 1, 1) := by decide +kernel
theorem d_PL_name_52 : decode b_PL_name 52 = .ok (.iaload, 1) := by decide +kernel
theorem d_PL_name_53 : decode b_PL_name 53 = .ok (.goto 4, 3) := by decide +kernel
theorem d_PL_name_56 : decode b_PL_name 56 = .ok (.iconst (-1), 1) := by decide +kernel
theorem d_PL_name_57 : decode b_PL_name 57 = .ok (.ireturn, 1) := by decide +kernel
theorem mv_PL_133 : wk_V R_PL 133 R_Ld y_Ld_bottleAt b_Ld_bottleAt 7 (some .int) 3 := ⟨(gd _ (tb2 _ (List.mem_of_getElem? (i := 71) rfl)) rfl), (gd _ (tb0 _ (List.mem_of_getElem? (i := 6) rfl)) rfl), (gd _ (tb2 _ (List.mem_of_getElem? (i := 68) rfl)) rfl), (by decide +kernel), (gd _ (tb2 _ (List.mem_of_getElem? (i := 69) rfl)) rfl), (gd _ (tb2 _ (List.mem_of_getElem? (i := 70) rfl)) rfl)⟩
theorem d_PL_order_0 : decode b_PL_order 0 = .ok (.aload_n 0, 1) := by decide +kernel
theorem d_PL_order_1 : decode b_PL_order 1 = .ok (.getfield 33, 3) := by decide +kernel
theorem d_PL_order_4 : decode b_PL_order 4 = .ok (.aload_n 0, 1) := by decide +kernel
theorem d_PL_order_5 : decode b_PL_order 5 = .ok (.getfield 19, 3) := by decide +kernel
theorem d_PL_order_8 : decode b_PL_order 8 = .ok (.aload_n 0, 1) := by decide +kernel
theorem d_PL_order_9 : decode b_PL_order 9 = .ok (.getfield 26, 3) := by decide +kernel
theorem d_PL_order_12 : decode b_PL_order 12 = .ok (.getfield 102, 3) := by decide +kernel
theorem d_PL_order_15 : decode b_PL_order 15 = .ok (.invokevirtual 111, 3) := by decide +kernel
theorem d_PL_order_18 : decode b_PL_order 18 = .ok (.aload_n 0, 1) := by decide +kernel
theorem d_PL_order_19 : decode b_PL_order 19 = .ok (.getfield 33, 3) := by decide +kernel
theorem d_PL_order_22 : decode b_PL_order 22 = .ok (.aload_n 0, 1) := by decide +kernel
theorem d_PL_order_23 : decode b_PL_order 23 = .ok (.getfield 40, 3) := by decide +kernel
theorem d_PL_order_26 : decode b_PL_order 26 = .ok (.invokevirtual 123, 3) := by decide +kernel
theorem d_PL_order_29 : decode b_PL_order 29 = .ok (.aload_n 0, 1) := by decide +kernel
theorem d_PL_order_30 : decode b_PL_order 30 = .ok (.getfield 33, 3) := by decide +kernel
theorem d_PL_order_33 : decode b_PL_order 33 = .ok (.aload_n 0, 1) := by decide +kernel
theorem d_PL_order_34 : decode b_PL_order 34 = .ok (.getfield 19, 3) := by decide +kernel
theorem d_PL_order_37 : decode b_PL_order 37 = .ok (.aload_n 0, 1) := by decide +kernel
theorem d_PL_order_38 : decode b_PL_order 38 = .ok (.getfield 26, 3) := by decide +kernel
theorem d_PL_order_41 : decode b_PL_order 41 = .ok (.getfield 102, 3) := by decide +kernel
theorem d_PL_order_44 : decode b_PL_order 44 = .ok (.iload_n 1, 1) := by decide +kernel
theorem d_PL_order_45 : decode b_PL_order 45 = .ok (.invokevirtual 133, 3) := by decide +kernel
theorem d_PL_order_48 : decode b_PL_order 48 = .ok (.ireturn, 1) := by decide +kernel
theorem mv_PL_155 : wk_V R_PL 155 R_Rl y_Rl_noteAt b_Rl_noteAt 3 (some .int) 2 := ⟨(gd _ (tb2 _ (List.mem_of_getElem? (i := 112) rfl)) rfl), (gd _ (tb0 _ (List.mem_of_getElem? (i := 7) rfl)) rfl), (gd _ (tb2 _ (List.mem_of_getElem? (i := 109) rfl)) rfl), (by decide +kernel), (gd _ (tb2 _ (List.mem_of_getElem? (i := 110) rfl)) rfl), (gd _ (tb2 _ (List.mem_of_getElem? (i := 111) rfl)) rfl)⟩
theorem d_PL_note_0 : decode b_PL_note 0 = .ok (.aload_n 0, 1) := by decide +kernel
theorem d_PL_note_1 : decode b_PL_note 1 = .ok (.getfield 40, 3) := by decide +kernel
theorem d_PL_note_4 : decode b_PL_note 4 = .ok (.iload_n 1, 1) := by decide +kernel
theorem d_PL_note_5 : decode b_PL_note 5 = .ok (.iload_n 2, 1) := by decide +kernel
theorem d_PL_note_6 : decode b_PL_note 6 = .ok (.invokevirtual 155, 3) := by decide +kernel
theorem d_PL_note_9 : decode b_PL_note 9 = .ok (.ireturn, 1) := by decide +kernel
theorem fl_PL_164 : Cond.fieldLink R_PL 164 R_St "turnedAway" "I" ∈ lw_gd := (gd _ (tb0 _ (List.mem_of_getElem? (i := 76) rfl)) rfl)
theorem fl_PL_167 : Cond.fieldLink R_PL 167 R_St "awayInOrder" "[I" ∈ lw_gd := (gd _ (tb0 _ (List.mem_of_getElem? (i := 70) rfl)) rfl)
theorem fl_PL_170 : Cond.fieldLink R_PL 170 R_St "reasons" "[I" ∈ lw_gd := (gd _ (tb0 _ (List.mem_of_getElem? (i := 68) rfl)) rfl)
theorem d_PL_refused_0 : decode b_PL_refused 0 = .ok (.iload_n 1, 1) := by decide +kernel
theorem d_PL_refused_1 : decode b_PL_refused 1 = .ok (.ifCond .lt 14, 3) := by decide +kernel
theorem d_PL_refused_4 : decode b_PL_refused 4 = .ok (.iload_n 1, 1) := by decide +kernel
theorem d_PL_refused_5 : decode b_PL_refused 5 = .ok (.aload_n 0, 1) := by decide +kernel
theorem d_PL_refused_6 : decode b_PL_refused 6 = .ok (.getfield 19, 3) := by decide +kernel
theorem d_PL_refused_9 : decode b_PL_refused 9 = .ok (.getfield 164, 3) := by decide +kernel
theorem d_PL_refused_12 : decode b_PL_refused 12 = .ok (.if_icmp .lt 5, 3) := by decide +kernel
theorem d_PL_refused_15 : decode b_PL_refused 15 = .ok (.iconst (-1), 1) := by decide +kernel
theorem d_PL_refused_16 : decode b_PL_refused 16 = .ok (.ireturn, 1) := by decide +kernel
theorem d_PL_refused_17 : decode b_PL_refused 17 = .ok (.aload_n 0, 1) := by decide +kernel
theorem d_PL_refused_18 : decode b_PL_refused 18 = .ok (.getfield 19, 3) := by decide +kernel
theorem d_PL_refused_21 : decode b_PL_refused 21 = .ok (.getfield 167, 3) := by decide +kernel
theorem d_PL_refused_24 : decode b_PL_refused 24 = .ok (.iload_n 1, 1) := by decide +kernel
theorem d_PL_refused_25 : decode b_PL_refused 25 = .ok (.iaload, 1) := by decide +kernel
theorem d_PL_refused_26 : decode b_PL_refused 26 = .ok (.istore_n 2, 1) := by decide +kernel
theorem d_PL_refused_27 : decode b_PL_refused 27 = .ok (.bipush 10, 2) := by decide +kernel
theorem d_PL_refused_29 : decode b_PL_refused 29 = .ok (.iload_n 2, 1) := by decide +kernel
theorem d_PL_refused_30 : decode b_PL_refused 30 = .ok (.imul, 1) := by decide +kernel
theorem d_PL_refused_31 : decode b_PL_refused 31 = .ok (.aload_n 0, 1) := by decide +kernel
theorem d_PL_refused_32 : decode b_PL_refused 32 = .ok (.getfield 19, 3) := by decide +kernel
theorem d_PL_refused_35 : decode b_PL_refused 35 = .ok (.getfield 170, 3) := by decide +kernel
theorem d_PL_refused_38 : decode b_PL_refused 38 = .ok (.iload_n 2, 1) := by decide +kernel
theorem d_PL_refused_39 : decode b_PL_refused 39 = .ok (.iaload, 1) := by decide +kernel
theorem d_PL_refused_40 : decode b_PL_refused 40 = .ok (.iadd, 1) := by decide +kernel
theorem d_PL_refused_41 : decode b_PL_refused 41 = .ok (.ireturn, 1) := by decide +kernel
theorem mv_PL_158 : wk_V R_PL 158 R_St y_St_isRefused b_St_isRefused 2 (some .boolean) 1 := ⟨(gd _ (tb1 _ (List.mem_of_getElem? (i := 215) rfl)) rfl), (gd _ (tb0 _ (List.mem_of_getElem? (i := 3) rfl)) rfl), (gd _ (tb2 _ (List.mem_of_getElem? (i := 117) rfl)) rfl), (by decide +kernel), (gd _ (tb1 _ (List.mem_of_getElem? (i := 213) rfl)) rfl), (gd _ (tb1 _ (List.mem_of_getElem? (i := 214) rfl)) rfl)⟩
theorem mv_PL_161 : wk_V R_PL 161 R_St y_St_turnAway b_St_turnAway 3 (some .int) 2 := ⟨(gd _ (tb2 _ (List.mem_of_getElem? (i := 121) rfl)) rfl), (gd _ (tb0 _ (List.mem_of_getElem? (i := 3) rfl)) rfl), (gd _ (tb2 _ (List.mem_of_getElem? (i := 118) rfl)) rfl), (by decide +kernel), (gd _ (tb2 _ (List.mem_of_getElem? (i := 119) rfl)) rfl), (gd _ (tb2 _ (List.mem_of_getElem? (i := 120) rfl)) rfl)⟩
theorem d_PL_refuse_0 : decode b_PL_refuse 0 = .ok (.aload_n 0, 1) := by decide +kernel
theorem d_PL_refuse_1 : decode b_PL_refuse 1 = .ok (.getfield 19, 3) := by decide +kernel
theorem d_PL_refuse_4 : decode b_PL_refuse 4 = .ok (.iload_n 1, 1) := by decide +kernel
theorem d_PL_refuse_5 : decode b_PL_refuse 5 = .ok (.invokevirtual 99, 3) := by decide +kernel
theorem d_PL_refuse_8 : decode b_PL_refuse 8 = .ok (.ifCond .eq 18, 3) := by decide +kernel
theorem d_PL_refuse_11 : decode b_PL_refuse 11 = .ok (.iload_n 2, 1) := by decide +kernel
theorem d_PL_refuse_12 : decode b_PL_refuse 12 = .ok (.iconst 1, 1) := by decide +kernel
theorem d_PL_refuse_13 : decode b_PL_refuse 13 = .ok (.if_icmp .lt 13, 3) := by decide +kernel
theorem d_PL_refuse_16 : decode b_PL_refuse 16 = .ok (.iload_n 2, 1) := by decide +kernel
theorem d_PL_refuse_17 : decode b_PL_refuse 17 = .ok (.bipush 9, 2) := by decide +kernel
theorem d_PL_refuse_19 : decode b_PL_refuse 19 = .ok (.if_icmp .gt 7, 3) := by decide +kernel
theorem d_PL_refuse_22 : decode b_PL_refuse 22 = .ok (.iconst 1, 1) := by decide +kernel
theorem d_PL_refuse_23 : decode b_PL_refuse 23 = .ok (.goto 4, 3) := by decide +kernel
theorem d_PL_refuse_26 : decode b_PL_refuse 26 = .ok (.iconst 0, 1) := by decide +kernel
theorem d_PL_refuse_27 : decode b_PL_refuse 27 = .ok (.istore_n 3, 1) := by decide +kernel
theorem d_PL_refuse_28 : decode b_PL_refuse 28 = .ok (.iload_n 3, 1) := by decide +kernel
theorem d_PL_refuse_29 : decode b_PL_refuse 29 = .ok (.ifCond .eq 14, 3) := by decide +kernel
theorem d_PL_refuse_32 : decode b_PL_refuse 32 = .ok (.aload_n 0, 1) := by decide +kernel
theorem d_PL_refuse_33 : decode b_PL_refuse 33 = .ok (.getfield 19, 3) := by decide +kernel
theorem d_PL_refuse_36 : decode b_PL_refuse 36 = .ok (.iload_n 1, 1) := by decide +kernel
theorem d_PL_refuse_37 : decode b_PL_refuse 37 = .ok (.invokevirtual 158, 3) := by decide +kernel
theorem d_PL_refuse_40 : decode b_PL_refuse 40 = .ok (.ifCond .eq 5, 3) := by decide +kernel
theorem d_PL_refuse_43 : decode b_PL_refuse 43 = .ok (.iconst (-1), 1) := by decide +kernel
theorem d_PL_refuse_44 : decode b_PL_refuse 44 = .ok (.ireturn, 1) := by decide +kernel
theorem d_PL_refuse_45 : decode b_PL_refuse 45 = .ok (.aload_n 0, 1) := by decide +kernel
theorem d_PL_refuse_46 : decode b_PL_refuse 46 = .ok (.iconst 0, 1) := by decide +kernel
theorem d_PL_refuse_47 : decode b_PL_refuse 47 = .ok (.putfield 47, 3) := by decide +kernel
theorem d_PL_refuse_50 : decode b_PL_refuse 50 = .ok (.aload_n 0, 1) := by decide +kernel
theorem d_PL_refuse_51 : decode b_PL_refuse 51 = .ok (.getfield 19, 3) := by decide +kernel
theorem d_PL_refuse_54 : decode b_PL_refuse 54 = .ok (.iload_n 1, 1) := by decide +kernel
theorem d_PL_refuse_55 : decode b_PL_refuse 55 = .ok (.iload_n 2, 1) := by decide +kernel
theorem d_PL_refuse_56 : decode b_PL_refuse 56 = .ok (.invokevirtual 161, 3) := by decide +kernel
theorem d_PL_refuse_59 : decode b_PL_refuse 59 = .ok (.ireturn, 1) := by decide +kernel
theorem fl_PL_173 : Cond.fieldLink R_PL 173 R_St "classes" "[I" ∈ lw_gd := (gd _ (tb0 _ (List.mem_of_getElem? (i := 61) rfl)) rfl)
theorem fl_PL_176 : Cond.fieldLink R_PL 176 R_St "steps" "[I" ∈ lw_gd := (gd _ (tb0 _ (List.mem_of_getElem? (i := 66) rfl)) rfl)
theorem mv_PL_179 : wk_V R_PL 179 R_Rl y_Rl_outcomeOf b_Rl_outcomeOf 3 (some .int) 2 := ⟨(gd _ (tb2 _ (List.mem_of_getElem? (i := 133) rfl)) rfl), (gd _ (tb0 _ (List.mem_of_getElem? (i := 7) rfl)) rfl), (gd _ (tb2 _ (List.mem_of_getElem? (i := 130) rfl)) rfl), (by decide +kernel), (gd _ (tb2 _ (List.mem_of_getElem? (i := 131) rfl)) rfl), (gd _ (tb2 _ (List.mem_of_getElem? (i := 132) rfl)) rfl)⟩
theorem mv_PL_182 : wk_V R_PL 182 R_St y_St_learn b_St_learn 3 (some .int) 2 := ⟨(gd _ (tb2 _ (List.mem_of_getElem? (i := 137) rfl)) rfl), (gd _ (tb0 _ (List.mem_of_getElem? (i := 3) rfl)) rfl), (gd _ (tb2 _ (List.mem_of_getElem? (i := 134) rfl)) rfl), (by decide +kernel), (gd _ (tb2 _ (List.mem_of_getElem? (i := 135) rfl)) rfl), (gd _ (tb2 _ (List.mem_of_getElem? (i := 136) rfl)) rfl)⟩
theorem d_PL_test_0 : decode b_PL_test 0 = .ok (.aload_n 0, 1) := by decide +kernel
theorem d_PL_test_1 : decode b_PL_test 1 = .ok (.getfield 19, 3) := by decide +kernel
theorem d_PL_test_4 : decode b_PL_test 4 = .ok (.iload_n 1, 1) := by decide +kernel
theorem d_PL_test_5 : decode b_PL_test 5 = .ok (.invokevirtual 99, 3) := by decide +kernel
theorem d_PL_test_8 : decode b_PL_test 8 = .ok (.ifCond .eq 29, 3) := by decide +kernel
theorem d_PL_test_11 : decode b_PL_test 11 = .ok (.aload_n 0, 1) := by decide +kernel
theorem d_PL_test_12 : decode b_PL_test 12 = .ok (.getfield 19, 3) := by decide +kernel
theorem d_PL_test_15 : decode b_PL_test 15 = .ok (.getfield 173, 3) := by decide +kernel
theorem d_PL_test_18 : decode b_PL_test 18 = .ok (.iload_n 1, 1) := by decide +kernel
theorem d_PL_test_19 : decode b_PL_test 19 = .ok (.iaload, 1) := by decide +kernel
theorem d_PL_test_20 : decode b_PL_test 20 = .ok (.iconst (-1), 1) := by decide +kernel
theorem d_PL_test_21 : decode b_PL_test 21 = .ok (.if_icmp .ne 16, 3) := by decide +kernel
theorem d_PL_test_24 : decode b_PL_test 24 = .ok (.aload_n 0, 1) := by decide +kernel
theorem d_PL_test_25 : decode b_PL_test 25 = .ok (.getfield 19, 3) := by decide +kernel
theorem d_PL_test_28 : decode b_PL_test 28 = .ok (.getfield 176, 3) := by decide +kernel
theorem d_PL_test_31 : decode b_PL_test 31 = .ok (.iload_n 1, 1) := by decide +kernel
theorem d_PL_test_32 : decode b_PL_test 32 = .ok (.iaload, 1) := by decide +kernel
theorem d_PL_test_33 : decode b_PL_test 33 = .ok (.iload_n 2, 1) := by decide +kernel
theorem d_PL_test_34 : decode b_PL_test 34 = .ok (.if_icmp .eq 6, 3) := by decide +kernel
theorem d_PL_test_37 : decode b_PL_test 37 = .ok (.bipush (-100), 2) := by decide +kernel
theorem d_PL_test_39 : decode b_PL_test 39 = .ok (.ireturn, 1) := by decide +kernel
theorem d_PL_test_40 : decode b_PL_test 40 = .ok (.aload_n 0, 1) := by decide +kernel
theorem d_PL_test_41 : decode b_PL_test 41 = .ok (.getfield 40, 3) := by decide +kernel
theorem d_PL_test_44 : decode b_PL_test 44 = .ok (.iload_n 2, 1) := by decide +kernel
theorem d_PL_test_45 : decode b_PL_test 45 = .ok (.iload_n 3, 1) := by decide +kernel
theorem d_PL_test_46 : decode b_PL_test 46 = .ok (.invokevirtual 179, 3) := by decide +kernel
theorem d_PL_test_49 : decode b_PL_test 49 = .ok (.istore 4, 2) := by decide +kernel
theorem d_PL_test_51 : decode b_PL_test 51 = .ok (.iload 4, 2) := by decide +kernel
theorem d_PL_test_53 : decode b_PL_test 53 = .ok (.iconst (-1), 1) := by decide +kernel
theorem d_PL_test_54 : decode b_PL_test 54 = .ok (.if_icmp .ne 6, 3) := by decide +kernel
theorem d_PL_test_57 : decode b_PL_test 57 = .ok (.bipush (-100), 2) := by decide +kernel
theorem d_PL_test_59 : decode b_PL_test 59 = .ok (.ireturn, 1) := by decide +kernel
theorem d_PL_test_60 : decode b_PL_test 60 = .ok (.aload_n 0, 1) := by decide +kernel
theorem d_PL_test_61 : decode b_PL_test 61 = .ok (.iconst 0, 1) := by decide +kernel
theorem d_PL_test_62 : decode b_PL_test 62 = .ok (.putfield 47, 3) := by decide +kernel
theorem d_PL_test_65 : decode b_PL_test 65 = .ok (.aload_n 0, 1) := by decide +kernel
theorem d_PL_test_66 : decode b_PL_test 66 = .ok (.getfield 19, 3) := by decide +kernel
theorem d_PL_test_69 : decode b_PL_test 69 = .ok (.iload_n 1, 1) := by decide +kernel
theorem d_PL_test_70 : decode b_PL_test 70 = .ok (.iload 4, 2) := by decide +kernel
theorem d_PL_test_72 : decode b_PL_test 72 = .ok (.invokevirtual 182, 3) := by decide +kernel
theorem d_PL_test_75 : decode b_PL_test 75 = .ok (.ireturn, 1) := by decide +kernel
set_option maxHeartbeats 4000000 in
set_option maxRecDepth 100000 in
theorem c_PL_unit (l : Launch) (D : va_G) (cI : CiT) (z : GzT) (o : Nat → Nat) (t : Nat → Nat) (s : Nat → Nat) (k : Nat → Nat) (a : Nat → Nat) (w : Nat → Nat) (q : Nat → Nat) (ut : Bool) (ty : (Nat → Nat)) (nu : (Nat → Nat)) (ln : Nat) (gt : Nat) (ok : Nat) (sn : Nat) (x : Int32) (hln : ln ≤ 1500) : wk_C l D (tyK cI) (gX z) y_PL_unit b_PL_unit 2 (some .boolean) 1 21 0 0 [.ref (o 0), .int (x)] (wPL o cI (t 0) (s 0) (k 0) (a 0) (w 0) (q 0) ut ++ (wTx t cI (zA z) ty nu ln gt ok sn)) wk_i (fun (r : Int32) (u : (Nat → Nat) × Nat × Bool) => r = bI (unS ty ln ut x).1 ∧ u = (unS ty ln ut x).2) (fun u => (wPL o cI (t 0) (s 0) (k 0) (a 0) (w 0) (q 0) u.2.2 ++ (wTx t cI (zA z) u.1 nu u.2.1 gt ok sn))) := by
  refine wk_methZ (own := R_PL) [(0, .ref (o 0)), (1, .int (x))] (by decide) rfl (Nat.le_of_ble_eq_true rfl) rfl (gX_ok z) (fun p_ e_ R_ s_ m_ ar_ be_ me_ co_ Q_ A_ hR_ S_ hnm_ hQ_ => ?_)
  refine wk_aload_n (pc := 0) S_ 0 d_PL_unit_0 rfl rfl ?_
  refine wk_get (pc := 1) (v := .ref (t 0)) S_ 0 0 0 in_PL rfl (by decide) rfl fl_PL_12 d_PL_unit_1 rfl rfl ?_
  refine wk_iload_n (pc := 4) S_ 1 d_PL_unit_4 rfl rfl ?_
  refine wk_run (pc := 5) (rest := []) (wr := (wPL o cI (t 0) (s 0) (k 0) (a 0) (w 0) (q 0) ut)) (wN := fun u5 => (wPL o cI (t 0) (s 0) (k 0) (a 0) (w 0) (q 0) ut ++ (wTx t cI (zA z) u5.1 nu u5.2 gt ok sn))) S_ (wk_rV S_ (c_Tx_takeByte l D cI z (t) (ty) (nu) (ln) (gt) (ok) (sn) (x) (by omega)) mv_PL_51 (wk_rcv S_ 0 1 rfl rfl rfl) rfl rfl (Nat.le_of_ble_eq_true rfl) (by rw [hR_]; decide) (by rw [hR_]; decide) d_PL_unit_5) [1, 2, 3] [0] [0, 1, 2, 3] rfl rfl rfl (by decide) (by decide) (by decide) (by decide) (fun _ => rfl) (fun _ => rfl) (fun r5 u5 hw5 => ?_)
  refine wk_st (st' := [.int (r5)]) rfl ?_
  refine wk_top (y := (bI ((unS ty ln true x).1))) hw5.1 ?_
  refine wk_if_neB (pc := 8) (tgt := 13) S_ d_PL_unit_8 (by decide) (fun h8 => ?_) (fun h8 => ?_)
  · -- taken
    refine wk_aload_n (pc := 13) S_ 0 d_PL_unit_13 rfl rfl ?_
    refine wk_iconst (pc := 14) (v := (nI (0))) S_ d_PL_unit_14 (by decide) ?_
    refine wk_put (pc := 15) (ty := .boolean) (ws' := (wPL o cI (t 0) (s 0) (k 0) (a 0) (w 0) (q 0) false ++ (wTx t cI (zA z) u5.1 nu u5.2 gt ok sn))) S_ 0 6 0 in_PL t_PL t_PL_ok n_PL rfl (by decide) rfl fl_PL_47 (by decide +kernel) d_PL_unit_15 rfl rfl rfl (Nat.le_of_ble_eq_true rfl) rfl ?_
    refine wk_iconst (pc := 18) (v := (nI (1))) S_ d_PL_unit_18 (by decide) ?_
    exact hQ_ (nI (1)) (u5.1, u5.2, false) d_PL_unit_19 rfl rfl (by rw [unS_yes h8 ut, hw5.2.1, hw5.2.2, unS_yes h8 true]; exact ⟨rfl, rfl⟩)
  · -- on
    refine wk_iconst (pc := 11) (v := (nI (0))) S_ d_PL_unit_11 (by decide) ?_
    exact hQ_ (nI (0)) (u5.1, u5.2, ut) d_PL_unit_12 rfl rfl (by rw [unS_no h8 ut, hw5.2.1, hw5.2.2, unS_no h8 true]; exact ⟨rfl, rfl⟩)
set_option maxHeartbeats 4000000 in
set_option maxRecDepth 100000 in
theorem c_PL_bottle (l : Launch) (D : va_G) (cI : CiT) (z : GzT) (o : Nat → Nat) (s : Nat → Nat) (t : Nat → Nat) (k : Nat → Nat) (a : Nat → Nat) (w : Nat → Nat) (q : Nat → Nat) (ut : Bool) (cl : (Nat → Nat)) (gr : (Nat → Nat)) (sp : (Nat → Nat)) (rs : (Nat → Nat)) (aw : (Nat → Nat)) (nb : Nat) (na : Nat) (bg : (Nat → Nat)) (bb : (Nat → Nat)) (ab : (Nat → Nat)) (nx : Nat) (x : Int32) (y : Int64) (hnb : nb ≤ 8) : wk_C l D (tyK cI) (gX z) y_PL_bottle b_PL_bottle 5 (some .int) 1 22 0 0 [.ref (o 0), .int (x), .long (y)] (wPL o cI (t 0) (s 0) (k 0) (a 0) (w 0) (q 0) ut ++ (wSt s cI cl gr sp rs aw nb na bg bb ab nx)) wk_i (fun (r : Int32) (u : (Nat → Nat) × (Nat → Nat) × Nat × Bool) => r = zI (boS cl gr nb ut x y).1 ∧ u = (boS cl gr nb ut x y).2) (fun u => (wPL o cI (t 0) (s 0) (k 0) (a 0) (w 0) (q 0) u.2.2.2 ++ (wSt s cI u.1 u.2.1 sp rs aw u.2.2.1 na bg bb ab nx))) := by
  refine wk_methI (own := R_PL) [(0, .ref (o 0)), (1, .int (x)), (2, .long (y))] (by decide) rfl (Nat.le_of_ble_eq_true rfl) rfl (gX_ok z) (fun p_ e_ R_ s_ m_ ar_ be_ me_ co_ Q_ A_ hR_ S_ hnm_ hQ_ => ?_)
  refine wk_iload_n (pc := 0) S_ 1 d_PL_bottle_0 rfl rfl ?_
  refine wk_iconst (pc := 1) (v := (-1)) S_ d_PL_bottle_1 (by decide) ?_
  refine wk_icmp_eq (pc := 2) (tgt := 12) S_ d_PL_bottle_2 (by decide) (fun h2 => ?_) (fun h2 => ?_)
  · -- taken
    refine wk_lload_n (pc := 12) S_ 2 d_PL_bottle_12 rfl rfl ?_
    refine wk_lconst (pc := 13) (v := (lN (1))) S_ d_PL_bottle_13 (by decide) ?_
    refine wk_lcmp (pc := 14) S_ d_PL_bottle_14 ?_
    refine wk_cmp_lt (pc := 15) (tgt := 30) S_ d_PL_bottle_15 (by decide) (fun h15 => ?_) (fun h15 => ?_)
    · -- taken
      refine wk_iconst (pc := 30) (v := (nI (0))) S_ d_PL_bottle_30 (by decide) ?_
      refine wk_istore (pc := 31) (lv' := [(4, .int (nI (0))), (0, .ref (o 0)), (1, .int (x)), (2, .long (y))]) S_ d_PL_bottle_31 (by decide) rfl ?_
      refine wk_iload (pc := 33) S_ 0 d_PL_bottle_33 rfl ?_
      refine wk_if_eqN (pc := 35) (tgt := 50) S_ d_PL_bottle_35 (by decide) (by omega) (fun h35 => ?_) (fun h35 => absurd h35 (by decide))
      refine wk_iconst (pc := 50) (v := (-1)) S_ d_PL_bottle_50 (by decide) ?_
      exact hQ_ (-1) (cl, gr, nb, ut) d_PL_bottle_51 rfl (by rw [boS, if_neg (fun z => by rw [lxI_lo h15] at z; exact absurd z.2.2 (by decide))]; exact ⟨zI_0.symm, rfl⟩)
    · -- on
      refine wk_lload_n (pc := 18) S_ 2 d_PL_bottle_18 rfl rfl ?_
      refine wk_ldc2 (pc := 19) (v := (lN (100000))) S_ kc_PL_68 d_PL_bottle_19 ?_
      refine wk_lcmp (pc := 22) S_ d_PL_bottle_22 ?_
      refine wk_cmp_gt (pc := 23) (tgt := 30) S_ d_PL_bottle_23 (by decide) (fun h23 => ?_) (fun h23 => ?_)
      · -- taken
        refine wk_iconst (pc := 30) (v := (nI (0))) S_ d_PL_bottle_30 (by decide) ?_
        refine wk_istore (pc := 31) (lv' := [(4, .int (nI (0))), (0, .ref (o 0)), (1, .int (x)), (2, .long (y))]) S_ d_PL_bottle_31 (by decide) rfl ?_
        refine wk_iload (pc := 33) S_ 0 d_PL_bottle_33 rfl ?_
        refine wk_if_eqN (pc := 35) (tgt := 50) S_ d_PL_bottle_35 (by decide) (by omega) (fun h35 => ?_) (fun h35 => absurd h35 (by decide))
        refine wk_iconst (pc := 50) (v := (-1)) S_ d_PL_bottle_50 (by decide) ?_
        exact hQ_ (-1) (cl, gr, nb, ut) d_PL_bottle_51 rfl (by rw [boS, if_neg (fun z => by rw [lxI_hi h23] at z; exact absurd z.2.2 (by decide))]; exact ⟨zI_0.symm, rfl⟩)
      · -- on
        refine wk_iconst (pc := 26) (v := (nI (1))) S_ d_PL_bottle_26 (by decide) ?_
        refine wk_goto (pc := 27) (tgt := 31) S_ d_PL_bottle_27 (by decide) ?_
        refine wk_istore (pc := 31) (lv' := [(4, .int (nI (1))), (0, .ref (o 0)), (1, .int (x)), (2, .long (y))]) S_ d_PL_bottle_31 (by decide) rfl ?_
        refine wk_iload (pc := 33) S_ 0 d_PL_bottle_33 rfl ?_
        refine wk_if_eqN (pc := 35) (tgt := 50) S_ d_PL_bottle_35 (by decide) (by omega) (fun h35 => absurd h35 (by decide)) (fun h35 => ?_)
        refine wk_aload_n (pc := 38) S_ 1 d_PL_bottle_38 rfl rfl ?_
        refine wk_get (pc := 39) (v := .ref (s 0)) S_ 0 1 0 in_PL rfl (by decide) rfl fl_PL_19 d_PL_bottle_39 rfl rfl ?_
        refine wk_get (pc := 42) (v := .int (nI (nb))) S_ 2 5 1 in_St rfl (by decide) rfl fl_PL_70 d_PL_bottle_42 rfl rfl ?_
        refine wk_bipush (pc := 45) (v := (nI (8))) S_ d_PL_bottle_45 (by decide) ?_
        refine wk_icmp_ltN (pc := 47) (tgt := 52) S_ d_PL_bottle_47 (by decide) (by omega) (by omega) (fun h47 => ?_) (fun h47 => ?_)
        · -- taken
          have hx9 : clOk x = true := clOk_1 h2
          have hl9 : lxI y (lN 1) (lN 100000) = true := lxI_ok h15 h23
          obtain ⟨c, hc, rfl⟩ := clOk_of hx9
          obtain ⟨v, hva, hvb, rfl⟩ := lx_of hl9 (by decide) (by decide)
          refine wk_aload_n (pc := 52) S_ 1 d_PL_bottle_52 rfl rfl ?_
          refine wk_iconst (pc := 53) (v := (nI (0))) S_ d_PL_bottle_53 (by decide) ?_
          refine wk_put (pc := 54) (ty := .boolean) (ws' := (wPL o cI (t 0) (s 0) (k 0) (a 0) (w 0) (q 0) false ++ (wSt s cI cl gr sp rs aw nb na bg bb ab nx))) S_ 0 6 0 in_PL t_PL t_PL_ok n_PL rfl (by decide) rfl fl_PL_47 (by decide +kernel) d_PL_bottle_54 rfl rfl rfl (Nat.le_of_ble_eq_true rfl) rfl ?_
          refine wk_aload_n (pc := 57) S_ 1 d_PL_bottle_57 rfl rfl ?_
          refine wk_get (pc := 58) (v := .ref (s 0)) S_ 0 1 0 in_PL rfl (by decide) rfl fl_PL_19 d_PL_bottle_58 rfl rfl ?_
          refine wk_iload_n (pc := 61) S_ 2 d_PL_bottle_61 rfl rfl ?_
          refine wk_lload_n (pc := 62) S_ 3 d_PL_bottle_62 rfl rfl ?_
          refine wk_l2iN (pc := 63) S_ d_PL_bottle_63 ?_
          refine wk_run (pc := 64) (rest := []) (wr := (wPL o cI (t 0) (s 0) (k 0) (a 0) (w 0) (q 0) false)) (wN := fun _ => (wPL o cI (t 0) (s 0) (k 0) (a 0) (w 0) (q 0) false ++ (wSt s cI (va_up (cl) (nb) (c)) (va_up (gr) (nb) (v)) sp rs aw ((nb) + 1) na bg bb ab nx))) S_ (wk_rV S_ (c_St_addBottle l D cI z (s) (cl) (gr) (sp) (rs) (aw) (nb) (na) (bg) (bb) (ab) (nx) (c) (v) (by omega)) mv_PL_74 (wk_rcv S_ 0 2 rfl rfl rfl) rfl rfl (Nat.le_of_ble_eq_true rfl) (by rw [hR_]; decide) (by rw [hR_]; decide) d_PL_bottle_64) [1, 2, 3, 4, 5, 6, 7, 8, 9] [0] [0, 1, 2, 3, 4, 5, 6, 7, 8, 9] rfl rfl rfl (by decide) (by decide) (by decide) (by decide) (fun _ => rfl) (fun _ => rfl) (fun r64 _ hw64 => ?_)
          refine wk_st (st' := [.int (r64)]) rfl ?_
          refine wk_top (y := (nI ((nb)))) hw64 ?_
          exact hQ_ (nI ((nb))) (va_up (cl) (nb) (c), va_up (gr) (nb) (v), (nb) + 1, false) d_PL_bottle_67 rfl (by rw [boS, if_pos ⟨by omega, hx9, hl9⟩, yN_z (by omega), gN_l (by omega)]; exact ⟨(zI_s nb).symm, rfl⟩)
        · -- on
          refine wk_iconst (pc := 50) (v := (-1)) S_ d_PL_bottle_50 (by decide) ?_
          exact hQ_ (-1) (cl, gr, nb, ut) d_PL_bottle_51 rfl (by rw [boS, if_neg (fun z => by omega)]; exact ⟨zI_0.symm, rfl⟩)
  · -- on
    refine wk_iload_n (pc := 5) S_ 1 d_PL_bottle_5 rfl rfl ?_
    refine wk_run (pc := 6) (rest := []) (wr := (wPL o cI (t 0) (s 0) (k 0) (a 0) (w 0) (q 0) ut ++ (wSt s cI cl gr sp rs aw nb na bg bb ab nx))) (wN := fun _ => (wPL o cI (t 0) (s 0) (k 0) (a 0) (w 0) (q 0) ut ++ (wSt s cI cl gr sp rs aw nb na bg bb ab nx))) S_ (wk_rS S_ (c_PL_isClass l D cI z (x)) mv_PL_65 rfl rfl (Nat.le_of_ble_eq_true rfl) (by rw [hR_]; decide) (by rw [hR_]; decide) d_PL_bottle_6) [] [0, 1, 2, 3, 4, 5, 6, 7, 8, 9] [0, 1, 2, 3, 4, 5, 6, 7, 8, 9] rfl rfl rfl (by decide) (by decide) (by decide) (by decide) (fun _ => rfl) (fun _ => rfl) (fun r6 _ hw6 => ?_)
    refine wk_st (st' := [.int (r6)]) rfl ?_
    refine wk_top (y := (bI (ixI 9 (x)))) hw6 ?_
    refine wk_if_eqB (pc := 9) (tgt := 30) S_ d_PL_bottle_9 (by decide) (fun h9 => ?_) (fun h9 => ?_)
    · -- taken
      refine wk_iconst (pc := 30) (v := (nI (0))) S_ d_PL_bottle_30 (by decide) ?_
      refine wk_istore (pc := 31) (lv' := [(4, .int (nI (0))), (0, .ref (o 0)), (1, .int (x)), (2, .long (y))]) S_ d_PL_bottle_31 (by decide) rfl ?_
      refine wk_iload (pc := 33) S_ 0 d_PL_bottle_33 rfl ?_
      refine wk_if_eqN (pc := 35) (tgt := 50) S_ d_PL_bottle_35 (by decide) (by omega) (fun h35 => ?_) (fun h35 => absurd h35 (by decide))
      refine wk_iconst (pc := 50) (v := (-1)) S_ d_PL_bottle_50 (by decide) ?_
      exact hQ_ (-1) (cl, gr, nb, ut) d_PL_bottle_51 rfl (by rw [boS, if_neg (fun z => by rw [clOk_f h2 h9] at z; exact absurd z.2.1 (by decide))]; exact ⟨zI_0.symm, rfl⟩)
    · -- on
      refine wk_lload_n (pc := 12) S_ 2 d_PL_bottle_12 rfl rfl ?_
      refine wk_lconst (pc := 13) (v := (lN (1))) S_ d_PL_bottle_13 (by decide) ?_
      refine wk_lcmp (pc := 14) S_ d_PL_bottle_14 ?_
      refine wk_cmp_lt (pc := 15) (tgt := 30) S_ d_PL_bottle_15 (by decide) (fun h15 => ?_) (fun h15 => ?_)
      · -- taken
        refine wk_iconst (pc := 30) (v := (nI (0))) S_ d_PL_bottle_30 (by decide) ?_
        refine wk_istore (pc := 31) (lv' := [(4, .int (nI (0))), (0, .ref (o 0)), (1, .int (x)), (2, .long (y))]) S_ d_PL_bottle_31 (by decide) rfl ?_
        refine wk_iload (pc := 33) S_ 0 d_PL_bottle_33 rfl ?_
        refine wk_if_eqN (pc := 35) (tgt := 50) S_ d_PL_bottle_35 (by decide) (by omega) (fun h35 => ?_) (fun h35 => absurd h35 (by decide))
        refine wk_iconst (pc := 50) (v := (-1)) S_ d_PL_bottle_50 (by decide) ?_
        exact hQ_ (-1) (cl, gr, nb, ut) d_PL_bottle_51 rfl (by rw [boS, if_neg (fun z => by rw [lxI_lo h15] at z; exact absurd z.2.2 (by decide))]; exact ⟨zI_0.symm, rfl⟩)
      · -- on
        refine wk_lload_n (pc := 18) S_ 2 d_PL_bottle_18 rfl rfl ?_
        refine wk_ldc2 (pc := 19) (v := (lN (100000))) S_ kc_PL_68 d_PL_bottle_19 ?_
        refine wk_lcmp (pc := 22) S_ d_PL_bottle_22 ?_
        refine wk_cmp_gt (pc := 23) (tgt := 30) S_ d_PL_bottle_23 (by decide) (fun h23 => ?_) (fun h23 => ?_)
        · -- taken
          refine wk_iconst (pc := 30) (v := (nI (0))) S_ d_PL_bottle_30 (by decide) ?_
          refine wk_istore (pc := 31) (lv' := [(4, .int (nI (0))), (0, .ref (o 0)), (1, .int (x)), (2, .long (y))]) S_ d_PL_bottle_31 (by decide) rfl ?_
          refine wk_iload (pc := 33) S_ 0 d_PL_bottle_33 rfl ?_
          refine wk_if_eqN (pc := 35) (tgt := 50) S_ d_PL_bottle_35 (by decide) (by omega) (fun h35 => ?_) (fun h35 => absurd h35 (by decide))
          refine wk_iconst (pc := 50) (v := (-1)) S_ d_PL_bottle_50 (by decide) ?_
          exact hQ_ (-1) (cl, gr, nb, ut) d_PL_bottle_51 rfl (by rw [boS, if_neg (fun z => by rw [lxI_hi h23] at z; exact absurd z.2.2 (by decide))]; exact ⟨zI_0.symm, rfl⟩)
        · -- on
          refine wk_iconst (pc := 26) (v := (nI (1))) S_ d_PL_bottle_26 (by decide) ?_
          refine wk_goto (pc := 27) (tgt := 31) S_ d_PL_bottle_27 (by decide) ?_
          refine wk_istore (pc := 31) (lv' := [(4, .int (nI (1))), (0, .ref (o 0)), (1, .int (x)), (2, .long (y))]) S_ d_PL_bottle_31 (by decide) rfl ?_
          refine wk_iload (pc := 33) S_ 0 d_PL_bottle_33 rfl ?_
          refine wk_if_eqN (pc := 35) (tgt := 50) S_ d_PL_bottle_35 (by decide) (by omega) (fun h35 => absurd h35 (by decide)) (fun h35 => ?_)
          refine wk_aload_n (pc := 38) S_ 1 d_PL_bottle_38 rfl rfl ?_
          refine wk_get (pc := 39) (v := .ref (s 0)) S_ 0 1 0 in_PL rfl (by decide) rfl fl_PL_19 d_PL_bottle_39 rfl rfl ?_
          refine wk_get (pc := 42) (v := .int (nI (nb))) S_ 2 5 1 in_St rfl (by decide) rfl fl_PL_70 d_PL_bottle_42 rfl rfl ?_
          refine wk_bipush (pc := 45) (v := (nI (8))) S_ d_PL_bottle_45 (by decide) ?_
          refine wk_icmp_ltN (pc := 47) (tgt := 52) S_ d_PL_bottle_47 (by decide) (by omega) (by omega) (fun h47 => ?_) (fun h47 => ?_)
          · -- taken
            have hx9 : clOk x = true := clOk_2 h9
            have hl9 : lxI y (lN 1) (lN 100000) = true := lxI_ok h15 h23
            obtain ⟨c, hc, rfl⟩ := clOk_of hx9
            obtain ⟨v, hva, hvb, rfl⟩ := lx_of hl9 (by decide) (by decide)
            refine wk_aload_n (pc := 52) S_ 1 d_PL_bottle_52 rfl rfl ?_
            refine wk_iconst (pc := 53) (v := (nI (0))) S_ d_PL_bottle_53 (by decide) ?_
            refine wk_put (pc := 54) (ty := .boolean) (ws' := (wPL o cI (t 0) (s 0) (k 0) (a 0) (w 0) (q 0) false ++ (wSt s cI cl gr sp rs aw nb na bg bb ab nx))) S_ 0 6 0 in_PL t_PL t_PL_ok n_PL rfl (by decide) rfl fl_PL_47 (by decide +kernel) d_PL_bottle_54 rfl rfl rfl (Nat.le_of_ble_eq_true rfl) rfl ?_
            refine wk_aload_n (pc := 57) S_ 1 d_PL_bottle_57 rfl rfl ?_
            refine wk_get (pc := 58) (v := .ref (s 0)) S_ 0 1 0 in_PL rfl (by decide) rfl fl_PL_19 d_PL_bottle_58 rfl rfl ?_
            refine wk_iload_n (pc := 61) S_ 2 d_PL_bottle_61 rfl rfl ?_
            refine wk_lload_n (pc := 62) S_ 3 d_PL_bottle_62 rfl rfl ?_
            refine wk_l2iN (pc := 63) S_ d_PL_bottle_63 ?_
            refine wk_run (pc := 64) (rest := []) (wr := (wPL o cI (t 0) (s 0) (k 0) (a 0) (w 0) (q 0) false)) (wN := fun _ => (wPL o cI (t 0) (s 0) (k 0) (a 0) (w 0) (q 0) false ++ (wSt s cI (va_up (cl) (nb) (c)) (va_up (gr) (nb) (v)) sp rs aw ((nb) + 1) na bg bb ab nx))) S_ (wk_rV S_ (c_St_addBottle l D cI z (s) (cl) (gr) (sp) (rs) (aw) (nb) (na) (bg) (bb) (ab) (nx) (c) (v) (by omega)) mv_PL_74 (wk_rcv S_ 0 2 rfl rfl rfl) rfl rfl (Nat.le_of_ble_eq_true rfl) (by rw [hR_]; decide) (by rw [hR_]; decide) d_PL_bottle_64) [1, 2, 3, 4, 5, 6, 7, 8, 9] [0] [0, 1, 2, 3, 4, 5, 6, 7, 8, 9] rfl rfl rfl (by decide) (by decide) (by decide) (by decide) (fun _ => rfl) (fun _ => rfl) (fun r64 _ hw64 => ?_)
            refine wk_st (st' := [.int (r64)]) rfl ?_
            refine wk_top (y := (nI ((nb)))) hw64 ?_
            exact hQ_ (nI ((nb))) (va_up (cl) (nb) (c), va_up (gr) (nb) (v), (nb) + 1, false) d_PL_bottle_67 rfl (by rw [boS, if_pos ⟨by omega, hx9, hl9⟩, yN_z (by omega), gN_l (by omega)]; exact ⟨(zI_s nb).symm, rfl⟩)
          · -- on
            refine wk_iconst (pc := 50) (v := (-1)) S_ d_PL_bottle_50 (by decide) ?_
            exact hQ_ (-1) (cl, gr, nb, ut) d_PL_bottle_51 rfl (by rw [boS, if_neg (fun z => by omega)]; exact ⟨zI_0.symm, rfl⟩)
set_option maxHeartbeats 4000000 in
set_option maxRecDepth 100000 in
theorem c_PL_box (l : Launch) (D : va_G) (cI : CiT) (z : GzT) (o : Nat → Nat) (s : Nat → Nat) (t : Nat → Nat) (k : Nat → Nat) (a : Nat → Nat) (w : Nat → Nat) (q : Nat → Nat) (ut : Bool) (cl : (Nat → Nat)) (gr : (Nat → Nat)) (sp : (Nat → Nat)) (rs : (Nat → Nat)) (aw : (Nat → Nat)) (nb : Nat) (na : Nat) (bg : (Nat → Nat)) (bb : (Nat → Nat)) (ab : (Nat → Nat)) (nx : Nat) (x : Int32) (y : Int64) (i : Int32) (hnx : nx ≤ 5) : wk_C l D (tyK cI) (gX z) y_PL_box b_PL_box 6 (some .int) 1 22 0 0 [.ref (o 0), .int (x), .long (y), .int (i)] (wPL o cI (t 0) (s 0) (k 0) (a 0) (w 0) (q 0) ut ++ (wSt s cI cl gr sp rs aw nb na bg bb ab nx)) wk_i (fun (r : Int32) (u : (Nat → Nat) × (Nat → Nat) × Nat × Bool) => r = zI (bxS bg bb nx ut x y i).1 ∧ u = (bxS bg bb nx ut x y i).2) (fun u => (wPL o cI (t 0) (s 0) (k 0) (a 0) (w 0) (q 0) u.2.2.2 ++ (wSt s cI cl gr sp rs aw nb na u.1 u.2.1 ab u.2.2.1))) := by
  refine wk_methI (own := R_PL) [(0, .ref (o 0)), (1, .int (x)), (2, .long (y)), (4, .int (i))] (by decide) rfl (Nat.le_of_ble_eq_true rfl) rfl (gX_ok z) (fun p_ e_ R_ s_ m_ ar_ be_ me_ co_ Q_ A_ hR_ S_ hnm_ hQ_ => ?_)
  refine wk_iload_n (pc := 0) S_ 1 d_PL_box_0 rfl rfl ?_
  refine wk_if_lt (pc := 1) (tgt := 32) S_ d_PL_box_1 (by decide) (fun h1 => ?_) (fun h1 => ?_)
  · -- taken
    refine wk_iconst (pc := 32) (v := (nI (0))) S_ d_PL_box_32 (by decide) ?_
    refine wk_istore (pc := 33) (lv' := [(5, .int (nI (0))), (0, .ref (o 0)), (1, .int (x)), (2, .long (y)), (4, .int (i))]) S_ d_PL_box_33 (by decide) rfl ?_
    refine wk_iload (pc := 35) S_ 0 d_PL_box_35 rfl ?_
    refine wk_if_eqN (pc := 37) (tgt := 51) S_ d_PL_box_37 (by decide) (by omega) (fun h37 => ?_) (fun h37 => absurd h37 (by decide))
    refine wk_iconst (pc := 51) (v := (-1)) S_ d_PL_box_51 (by decide) ?_
    exact hQ_ (-1) (bg, bb, nx, ut) d_PL_box_52 rfl (by rw [bxS, if_neg (fun z => by rw [ixI_a h1] at z; exact absurd z.2.1 (by decide))]; exact ⟨zI_0.symm, rfl⟩)
  · -- on
    refine wk_iload_n (pc := 4) S_ 1 d_PL_box_4 rfl rfl ?_
    refine wk_iconst (pc := 5) (v := (nI (3))) S_ d_PL_box_5 (by decide) ?_
    refine wk_icmp_gt (pc := 6) (tgt := 32) S_ d_PL_box_6 (by decide) (fun h6 => ?_) (fun h6 => ?_)
    · -- taken
      refine wk_iconst (pc := 32) (v := (nI (0))) S_ d_PL_box_32 (by decide) ?_
      refine wk_istore (pc := 33) (lv' := [(5, .int (nI (0))), (0, .ref (o 0)), (1, .int (x)), (2, .long (y)), (4, .int (i))]) S_ d_PL_box_33 (by decide) rfl ?_
      refine wk_iload (pc := 35) S_ 0 d_PL_box_35 rfl ?_
      refine wk_if_eqN (pc := 37) (tgt := 51) S_ d_PL_box_37 (by decide) (by omega) (fun h37 => ?_) (fun h37 => absurd h37 (by decide))
      refine wk_iconst (pc := 51) (v := (-1)) S_ d_PL_box_51 (by decide) ?_
      exact hQ_ (-1) (bg, bb, nx, ut) d_PL_box_52 rfl (by rw [bxS, if_neg (fun z => by rw [ixI_b (gt_ge (n := 3) (by decide) h6)] at z; exact absurd z.2.1 (by decide))]; exact ⟨zI_0.symm, rfl⟩)
    · -- on
      refine wk_lload_n (pc := 9) S_ 2 d_PL_box_9 rfl rfl ?_
      refine wk_run (pc := 10) (rest := []) (wr := (wPL o cI (t 0) (s 0) (k 0) (a 0) (w 0) (q 0) ut ++ (wSt s cI cl gr sp rs aw nb na bg bb ab nx))) (wN := fun _ => (wPL o cI (t 0) (s 0) (k 0) (a 0) (w 0) (q 0) ut ++ (wSt s cI cl gr sp rs aw nb na bg bb ab nx))) S_ (wk_rS S_ (c_PL_isBoxGrams l D cI z (y)) mv_PL_78 rfl rfl (Nat.le_of_ble_eq_true rfl) (by rw [hR_]; decide) (by rw [hR_]; decide) d_PL_box_10) [] [0, 1, 2, 3, 4, 5, 6, 7, 8, 9] [0, 1, 2, 3, 4, 5, 6, 7, 8, 9] rfl rfl rfl (by decide) (by decide) (by decide) (by decide) (fun _ => rfl) (fun _ => rfl) (fun r10 _ hw10 => ?_)
      refine wk_st (st' := [.int (r10)]) rfl ?_
      refine wk_top (y := (bI (lxI (y) (lN 0) (lN 1000000)))) hw10 ?_
      refine wk_if_eqB (pc := 13) (tgt := 32) S_ d_PL_box_13 (by decide) (fun h13 => ?_) (fun h13 => ?_)
      · -- taken
        refine wk_iconst (pc := 32) (v := (nI (0))) S_ d_PL_box_32 (by decide) ?_
        refine wk_istore (pc := 33) (lv' := [(5, .int (nI (0))), (0, .ref (o 0)), (1, .int (x)), (2, .long (y)), (4, .int (i))]) S_ d_PL_box_33 (by decide) rfl ?_
        refine wk_iload (pc := 35) S_ 0 d_PL_box_35 rfl ?_
        refine wk_if_eqN (pc := 37) (tgt := 51) S_ d_PL_box_37 (by decide) (by omega) (fun h37 => ?_) (fun h37 => absurd h37 (by decide))
        refine wk_iconst (pc := 51) (v := (-1)) S_ d_PL_box_51 (by decide) ?_
        exact hQ_ (-1) (bg, bb, nx, ut) d_PL_box_52 rfl (by rw [bxS, if_neg (fun z => by rw [h13] at z; exact absurd z.2.2.1 (by decide))]; exact ⟨zI_0.symm, rfl⟩)
      · -- on
        refine wk_iload (pc := 16) S_ 3 d_PL_box_16 rfl ?_
        refine wk_if_lt (pc := 18) (tgt := 32) S_ d_PL_box_18 (by decide) (fun h18 => ?_) (fun h18 => ?_)
        · -- taken
          refine wk_iconst (pc := 32) (v := (nI (0))) S_ d_PL_box_32 (by decide) ?_
          refine wk_istore (pc := 33) (lv' := [(5, .int (nI (0))), (0, .ref (o 0)), (1, .int (x)), (2, .long (y)), (4, .int (i))]) S_ d_PL_box_33 (by decide) rfl ?_
          refine wk_iload (pc := 35) S_ 0 d_PL_box_35 rfl ?_
          refine wk_if_eqN (pc := 37) (tgt := 51) S_ d_PL_box_37 (by decide) (by omega) (fun h37 => ?_) (fun h37 => absurd h37 (by decide))
          refine wk_iconst (pc := 51) (v := (-1)) S_ d_PL_box_51 (by decide) ?_
          exact hQ_ (-1) (bg, bb, nx, ut) d_PL_box_52 rfl (by rw [bxS, if_neg (fun z => by rw [ixI_a h18] at z; exact absurd z.2.2.2 (by decide))]; exact ⟨zI_0.symm, rfl⟩)
        · -- on
          refine wk_iload (pc := 21) S_ 3 d_PL_box_21 rfl ?_
          refine wk_bipush (pc := 23) (v := (nI (8))) S_ d_PL_box_23 (by decide) ?_
          refine wk_icmp_gt (pc := 25) (tgt := 32) S_ d_PL_box_25 (by decide) (fun h25 => ?_) (fun h25 => ?_)
          · -- taken
            refine wk_iconst (pc := 32) (v := (nI (0))) S_ d_PL_box_32 (by decide) ?_
            refine wk_istore (pc := 33) (lv' := [(5, .int (nI (0))), (0, .ref (o 0)), (1, .int (x)), (2, .long (y)), (4, .int (i))]) S_ d_PL_box_33 (by decide) rfl ?_
            refine wk_iload (pc := 35) S_ 0 d_PL_box_35 rfl ?_
            refine wk_if_eqN (pc := 37) (tgt := 51) S_ d_PL_box_37 (by decide) (by omega) (fun h37 => ?_) (fun h37 => absurd h37 (by decide))
            refine wk_iconst (pc := 51) (v := (-1)) S_ d_PL_box_51 (by decide) ?_
            exact hQ_ (-1) (bg, bb, nx, ut) d_PL_box_52 rfl (by rw [bxS, if_neg (fun z => by rw [ixI_b (gt_ge (n := 8) (by decide) h25)] at z; exact absurd z.2.2.2 (by decide))]; exact ⟨zI_0.symm, rfl⟩)
          · -- on
            refine wk_iconst (pc := 28) (v := (nI (1))) S_ d_PL_box_28 (by decide) ?_
            refine wk_goto (pc := 29) (tgt := 33) S_ d_PL_box_29 (by decide) ?_
            refine wk_istore (pc := 33) (lv' := [(5, .int (nI (1))), (0, .ref (o 0)), (1, .int (x)), (2, .long (y)), (4, .int (i))]) S_ d_PL_box_33 (by decide) rfl ?_
            refine wk_iload (pc := 35) S_ 0 d_PL_box_35 rfl ?_
            refine wk_if_eqN (pc := 37) (tgt := 51) S_ d_PL_box_37 (by decide) (by omega) (fun h37 => absurd h37 (by decide)) (fun h37 => ?_)
            refine wk_aload_n (pc := 40) S_ 1 d_PL_box_40 rfl rfl ?_
            refine wk_get (pc := 41) (v := .ref (s 0)) S_ 0 1 0 in_PL rfl (by decide) rfl fl_PL_19 d_PL_box_41 rfl rfl ?_
            refine wk_get (pc := 44) (v := .int (nI (nx))) S_ 2 10 1 in_St rfl (by decide) rfl fl_PL_82 d_PL_box_44 rfl rfl ?_
            refine wk_iconst (pc := 47) (v := (nI (5))) S_ d_PL_box_47 (by decide) ?_
            refine wk_icmp_ltN (pc := 48) (tgt := 53) S_ d_PL_box_48 (by decide) (by omega) (by omega) (fun h48 => ?_) (fun h48 => ?_)
            · -- taken
              have hk9 : ixI 4 x = true := ixI_c h1 (ngt_nge (n := 3) (by decide) h6)
              have hn9 : ixI 9 i = true := ixI_c h18 (ngt_nge (n := 8) (by decide) h25)
              obtain ⟨v, hva, hvb, rfl⟩ := lx_of h13 (by decide) (by decide)
              obtain ⟨j, hj, rfl⟩ := ixI_of hn9 (by decide)
              refine wk_aload_n (pc := 53) S_ 1 d_PL_box_53 rfl rfl ?_
              refine wk_iconst (pc := 54) (v := (nI (0))) S_ d_PL_box_54 (by decide) ?_
              refine wk_put (pc := 55) (ty := .boolean) (ws' := (wPL o cI (t 0) (s 0) (k 0) (a 0) (w 0) (q 0) false ++ (wSt s cI cl gr sp rs aw nb na bg bb ab nx))) S_ 0 6 0 in_PL t_PL t_PL_ok n_PL rfl (by decide) rfl fl_PL_47 (by decide +kernel) d_PL_box_55 rfl rfl rfl (Nat.le_of_ble_eq_true rfl) rfl ?_
              refine wk_aload_n (pc := 58) S_ 1 d_PL_box_58 rfl rfl ?_
              refine wk_get (pc := 59) (v := .ref (s 0)) S_ 0 1 0 in_PL rfl (by decide) rfl fl_PL_19 d_PL_box_59 rfl rfl ?_
              refine wk_lload_n (pc := 62) S_ 3 d_PL_box_62 rfl rfl ?_
              refine wk_l2iN (pc := 63) S_ d_PL_box_63 ?_
              refine wk_iload (pc := 64) S_ 4 d_PL_box_64 rfl ?_
              refine wk_run (pc := 66) (rest := []) (wr := (wPL o cI (t 0) (s 0) (k 0) (a 0) (w 0) (q 0) false)) (wN := fun _ => (wPL o cI (t 0) (s 0) (k 0) (a 0) (w 0) (q 0) false ++ (wSt s cI cl gr sp rs aw nb na (va_up (bg) (nx) (v)) (va_up (bb) (nx) (j)) ab ((nx) + 1)))) S_ (wk_rV S_ (c_St_addBox l D cI z (s) (cl) (gr) (sp) (rs) (aw) (nb) (na) (bg) (bb) (ab) (nx) (v) (j) (by omega)) mv_PL_85 (wk_rcv S_ 0 2 rfl rfl rfl) rfl rfl (Nat.le_of_ble_eq_true rfl) (by rw [hR_]; decide) (by rw [hR_]; decide) d_PL_box_66) [1, 2, 3, 4, 5, 6, 7, 8, 9] [0] [0, 1, 2, 3, 4, 5, 6, 7, 8, 9] rfl rfl rfl (by decide) (by decide) (by decide) (by decide) (fun _ => rfl) (fun _ => rfl) (fun r66 _ hw66 => ?_)
              refine wk_st (st' := [.int (r66)]) rfl ?_
              refine wk_top (y := (nI ((nx)))) hw66 ?_
              exact hQ_ (nI ((nx))) (va_up (bg) (nx) (v), va_up (bb) (nx) (j), (nx) + 1, false) d_PL_box_69 rfl (by rw [bxS, if_pos ⟨by omega, hk9, h13, hn9⟩, gN_l (by omega), nI_clamp (by omega)]; exact ⟨(zI_s nx).symm, rfl⟩)
            · -- on
              refine wk_iconst (pc := 51) (v := (-1)) S_ d_PL_box_51 (by decide) ?_
              exact hQ_ (-1) (bg, bb, nx, ut) d_PL_box_52 rfl (by rw [bxS, if_neg (fun z => by omega)]; exact ⟨zI_0.symm, rfl⟩)
set_option maxHeartbeats 4000000 in
set_option maxRecDepth 100000 in
theorem c_PL_absorber (l : Launch) (D : va_G) (cI : CiT) (z : GzT) (o : Nat → Nat) (s : Nat → Nat) (t : Nat → Nat) (k : Nat → Nat) (a : Nat → Nat) (w : Nat → Nat) (q : Nat → Nat) (ut : Bool) (cl : (Nat → Nat)) (gr : (Nat → Nat)) (sp : (Nat → Nat)) (rs : (Nat → Nat)) (aw : (Nat → Nat)) (nb : Nat) (na : Nat) (bg : (Nat → Nat)) (bb : (Nat → Nat)) (ab : (Nat → Nat)) (nx : Nat) (x : Int32) (y : Int64) (hnx : nx ≤ 5) : wk_C l D (tyK cI) (gX z) y_PL_absorber b_PL_absorber 4 (some .boolean) 1 21 0 0 [.ref (o 0), .int (x), .long (y)] (wPL o cI (t 0) (s 0) (k 0) (a 0) (w 0) (q 0) ut ++ (wSt s cI cl gr sp rs aw nb na bg bb ab nx)) wk_i (fun (r : Int32) (u : (Nat → Nat) × Bool) => r = bI (abS ab ut nx x y).1 ∧ u = (abS ab ut nx x y).2) (fun u => (wPL o cI (t 0) (s 0) (k 0) (a 0) (w 0) (q 0) u.2 ++ (wSt s cI cl gr sp rs aw nb na bg bb u.1 nx))) := by
  refine wk_methZ (own := R_PL) [(0, .ref (o 0)), (1, .int (x)), (2, .long (y))] (by decide) rfl (Nat.le_of_ble_eq_true rfl) rfl (gX_ok z) (fun p_ e_ R_ s_ m_ ar_ be_ me_ co_ Q_ A_ hR_ S_ hnm_ hQ_ => ?_)
  refine wk_aload_n (pc := 0) S_ 0 d_PL_absorber_0 rfl rfl ?_
  refine wk_get (pc := 1) (v := .ref (s 0)) S_ 0 1 0 in_PL rfl (by decide) rfl fl_PL_19 d_PL_absorber_1 rfl rfl ?_
  refine wk_iload_n (pc := 4) S_ 1 d_PL_absorber_4 rfl rfl ?_
  refine wk_run (pc := 5) (rest := []) (wr := (wPL o cI (t 0) (s 0) (k 0) (a 0) (w 0) (q 0) ut)) (wN := fun _ => (wPL o cI (t 0) (s 0) (k 0) (a 0) (w 0) (q 0) ut ++ (wSt s cI cl gr sp rs aw nb na bg bb ab nx))) S_ (wk_rV S_ (c_St_hasBox l D cI z (s) (cl) (gr) (sp) (rs) (aw) (nb) (na) (bg) (bb) (ab) (nx) (x)) mv_PL_88 (wk_rcv S_ 0 2 rfl rfl rfl) rfl rfl (Nat.le_of_ble_eq_true rfl) (by rw [hR_]; decide) (by rw [hR_]; decide) d_PL_absorber_5) [1, 2, 3, 4, 5, 6, 7, 8, 9] [0] [0, 1, 2, 3, 4, 5, 6, 7, 8, 9] rfl rfl rfl (by decide) (by decide) (by decide) (by decide) (fun _ => rfl) (fun _ => rfl) (fun r5 _ hw5 => ?_)
  refine wk_st (st' := [.int (r5)]) rfl ?_
  refine wk_top (y := (bI (ixI (nx) (x)))) hw5 ?_
  refine wk_if_eqB (pc := 8) (tgt := 18) S_ d_PL_absorber_8 (by decide) (fun h8 => ?_) (fun h8 => ?_)
  · -- taken
    refine wk_iconst (pc := 18) (v := (nI (0))) S_ d_PL_absorber_18 (by decide) ?_
    exact hQ_ (nI (0)) (ab, ut) d_PL_absorber_19 rfl rfl (by rw [abS, if_neg (fun z => by rw [h8] at z; exact absurd z.1 (by decide))]; exact ⟨rfl, rfl⟩)
  · -- on
    refine wk_lload_n (pc := 11) S_ 2 d_PL_absorber_11 rfl rfl ?_
    refine wk_run (pc := 12) (rest := []) (wr := (wPL o cI (t 0) (s 0) (k 0) (a 0) (w 0) (q 0) ut ++ (wSt s cI cl gr sp rs aw nb na bg bb ab nx))) (wN := fun _ => (wPL o cI (t 0) (s 0) (k 0) (a 0) (w 0) (q 0) ut ++ (wSt s cI cl gr sp rs aw nb na bg bb ab nx))) S_ (wk_rS S_ (c_PL_isBoxGrams l D cI z (y)) mv_PL_78 rfl rfl (Nat.le_of_ble_eq_true rfl) (by rw [hR_]; decide) (by rw [hR_]; decide) d_PL_absorber_12) [] [0, 1, 2, 3, 4, 5, 6, 7, 8, 9] [0, 1, 2, 3, 4, 5, 6, 7, 8, 9] rfl rfl rfl (by decide) (by decide) (by decide) (by decide) (fun _ => rfl) (fun _ => rfl) (fun r12 _ hw12 => ?_)
    refine wk_st (st' := [.int (r12)]) rfl ?_
    refine wk_top (y := (bI (lxI (y) (lN 0) (lN 1000000)))) hw12 ?_
    refine wk_if_neB (pc := 15) (tgt := 20) S_ d_PL_absorber_15 (by decide) (fun h15 => ?_) (fun h15 => ?_)
    · -- taken
      obtain ⟨j, hj, rfl⟩ := ixI_of h8 (by omega)
      obtain ⟨v, hva, hvb, rfl⟩ := lx_of h15 (by decide) (by decide)
      refine wk_aload_n (pc := 20) S_ 0 d_PL_absorber_20 rfl rfl ?_
      refine wk_iconst (pc := 21) (v := (nI (0))) S_ d_PL_absorber_21 (by decide) ?_
      refine wk_put (pc := 22) (ty := .boolean) (ws' := (wPL o cI (t 0) (s 0) (k 0) (a 0) (w 0) (q 0) false ++ (wSt s cI cl gr sp rs aw nb na bg bb ab nx))) S_ 0 6 0 in_PL t_PL t_PL_ok n_PL rfl (by decide) rfl fl_PL_47 (by decide +kernel) d_PL_absorber_22 rfl rfl rfl (Nat.le_of_ble_eq_true rfl) rfl ?_
      refine wk_aload_n (pc := 25) S_ 0 d_PL_absorber_25 rfl rfl ?_
      refine wk_get (pc := 26) (v := .ref (s 0)) S_ 0 1 0 in_PL rfl (by decide) rfl fl_PL_19 d_PL_absorber_26 rfl rfl ?_
      refine wk_get (pc := 29) (v := .ref (s 8)) S_ 2 9 1 in_St rfl (by decide) rfl fl_PL_91 d_PL_absorber_29 rfl rfl ?_
      refine wk_iload_n (pc := 32) S_ 1 d_PL_absorber_32 rfl rfl ?_
      refine wk_lload_n (pc := 33) S_ 2 d_PL_absorber_33 rfl rfl ?_
      refine wk_l2iN (pc := 34) S_ d_PL_absorber_34 ?_
      refine wk_iastN (pc := 35) (g := ab) (ws' := (wPL o cI (t 0) (s 0) (k 0) (a 0) (w 0) (q 0) false ++ (wSt s cI cl gr sp rs aw nb na bg bb (va_up (ab) (j) (v)) nx))) S_ 9 0 d_PL_absorber_35 rfl rfl (by omega) (by decide) rfl ?_
      refine wk_iconst (pc := 36) (v := (nI (1))) S_ d_PL_absorber_36 (by decide) ?_
      exact hQ_ (nI (1)) (va_up (ab) (j) (v), false) d_PL_absorber_37 rfl rfl (by rw [abS, if_pos ⟨h8, h15⟩, nI_clamp (by omega), gN_l (by omega)]; exact ⟨rfl, rfl⟩)
    · -- on
      refine wk_iconst (pc := 18) (v := (nI (0))) S_ d_PL_absorber_18 (by decide) ?_
      exact hQ_ (nI (0)) (ab, ut) d_PL_absorber_19 rfl rfl (by rw [abS, if_neg (fun z => by rw [h15] at z; exact absurd z.2 (by decide))]; exact ⟨rfl, rfl⟩)
set_option maxHeartbeats 4000000 in
set_option maxRecDepth 100000 in
theorem c_PL_boxOf (l : Launch) (D : va_G) (cI : CiT) (z : GzT) (o : Nat → Nat) (s : Nat → Nat) (k : Nat → Nat) (b : Nat → Nat) (t : Nat → Nat) (a : Nat → Nat) (w : Nat → Nat) (q : Nat → Nat) (ut : Bool) (cl : (Nat → Nat)) (gr : (Nat → Nat)) (sp : (Nat → Nat)) (rs : (Nat → Nat)) (aw : (Nat → Nat)) (nb : Nat) (na : Nat) (bg : (Nat → Nat)) (bb : (Nat → Nat)) (ab : (Nat → Nat)) (nx : Nat) (gi : (Nat → Nat)) (bi : (Nat → Nat)) (ki : (Nat → Nat)) (qu : (Nat → Nat)) (wt : Nat) (tr : (Nat → Nat)) (be : (Nat → Nat)) (fw : Nat) (fd : Bool) (bx : (Nat → Nat)) (x : Int32) (hnb : nb ≤ 8) : wk_C l D (tyK cI) (gX z) y_PL_boxOf b_PL_boxOf 2 (some .int) 1 21 0 0 [.ref (o 0), .int (x)] (wPL o cI (t 0) (s 0) (k 0) (a 0) (w 0) (q 0) ut ++ (wSt s cI cl gr sp rs aw nb na bg bb ab nx ++ (wPk k cI (b 0) gi bi ki qu wt tr be fw fd ++ (wBx b cI bx)))) wk_i (fun (r : Int32) (_ : Unit) => r = (zI (pickY nb bx x))) (fun _ => (wPL o cI (t 0) (s 0) (k 0) (a 0) (w 0) (q 0) ut ++ (wSt s cI cl gr sp rs aw nb na bg bb ab nx ++ (wPk k cI (b 0) gi bi ki qu wt tr be fw fd ++ (wBx b cI bx))))) := by
  refine wk_methI (own := R_PL) [(0, .ref (o 0)), (1, .int (x))] (by decide) rfl (Nat.le_of_ble_eq_true rfl) rfl (gX_ok z) (fun p_ e_ R_ s_ m_ ar_ be_ me_ co_ Q_ A_ hR_ S_ hnm_ hQ_ => ?_)
  refine wk_aload_n (pc := 0) S_ 0 d_PL_boxOf_0 rfl rfl ?_
  refine wk_get (pc := 1) (v := .ref (s 0)) S_ 0 1 0 in_PL rfl (by decide) rfl fl_PL_19 d_PL_boxOf_1 rfl rfl ?_
  refine wk_iload_n (pc := 4) S_ 1 d_PL_boxOf_4 rfl rfl ?_
  refine wk_run (pc := 5) (rest := []) (wr := (wPL o cI (t 0) (s 0) (k 0) (a 0) (w 0) (q 0) ut ++ (wPk k cI (b 0) gi bi ki qu wt tr be fw fd ++ (wBx b cI bx)))) (wN := fun _ => (wPL o cI (t 0) (s 0) (k 0) (a 0) (w 0) (q 0) ut ++ (wSt s cI cl gr sp rs aw nb na bg bb ab nx ++ (wPk k cI (b 0) gi bi ki qu wt tr be fw fd ++ (wBx b cI bx))))) S_ (wk_rV S_ (c_St_hasBottle l D cI z (s) (cl) (gr) (sp) (rs) (aw) (nb) (na) (bg) (bb) (ab) (nx) (x)) mv_PL_99 (wk_rcv S_ 0 2 rfl rfl rfl) rfl rfl (Nat.le_of_ble_eq_true rfl) (by rw [hR_]; decide) (by rw [hR_]; decide) d_PL_boxOf_5) [1, 2, 3, 4, 5, 6, 7, 8, 9] [0, 10, 11, 12, 13, 14, 15, 16, 17] [0, 9, 10, 11, 12, 13, 14, 15, 16, 17, 1, 2, 3, 4, 5, 6, 7, 8] rfl rfl rfl (by decide) (by decide) (by decide) (by decide) (fun _ => rfl) (fun _ => rfl) (fun r5 _ hw5 => ?_)
  refine wk_st (st' := [.int (r5)]) rfl ?_
  refine wk_top (y := (bI (ixI (nb) (x)))) hw5 ?_
  refine wk_if_eqB (pc := 8) (tgt := 23) S_ d_PL_boxOf_8 (by decide) (fun h8 => ?_) (fun h8 => ?_)
  · -- taken
    refine wk_iconst (pc := 23) (v := (-1)) S_ d_PL_boxOf_23 (by decide) ?_
    exact hQ_ (-1) () d_PL_boxOf_24 rfl (by rw [pickY_f h8]; exact zI_0.symm)
  · -- on
    obtain ⟨j, hj, rfl⟩ := ixI_of h8 (by omega)
    refine wk_aload_n (pc := 11) S_ 0 d_PL_boxOf_11 rfl rfl ?_
    refine wk_get (pc := 12) (v := .ref (k 0)) S_ 0 2 0 in_PL rfl (by decide) rfl fl_PL_26 d_PL_boxOf_12 rfl rfl ?_
    refine wk_get (pc := 15) (v := .ref (b 0)) S_ 3 8 10 in_Pk rfl (by decide) rfl fl_PL_102 d_PL_boxOf_15 rfl rfl ?_
    refine wk_iload_n (pc := 18) S_ 1 d_PL_boxOf_18 rfl rfl ?_
    refine wk_ialdY (pc := 19) (g := bx) S_ 17 0 d_PL_boxOf_19 rfl rfl (by omega) (by decide) ?_
    refine wk_goto (pc := 20) (tgt := 24) S_ d_PL_boxOf_20 (by decide) ?_
    exact hQ_ (zI ((bx) (j))) () d_PL_boxOf_24 rfl (by rw [pickY_in hj (by omega)])
set_option maxHeartbeats 4000000 in
set_option maxRecDepth 100000 in
theorem c_PL_proved (l : Launch) (D : va_G) (cI : CiT) (z : GzT) (o : Nat → Nat) (k : Nat → Nat) (t : Nat → Nat) (s : Nat → Nat) (a : Nat → Nat) (w : Nat → Nat) (q : Nat → Nat) (b : Nat → Nat) (ut : Bool) (gi : (Nat → Nat)) (bi : (Nat → Nat)) (ki : (Nat → Nat)) (qu : (Nat → Nat)) (wt : Nat) (tr : (Nat → Nat)) (be : (Nat → Nat)) (fw : Nat) (fd : Bool) : wk_C l D (tyK cI) (gX z) y_PL_proved b_PL_proved 1 (some .boolean) 0 0 0 0 [.ref (o 0)] (wPL o cI (t 0) (s 0) (k 0) (a 0) (w 0) (q 0) ut ++ (wPk k cI (b 0) gi bi ki qu wt tr be fw fd)) wk_i (fun (r : Int32) (_ : Unit) => r = (bI (fd && ut))) (fun _ => (wPL o cI (t 0) (s 0) (k 0) (a 0) (w 0) (q 0) ut ++ (wPk k cI (b 0) gi bi ki qu wt tr be fw fd))) := by
  refine wk_methZ (own := R_PL) [(0, .ref (o 0))] (by decide) rfl (Nat.le_of_ble_eq_true rfl) rfl (gX_ok z) (fun p_ e_ R_ s_ m_ ar_ be_ me_ co_ Q_ A_ hR_ S_ hnm_ hQ_ => ?_)
  refine wk_aload_n (pc := 0) S_ 0 d_PL_proved_0 rfl rfl ?_
  refine wk_get (pc := 1) (v := .ref (k 0)) S_ 0 2 0 in_PL rfl (by decide) rfl fl_PL_26 d_PL_proved_1 rfl rfl ?_
  refine wk_get (pc := 4) (v := .int (bI (fd))) S_ 3 9 1 in_Pk rfl (by decide) rfl fl_PL_104 d_PL_proved_4 rfl rfl ?_
  refine wk_if_eqB (pc := 7) (tgt := 21) S_ d_PL_proved_7 (by decide) (fun h7 => ?_) (fun h7 => ?_)
  · -- taken
    refine wk_iconst (pc := 21) (v := (nI (0))) S_ d_PL_proved_21 (by decide) ?_
    exact hQ_ (nI (0)) () d_PL_proved_22 rfl rfl (bI_f (by (try simp at h7); simp [h7]))
  · -- on
    refine wk_aload_n (pc := 10) S_ 0 d_PL_proved_10 rfl rfl ?_
    refine wk_get (pc := 11) (v := .int (bI (ut))) S_ 0 6 0 in_PL rfl (by decide) rfl fl_PL_47 d_PL_proved_11 rfl rfl ?_
    refine wk_if_eqB (pc := 14) (tgt := 21) S_ d_PL_proved_14 (by decide) (fun h14 => ?_) (fun h14 => ?_)
    · -- taken
      refine wk_iconst (pc := 21) (v := (nI (0))) S_ d_PL_proved_21 (by decide) ?_
      exact hQ_ (nI (0)) () d_PL_proved_22 rfl rfl (bI_f (by (try simp at h7); (try simp at h14); simp [h7, h14]))
    · -- on
      refine wk_iconst (pc := 17) (v := (nI (1))) S_ d_PL_proved_17 (by decide) ?_
      refine wk_goto (pc := 18) (tgt := 22) S_ d_PL_proved_18 (by decide) ?_
      exact hQ_ (nI (1)) () d_PL_proved_22 rfl rfl (bI_t (by (try simp at h7); (try simp at h14); simp [h7, h14]))
set_option maxHeartbeats 4000000 in
set_option maxRecDepth 100000 in
theorem c_PL_points (l : Launch) (D : va_G) (cI : CiT) (z : GzT) (o : Nat → Nat) (a : Nat → Nat) (s : Nat → Nat) (k : Nat → Nat) (b : Nat → Nat) (w : Nat → Nat) (t : Nat → Nat) (q : Nat → Nat) (ut : Bool) (go : (Nat → Nat)) (io : (Nat → Nat)) (ct : Nat) (sh : (Nat → Nat)) (wr : Nat) (cl : (Nat → Nat)) (gr : (Nat → Nat)) (sp : (Nat → Nat)) (rs : (Nat → Nat)) (aw : (Nat → Nat)) (nb : Nat) (na : Nat) (bg : (Nat → Nat)) (bb : (Nat → Nat)) (ab : (Nat → Nat)) (nx : Nat) (gi : (Nat → Nat)) (bi : (Nat → Nat)) (ki : (Nat → Nat)) (qu : (Nat → Nat)) (wt : Nat) (tr : (Nat → Nat)) (be : (Nat → Nat)) (fw : Nat) (fd : Bool) (bx : (Nat → Nat)) (ap : (Nat → Nat)) (pt : (Nat → Nat)) (rk : (Nat → Nat)) (cd : (Nat → Nat)) (mc : (Nat → Nat)) (mg : (Nat → Nat)) (mz : (Nat → Nat)) (nc : (Nat → Nat)) (nt : (Nat → Nat)) (oc : (Nat → Nat)) (fr : Nat) (hnb : nb ≤ 8) (hgr : ∀ b, gr b ≤ 100000) (hcl : ∀ b, cl b ≤ 9) (hb : ∀ b, bx b ≤ 5) (hcv : ∀ b, b < nb → bx b ≠ 0 → cl b ≠ 0) (hpt : ∀ c, pt c ≤ 1000) : wk_C l D (tyK cI) (gX z) y_PL_points b_PL_points 1 (some .long) 2 46 0 0 [.ref (o 0)] (wPL o cI (t 0) (s 0) (k 0) (a 0) (w 0) (q 0) ut ++ (wLd a cI go io ct sh wr ++ (wSt s cI cl gr sp rs aw nb na bg bb ab nx ++ (wPk k cI (b 0) gi bi ki qu wt tr be fw fd ++ (wBx b cI bx ++ (wRl w cI ap pt rk cd mc mg mz nc nt oc fr)))))) wk_l (fun (r : Int64) (_ : Unit) => r = (lN (ptN pt (fun c => goN cl gr bx c nb) 9))) (fun _ => (wPL o cI (t 0) (s 0) (k 0) (a 0) (w 0) (q 0) ut ++ (wLd a cI (fun c => goN cl gr bx c nb) io ct sh wr ++ (wSt s cI cl gr sp rs aw nb na bg bb ab nx ++ (wPk k cI (b 0) gi bi ki qu wt tr be fw fd ++ (wBx b cI bx ++ (wRl w cI ap pt rk cd mc mg mz nc nt oc fr))))))) := by
  refine wk_methL (own := R_PL) [(0, .ref (o 0))] (by decide) rfl (Nat.le_of_ble_eq_true rfl) rfl (gX_ok z) (fun p_ e_ R_ s_ m_ ar_ be_ me_ co_ Q_ A_ hR_ S_ hnm_ hQ_ => ?_)
  refine wk_aload_n (pc := 0) S_ 0 d_PL_points_0 rfl rfl ?_
  refine wk_get (pc := 1) (v := .ref (a 0)) S_ 0 3 0 in_PL rfl (by decide) rfl fl_PL_33 d_PL_points_1 rfl rfl ?_
  refine wk_aload_n (pc := 4) S_ 0 d_PL_points_4 rfl rfl ?_
  refine wk_get (pc := 5) (v := .ref (s 0)) S_ 0 1 0 in_PL rfl (by decide) rfl fl_PL_19 d_PL_points_5 rfl rfl ?_
  refine wk_aload_n (pc := 8) S_ 0 d_PL_points_8 rfl rfl ?_
  refine wk_get (pc := 9) (v := .ref (k 0)) S_ 0 2 0 in_PL rfl (by decide) rfl fl_PL_26 d_PL_points_9 rfl rfl ?_
  refine wk_get (pc := 12) (v := .ref (b 0)) S_ 3 8 14 in_Pk rfl (by decide) rfl fl_PL_102 d_PL_points_12 rfl rfl ?_
  refine wk_run (pc := 15) (rest := []) (wr := (wPL o cI (t 0) (s 0) (k 0) (a 0) (w 0) (q 0) ut ++ (wPk k cI (b 0) gi bi ki qu wt tr be fw fd ++ (wRl w cI ap pt rk cd mc mg mz nc nt oc fr)))) (wN := fun _ => (wPL o cI (t 0) (s 0) (k 0) (a 0) (w 0) (q 0) ut ++ (wLd a cI (fun c => goN (cl) (gr) (bx) c (nb)) io ct sh wr ++ (wSt s cI cl gr sp rs aw nb na bg bb ab nx ++ (wPk k cI (b 0) gi bi ki qu wt tr be fw fd ++ (wBx b cI bx ++ (wRl w cI ap pt rk cd mc mg mz nc nt oc fr))))))) S_ (wk_rV S_ (c_Ld_gather l D cI z (a) (s) (b) (go) (io) (ct) (sh) (wr) (cl) (gr) (sp) (rs) (aw) (nb) (na) (bg) (bb) (ab) (nx) (bx) (by omega) hgr hcl hb hcv) mv_PL_111 (wk_rcv S_ 0 4 rfl rfl rfl) rfl rfl (Nat.le_of_ble_eq_true rfl) (by rw [hR_]; decide) (by rw [hR_]; decide) d_PL_points_15) [1, 2, 3, 4, 5, 6, 7, 8, 9, 10, 11, 12, 13, 21] [0, 14, 15, 16, 17, 18, 19, 20, 22, 23, 24, 25, 26, 27, 28, 29, 30, 31, 32] [0, 19, 20, 21, 22, 23, 24, 25, 26, 27, 28, 29, 30, 31, 1, 2, 3, 4, 5, 6, 7, 32, 8, 9, 10, 11, 12, 13, 14, 15, 16, 17, 18] rfl rfl rfl (by decide) (by decide) (by decide) (by decide) (fun _ => rfl) (fun _ => rfl) (fun r15 _ hw15 => ?_)
  refine wk_st (st' := []) rfl ?_
  refine wk_aload_n (pc := 18) S_ 0 d_PL_points_18 rfl rfl ?_
  refine wk_get (pc := 19) (v := .ref (a 0)) S_ 0 3 0 in_PL rfl (by decide) rfl fl_PL_33 d_PL_points_19 rfl rfl ?_
  refine wk_aload_n (pc := 22) S_ 0 d_PL_points_22 rfl rfl ?_
  refine wk_get (pc := 23) (v := .ref (w 0)) S_ 0 4 0 in_PL rfl (by decide) rfl fl_PL_40 d_PL_points_23 rfl rfl ?_
  refine wk_run (pc := 26) (rest := []) (wr := (wPL o cI (t 0) (s 0) (k 0) (a 0) (w 0) (q 0) ut ++ (wSt s cI cl gr sp rs aw nb na bg bb ab nx ++ (wPk k cI (b 0) gi bi ki qu wt tr be fw fd ++ (wBx b cI bx))))) (wN := fun _ => (wPL o cI (t 0) (s 0) (k 0) (a 0) (w 0) (q 0) ut ++ (wLd a cI (fun c => goN (cl) (gr) (bx) c (nb)) io ct sh wr ++ (wSt s cI cl gr sp rs aw nb na bg bb ab nx ++ (wPk k cI (b 0) gi bi ki qu wt tr be fw fd ++ (wBx b cI bx ++ (wRl w cI ap pt rk cd mc mg mz nc nt oc fr))))))) S_ (wk_rV S_ (c_Ld_pointsOfAll l D cI z (a) (w) (fun c => goN (cl) (gr) (bx) c (nb)) (io) (ct) (sh) (wr) (ap) (pt) (rk) (cd) (mc) (mg) (mz) (nc) (nt) (oc) (fr) (fun c => by have := goN_le (cl := cl) (bx := bx) (c := c) hgr nb; show goN cl gr bx c nb ≤ 800000; omega) hpt) mv_PL_115 (wk_rcv S_ 0 4 rfl rfl rfl) rfl rfl (Nat.le_of_ble_eq_true rfl) (by rw [hR_]; decide) (by rw [hR_]; decide) d_PL_points_26) [1, 2, 3, 4, 22, 23, 24, 25, 26, 27, 28, 29, 30, 31, 32] [0, 5, 6, 7, 8, 9, 10, 11, 12, 13, 14, 15, 16, 17, 18, 19, 20, 21] [0, 18, 19, 20, 21, 1, 2, 3, 4, 5, 6, 7, 8, 9, 10, 11, 12, 13, 14, 15, 16, 17, 22, 23, 24, 25, 26, 27, 28, 29, 30, 31, 32] rfl rfl rfl (by decide) (by decide) (by decide) (by decide) (fun _ => rfl) (fun _ => rfl) (fun r26 _ hw26 => ?_)
  refine wk_st (st' := [.long (r26)]) rfl ?_
  refine wk_topl (y := (lN (ptN (pt) (fun c => goN (cl) (gr) (bx) c (nb)) 9))) hw26 ?_
  exact hQ_ (lN (ptN (pt) (fun c => goN (cl) (gr) (bx) c (nb)) 9)) () d_PL_points_29 rfl rfl
set_option maxHeartbeats 4000000 in
set_option maxRecDepth 100000 in
theorem c_PL_exempt (l : Launch) (D : va_G) (cI : CiT) (z : GzT) (o : Nat → Nat) (a : Nat → Nat) (s : Nat → Nat) (k : Nat → Nat) (b : Nat → Nat) (w : Nat → Nat) (t : Nat → Nat) (q : Nat → Nat) (ut : Bool) (go : (Nat → Nat)) (io : (Nat → Nat)) (ct : Nat) (sh : (Nat → Nat)) (wr : Nat) (cl : (Nat → Nat)) (gr : (Nat → Nat)) (sp : (Nat → Nat)) (rs : (Nat → Nat)) (aw : (Nat → Nat)) (nb : Nat) (na : Nat) (bg : (Nat → Nat)) (bb : (Nat → Nat)) (ab : (Nat → Nat)) (nx : Nat) (gi : (Nat → Nat)) (bi : (Nat → Nat)) (ki : (Nat → Nat)) (qu : (Nat → Nat)) (wt : Nat) (tr : (Nat → Nat)) (be : (Nat → Nat)) (fw : Nat) (fd : Bool) (bx : (Nat → Nat)) (ap : (Nat → Nat)) (pt : (Nat → Nat)) (rk : (Nat → Nat)) (cd : (Nat → Nat)) (mc : (Nat → Nat)) (mg : (Nat → Nat)) (mz : (Nat → Nat)) (nc : (Nat → Nat)) (nt : (Nat → Nat)) (oc : (Nat → Nat)) (fr : Nat) (hnb : nb ≤ 8) (hgr : ∀ b, gr b ≤ 100000) (hcl : ∀ b, cl b ≤ 9) (hb : ∀ b, bx b ≤ 5) (hcv : ∀ b, b < nb → bx b ≠ 0 → cl b ≠ 0) (hpt : ∀ c, pt c ≤ 1000) (hfr : fr ≤ 999999) : wk_C l D (tyK cI) (gX z) y_PL_exempt b_PL_exempt 1 (some .boolean) 3 67 0 0 [.ref (o 0)] (wPL o cI (t 0) (s 0) (k 0) (a 0) (w 0) (q 0) ut ++ (wLd a cI go io ct sh wr ++ (wSt s cI cl gr sp rs aw nb na bg bb ab nx ++ (wPk k cI (b 0) gi bi ki qu wt tr be fw fd ++ (wBx b cI bx ++ (wRl w cI ap pt rk cd mc mg mz nc nt oc fr)))))) wk_i (fun (r : Int32) (_ : Unit) => r = (bI (decide (ptN pt (fun c => goN cl gr bx c nb) 9 ≤ fr)))) (fun _ => (wPL o cI (t 0) (s 0) (k 0) (a 0) (w 0) (q 0) ut ++ (wLd a cI (fun c => goN cl gr bx c nb) io ct sh wr ++ (wSt s cI cl gr sp rs aw nb na bg bb ab nx ++ (wPk k cI (b 0) gi bi ki qu wt tr be fw fd ++ (wBx b cI bx ++ (wRl w cI ap pt rk cd mc mg mz nc nt oc fr))))))) := by
  refine wk_methZ (own := R_PL) [(0, .ref (o 0))] (by decide) rfl (Nat.le_of_ble_eq_true rfl) rfl (gX_ok z) (fun p_ e_ R_ s_ m_ ar_ be_ me_ co_ Q_ A_ hR_ S_ hnm_ hQ_ => ?_)
  refine wk_aload_n (pc := 0) S_ 0 d_PL_exempt_0 rfl rfl ?_
  refine wk_get (pc := 1) (v := .ref (a 0)) S_ 0 3 0 in_PL rfl (by decide) rfl fl_PL_33 d_PL_exempt_1 rfl rfl ?_
  refine wk_aload_n (pc := 4) S_ 0 d_PL_exempt_4 rfl rfl ?_
  refine wk_get (pc := 5) (v := .ref (s 0)) S_ 0 1 0 in_PL rfl (by decide) rfl fl_PL_19 d_PL_exempt_5 rfl rfl ?_
  refine wk_aload_n (pc := 8) S_ 0 d_PL_exempt_8 rfl rfl ?_
  refine wk_get (pc := 9) (v := .ref (k 0)) S_ 0 2 0 in_PL rfl (by decide) rfl fl_PL_26 d_PL_exempt_9 rfl rfl ?_
  refine wk_get (pc := 12) (v := .ref (b 0)) S_ 3 8 14 in_Pk rfl (by decide) rfl fl_PL_102 d_PL_exempt_12 rfl rfl ?_
  refine wk_run (pc := 15) (rest := []) (wr := (wPL o cI (t 0) (s 0) (k 0) (a 0) (w 0) (q 0) ut ++ (wPk k cI (b 0) gi bi ki qu wt tr be fw fd ++ (wRl w cI ap pt rk cd mc mg mz nc nt oc fr)))) (wN := fun _ => (wPL o cI (t 0) (s 0) (k 0) (a 0) (w 0) (q 0) ut ++ (wLd a cI (fun c => goN (cl) (gr) (bx) c (nb)) io ct sh wr ++ (wSt s cI cl gr sp rs aw nb na bg bb ab nx ++ (wPk k cI (b 0) gi bi ki qu wt tr be fw fd ++ (wBx b cI bx ++ (wRl w cI ap pt rk cd mc mg mz nc nt oc fr))))))) S_ (wk_rV S_ (c_Ld_gather l D cI z (a) (s) (b) (go) (io) (ct) (sh) (wr) (cl) (gr) (sp) (rs) (aw) (nb) (na) (bg) (bb) (ab) (nx) (bx) (by omega) hgr hcl hb hcv) mv_PL_111 (wk_rcv S_ 0 4 rfl rfl rfl) rfl rfl (Nat.le_of_ble_eq_true rfl) (by rw [hR_]; decide) (by rw [hR_]; decide) d_PL_exempt_15) [1, 2, 3, 4, 5, 6, 7, 8, 9, 10, 11, 12, 13, 21] [0, 14, 15, 16, 17, 18, 19, 20, 22, 23, 24, 25, 26, 27, 28, 29, 30, 31, 32] [0, 19, 20, 21, 22, 23, 24, 25, 26, 27, 28, 29, 30, 31, 1, 2, 3, 4, 5, 6, 7, 32, 8, 9, 10, 11, 12, 13, 14, 15, 16, 17, 18] rfl rfl rfl (by decide) (by decide) (by decide) (by decide) (fun _ => rfl) (fun _ => rfl) (fun r15 _ hw15 => ?_)
  refine wk_st (st' := []) rfl ?_
  refine wk_aload_n (pc := 18) S_ 0 d_PL_exempt_18 rfl rfl ?_
  refine wk_get (pc := 19) (v := .ref (a 0)) S_ 0 3 0 in_PL rfl (by decide) rfl fl_PL_33 d_PL_exempt_19 rfl rfl ?_
  refine wk_aload_n (pc := 22) S_ 0 d_PL_exempt_22 rfl rfl ?_
  refine wk_get (pc := 23) (v := .ref (w 0)) S_ 0 4 0 in_PL rfl (by decide) rfl fl_PL_40 d_PL_exempt_23 rfl rfl ?_
  refine wk_run (pc := 26) (rest := []) (wr := (wPL o cI (t 0) (s 0) (k 0) (a 0) (w 0) (q 0) ut ++ (wSt s cI cl gr sp rs aw nb na bg bb ab nx ++ (wPk k cI (b 0) gi bi ki qu wt tr be fw fd ++ (wBx b cI bx))))) (wN := fun _ => (wPL o cI (t 0) (s 0) (k 0) (a 0) (w 0) (q 0) ut ++ (wLd a cI (fun c => goN (cl) (gr) (bx) c (nb)) io ct sh wr ++ (wSt s cI cl gr sp rs aw nb na bg bb ab nx ++ (wPk k cI (b 0) gi bi ki qu wt tr be fw fd ++ (wBx b cI bx ++ (wRl w cI ap pt rk cd mc mg mz nc nt oc fr))))))) S_ (wk_rV S_ (c_Ld_isFree l D cI z (a) (w) (fun c => goN (cl) (gr) (bx) c (nb)) (io) (ct) (sh) (wr) (ap) (pt) (rk) (cd) (mc) (mg) (mz) (nc) (nt) (oc) (fr) (fun c => by have := goN_le (cl := cl) (bx := bx) (c := c) hgr nb; show goN cl gr bx c nb ≤ 800000; omega) hpt (by omega)) mv_PL_119 (wk_rcv S_ 0 4 rfl rfl rfl) rfl rfl (Nat.le_of_ble_eq_true rfl) (by rw [hR_]; decide) (by rw [hR_]; decide) d_PL_exempt_26) [1, 2, 3, 4, 22, 23, 24, 25, 26, 27, 28, 29, 30, 31, 32] [0, 5, 6, 7, 8, 9, 10, 11, 12, 13, 14, 15, 16, 17, 18, 19, 20, 21] [0, 18, 19, 20, 21, 1, 2, 3, 4, 5, 6, 7, 8, 9, 10, 11, 12, 13, 14, 15, 16, 17, 22, 23, 24, 25, 26, 27, 28, 29, 30, 31, 32] rfl rfl rfl (by decide) (by decide) (by decide) (by decide) (fun _ => rfl) (fun _ => rfl) (fun r26 _ hw26 => ?_)
  refine wk_st (st' := [.int (r26)]) rfl ?_
  refine wk_top (y := (bI (decide (ptN (pt) (fun c => goN (cl) (gr) (bx) c (nb)) 9 ≤ (fr))))) hw26 ?_
  exact hQ_ (bI (decide (ptN (pt) (fun c => goN (cl) (gr) (bx) c (nb)) 9 ≤ (fr)))) () d_PL_exempt_29 (bI_z _) rfl rfl
set_option maxHeartbeats 4000000 in
set_option maxRecDepth 100000 in
theorem c_PL_tunnel (l : Launch) (D : va_G) (cI : CiT) (z : GzT) (o : Nat → Nat) (a : Nat → Nat) (s : Nat → Nat) (k : Nat → Nat) (b : Nat → Nat) (w : Nat → Nat) (t : Nat → Nat) (q : Nat → Nat) (ut : Bool) (go : (Nat → Nat)) (io : (Nat → Nat)) (ct : Nat) (sh : (Nat → Nat)) (wr : Nat) (cl : (Nat → Nat)) (gr : (Nat → Nat)) (sp : (Nat → Nat)) (rs : (Nat → Nat)) (aw : (Nat → Nat)) (nb : Nat) (na : Nat) (bg : (Nat → Nat)) (bb : (Nat → Nat)) (ab : (Nat → Nat)) (nx : Nat) (gi : (Nat → Nat)) (bi : (Nat → Nat)) (ki : (Nat → Nat)) (qu : (Nat → Nat)) (wt : Nat) (tr : (Nat → Nat)) (be : (Nat → Nat)) (fw : Nat) (fd : Bool) (bx : (Nat → Nat)) (ap : (Nat → Nat)) (pt : (Nat → Nat)) (rk : (Nat → Nat)) (cd : (Nat → Nat)) (mc : (Nat → Nat)) (mg : (Nat → Nat)) (mz : (Nat → Nat)) (nc : (Nat → Nat)) (nt : (Nat → Nat)) (oc : (Nat → Nat)) (fr : Nat) (hnb : nb ≤ 8) (hgr : ∀ b, gr b ≤ 100000) (hcl : ∀ b, cl b ≤ 9) (hb : ∀ b, bx b ≤ 5) (hcv : ∀ b, b < nb → bx b ≠ 0 → cl b ≠ 0) (hpt : ∀ c, pt c ≤ 1000) (hfr : fr ≤ 999999) (hcd : ∀ c, cd c ≤ 5) : wk_C l D (tyK cI) (gX z) y_PL_tunnel b_PL_tunnel 1 (some .int) 3 67 0 0 [.ref (o 0)] (wPL o cI (t 0) (s 0) (k 0) (a 0) (w 0) (q 0) ut ++ (wLd a cI go io ct sh wr ++ (wSt s cI cl gr sp rs aw nb na bg bb ab nx ++ (wPk k cI (b 0) gi bi ki qu wt tr be fw fd ++ (wBx b cI bx ++ (wRl w cI ap pt rk cd mc mg mz nc nt oc fr)))))) wk_i (fun (r : Int32) (_ : Unit) => r = (nI (if ptN pt (fun c => goN cl gr bx c nb) 9 ≤ fr then 0 else tnS cd (fun c => goN cl gr bx c nb) 9))) (fun _ => (wPL o cI (t 0) (s 0) (k 0) (a 0) (w 0) (q 0) ut ++ (wLd a cI (fun c => goN cl gr bx c nb) io ct sh wr ++ (wSt s cI cl gr sp rs aw nb na bg bb ab nx ++ (wPk k cI (b 0) gi bi ki qu wt tr be fw fd ++ (wBx b cI bx ++ (wRl w cI ap pt rk cd mc mg mz nc nt oc fr))))))) := by
  refine wk_methI (own := R_PL) [(0, .ref (o 0))] (by decide) rfl (Nat.le_of_ble_eq_true rfl) rfl (gX_ok z) (fun p_ e_ R_ s_ m_ ar_ be_ me_ co_ Q_ A_ hR_ S_ hnm_ hQ_ => ?_)
  refine wk_aload_n (pc := 0) S_ 0 d_PL_tunnel_0 rfl rfl ?_
  refine wk_get (pc := 1) (v := .ref (a 0)) S_ 0 3 0 in_PL rfl (by decide) rfl fl_PL_33 d_PL_tunnel_1 rfl rfl ?_
  refine wk_aload_n (pc := 4) S_ 0 d_PL_tunnel_4 rfl rfl ?_
  refine wk_get (pc := 5) (v := .ref (s 0)) S_ 0 1 0 in_PL rfl (by decide) rfl fl_PL_19 d_PL_tunnel_5 rfl rfl ?_
  refine wk_aload_n (pc := 8) S_ 0 d_PL_tunnel_8 rfl rfl ?_
  refine wk_get (pc := 9) (v := .ref (k 0)) S_ 0 2 0 in_PL rfl (by decide) rfl fl_PL_26 d_PL_tunnel_9 rfl rfl ?_
  refine wk_get (pc := 12) (v := .ref (b 0)) S_ 3 8 14 in_Pk rfl (by decide) rfl fl_PL_102 d_PL_tunnel_12 rfl rfl ?_
  refine wk_run (pc := 15) (rest := []) (wr := (wPL o cI (t 0) (s 0) (k 0) (a 0) (w 0) (q 0) ut ++ (wPk k cI (b 0) gi bi ki qu wt tr be fw fd ++ (wRl w cI ap pt rk cd mc mg mz nc nt oc fr)))) (wN := fun _ => (wPL o cI (t 0) (s 0) (k 0) (a 0) (w 0) (q 0) ut ++ (wLd a cI (fun c => goN (cl) (gr) (bx) c (nb)) io ct sh wr ++ (wSt s cI cl gr sp rs aw nb na bg bb ab nx ++ (wPk k cI (b 0) gi bi ki qu wt tr be fw fd ++ (wBx b cI bx ++ (wRl w cI ap pt rk cd mc mg mz nc nt oc fr))))))) S_ (wk_rV S_ (c_Ld_gather l D cI z (a) (s) (b) (go) (io) (ct) (sh) (wr) (cl) (gr) (sp) (rs) (aw) (nb) (na) (bg) (bb) (ab) (nx) (bx) (by omega) hgr hcl hb hcv) mv_PL_111 (wk_rcv S_ 0 4 rfl rfl rfl) rfl rfl (Nat.le_of_ble_eq_true rfl) (by rw [hR_]; decide) (by rw [hR_]; decide) d_PL_tunnel_15) [1, 2, 3, 4, 5, 6, 7, 8, 9, 10, 11, 12, 13, 21] [0, 14, 15, 16, 17, 18, 19, 20, 22, 23, 24, 25, 26, 27, 28, 29, 30, 31, 32] [0, 19, 20, 21, 22, 23, 24, 25, 26, 27, 28, 29, 30, 31, 1, 2, 3, 4, 5, 6, 7, 32, 8, 9, 10, 11, 12, 13, 14, 15, 16, 17, 18] rfl rfl rfl (by decide) (by decide) (by decide) (by decide) (fun _ => rfl) (fun _ => rfl) (fun r15 _ hw15 => ?_)
  refine wk_st (st' := []) rfl ?_
  refine wk_aload_n (pc := 18) S_ 0 d_PL_tunnel_18 rfl rfl ?_
  refine wk_get (pc := 19) (v := .ref (a 0)) S_ 0 3 0 in_PL rfl (by decide) rfl fl_PL_33 d_PL_tunnel_19 rfl rfl ?_
  refine wk_aload_n (pc := 22) S_ 0 d_PL_tunnel_22 rfl rfl ?_
  refine wk_get (pc := 23) (v := .ref (w 0)) S_ 0 4 0 in_PL rfl (by decide) rfl fl_PL_40 d_PL_tunnel_23 rfl rfl ?_
  refine wk_run (pc := 26) (rest := []) (wr := (wPL o cI (t 0) (s 0) (k 0) (a 0) (w 0) (q 0) ut ++ (wSt s cI cl gr sp rs aw nb na bg bb ab nx ++ (wPk k cI (b 0) gi bi ki qu wt tr be fw fd ++ (wBx b cI bx))))) (wN := fun _ => (wPL o cI (t 0) (s 0) (k 0) (a 0) (w 0) (q 0) ut ++ (wLd a cI (fun c => goN (cl) (gr) (bx) c (nb)) io ct sh wr ++ (wSt s cI cl gr sp rs aw nb na bg bb ab nx ++ (wPk k cI (b 0) gi bi ki qu wt tr be fw fd ++ (wBx b cI bx ++ (wRl w cI ap pt rk cd mc mg mz nc nt oc fr))))))) S_ (wk_rV S_ (c_Ld_isFree l D cI z (a) (w) (fun c => goN (cl) (gr) (bx) c (nb)) (io) (ct) (sh) (wr) (ap) (pt) (rk) (cd) (mc) (mg) (mz) (nc) (nt) (oc) (fr) (fun c => by have := goN_le (cl := cl) (bx := bx) (c := c) hgr nb; show goN cl gr bx c nb ≤ 800000; omega) hpt (by omega)) mv_PL_119 (wk_rcv S_ 0 4 rfl rfl rfl) rfl rfl (Nat.le_of_ble_eq_true rfl) (by rw [hR_]; decide) (by rw [hR_]; decide) d_PL_tunnel_26) [1, 2, 3, 4, 22, 23, 24, 25, 26, 27, 28, 29, 30, 31, 32] [0, 5, 6, 7, 8, 9, 10, 11, 12, 13, 14, 15, 16, 17, 18, 19, 20, 21] [0, 18, 19, 20, 21, 1, 2, 3, 4, 5, 6, 7, 8, 9, 10, 11, 12, 13, 14, 15, 16, 17, 22, 23, 24, 25, 26, 27, 28, 29, 30, 31, 32] rfl rfl rfl (by decide) (by decide) (by decide) (by decide) (fun _ => rfl) (fun _ => rfl) (fun r26 _ hw26 => ?_)
  refine wk_st (st' := [.int (r26)]) rfl ?_
  refine wk_top (y := (bI (decide (ptN (pt) (fun c => goN (cl) (gr) (bx) c (nb)) 9 ≤ (fr))))) hw26 ?_
  refine wk_if_eqB (pc := 29) (tgt := 36) S_ d_PL_tunnel_29 (by decide) (fun h29 => ?_) (fun h29 => ?_)
  · -- taken
    refine wk_aload_n (pc := 36) S_ 0 d_PL_tunnel_36 rfl rfl ?_
    refine wk_get (pc := 37) (v := .ref (a 0)) S_ 0 3 0 in_PL rfl (by decide) rfl fl_PL_33 d_PL_tunnel_37 rfl rfl ?_
    refine wk_aload_n (pc := 40) S_ 0 d_PL_tunnel_40 rfl rfl ?_
    refine wk_get (pc := 41) (v := .ref (w 0)) S_ 0 4 0 in_PL rfl (by decide) rfl fl_PL_40 d_PL_tunnel_41 rfl rfl ?_
    refine wk_run (pc := 44) (rest := []) (wr := (wPL o cI (t 0) (s 0) (k 0) (a 0) (w 0) (q 0) ut ++ (wSt s cI cl gr sp rs aw nb na bg bb ab nx ++ (wPk k cI (b 0) gi bi ki qu wt tr be fw fd ++ (wBx b cI bx))))) (wN := fun _ => (wPL o cI (t 0) (s 0) (k 0) (a 0) (w 0) (q 0) ut ++ (wLd a cI (fun c => goN (cl) (gr) (bx) c (nb)) io ct sh wr ++ (wSt s cI cl gr sp rs aw nb na bg bb ab nx ++ (wPk k cI (b 0) gi bi ki qu wt tr be fw fd ++ (wBx b cI bx ++ (wRl w cI ap pt rk cd mc mg mz nc nt oc fr))))))) S_ (wk_rV S_ (c_Ld_greatestCode l D cI z (a) (w) (fun c => goN (cl) (gr) (bx) c (nb)) (io) (ct) (sh) (wr) (ap) (pt) (rk) (cd) (mc) (mg) (mz) (nc) (nt) (oc) (fr) (fun c => by have := goN_le (cl := cl) (bx := bx) (c := c) hgr nb; show goN cl gr bx c nb ≤ 800000; omega) hcd) mv_PL_152 (wk_rcv S_ 0 4 rfl rfl rfl) rfl rfl (Nat.le_of_ble_eq_true rfl) (by rw [hR_]; decide) (by rw [hR_]; decide) d_PL_tunnel_44) [1, 2, 3, 4, 22, 23, 24, 25, 26, 27, 28, 29, 30, 31, 32] [0, 5, 6, 7, 8, 9, 10, 11, 12, 13, 14, 15, 16, 17, 18, 19, 20, 21] [0, 18, 19, 20, 21, 1, 2, 3, 4, 5, 6, 7, 8, 9, 10, 11, 12, 13, 14, 15, 16, 17, 22, 23, 24, 25, 26, 27, 28, 29, 30, 31, 32] rfl rfl rfl (by decide) (by decide) (by decide) (by decide) (fun _ => rfl) (fun _ => rfl) (fun r44 _ hw44 => ?_)
    refine wk_st (st' := [.int (r44)]) rfl ?_
    refine wk_top (y := (nI (tnS (cd) (fun c => goN (cl) (gr) (bx) c (nb)) 9))) hw44 ?_
    exact hQ_ (nI (tnS (cd) (fun c => goN (cl) (gr) (bx) c (nb)) 9)) () d_PL_tunnel_47 rfl (by rw [if_neg (of_decide_eq_false h29)])
  · -- on
    refine wk_iconst (pc := 32) (v := (nI (0))) S_ d_PL_tunnel_32 (by decide) ?_
    refine wk_goto (pc := 33) (tgt := 47) S_ d_PL_tunnel_33 (by decide) ?_
    exact hQ_ (nI (0)) () d_PL_tunnel_47 rfl (by rw [if_pos (of_decide_eq_true h29)])
set_option maxHeartbeats 4000000 in
set_option maxRecDepth 100000 in
theorem c_PL_mark (l : Launch) (D : va_G) (cI : CiT) (z : GzT) (o : Nat → Nat) (a : Nat → Nat) (s : Nat → Nat) (k : Nat → Nat) (b : Nat → Nat) (w : Nat → Nat) (t : Nat → Nat) (q : Nat → Nat) (ut : Bool) (go : (Nat → Nat)) (io : (Nat → Nat)) (ct : Nat) (sh : (Nat → Nat)) (wr : Nat) (cl : (Nat → Nat)) (gr : (Nat → Nat)) (sp : (Nat → Nat)) (rs : (Nat → Nat)) (aw : (Nat → Nat)) (nb : Nat) (na : Nat) (bg : (Nat → Nat)) (bb : (Nat → Nat)) (ab : (Nat → Nat)) (nx : Nat) (gi : (Nat → Nat)) (bi : (Nat → Nat)) (ki : (Nat → Nat)) (qu : (Nat → Nat)) (wt : Nat) (tr : (Nat → Nat)) (be : (Nat → Nat)) (fw : Nat) (fd : Bool) (bx : (Nat → Nat)) (ap : (Nat → Nat)) (pt : (Nat → Nat)) (rk : (Nat → Nat)) (cd : (Nat → Nat)) (mc : (Nat → Nat)) (mg : (Nat → Nat)) (mz : (Nat → Nat)) (nc : (Nat → Nat)) (nt : (Nat → Nat)) (oc : (Nat → Nat)) (fr : Nat) (x : Int32) (hnb : nb ≤ 8) (hgr : ∀ b, gr b ≤ 100000) (hcl : ∀ b, cl b ≤ 9) (hb : ∀ b, bx b ≤ 5) (hcv : ∀ b, b < nb → bx b ≠ 0 → cl b ≠ 0) (hmc : ∀ c, mc c ≤ 6) (hmg : ∀ c, mg c ≤ 999999) : wk_C l D (tyK cI) (gX z) y_PL_mark b_PL_mark 3 (some .int) 2 46 0 0 [.ref (o 0), .int (x)] (wPL o cI (t 0) (s 0) (k 0) (a 0) (w 0) (q 0) ut ++ (wLd a cI go io ct sh wr ++ (wSt s cI cl gr sp rs aw nb na bg bb ab nx ++ (wPk k cI (b 0) gi bi ki qu wt tr be fw fd ++ (wBx b cI bx ++ (wRl w cI ap pt rk cd mc mg mz nc nt oc fr)))))) wk_i (fun (r : Int32) (u : (Nat → Nat)) => r = zI (mkN mc mg mz (fun c => goN cl gr bx c nb) x)) (fun u => (wPL o cI (t 0) (s 0) (k 0) (a 0) (w 0) (q 0) ut ++ (wLd a cI u io ct sh wr ++ (wSt s cI cl gr sp rs aw nb na bg bb ab nx ++ (wPk k cI (b 0) gi bi ki qu wt tr be fw fd ++ (wBx b cI bx ++ (wRl w cI ap pt rk cd mc mg mz nc nt oc fr))))))) := by
  refine wk_methI (own := R_PL) [(0, .ref (o 0)), (1, .int (x))] (by decide) rfl (Nat.le_of_ble_eq_true rfl) rfl (gX_ok z) (fun p_ e_ R_ s_ m_ ar_ be_ me_ co_ Q_ A_ hR_ S_ hnm_ hQ_ => ?_)
  refine wk_iload_n (pc := 0) S_ 1 d_PL_mark_0 rfl rfl ?_
  refine wk_run (pc := 1) (rest := []) (wr := (wPL o cI (t 0) (s 0) (k 0) (a 0) (w 0) (q 0) ut ++ (wLd a cI go io ct sh wr ++ (wSt s cI cl gr sp rs aw nb na bg bb ab nx ++ (wPk k cI (b 0) gi bi ki qu wt tr be fw fd ++ (wBx b cI bx ++ (wRl w cI ap pt rk cd mc mg mz nc nt oc fr))))))) (wN := fun _ => (wPL o cI (t 0) (s 0) (k 0) (a 0) (w 0) (q 0) ut ++ (wLd a cI go io ct sh wr ++ (wSt s cI cl gr sp rs aw nb na bg bb ab nx ++ (wPk k cI (b 0) gi bi ki qu wt tr be fw fd ++ (wBx b cI bx ++ (wRl w cI ap pt rk cd mc mg mz nc nt oc fr))))))) S_ (wk_rS S_ (c_PL_isClass l D cI z (x)) mv_PL_65 rfl rfl (Nat.le_of_ble_eq_true rfl) (by rw [hR_]; decide) (by rw [hR_]; decide) d_PL_mark_1) [] [0, 1, 2, 3, 4, 5, 6, 7, 8, 9, 10, 11, 12, 13, 14, 15, 16, 17, 18, 19, 20, 21, 22, 23, 24, 25, 26, 27, 28, 29, 30, 31, 32] [0, 1, 2, 3, 4, 5, 6, 7, 8, 9, 10, 11, 12, 13, 14, 15, 16, 17, 18, 19, 20, 21, 22, 23, 24, 25, 26, 27, 28, 29, 30, 31, 32] rfl rfl rfl (by decide) (by decide) (by decide) (by decide) (fun _ => rfl) (fun _ => rfl) (fun r1 _ hw1 => ?_)
  refine wk_st (st' := [.int (r1)]) rfl ?_
  refine wk_top (y := (bI (ixI 9 (x)))) hw1 ?_
  refine wk_if_neB (pc := 4) (tgt := 9) S_ d_PL_mark_4 (by decide) (fun h4 => ?_) (fun h4 => ?_)
  · -- taken
    obtain ⟨c, hc, rfl⟩ := ixI_of h4 (by decide)
    refine wk_aload_n (pc := 9) S_ 0 d_PL_mark_9 rfl rfl ?_
    refine wk_get (pc := 10) (v := .ref (a 0)) S_ 0 3 0 in_PL rfl (by decide) rfl fl_PL_33 d_PL_mark_10 rfl rfl ?_
    refine wk_aload_n (pc := 13) S_ 0 d_PL_mark_13 rfl rfl ?_
    refine wk_get (pc := 14) (v := .ref (s 0)) S_ 0 1 0 in_PL rfl (by decide) rfl fl_PL_19 d_PL_mark_14 rfl rfl ?_
    refine wk_aload_n (pc := 17) S_ 0 d_PL_mark_17 rfl rfl ?_
    refine wk_get (pc := 18) (v := .ref (k 0)) S_ 0 2 0 in_PL rfl (by decide) rfl fl_PL_26 d_PL_mark_18 rfl rfl ?_
    refine wk_get (pc := 21) (v := .ref (b 0)) S_ 3 8 14 in_Pk rfl (by decide) rfl fl_PL_102 d_PL_mark_21 rfl rfl ?_
    refine wk_run (pc := 24) (rest := []) (wr := (wPL o cI (t 0) (s 0) (k 0) (a 0) (w 0) (q 0) ut ++ (wPk k cI (b 0) gi bi ki qu wt tr be fw fd ++ (wRl w cI ap pt rk cd mc mg mz nc nt oc fr)))) (wN := fun _ => (wPL o cI (t 0) (s 0) (k 0) (a 0) (w 0) (q 0) ut ++ (wLd a cI (fun c => goN (cl) (gr) (bx) c (nb)) io ct sh wr ++ (wSt s cI cl gr sp rs aw nb na bg bb ab nx ++ (wPk k cI (b 0) gi bi ki qu wt tr be fw fd ++ (wBx b cI bx ++ (wRl w cI ap pt rk cd mc mg mz nc nt oc fr))))))) S_ (wk_rV S_ (c_Ld_gather l D cI z (a) (s) (b) (go) (io) (ct) (sh) (wr) (cl) (gr) (sp) (rs) (aw) (nb) (na) (bg) (bb) (ab) (nx) (bx) (by omega) hgr hcl hb hcv) mv_PL_111 (wk_rcv S_ 0 4 rfl rfl rfl) rfl rfl (Nat.le_of_ble_eq_true rfl) (by rw [hR_]; decide) (by rw [hR_]; decide) d_PL_mark_24) [1, 2, 3, 4, 5, 6, 7, 8, 9, 10, 11, 12, 13, 21] [0, 14, 15, 16, 17, 18, 19, 20, 22, 23, 24, 25, 26, 27, 28, 29, 30, 31, 32] [0, 19, 20, 21, 22, 23, 24, 25, 26, 27, 28, 29, 30, 31, 1, 2, 3, 4, 5, 6, 7, 32, 8, 9, 10, 11, 12, 13, 14, 15, 16, 17, 18] rfl rfl rfl (by decide) (by decide) (by decide) (by decide) (fun _ => rfl) (fun _ => rfl) (fun r24 _ hw24 => ?_)
    refine wk_st (st' := []) rfl ?_
    refine wk_aload_n (pc := 27) S_ 0 d_PL_mark_27 rfl rfl ?_
    refine wk_get (pc := 28) (v := .ref (a 0)) S_ 0 3 0 in_PL rfl (by decide) rfl fl_PL_33 d_PL_mark_28 rfl rfl ?_
    refine wk_get (pc := 31) (v := .ref (a 1)) S_ 4 0 1 in_Ld rfl (by decide) rfl fl_PL_146 d_PL_mark_31 rfl rfl ?_
    refine wk_iload_n (pc := 34) S_ 1 d_PL_mark_34 rfl rfl ?_
    refine wk_ialdN (pc := 35) (g := fun c => goN (cl) (gr) (bx) c (nb)) S_ 2 0 d_PL_mark_35 rfl rfl (by omega) (by decide) ?_
    refine wk_top (y := (nI (goN cl gr bx c nb))) rfl ?_
    refine wk_istore_n (pc := 36) (lv' := [(2, .int (nI (goN cl gr bx c nb))), (0, .ref (o 0)), (1, .int (nI (c)))]) S_ d_PL_mark_36 rfl (by decide) rfl ?_
    refine wk_iload_n (pc := 37) S_ 0 d_PL_mark_37 rfl rfl ?_
    have hg1 := goN_le (cl := cl) (bx := bx) (c := c) hgr nb
    refine wk_if_leN (pc := 38) (tgt := 53) S_ d_PL_mark_38 (by decide) (by omega) (fun h38 => ?_) (fun h38 => ?_)
    · -- taken
      refine wk_iconst (pc := 53) (v := (nI (0))) S_ d_PL_mark_53 (by decide) ?_
      exact hQ_ (nI (0)) (fun c => goN (cl) (gr) (bx) c (nb)) d_PL_mark_54 rfl (by rw [mkN, pick_in hc (by decide), zI_s, if_neg (by omega)])
    · -- on
      refine wk_aload_n (pc := 41) S_ 1 d_PL_mark_41 rfl rfl ?_
      refine wk_get (pc := 42) (v := .ref (w 0)) S_ 0 4 0 in_PL rfl (by decide) rfl fl_PL_40 d_PL_mark_42 rfl rfl ?_
      refine wk_iload_n (pc := 45) S_ 2 d_PL_mark_45 rfl rfl ?_
      refine wk_iload_n (pc := 46) S_ 0 d_PL_mark_46 rfl rfl ?_
      refine wk_run (pc := 47) (rest := []) (wr := (wPL o cI (t 0) (s 0) (k 0) (a 0) (w 0) (q 0) ut ++ (wLd a cI (fun c => goN (cl) (gr) (bx) c (nb)) io ct sh wr ++ (wSt s cI cl gr sp rs aw nb na bg bb ab nx ++ (wPk k cI (b 0) gi bi ki qu wt tr be fw fd ++ (wBx b cI bx)))))) (wN := fun _ => (wPL o cI (t 0) (s 0) (k 0) (a 0) (w 0) (q 0) ut ++ (wLd a cI (fun c => goN (cl) (gr) (bx) c (nb)) io ct sh wr ++ (wSt s cI cl gr sp rs aw nb na bg bb ab nx ++ (wPk k cI (b 0) gi bi ki qu wt tr be fw fd ++ (wBx b cI bx ++ (wRl w cI ap pt rk cd mc mg mz nc nt oc fr))))))) S_ (wk_rV S_ (c_Rl_markSize l D cI z (w) (ap) (pt) (rk) (cd) (mc) (mg) (mz) (nc) (nt) (oc) (fr) (c) (goN cl gr bx c nb) (by omega) (by omega) hmc hmg) mv_PL_149 (wk_rcv S_ 0 5 rfl rfl rfl) rfl rfl (Nat.le_of_ble_eq_true rfl) (by rw [hR_]; decide) (by rw [hR_]; decide) d_PL_mark_47) [22, 23, 24, 25, 26, 27, 28, 29, 30, 31, 32] [0, 1, 2, 3, 4, 5, 6, 7, 8, 9, 10, 11, 12, 13, 14, 15, 16, 17, 18, 19, 20, 21] [0, 1, 2, 3, 4, 5, 6, 7, 8, 9, 10, 11, 12, 13, 14, 15, 16, 17, 18, 19, 20, 21, 22, 23, 24, 25, 26, 27, 28, 29, 30, 31, 32] rfl rfl rfl (by decide) (by decide) (by decide) (by decide) (fun _ => rfl) (fun _ => rfl) (fun r47 _ hw47 => ?_)
      refine wk_st (st' := [.int (r47)]) rfl ?_
      refine wk_top (y := (nI (mkS (mg) (mz) (c) (goN cl gr bx c nb) ((mc) (c))))) hw47 ?_
      refine wk_goto (pc := 50) (tgt := 54) S_ d_PL_mark_50 (by decide) ?_
      exact hQ_ (nI (mkS (mg) (mz) (c) (goN cl gr bx c nb) ((mc) (c)))) (fun c => goN (cl) (gr) (bx) c (nb)) d_PL_mark_54 rfl (by rw [mkN, pick_in hc (by decide), zI_s, if_pos h38])
  · -- on
    refine wk_iconst (pc := 7) (v := (-1)) S_ d_PL_mark_7 (by decide) ?_
    exact hQ_ (-1) (go) d_PL_mark_8 rfl (by rw [mkN, pick, h4]; exact zI_0.symm)
set_option maxHeartbeats 4000000 in
set_option maxRecDepth 100000 in
theorem c_PL_name (l : Launch) (D : va_G) (cI : CiT) (z : GzT) (o : Nat → Nat) (a : Nat → Nat) (s : Nat → Nat) (k : Nat → Nat) (b : Nat → Nat) (w : Nat → Nat) (t : Nat → Nat) (q : Nat → Nat) (ut : Bool) (go : (Nat → Nat)) (io : (Nat → Nat)) (ct : Nat) (sh : (Nat → Nat)) (wr : Nat) (cl : (Nat → Nat)) (gr : (Nat → Nat)) (sp : (Nat → Nat)) (rs : (Nat → Nat)) (aw : (Nat → Nat)) (nb : Nat) (na : Nat) (bg : (Nat → Nat)) (bb : (Nat → Nat)) (ab : (Nat → Nat)) (nx : Nat) (gi : (Nat → Nat)) (bi : (Nat → Nat)) (ki : (Nat → Nat)) (qu : (Nat → Nat)) (wt : Nat) (tr : (Nat → Nat)) (be : (Nat → Nat)) (fw : Nat) (fd : Bool) (bx : (Nat → Nat)) (ap : (Nat → Nat)) (pt : (Nat → Nat)) (rk : (Nat → Nat)) (cd : (Nat → Nat)) (mc : (Nat → Nat)) (mg : (Nat → Nat)) (mz : (Nat → Nat)) (nc : (Nat → Nat)) (nt : (Nat → Nat)) (oc : (Nat → Nat)) (fr : Nat) (x : Int32) (hnb : nb ≤ 8) (hgr : ∀ b, gr b ≤ 100000) (hcl : ∀ b, cl b ≤ 9) (hb : ∀ b, bx b ≤ 5) (hcv : ∀ b, b < nb → bx b ≠ 0 → cl b ≠ 0) (hrk : ∀ c, rk c ≤ 99) : wk_C l D (tyK cI) (gX z) y_PL_name b_PL_name 2 (some .int) 2 46 0 0 [.ref (o 0), .int (x)] (wPL o cI (t 0) (s 0) (k 0) (a 0) (w 0) (q 0) ut ++ (wLd a cI go io ct sh wr ++ (wSt s cI cl gr sp rs aw nb na bg bb ab nx ++ (wPk k cI (b 0) gi bi ki qu wt tr be fw fd ++ (wBx b cI bx ++ (wRl w cI ap pt rk cd mc mg mz nc nt oc fr)))))) wk_i (fun (r : Int32) (u : (Nat → Nat) × Nat) => r = zI (nmS rk (fun c => goN cl gr bx c nb) x 9 0)) (fun u => (wPL o cI (t 0) (s 0) (k 0) (a 0) (w 0) (q 0) ut ++ (wLd a cI (fun c => goN cl gr bx c nb) u.1 u.2 sh wr ++ (wSt s cI cl gr sp rs aw nb na bg bb ab nx ++ (wPk k cI (b 0) gi bi ki qu wt tr be fw fd ++ (wBx b cI bx ++ (wRl w cI ap pt rk cd mc mg mz nc nt oc fr))))))) := by
  refine wk_methI (own := R_PL) [(0, .ref (o 0)), (1, .int (x))] (by decide) rfl (Nat.le_of_ble_eq_true rfl) rfl (gX_ok z) (fun p_ e_ R_ s_ m_ ar_ be_ me_ co_ Q_ A_ hR_ S_ hnm_ hQ_ => ?_)
  refine wk_aload_n (pc := 0) S_ 0 d_PL_name_0 rfl rfl ?_
  refine wk_get (pc := 1) (v := .ref (a 0)) S_ 0 3 0 in_PL rfl (by decide) rfl fl_PL_33 d_PL_name_1 rfl rfl ?_
  refine wk_aload_n (pc := 4) S_ 0 d_PL_name_4 rfl rfl ?_
  refine wk_get (pc := 5) (v := .ref (s 0)) S_ 0 1 0 in_PL rfl (by decide) rfl fl_PL_19 d_PL_name_5 rfl rfl ?_
  refine wk_aload_n (pc := 8) S_ 0 d_PL_name_8 rfl rfl ?_
  refine wk_get (pc := 9) (v := .ref (k 0)) S_ 0 2 0 in_PL rfl (by decide) rfl fl_PL_26 d_PL_name_9 rfl rfl ?_
  refine wk_get (pc := 12) (v := .ref (b 0)) S_ 3 8 14 in_Pk rfl (by decide) rfl fl_PL_102 d_PL_name_12 rfl rfl ?_
  refine wk_run (pc := 15) (rest := []) (wr := (wPL o cI (t 0) (s 0) (k 0) (a 0) (w 0) (q 0) ut ++ (wPk k cI (b 0) gi bi ki qu wt tr be fw fd ++ (wRl w cI ap pt rk cd mc mg mz nc nt oc fr)))) (wN := fun _ => (wPL o cI (t 0) (s 0) (k 0) (a 0) (w 0) (q 0) ut ++ (wLd a cI (fun c => goN (cl) (gr) (bx) c (nb)) io ct sh wr ++ (wSt s cI cl gr sp rs aw nb na bg bb ab nx ++ (wPk k cI (b 0) gi bi ki qu wt tr be fw fd ++ (wBx b cI bx ++ (wRl w cI ap pt rk cd mc mg mz nc nt oc fr))))))) S_ (wk_rV S_ (c_Ld_gather l D cI z (a) (s) (b) (go) (io) (ct) (sh) (wr) (cl) (gr) (sp) (rs) (aw) (nb) (na) (bg) (bb) (ab) (nx) (bx) (by omega) hgr hcl hb hcv) mv_PL_111 (wk_rcv S_ 0 4 rfl rfl rfl) rfl rfl (Nat.le_of_ble_eq_true rfl) (by rw [hR_]; decide) (by rw [hR_]; decide) d_PL_name_15) [1, 2, 3, 4, 5, 6, 7, 8, 9, 10, 11, 12, 13, 21] [0, 14, 15, 16, 17, 18, 19, 20, 22, 23, 24, 25, 26, 27, 28, 29, 30, 31, 32] [0, 19, 20, 21, 22, 23, 24, 25, 26, 27, 28, 29, 30, 31, 1, 2, 3, 4, 5, 6, 7, 32, 8, 9, 10, 11, 12, 13, 14, 15, 16, 17, 18] rfl rfl rfl (by decide) (by decide) (by decide) (by decide) (fun _ => rfl) (fun _ => rfl) (fun r15 _ hw15 => ?_)
  refine wk_st (st' := []) rfl ?_
  refine wk_aload_n (pc := 18) S_ 0 d_PL_name_18 rfl rfl ?_
  refine wk_get (pc := 19) (v := .ref (a 0)) S_ 0 3 0 in_PL rfl (by decide) rfl fl_PL_33 d_PL_name_19 rfl rfl ?_
  refine wk_aload_n (pc := 22) S_ 0 d_PL_name_22 rfl rfl ?_
  refine wk_get (pc := 23) (v := .ref (w 0)) S_ 0 4 0 in_PL rfl (by decide) rfl fl_PL_40 d_PL_name_23 rfl rfl ?_
  refine wk_run (pc := 26) (rest := []) (wr := (wPL o cI (t 0) (s 0) (k 0) (a 0) (w 0) (q 0) ut ++ (wSt s cI cl gr sp rs aw nb na bg bb ab nx ++ (wPk k cI (b 0) gi bi ki qu wt tr be fw fd ++ (wBx b cI bx))))) (wN := fun u26 => (wPL o cI (t 0) (s 0) (k 0) (a 0) (w 0) (q 0) ut ++ (wLd a cI (fun c => goN (cl) (gr) (bx) c (nb)) u26.1 u26.2 sh wr ++ (wSt s cI cl gr sp rs aw nb na bg bb ab nx ++ (wPk k cI (b 0) gi bi ki qu wt tr be fw fd ++ (wBx b cI bx ++ (wRl w cI ap pt rk cd mc mg mz nc nt oc fr))))))) S_ (wk_rV S_ (c_Ld_sort l D cI z (a) (w) (fun c => goN (cl) (gr) (bx) c (nb)) (io) (ct) (sh) (wr) (ap) (pt) (rk) (cd) (mc) (mg) (mz) (nc) (nt) (oc) (fr) hrk (fun c => by have := goN_le (cl := cl) (bx := bx) (c := c) hgr nb; show goN cl gr bx c nb ≤ 800000; omega)) mv_PL_123 (wk_rcv S_ 0 4 rfl rfl rfl) rfl rfl (Nat.le_of_ble_eq_true rfl) (by rw [hR_]; decide) (by rw [hR_]; decide) d_PL_name_26) [1, 2, 3, 4, 22, 23, 24, 25, 26, 27, 28, 29, 30, 31, 32] [0, 5, 6, 7, 8, 9, 10, 11, 12, 13, 14, 15, 16, 17, 18, 19, 20, 21] [0, 18, 19, 20, 21, 1, 2, 3, 4, 5, 6, 7, 8, 9, 10, 11, 12, 13, 14, 15, 16, 17, 22, 23, 24, 25, 26, 27, 28, 29, 30, 31, 32] rfl rfl rfl (by decide) (by decide) (by decide) (by decide) (fun _ => rfl) (fun _ => rfl) (fun r26 u26 hw26 => ?_)
  refine wk_st (st' := []) rfl ?_
  have hO := hw26
  have hct := sO_le hO
  refine wk_iload_n (pc := 29) S_ 1 d_PL_name_29 rfl rfl ?_
  refine wk_if_lt (pc := 30) (tgt := 56) S_ d_PL_name_30 (by decide) (fun h30 => ?_) (fun h30 => ?_)
  · -- taken
    refine wk_iconst (pc := 56) (v := (-1)) S_ d_PL_name_56 (by decide) ?_
    exact hQ_ (-1) (u26.1, u26.2) d_PL_name_57 rfl (by rw [sO_nm hO, pick_a h30]; exact zI_0.symm)
  · -- on
    refine wk_iload_n (pc := 33) S_ 1 d_PL_name_33 rfl rfl ?_
    refine wk_aload_n (pc := 34) S_ 0 d_PL_name_34 rfl rfl ?_
    refine wk_get (pc := 35) (v := .ref (a 0)) S_ 0 3 0 in_PL rfl (by decide) rfl fl_PL_33 d_PL_name_35 rfl rfl ?_
    refine wk_get (pc := 38) (v := .int (nI (u26.2))) S_ 4 2 1 in_Ld rfl (by decide) rfl fl_PL_127 d_PL_name_38 rfl rfl ?_
    refine wk_icmp_ge (pc := 41) (tgt := 56) S_ d_PL_name_41 (by decide) (fun h41 => ?_) (fun h41 => ?_)
    · -- taken
      refine wk_iconst (pc := 56) (v := (-1)) S_ d_PL_name_56 (by decide) ?_
      exact hQ_ (-1) (u26.1, u26.2) d_PL_name_57 rfl (by rw [sO_nm hO, pick_b h41]; exact zI_0.symm)
    · -- on
      obtain ⟨j, hj, rfl⟩ := ix_of h30 h41 (by omega)
      refine wk_aload_n (pc := 44) S_ 0 d_PL_name_44 rfl rfl ?_
      refine wk_get (pc := 45) (v := .ref (a 0)) S_ 0 3 0 in_PL rfl (by decide) rfl fl_PL_33 d_PL_name_45 rfl rfl ?_
      refine wk_get (pc := 48) (v := .ref (a 2)) S_ 4 1 1 in_Ld rfl (by decide) rfl fl_PL_130 d_PL_name_48 rfl rfl ?_
      refine wk_iload_n (pc := 51) S_ 1 d_PL_name_51 rfl rfl ?_
      refine wk_ialdN (pc := 52) (g := u26.1) S_ 3 0 d_PL_name_52 rfl rfl (by omega) (by decide) ?_
      refine wk_goto (pc := 53) (tgt := 57) S_ d_PL_name_53 (by decide) ?_
      exact hQ_ (nI ((u26.1) (j))) (u26.1, u26.2) d_PL_name_57 rfl (by rw [sO_nm hO, pick_in hj (by omega), zI_s])
set_option maxHeartbeats 4000000 in
set_option maxRecDepth 100000 in
theorem c_PL_order (l : Launch) (D : va_G) (cI : CiT) (z : GzT) (o : Nat → Nat) (a : Nat → Nat) (s : Nat → Nat) (k : Nat → Nat) (b : Nat → Nat) (w : Nat → Nat) (t : Nat → Nat) (q : Nat → Nat) (ut : Bool) (go : (Nat → Nat)) (io : (Nat → Nat)) (ct : Nat) (sh : (Nat → Nat)) (wr : Nat) (cl : (Nat → Nat)) (gr : (Nat → Nat)) (sp : (Nat → Nat)) (rs : (Nat → Nat)) (aw : (Nat → Nat)) (nb : Nat) (na : Nat) (bg : (Nat → Nat)) (bb : (Nat → Nat)) (ab : (Nat → Nat)) (nx : Nat) (gi : (Nat → Nat)) (bi : (Nat → Nat)) (ki : (Nat → Nat)) (qu : (Nat → Nat)) (wt : Nat) (tr : (Nat → Nat)) (be : (Nat → Nat)) (fw : Nat) (fd : Bool) (bx : (Nat → Nat)) (ap : (Nat → Nat)) (pt : (Nat → Nat)) (rk : (Nat → Nat)) (cd : (Nat → Nat)) (mc : (Nat → Nat)) (mg : (Nat → Nat)) (mz : (Nat → Nat)) (nc : (Nat → Nat)) (nt : (Nat → Nat)) (oc : (Nat → Nat)) (fr : Nat) (x : Int32) (hnb : nb ≤ 8) (hgr : ∀ b, gr b ≤ 100000) (hcl : ∀ b, cl b ≤ 9) (hb : ∀ b, bx b ≤ 5) (hcv : ∀ b, b < nb → bx b ≠ 0 → cl b ≠ 0) (hrk : ∀ c, rk c ≤ 99) : wk_C l D (tyK cI) (gX z) y_PL_order b_PL_order 2 (some .int) 2 46 0 0 [.ref (o 0), .int (x)] (wPL o cI (t 0) (s 0) (k 0) (a 0) (w 0) (q 0) ut ++ (wLd a cI go io ct sh wr ++ (wSt s cI cl gr sp rs aw nb na bg bb ab nx ++ (wPk k cI (b 0) gi bi ki qu wt tr be fw fd ++ (wBx b cI bx ++ (wRl w cI ap pt rk cd mc mg mz nc nt oc fr)))))) wk_i (fun (r : Int32) (u : (Nat → Nat) × Nat) => r = zI (odS cl bx nb (nmF rk (fun c => goN cl gr bx c nb)) x 9 0 0)) (fun u => (wPL o cI (t 0) (s 0) (k 0) (a 0) (w 0) (q 0) ut ++ (wLd a cI (fun c => goN cl gr bx c nb) u.1 u.2 sh wr ++ (wSt s cI cl gr sp rs aw nb na bg bb ab nx ++ (wPk k cI (b 0) gi bi ki qu wt tr be fw fd ++ (wBx b cI bx ++ (wRl w cI ap pt rk cd mc mg mz nc nt oc fr))))))) := by
  refine wk_methI (own := R_PL) [(0, .ref (o 0)), (1, .int (x))] (by decide) rfl (Nat.le_of_ble_eq_true rfl) rfl (gX_ok z) (fun p_ e_ R_ s_ m_ ar_ be_ me_ co_ Q_ A_ hR_ S_ hnm_ hQ_ => ?_)
  refine wk_aload_n (pc := 0) S_ 0 d_PL_order_0 rfl rfl ?_
  refine wk_get (pc := 1) (v := .ref (a 0)) S_ 0 3 0 in_PL rfl (by decide) rfl fl_PL_33 d_PL_order_1 rfl rfl ?_
  refine wk_aload_n (pc := 4) S_ 0 d_PL_order_4 rfl rfl ?_
  refine wk_get (pc := 5) (v := .ref (s 0)) S_ 0 1 0 in_PL rfl (by decide) rfl fl_PL_19 d_PL_order_5 rfl rfl ?_
  refine wk_aload_n (pc := 8) S_ 0 d_PL_order_8 rfl rfl ?_
  refine wk_get (pc := 9) (v := .ref (k 0)) S_ 0 2 0 in_PL rfl (by decide) rfl fl_PL_26 d_PL_order_9 rfl rfl ?_
  refine wk_get (pc := 12) (v := .ref (b 0)) S_ 3 8 14 in_Pk rfl (by decide) rfl fl_PL_102 d_PL_order_12 rfl rfl ?_
  refine wk_run (pc := 15) (rest := []) (wr := (wPL o cI (t 0) (s 0) (k 0) (a 0) (w 0) (q 0) ut ++ (wPk k cI (b 0) gi bi ki qu wt tr be fw fd ++ (wRl w cI ap pt rk cd mc mg mz nc nt oc fr)))) (wN := fun _ => (wPL o cI (t 0) (s 0) (k 0) (a 0) (w 0) (q 0) ut ++ (wLd a cI (fun c => goN (cl) (gr) (bx) c (nb)) io ct sh wr ++ (wSt s cI cl gr sp rs aw nb na bg bb ab nx ++ (wPk k cI (b 0) gi bi ki qu wt tr be fw fd ++ (wBx b cI bx ++ (wRl w cI ap pt rk cd mc mg mz nc nt oc fr))))))) S_ (wk_rV S_ (c_Ld_gather l D cI z (a) (s) (b) (go) (io) (ct) (sh) (wr) (cl) (gr) (sp) (rs) (aw) (nb) (na) (bg) (bb) (ab) (nx) (bx) (by omega) hgr hcl hb hcv) mv_PL_111 (wk_rcv S_ 0 4 rfl rfl rfl) rfl rfl (Nat.le_of_ble_eq_true rfl) (by rw [hR_]; decide) (by rw [hR_]; decide) d_PL_order_15) [1, 2, 3, 4, 5, 6, 7, 8, 9, 10, 11, 12, 13, 21] [0, 14, 15, 16, 17, 18, 19, 20, 22, 23, 24, 25, 26, 27, 28, 29, 30, 31, 32] [0, 19, 20, 21, 22, 23, 24, 25, 26, 27, 28, 29, 30, 31, 1, 2, 3, 4, 5, 6, 7, 32, 8, 9, 10, 11, 12, 13, 14, 15, 16, 17, 18] rfl rfl rfl (by decide) (by decide) (by decide) (by decide) (fun _ => rfl) (fun _ => rfl) (fun r15 _ hw15 => ?_)
  refine wk_st (st' := []) rfl ?_
  refine wk_aload_n (pc := 18) S_ 0 d_PL_order_18 rfl rfl ?_
  refine wk_get (pc := 19) (v := .ref (a 0)) S_ 0 3 0 in_PL rfl (by decide) rfl fl_PL_33 d_PL_order_19 rfl rfl ?_
  refine wk_aload_n (pc := 22) S_ 0 d_PL_order_22 rfl rfl ?_
  refine wk_get (pc := 23) (v := .ref (w 0)) S_ 0 4 0 in_PL rfl (by decide) rfl fl_PL_40 d_PL_order_23 rfl rfl ?_
  refine wk_run (pc := 26) (rest := []) (wr := (wPL o cI (t 0) (s 0) (k 0) (a 0) (w 0) (q 0) ut ++ (wSt s cI cl gr sp rs aw nb na bg bb ab nx ++ (wPk k cI (b 0) gi bi ki qu wt tr be fw fd ++ (wBx b cI bx))))) (wN := fun u26 => (wPL o cI (t 0) (s 0) (k 0) (a 0) (w 0) (q 0) ut ++ (wLd a cI (fun c => goN (cl) (gr) (bx) c (nb)) u26.1 u26.2 sh wr ++ (wSt s cI cl gr sp rs aw nb na bg bb ab nx ++ (wPk k cI (b 0) gi bi ki qu wt tr be fw fd ++ (wBx b cI bx ++ (wRl w cI ap pt rk cd mc mg mz nc nt oc fr))))))) S_ (wk_rV S_ (c_Ld_sort l D cI z (a) (w) (fun c => goN (cl) (gr) (bx) c (nb)) (io) (ct) (sh) (wr) (ap) (pt) (rk) (cd) (mc) (mg) (mz) (nc) (nt) (oc) (fr) hrk (fun c => by have := goN_le (cl := cl) (bx := bx) (c := c) hgr nb; show goN cl gr bx c nb ≤ 800000; omega)) mv_PL_123 (wk_rcv S_ 0 4 rfl rfl rfl) rfl rfl (Nat.le_of_ble_eq_true rfl) (by rw [hR_]; decide) (by rw [hR_]; decide) d_PL_order_26) [1, 2, 3, 4, 22, 23, 24, 25, 26, 27, 28, 29, 30, 31, 32] [0, 5, 6, 7, 8, 9, 10, 11, 12, 13, 14, 15, 16, 17, 18, 19, 20, 21] [0, 18, 19, 20, 21, 1, 2, 3, 4, 5, 6, 7, 8, 9, 10, 11, 12, 13, 14, 15, 16, 17, 22, 23, 24, 25, 26, 27, 28, 29, 30, 31, 32] rfl rfl rfl (by decide) (by decide) (by decide) (by decide) (fun _ => rfl) (fun _ => rfl) (fun r26 u26 hw26 => ?_)
  refine wk_st (st' := []) rfl ?_
  have hO := hw26
  have hct := sO_le hO
  refine wk_aload_n (pc := 29) S_ 0 d_PL_order_29 rfl rfl ?_
  refine wk_get (pc := 30) (v := .ref (a 0)) S_ 0 3 0 in_PL rfl (by decide) rfl fl_PL_33 d_PL_order_30 rfl rfl ?_
  refine wk_aload_n (pc := 33) S_ 0 d_PL_order_33 rfl rfl ?_
  refine wk_get (pc := 34) (v := .ref (s 0)) S_ 0 1 0 in_PL rfl (by decide) rfl fl_PL_19 d_PL_order_34 rfl rfl ?_
  refine wk_aload_n (pc := 37) S_ 0 d_PL_order_37 rfl rfl ?_
  refine wk_get (pc := 38) (v := .ref (k 0)) S_ 0 2 0 in_PL rfl (by decide) rfl fl_PL_26 d_PL_order_38 rfl rfl ?_
  refine wk_get (pc := 41) (v := .ref (b 0)) S_ 3 8 14 in_Pk rfl (by decide) rfl fl_PL_102 d_PL_order_41 rfl rfl ?_
  refine wk_iload_n (pc := 44) S_ 1 d_PL_order_44 rfl rfl ?_
  refine wk_run (pc := 45) (rest := []) (wr := (wPL o cI (t 0) (s 0) (k 0) (a 0) (w 0) (q 0) ut ++ (wPk k cI (b 0) gi bi ki qu wt tr be fw fd ++ (wRl w cI ap pt rk cd mc mg mz nc nt oc fr)))) (wN := fun _ => (wPL o cI (t 0) (s 0) (k 0) (a 0) (w 0) (q 0) ut ++ (wLd a cI (fun c => goN (cl) (gr) (bx) c (nb)) u26.1 u26.2 sh wr ++ (wSt s cI cl gr sp rs aw nb na bg bb ab nx ++ (wPk k cI (b 0) gi bi ki qu wt tr be fw fd ++ (wBx b cI bx ++ (wRl w cI ap pt rk cd mc mg mz nc nt oc fr))))))) S_ (wk_rV S_ (c_Ld_bottleAt l D cI z (a) (s) (b) (fun c => goN (cl) (gr) (bx) c (nb)) (u26.1) (u26.2) (sh) (wr) (cl) (gr) (sp) (rs) (aw) (nb) (na) (bg) (bb) (ab) (nx) (bx) (x) (by omega) (by omega) hcl hb (fun i hi => (hO.2.1 i hi).1)) mv_PL_133 (wk_rcv S_ 0 4 rfl rfl rfl) rfl rfl (Nat.le_of_ble_eq_true rfl) (by rw [hR_]; decide) (by rw [hR_]; decide) d_PL_order_45) [1, 2, 3, 4, 5, 6, 7, 8, 9, 10, 11, 12, 13, 21] [0, 14, 15, 16, 17, 18, 19, 20, 22, 23, 24, 25, 26, 27, 28, 29, 30, 31, 32] [0, 19, 20, 21, 22, 23, 24, 25, 26, 27, 28, 29, 30, 31, 1, 2, 3, 4, 5, 6, 7, 32, 8, 9, 10, 11, 12, 13, 14, 15, 16, 17, 18] rfl rfl rfl (by decide) (by decide) (by decide) (by decide) (fun _ => rfl) (fun _ => rfl) (fun r45 _ hw45 => ?_)
  refine wk_st (st' := [.int (r45)]) rfl ?_
  refine wk_top (y := (zI (odS (cl) (bx) (nb) (fun i => (u26.1) i + 1) (x) (u26.2) 0 0))) hw45 ?_
  exact hQ_ (zI (odS (cl) (bx) (nb) (fun i => (u26.1) i + 1) (x) (u26.2) 0 0)) (u26.1, u26.2) d_PL_order_48 rfl (by rw [sO_od hO hcv])
set_option maxHeartbeats 4000000 in
set_option maxRecDepth 100000 in
theorem c_PL_note (l : Launch) (D : va_G) (cI : CiT) (z : GzT) (o : Nat → Nat) (w : Nat → Nat) (t : Nat → Nat) (s : Nat → Nat) (k : Nat → Nat) (a : Nat → Nat) (q : Nat → Nat) (ut : Bool) (ap : (Nat → Nat)) (pt : (Nat → Nat)) (rk : (Nat → Nat)) (cd : (Nat → Nat)) (mc : (Nat → Nat)) (mg : (Nat → Nat)) (mz : (Nat → Nat)) (nc : (Nat → Nat)) (nt : (Nat → Nat)) (oc : (Nat → Nat)) (fr : Nat) (x : Int32) (i : Int32) (hnc : ∀ c, nc c ≤ 8) : wk_C l D (tyK cI) (gX z) y_PL_note b_PL_note 3 (some .int) 1 22 0 0 [.ref (o 0), .int (x), .int (i)] (wPL o cI (t 0) (s 0) (k 0) (a 0) (w 0) (q 0) ut ++ (wRl w cI ap pt rk cd mc mg mz nc nt oc fr)) wk_i (fun (r : Int32) (_ : Unit) => r = (zI (ntN nc nt x i))) (fun _ => (wPL o cI (t 0) (s 0) (k 0) (a 0) (w 0) (q 0) ut ++ (wRl w cI ap pt rk cd mc mg mz nc nt oc fr))) := by
  refine wk_methI (own := R_PL) [(0, .ref (o 0)), (1, .int (x)), (2, .int (i))] (by decide) rfl (Nat.le_of_ble_eq_true rfl) rfl (gX_ok z) (fun p_ e_ R_ s_ m_ ar_ be_ me_ co_ Q_ A_ hR_ S_ hnm_ hQ_ => ?_)
  refine wk_aload_n (pc := 0) S_ 0 d_PL_note_0 rfl rfl ?_
  refine wk_get (pc := 1) (v := .ref (w 0)) S_ 0 4 0 in_PL rfl (by decide) rfl fl_PL_40 d_PL_note_1 rfl rfl ?_
  refine wk_iload_n (pc := 4) S_ 1 d_PL_note_4 rfl rfl ?_
  refine wk_iload_n (pc := 5) S_ 2 d_PL_note_5 rfl rfl ?_
  refine wk_run (pc := 6) (rest := []) (wr := (wPL o cI (t 0) (s 0) (k 0) (a 0) (w 0) (q 0) ut)) (wN := fun _ => (wPL o cI (t 0) (s 0) (k 0) (a 0) (w 0) (q 0) ut ++ (wRl w cI ap pt rk cd mc mg mz nc nt oc fr))) S_ (wk_rV S_ (c_Rl_noteAt l D cI z (w) (ap) (pt) (rk) (cd) (mc) (mg) (mz) (nc) (nt) (oc) (fr) (x) (i) hnc) mv_PL_155 (wk_rcv S_ 0 5 rfl rfl rfl) rfl rfl (Nat.le_of_ble_eq_true rfl) (by rw [hR_]; decide) (by rw [hR_]; decide) d_PL_note_6) [1, 2, 3, 4, 5, 6, 7, 8, 9, 10, 11] [0] [0, 1, 2, 3, 4, 5, 6, 7, 8, 9, 10, 11] rfl rfl rfl (by decide) (by decide) (by decide) (by decide) (fun _ => rfl) (fun _ => rfl) (fun r6 _ hw6 => ?_)
  refine wk_st (st' := [.int (r6)]) rfl ?_
  refine wk_top (y := (zI (ntN (nc) (nt) (x) (i)))) hw6 ?_
  exact hQ_ (zI (ntN (nc) (nt) (x) (i))) () d_PL_note_9 rfl rfl
set_option maxHeartbeats 4000000 in
set_option maxRecDepth 100000 in
theorem c_PL_refused (l : Launch) (D : va_G) (cI : CiT) (z : GzT) (o : Nat → Nat) (s : Nat → Nat) (t : Nat → Nat) (k : Nat → Nat) (a : Nat → Nat) (w : Nat → Nat) (q : Nat → Nat) (ut : Bool) (cl : (Nat → Nat)) (gr : (Nat → Nat)) (sp : (Nat → Nat)) (rs : (Nat → Nat)) (aw : (Nat → Nat)) (nb : Nat) (na : Nat) (bg : (Nat → Nat)) (bb : (Nat → Nat)) (ab : (Nat → Nat)) (nx : Nat) (x : Int32) (hna : na ≤ 8) (haw : ∀ k, aw k < 8) : wk_C l D (tyK cI) (gX z) y_PL_refused b_PL_refused 3 (some .int) 0 0 0 0 [.ref (o 0), .int (x)] (wPL o cI (t 0) (s 0) (k 0) (a 0) (w 0) (q 0) ut ++ (wSt s cI cl gr sp rs aw nb na bg bb ab nx)) wk_i (fun (r : Int32) (_ : Unit) => r = (zI (pick na (fun k => 10 * aw k + rs (aw k)) x))) (fun _ => (wPL o cI (t 0) (s 0) (k 0) (a 0) (w 0) (q 0) ut ++ (wSt s cI cl gr sp rs aw nb na bg bb ab nx))) := by
  refine wk_methI (own := R_PL) [(0, .ref (o 0)), (1, .int (x))] (by decide) rfl (Nat.le_of_ble_eq_true rfl) rfl (gX_ok z) (fun p_ e_ R_ s_ m_ ar_ be_ me_ co_ Q_ A_ hR_ S_ hnm_ hQ_ => ?_)
  refine wk_iload_n (pc := 0) S_ 1 d_PL_refused_0 rfl rfl ?_
  refine wk_if_lt (pc := 1) (tgt := 15) S_ d_PL_refused_1 (by decide) (fun h1 => ?_) (fun h1 => ?_)
  · -- taken
    refine wk_iconst (pc := 15) (v := (-1)) S_ d_PL_refused_15 (by decide) ?_
    exact hQ_ (-1) () d_PL_refused_16 rfl (by rw [pick_a h1]; exact zI_0.symm)
  · -- on
    refine wk_iload_n (pc := 4) S_ 1 d_PL_refused_4 rfl rfl ?_
    refine wk_aload_n (pc := 5) S_ 0 d_PL_refused_5 rfl rfl ?_
    refine wk_get (pc := 6) (v := .ref (s 0)) S_ 0 1 0 in_PL rfl (by decide) rfl fl_PL_19 d_PL_refused_6 rfl rfl ?_
    refine wk_get (pc := 9) (v := .int (nI (na))) S_ 2 6 1 in_St rfl (by decide) rfl fl_PL_164 d_PL_refused_9 rfl rfl ?_
    refine wk_icmp_lt (pc := 12) (tgt := 17) S_ d_PL_refused_12 (by decide) (fun h12 => ?_) (fun h12 => ?_)
    · -- taken
      obtain ⟨j, hj, rfl⟩ := ix_of h1 (Int32.not_le.mpr h12) (by omega)
      have ha1 := haw j
      refine wk_aload_n (pc := 17) S_ 0 d_PL_refused_17 rfl rfl ?_
      refine wk_get (pc := 18) (v := .ref (s 0)) S_ 0 1 0 in_PL rfl (by decide) rfl fl_PL_19 d_PL_refused_18 rfl rfl ?_
      refine wk_get (pc := 21) (v := .ref (s 5)) S_ 2 4 1 in_St rfl (by decide) rfl fl_PL_167 d_PL_refused_21 rfl rfl ?_
      refine wk_iload_n (pc := 24) S_ 1 d_PL_refused_24 rfl rfl ?_
      refine wk_ialdN (pc := 25) (g := aw) S_ 6 0 d_PL_refused_25 rfl rfl (by omega) (by decide) ?_
      refine wk_istore_n (pc := 26) (lv' := [(2, .int (nI ((aw) (j)))), (0, .ref (o 0)), (1, .int (nI (j)))]) S_ d_PL_refused_26 rfl (by decide) rfl ?_
      refine wk_bipush (pc := 27) (v := (nI (10))) S_ d_PL_refused_27 (by decide) ?_
      refine wk_iload_n (pc := 29) S_ 0 d_PL_refused_29 rfl rfl ?_
      refine wk_imulN (pc := 30) S_ d_PL_refused_30 ?_
      refine wk_aload_n (pc := 31) S_ 1 d_PL_refused_31 rfl rfl ?_
      refine wk_get (pc := 32) (v := .ref (s 0)) S_ 0 1 0 in_PL rfl (by decide) rfl fl_PL_19 d_PL_refused_32 rfl rfl ?_
      refine wk_get (pc := 35) (v := .ref (s 4)) S_ 2 3 1 in_St rfl (by decide) rfl fl_PL_170 d_PL_refused_35 rfl rfl ?_
      refine wk_iload_n (pc := 38) S_ 0 d_PL_refused_38 rfl rfl ?_
      refine wk_ialdN (pc := 39) (g := rs) S_ 5 0 d_PL_refused_39 rfl rfl (by omega) (by decide) ?_
      refine wk_iaddN (pc := 40) S_ d_PL_refused_40 ?_
      exact hQ_ (nI (((10) * ((aw) (j))) + ((rs) ((aw) (j))))) () d_PL_refused_41 rfl (by rw [pick_in hj (by omega), zI_s])
    · -- on
      refine wk_iconst (pc := 15) (v := (-1)) S_ d_PL_refused_15 (by decide) ?_
      exact hQ_ (-1) () d_PL_refused_16 rfl (by rw [pick_b (Int32.not_lt.mp h12)]; exact zI_0.symm)
set_option maxHeartbeats 4000000 in
set_option maxRecDepth 100000 in
theorem c_PL_refuse (l : Launch) (D : va_G) (cI : CiT) (z : GzT) (o : Nat → Nat) (s : Nat → Nat) (t : Nat → Nat) (k : Nat → Nat) (a : Nat → Nat) (w : Nat → Nat) (q : Nat → Nat) (ut : Bool) (cl : (Nat → Nat)) (gr : (Nat → Nat)) (sp : (Nat → Nat)) (rs : (Nat → Nat)) (aw : (Nat → Nat)) (nb : Nat) (na : Nat) (bg : (Nat → Nat)) (bb : (Nat → Nat)) (ab : (Nat → Nat)) (nx : Nat) (x : Int32) (q0 : Int32) (hnb : nb ≤ 8) (hna : na ≤ 8) (hrs : ∀ b, rs b ≤ 9) (hno : (∀ b, b < nb → rs b ≠ 0) ∨ na < nb) : wk_C l D (tyK cI) (gX z) y_PL_refuse b_PL_refuse 4 (some .int) 1 22 0 0 [.ref (o 0), .int (x), .int (q0)] (wPL o cI (t 0) (s 0) (k 0) (a 0) (w 0) (q 0) ut ++ (wSt s cI cl gr sp rs aw nb na bg bb ab nx)) wk_i (fun (r : Int32) (u : (Nat → Nat) × (Nat → Nat) × Nat × Bool) => r = zI (reC rs aw na ut nb x q0).1 ∧ u = (reC rs aw na ut nb x q0).2) (fun u => (wPL o cI (t 0) (s 0) (k 0) (a 0) (w 0) (q 0) u.2.2.2 ++ (wSt s cI cl gr sp u.1 u.2.1 nb u.2.2.1 bg bb ab nx))) := by
  refine wk_methI (own := R_PL) [(0, .ref (o 0)), (1, .int (x)), (2, .int (q0))] (by decide) rfl (Nat.le_of_ble_eq_true rfl) rfl (gX_ok z) (fun p_ e_ R_ s_ m_ ar_ be_ me_ co_ Q_ A_ hR_ S_ hnm_ hQ_ => ?_)
  refine wk_aload_n (pc := 0) S_ 0 d_PL_refuse_0 rfl rfl ?_
  refine wk_get (pc := 1) (v := .ref (s 0)) S_ 0 1 0 in_PL rfl (by decide) rfl fl_PL_19 d_PL_refuse_1 rfl rfl ?_
  refine wk_iload_n (pc := 4) S_ 1 d_PL_refuse_4 rfl rfl ?_
  refine wk_run (pc := 5) (rest := []) (wr := (wPL o cI (t 0) (s 0) (k 0) (a 0) (w 0) (q 0) ut)) (wN := fun _ => (wPL o cI (t 0) (s 0) (k 0) (a 0) (w 0) (q 0) ut ++ (wSt s cI cl gr sp rs aw nb na bg bb ab nx))) S_ (wk_rV S_ (c_St_hasBottle l D cI z (s) (cl) (gr) (sp) (rs) (aw) (nb) (na) (bg) (bb) (ab) (nx) (x)) mv_PL_99 (wk_rcv S_ 0 2 rfl rfl rfl) rfl rfl (Nat.le_of_ble_eq_true rfl) (by rw [hR_]; decide) (by rw [hR_]; decide) d_PL_refuse_5) [1, 2, 3, 4, 5, 6, 7, 8, 9] [0] [0, 1, 2, 3, 4, 5, 6, 7, 8, 9] rfl rfl rfl (by decide) (by decide) (by decide) (by decide) (fun _ => rfl) (fun _ => rfl) (fun r5 _ hw5 => ?_)
  refine wk_st (st' := [.int (r5)]) rfl ?_
  refine wk_top (y := (bI (ixI (nb) (x)))) hw5 ?_
  refine wk_if_eqB (pc := 8) (tgt := 26) S_ d_PL_refuse_8 (by decide) (fun h8 => ?_) (fun h8 => ?_)
  · -- taken
    refine wk_iconst (pc := 26) (v := (nI (0))) S_ d_PL_refuse_26 (by decide) ?_
    refine wk_istore_n (pc := 27) (lv' := [(3, .int (nI (0))), (0, .ref (o 0)), (1, .int (x)), (2, .int (q0))]) S_ d_PL_refuse_27 rfl (by decide) rfl ?_
    refine wk_iload_n (pc := 28) S_ 0 d_PL_refuse_28 rfl rfl ?_
    refine wk_if_eqN (pc := 29) (tgt := 43) S_ d_PL_refuse_29 (by decide) (by omega) (fun h29 => ?_) (fun h29 => absurd h29 (by decide))
    refine wk_iconst (pc := 43) (v := (-1)) S_ d_PL_refuse_43 (by decide) ?_
    exact hQ_ (-1) (rs, aw, na, ut) d_PL_refuse_44 rfl (by rw [reC, if_neg (fun z => by rw [h8] at z; exact absurd z.1 (by decide))]; exact ⟨zI_0.symm, rfl⟩)
  · -- on
    refine wk_iload_n (pc := 11) S_ 2 d_PL_refuse_11 rfl rfl ?_
    refine wk_iconst (pc := 12) (v := (nI (1))) S_ d_PL_refuse_12 (by decide) ?_
    refine wk_icmp_lt (pc := 13) (tgt := 26) S_ d_PL_refuse_13 (by decide) (fun h13 => ?_) (fun h13 => ?_)
    · -- taken
      refine wk_iconst (pc := 26) (v := (nI (0))) S_ d_PL_refuse_26 (by decide) ?_
      refine wk_istore_n (pc := 27) (lv' := [(3, .int (nI (0))), (0, .ref (o 0)), (1, .int (x)), (2, .int (q0))]) S_ d_PL_refuse_27 rfl (by decide) rfl ?_
      refine wk_iload_n (pc := 28) S_ 0 d_PL_refuse_28 rfl rfl ?_
      refine wk_if_eqN (pc := 29) (tgt := 43) S_ d_PL_refuse_29 (by decide) (by omega) (fun h29 => ?_) (fun h29 => absurd h29 (by decide))
      refine wk_iconst (pc := 43) (v := (-1)) S_ d_PL_refuse_43 (by decide) ?_
      exact hQ_ (-1) (rs, aw, na, ut) d_PL_refuse_44 rfl (by rw [reC, if_neg (fun z => by rw [rs_a h13] at z; exact absurd z.2.1 (by decide))]; exact ⟨zI_0.symm, rfl⟩)
    · -- on
      refine wk_iload_n (pc := 16) S_ 2 d_PL_refuse_16 rfl rfl ?_
      refine wk_bipush (pc := 17) (v := (nI (9))) S_ d_PL_refuse_17 (by decide) ?_
      refine wk_icmp_gt (pc := 19) (tgt := 26) S_ d_PL_refuse_19 (by decide) (fun h19 => ?_) (fun h19 => ?_)
      · -- taken
        refine wk_iconst (pc := 26) (v := (nI (0))) S_ d_PL_refuse_26 (by decide) ?_
        refine wk_istore_n (pc := 27) (lv' := [(3, .int (nI (0))), (0, .ref (o 0)), (1, .int (x)), (2, .int (q0))]) S_ d_PL_refuse_27 rfl (by decide) rfl ?_
        refine wk_iload_n (pc := 28) S_ 0 d_PL_refuse_28 rfl rfl ?_
        refine wk_if_eqN (pc := 29) (tgt := 43) S_ d_PL_refuse_29 (by decide) (by omega) (fun h29 => ?_) (fun h29 => absurd h29 (by decide))
        refine wk_iconst (pc := 43) (v := (-1)) S_ d_PL_refuse_43 (by decide) ?_
        exact hQ_ (-1) (rs, aw, na, ut) d_PL_refuse_44 rfl (by rw [reC, if_neg (fun z => by rw [rs_b h19] at z; exact absurd z.2.1 (by decide))]; exact ⟨zI_0.symm, rfl⟩)
      · -- on
        have hq9 : rsOk q0 = true := rs_t h13 h19
        obtain ⟨j, hj, rfl⟩ := ixI_of h8 (by omega)
        have hr1 := hrs j
        refine wk_iconst (pc := 22) (v := (nI (1))) S_ d_PL_refuse_22 (by decide) ?_
        refine wk_goto (pc := 23) (tgt := 27) S_ d_PL_refuse_23 (by decide) ?_
        refine wk_istore_n (pc := 27) (lv' := [(3, .int (nI (1))), (0, .ref (o 0)), (1, .int (nI (j))), (2, .int (q0))]) S_ d_PL_refuse_27 rfl (by decide) rfl ?_
        refine wk_iload_n (pc := 28) S_ 0 d_PL_refuse_28 rfl rfl ?_
        refine wk_if_eqN (pc := 29) (tgt := 43) S_ d_PL_refuse_29 (by decide) (by omega) (fun h29 => absurd h29 (by decide)) (fun h29 => ?_)
        refine wk_aload_n (pc := 32) S_ 1 d_PL_refuse_32 rfl rfl ?_
        refine wk_get (pc := 33) (v := .ref (s 0)) S_ 0 1 0 in_PL rfl (by decide) rfl fl_PL_19 d_PL_refuse_33 rfl rfl ?_
        refine wk_iload_n (pc := 36) S_ 2 d_PL_refuse_36 rfl rfl ?_
        refine wk_run (pc := 37) (rest := []) (wr := (wPL o cI (t 0) (s 0) (k 0) (a 0) (w 0) (q 0) ut)) (wN := fun _ => (wPL o cI (t 0) (s 0) (k 0) (a 0) (w 0) (q 0) ut ++ (wSt s cI cl gr sp rs aw nb na bg bb ab nx))) S_ (wk_rV S_ (c_St_isRefused l D cI z (s) (cl) (gr) (sp) (rs) (aw) (nb) (na) (bg) (bb) (ab) (nx) (j) (by omega) (by omega)) mv_PL_158 (wk_rcv S_ 0 2 rfl rfl rfl) rfl rfl (Nat.le_of_ble_eq_true rfl) (by rw [hR_]; decide) (by rw [hR_]; decide) d_PL_refuse_37) [1, 2, 3, 4, 5, 6, 7, 8, 9] [0] [0, 1, 2, 3, 4, 5, 6, 7, 8, 9] rfl rfl rfl (by decide) (by decide) (by decide) (by decide) (fun _ => rfl) (fun _ => rfl) (fun r37 _ hw37 => ?_)
        refine wk_st (st' := [.int (r37)]) rfl ?_
        refine wk_top (y := (bI (decide ((rs) (j) ≠ 0)))) hw37 ?_
        refine wk_if_eqB (pc := 40) (tgt := 45) S_ d_PL_refuse_40 (by decide) (fun h40 => ?_) (fun h40 => ?_)
        · -- taken
          obtain ⟨v, hv, rfl⟩ := rsOk_of hq9
          have h40' : rs j = 0 := by simpa using h40
          have hna2 : na < nb := by rcases hno with z | z; exact absurd h40' (z j hj); exact z
          refine wk_aload_n (pc := 45) S_ 1 d_PL_refuse_45 rfl rfl ?_
          refine wk_iconst (pc := 46) (v := (nI (0))) S_ d_PL_refuse_46 (by decide) ?_
          refine wk_put (pc := 47) (ty := .boolean) (ws' := (wPL o cI (t 0) (s 0) (k 0) (a 0) (w 0) (q 0) false ++ (wSt s cI cl gr sp rs aw nb na bg bb ab nx))) S_ 0 6 0 in_PL t_PL t_PL_ok n_PL rfl (by decide) rfl fl_PL_47 (by decide +kernel) d_PL_refuse_47 rfl rfl rfl (Nat.le_of_ble_eq_true rfl) rfl ?_
          refine wk_aload_n (pc := 50) S_ 1 d_PL_refuse_50 rfl rfl ?_
          refine wk_get (pc := 51) (v := .ref (s 0)) S_ 0 1 0 in_PL rfl (by decide) rfl fl_PL_19 d_PL_refuse_51 rfl rfl ?_
          refine wk_iload_n (pc := 54) S_ 2 d_PL_refuse_54 rfl rfl ?_
          refine wk_iload_n (pc := 55) S_ 3 d_PL_refuse_55 rfl rfl ?_
          refine wk_run (pc := 56) (rest := []) (wr := (wPL o cI (t 0) (s 0) (k 0) (a 0) (w 0) (q 0) false)) (wN := fun _ => (wPL o cI (t 0) (s 0) (k 0) (a 0) (w 0) (q 0) false ++ (wSt s cI cl gr sp (va_up (rs) (j) (v)) (va_up (aw) (na) (j)) nb ((na) + 1) bg bb ab nx))) S_ (wk_rV S_ (c_St_turnAway l D cI z (s) (cl) (gr) (sp) (rs) (aw) (nb) (na) (bg) (bb) (ab) (nx) (j) (v) (by omega) (by omega)) mv_PL_161 (wk_rcv S_ 0 2 rfl rfl rfl) rfl rfl (Nat.le_of_ble_eq_true rfl) (by rw [hR_]; decide) (by rw [hR_]; decide) d_PL_refuse_56) [1, 2, 3, 4, 5, 6, 7, 8, 9] [0] [0, 1, 2, 3, 4, 5, 6, 7, 8, 9] rfl rfl rfl (by decide) (by decide) (by decide) (by decide) (fun _ => rfl) (fun _ => rfl) (fun r56 _ hw56 => ?_)
          refine wk_st (st' := [.int (r56)]) rfl ?_
          refine wk_top (y := (nI ((na) + 1))) hw56 ?_
          exact hQ_ (nI ((na) + 1)) (va_up (rs) (j) (v), va_up (aw) (na) (j), (na) + 1, false) d_PL_refuse_59 rfl (by rw [reC, nI_clamp (by omega), nI_clamp (by omega), if_pos ⟨h8, hq9, h40'⟩]; exact ⟨(zI_s (na + 1)).symm, rfl⟩)
        · -- on
          refine wk_iconst (pc := 43) (v := (-1)) S_ d_PL_refuse_43 (by decide) ?_
          exact hQ_ (-1) (rs, aw, na, ut) d_PL_refuse_44 rfl (by rw [reC, if_neg (fun z => by rw [nI_clamp (by omega)] at z; exact absurd z.2.2 (by simpa using h40))]; exact ⟨zI_0.symm, rfl⟩)
set_option maxHeartbeats 4000000 in
set_option maxRecDepth 100000 in
theorem c_PL_test (l : Launch) (D : va_G) (cI : CiT) (z : GzT) (o : Nat → Nat) (s : Nat → Nat) (w : Nat → Nat) (t : Nat → Nat) (k : Nat → Nat) (a : Nat → Nat) (q : Nat → Nat) (ut : Bool) (cl : (Nat → Nat)) (gr : (Nat → Nat)) (sp : (Nat → Nat)) (rs : (Nat → Nat)) (aw : (Nat → Nat)) (nb : Nat) (na : Nat) (bg : (Nat → Nat)) (bb : (Nat → Nat)) (ab : (Nat → Nat)) (nx : Nat) (ap : (Nat → Nat)) (pt : (Nat → Nat)) (rk : (Nat → Nat)) (cd : (Nat → Nat)) (mc : (Nat → Nat)) (mg : (Nat → Nat)) (mz : (Nat → Nat)) (nc : (Nat → Nat)) (nt : (Nat → Nat)) (oc : (Nat → Nat)) (fr : Nat) (x : Int32) (y : Int32) (q0 : Int32) (hnb : nb ≤ 8) (hsp : ∀ b, sp b ≤ 9) (hcl : ∀ b, cl b ≤ 9) (hoc : ∀ b, oc b ≤ 19) : wk_C l D (tyK cI) (gX z) y_PL_test b_PL_test 5 (some .int) 1 22 0 0 [.ref (o 0), .int (x), .int (y), .int (q0)] (wPL o cI (t 0) (s 0) (k 0) (a 0) (w 0) (q 0) ut ++ (wSt s cI cl gr sp rs aw nb na bg bb ab nx ++ (wRl w cI ap pt rk cd mc mg mz nc nt oc fr))) wk_i (fun (r : Int32) (u : (Nat → Nat) × (Nat → Nat) × Bool) => r = (tsS cl sp oc ut nb x y q0).1 ∧ u = (tsS cl sp oc ut nb x y q0).2) (fun u => (wPL o cI (t 0) (s 0) (k 0) (a 0) (w 0) (q 0) u.2.2 ++ (wSt s cI u.1 gr u.2.1 rs aw nb na bg bb ab nx ++ (wRl w cI ap pt rk cd mc mg mz nc nt oc fr)))) := by
  refine wk_methI (own := R_PL) [(0, .ref (o 0)), (1, .int (x)), (2, .int (y)), (3, .int (q0))] (by decide) rfl (Nat.le_of_ble_eq_true rfl) rfl (gX_ok z) (fun p_ e_ R_ s_ m_ ar_ be_ me_ co_ Q_ A_ hR_ S_ hnm_ hQ_ => ?_)
  refine wk_aload_n (pc := 0) S_ 0 d_PL_test_0 rfl rfl ?_
  refine wk_get (pc := 1) (v := .ref (s 0)) S_ 0 1 0 in_PL rfl (by decide) rfl fl_PL_19 d_PL_test_1 rfl rfl ?_
  refine wk_iload_n (pc := 4) S_ 1 d_PL_test_4 rfl rfl ?_
  refine wk_run (pc := 5) (rest := []) (wr := (wPL o cI (t 0) (s 0) (k 0) (a 0) (w 0) (q 0) ut ++ (wRl w cI ap pt rk cd mc mg mz nc nt oc fr))) (wN := fun _ => (wPL o cI (t 0) (s 0) (k 0) (a 0) (w 0) (q 0) ut ++ (wSt s cI cl gr sp rs aw nb na bg bb ab nx ++ (wRl w cI ap pt rk cd mc mg mz nc nt oc fr)))) S_ (wk_rV S_ (c_St_hasBottle l D cI z (s) (cl) (gr) (sp) (rs) (aw) (nb) (na) (bg) (bb) (ab) (nx) (x)) mv_PL_99 (wk_rcv S_ 0 2 rfl rfl rfl) rfl rfl (Nat.le_of_ble_eq_true rfl) (by rw [hR_]; decide) (by rw [hR_]; decide) d_PL_test_5) [1, 2, 3, 4, 5, 6, 7, 8, 9] [0, 10, 11, 12, 13, 14, 15, 16, 17, 18, 19, 20] [0, 12, 13, 14, 15, 16, 17, 18, 19, 20, 1, 2, 3, 4, 5, 6, 7, 8, 9, 10, 11] rfl rfl rfl (by decide) (by decide) (by decide) (by decide) (fun _ => rfl) (fun _ => rfl) (fun r5 _ hw5 => ?_)
  refine wk_st (st' := [.int (r5)]) rfl ?_
  refine wk_top (y := (bI (ixI (nb) (x)))) hw5 ?_
  refine wk_if_eqB (pc := 8) (tgt := 37) S_ d_PL_test_8 (by decide) (fun h8 => ?_) (fun h8 => ?_)
  · -- taken
    refine wk_bipush (pc := 37) (v := (-100)) S_ d_PL_test_37 (by decide) ?_
    exact hQ_ (-100) (cl, sp, ut) d_PL_test_39 rfl (by rw [tsS, if_neg (fun z => by rw [h8] at z; exact absurd z.1 (by decide))]; exact ⟨rfl, rfl⟩)
  · -- on
    obtain ⟨j, hj, rfl⟩ := ixI_of h8 (by omega)
    have hc1 := hcl j
    have hs1 := hsp j
    refine wk_aload_n (pc := 11) S_ 0 d_PL_test_11 rfl rfl ?_
    refine wk_get (pc := 12) (v := .ref (s 0)) S_ 0 1 0 in_PL rfl (by decide) rfl fl_PL_19 d_PL_test_12 rfl rfl ?_
    refine wk_get (pc := 15) (v := .ref (s 1)) S_ 2 0 1 in_St rfl (by decide) rfl fl_PL_173 d_PL_test_15 rfl rfl ?_
    refine wk_iload_n (pc := 18) S_ 1 d_PL_test_18 rfl rfl ?_
    refine wk_ialdY (pc := 19) (g := cl) S_ 2 0 d_PL_test_19 rfl rfl (by omega) (by decide) ?_
    refine wk_iconst (pc := 20) (v := (-1)) S_ d_PL_test_20 (by decide) ?_
    refine wk_icmp_neY (pc := 21) (tgt := 37) S_ d_PL_test_21 (by decide) (by omega) (fun h21 => ?_) (fun h21 => ?_)
    · -- taken
      refine wk_bipush (pc := 37) (v := (-100)) S_ d_PL_test_37 (by decide) ?_
      exact hQ_ (-100) (cl, sp, ut) d_PL_test_39 rfl (by rw [tsS, if_neg (fun z => by rw [nI_clamp (by omega)] at z; exact h21 z.2.1)]; exact ⟨rfl, rfl⟩)
    · -- on
      refine wk_aload_n (pc := 24) S_ 0 d_PL_test_24 rfl rfl ?_
      refine wk_get (pc := 25) (v := .ref (s 0)) S_ 0 1 0 in_PL rfl (by decide) rfl fl_PL_19 d_PL_test_25 rfl rfl ?_
      refine wk_get (pc := 28) (v := .ref (s 3)) S_ 2 2 1 in_St rfl (by decide) rfl fl_PL_176 d_PL_test_28 rfl rfl ?_
      refine wk_iload_n (pc := 31) S_ 1 d_PL_test_31 rfl rfl ?_
      refine wk_ialdN (pc := 32) (g := sp) S_ 4 0 d_PL_test_32 rfl rfl (by omega) (by decide) ?_
      refine wk_iload_n (pc := 33) S_ 2 d_PL_test_33 rfl rfl ?_
      refine wk_icmp_eq (pc := 34) (tgt := 40) S_ d_PL_test_34 (by decide) (fun h34 => ?_) (fun h34 => ?_)
      · -- taken
        subst h34
        refine wk_aload_n (pc := 40) S_ 0 d_PL_test_40 rfl rfl ?_
        refine wk_get (pc := 41) (v := .ref (w 0)) S_ 0 4 0 in_PL rfl (by decide) rfl fl_PL_40 d_PL_test_41 rfl rfl ?_
        refine wk_iload_n (pc := 44) S_ 2 d_PL_test_44 rfl rfl ?_
        refine wk_iload_n (pc := 45) S_ 3 d_PL_test_45 rfl rfl ?_
        refine wk_run (pc := 46) (rest := []) (wr := (wPL o cI (t 0) (s 0) (k 0) (a 0) (w 0) (q 0) ut ++ (wSt s cI cl gr sp rs aw nb na bg bb ab nx))) (wN := fun _ => (wPL o cI (t 0) (s 0) (k 0) (a 0) (w 0) (q 0) ut ++ (wSt s cI cl gr sp rs aw nb na bg bb ab nx ++ (wRl w cI ap pt rk cd mc mg mz nc nt oc fr)))) S_ (wk_rV S_ (c_Rl_outcomeOf l D cI z (w) (ap) (pt) (rk) (cd) (mc) (mg) (mz) (nc) (nt) (oc) (fr) (sp j) (q0) (by omega)) mv_PL_179 (wk_rcv S_ 0 5 rfl rfl rfl) rfl rfl (Nat.le_of_ble_eq_true rfl) (by rw [hR_]; decide) (by rw [hR_]; decide) d_PL_test_46) [10, 11, 12, 13, 14, 15, 16, 17, 18, 19, 20] [0, 1, 2, 3, 4, 5, 6, 7, 8, 9] [0, 1, 2, 3, 4, 5, 6, 7, 8, 9, 10, 11, 12, 13, 14, 15, 16, 17, 18, 19, 20] rfl rfl rfl (by decide) (by decide) (by decide) (by decide) (fun _ => rfl) (fun _ => rfl) (fun r46 _ hw46 => ?_)
        refine wk_st (st' := [.int (r46)]) rfl ?_
        refine wk_top (y := (zI (pickY 4 (fun jj => (oc) (4 * (sp j) + jj)) (q0)))) hw46 ?_
        refine wk_istore (pc := 49) (lv' := [(4, .int (zI (pickY 4 (fun jj => (oc) (4 * (sp j) + jj)) (q0)))), (0, .ref (o 0)), (1, .int (nI (j))), (2, .int (nI (sp j))), (3, .int (q0))]) S_ d_PL_test_49 (by decide) rfl ?_
        refine wk_iload (pc := 51) S_ 0 d_PL_test_51 rfl ?_
        refine wk_iconst (pc := 53) (v := (-1)) S_ d_PL_test_53 (by decide) ?_
        have ho1 : pickY 4 (fun jj => oc (4 * sp j + jj)) q0 ≤ 19 := by unfold pickY; split; exact hoc _; omega
        refine wk_icmp_neY (pc := 54) (tgt := 60) S_ d_PL_test_54 (by decide) (by omega) (fun h54 => ?_) (fun h54 => ?_)
        · -- taken
          have h9 : ixI 4 q0 = true := by by_cases z : ixI 4 q0 = true; exact z; rw [pickY_f (by simpa using z)] at h54; exact absurd rfl h54
          obtain ⟨v, hv, rfl⟩ := ixI_of h9 (by decide)
          rw [pickY_in hv (by decide)] at h54 ho1 ⊢
          refine wk_aload_n (pc := 60) S_ 1 d_PL_test_60 rfl rfl ?_
          refine wk_iconst (pc := 61) (v := (nI (0))) S_ d_PL_test_61 (by decide) ?_
          refine wk_put (pc := 62) (ty := .boolean) (ws' := (wPL o cI (t 0) (s 0) (k 0) (a 0) (w 0) (q 0) false ++ (wSt s cI cl gr sp rs aw nb na bg bb ab nx ++ (wRl w cI ap pt rk cd mc mg mz nc nt oc fr)))) S_ 0 6 0 in_PL t_PL t_PL_ok n_PL rfl (by decide) rfl fl_PL_47 (by decide +kernel) d_PL_test_62 rfl rfl rfl (Nat.le_of_ble_eq_true rfl) rfl ?_
          refine wk_aload_n (pc := 65) S_ 1 d_PL_test_65 rfl rfl ?_
          refine wk_get (pc := 66) (v := .ref (s 0)) S_ 0 1 0 in_PL rfl (by decide) rfl fl_PL_19 d_PL_test_66 rfl rfl ?_
          refine wk_iload_n (pc := 69) S_ 2 d_PL_test_69 rfl rfl ?_
          refine wk_iload (pc := 70) S_ 0 d_PL_test_70 rfl ?_
          refine wk_top (y := (nI (oc (4 * sp j + v) - 1))) (zI_p h54) ?_
          refine wk_run (pc := 72) (rest := []) (wr := (wPL o cI (t 0) (s 0) (k 0) (a 0) (w 0) (q 0) false ++ (wRl w cI ap pt rk cd mc mg mz nc nt oc fr))) (wN := fun _ => (wPL o cI (t 0) (s 0) (k 0) (a 0) (w 0) (q 0) false ++ (wSt s cI (if (oc (4 * sp j + v) - 1) < 10 then (cl) else va_up (cl) (j) ((oc (4 * sp j + v) - 1) - 10 + 1)) gr (if (oc (4 * sp j + v) - 1) < 10 then va_up (sp) (j) (oc (4 * sp j + v) - 1) else (sp)) rs aw nb na bg bb ab nx ++ (wRl w cI ap pt rk cd mc mg mz nc nt oc fr)))) S_ (wk_rV S_ (c_St_learn l D cI z (s) (cl) (gr) (sp) (rs) (aw) (nb) (na) (bg) (bb) (ab) (nx) (j) (oc (4 * sp j + v) - 1) (by omega) (by omega)) mv_PL_182 (wk_rcv S_ 0 2 rfl rfl rfl) rfl rfl (Nat.le_of_ble_eq_true rfl) (by rw [hR_]; decide) (by rw [hR_]; decide) d_PL_test_72) [1, 2, 3, 4, 5, 6, 7, 8, 9] [0, 10, 11, 12, 13, 14, 15, 16, 17, 18, 19, 20] [0, 12, 13, 14, 15, 16, 17, 18, 19, 20, 1, 2, 3, 4, 5, 6, 7, 8, 9, 10, 11] rfl rfl rfl (by decide) (by decide) (by decide) (by decide) (fun _ => rfl) (fun _ => rfl) (fun r72 _ hw72 => ?_)
          refine wk_st (st' := [.int (r72)]) rfl ?_
          refine wk_top (y := (lI ((oc (4 * sp j + v) - 1) + 1))) hw72 ?_
          exact hQ_ (lI ((oc (4 * sp j + v) - 1) + 1)) (if (oc (4 * sp j + v) - 1) < 10 then (cl) else va_up (cl) (j) ((oc (4 * sp j + v) - 1) - 10 + 1), if (oc (4 * sp j + v) - 1) < 10 then va_up (sp) (j) (oc (4 * sp j + v) - 1) else (sp), false) d_PL_test_75 rfl (by rw [tsS, nI_clamp (by omega), nI_clamp (by omega), if_pos ⟨h8, h21, rfl, h9, h54⟩]; refine ⟨by rw [show oc (4 * sp j + v) - 1 + 1 = oc (4 * sp j + v) by omega], ?_⟩; by_cases z : oc (4 * sp j + v) ≤ 10; rw [if_pos z, if_pos z, if_pos (by omega), if_pos (by omega)]; rw [if_neg z, if_neg z, if_neg (by omega), if_neg (by omega), show oc (4 * sp j + v) - 1 - 10 + 1 = oc (4 * sp j + v) - 10 by omega])
        · -- on
          refine wk_bipush (pc := 57) (v := (-100)) S_ d_PL_test_57 (by decide) ?_
          exact hQ_ (-100) (cl, sp, ut) d_PL_test_59 rfl (by rw [tsS, nI_clamp (by omega), if_neg (fun z => by have z2 := z.2.2.2; obtain ⟨v, hv, rfl⟩ := ixI_of z2.1 (by decide); rw [nI_clamp (by omega)] at z2; rw [pickY_in hv (by decide)] at h54; exact z2.2 h54)]; exact ⟨rfl, rfl⟩)
      · -- on
        refine wk_bipush (pc := 37) (v := (-100)) S_ d_PL_test_37 (by decide) ?_
        exact hQ_ (-100) (cl, sp, ut) d_PL_test_39 rfl (by rw [tsS, if_neg (fun z => by rw [nI_clamp (by omega)] at z; exact h34 z.2.2.1)]; exact ⟨rfl, rfl⟩)
