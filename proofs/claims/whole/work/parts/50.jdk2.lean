/-! what stands outside the world, by its parts -/
section GX
variable {z : GzT} {A : Nat → Prop} {U : State} {H : Heap}
theorem gx_k (h : gX z A U H) (i : Nat) (hi : i < 9) {n : String} (hn : kNm.getD i "" = n) : va_Z "PackLists$Kind" n "LPackLists$Kind;" (.ref (zA z i)) A U H := by
  subst hn
  exact (h.1.1 i hi).1
theorem gx_fi (h : gX z A U H) (j : Nat) {o n d : String} {vs : List Int32} (hj : kFl[j]? = some (o, n, d, vs)) {i : Nat} (hi : i < 9) {v : Int32} (hv : vs.getD i 0 = v) : va_OF o n d (.int v) (zA z i) A U H := by
  subst hv
  exact (h.1.1 i hi).2.2 (o, n, d, vs) (List.mem_of_getElem? hj)
/-- how great the numbers may be, as the class has it -/
def moK (x p : Nat) : Nat := if p = 0 then [8, 8, 8, 999999, 8, 8, 3, 9, 9].getD x 0 else if p = 1 then [8, 1000, 99, 0, 999999, 5, 999999, 3, 3].getD x 0 else [0, 0, 0, 0, 9, 0, 0, 9, 8].getD x 0
theorem moK_gr : ∀ x, x < 9 → ∀ p, p < ptsK x → moK x p = grK x p := by decide
theorem kf_or : ∀ i, i < 9 → ([0, 1, 2, 3, 4, 5, 6, 7, 8] : List Int32).getD i 0 = nI i := by decide
theorem kf_nu : ∀ i, i < 9 → ([2, 2, 2, 1, 3, 2, 2, 3, 3] : List Int32).getD i 0 = nI (ptsK i) := by decide
theorem kf_m0 : ∀ i, i < 9 → ([8, 8, 8, 999999, 8, 8, 3, 9, 9] : List Int32).getD i 0 = nI (moK i 0) := by decide
theorem kf_m1 : ∀ i, i < 9 → ([8, 1000, 99, 0, 999999, 5, 999999, 3, 3] : List Int32).getD i 0 = nI (moK i 1) := by decide
theorem kf_m2 : ∀ i, i < 9 → ([0, 0, 0, 0, 9, 0, 0, 9, 8] : List Int32).getD i 0 = nI (moK i 2) := by decide
theorem gx_or (h : gX z A U H) {i : Nat} (hi : i < 9) : va_OF "java/lang/Enum" "ordinal" "I" (.int (nI i)) (zA z i) A U H := gx_fi h 0 rfl hi (kf_or i hi)
theorem gx_nu (h : gX z A U H) {i : Nat} (hi : i < 9) : va_OF "PackLists$Kind" "numbers" "I" (.int (nI (ptsK i))) (zA z i) A U H := gx_fi h 1 rfl hi (kf_nu i hi)
theorem gx_m0 (h : gX z A U H) {i : Nat} (hi : i < 9) : va_OF "PackLists$Kind" "mostFirst" "I" (.int (nI (moK i 0))) (zA z i) A U H := gx_fi h 2 rfl hi (kf_m0 i hi)
theorem gx_m1 (h : gX z A U H) {i : Nat} (hi : i < 9) : va_OF "PackLists$Kind" "mostSecond" "I" (.int (nI (moK i 1))) (zA z i) A U H := gx_fi h 3 rfl hi (kf_m1 i hi)
theorem gx_m2 (h : gX z A U H) {i : Nat} (hi : i < 9) : va_OF "PackLists$Kind" "mostThird" "I" (.int (nI (moK i 2))) (zA z i) A U H := gx_fi h 4 rfl hi (kf_m2 i hi)
theorem gx_w (h : gX z A U H) {i : Nat} (hi : i < 9) : va_OF "PackLists$Kind" "word" "Ljava/lang/String;" (.ref (zK z i)) (zA z i) A U H := h.2.1 i hi
theorem gx_co (h : gX z A U H) {i : Nat} (hi : i < 9) : va_OF "java/lang/String" "coder" "B" (.int (nI 0)) (zK z i) A U H := (h.2.2.1.1 i hi).2.1
theorem gx_va (h : gX z A U H) {i : Nat} (hi : i < 9) : va_OF "java/lang/String" "value" "[B" (.ref (zV z i)) (zK z i) A U H := (h.2.2.1.1 i hi).2.2.1
theorem gx_by (h : gX z A U H) {i : Nat} (hi : i < 9) : va_T .byte (zV z i) (kLn.getD i 0) (fun j => .int ((kBy.getD i []).getD j 0)) A U H := (h.2.2.1.1 i hi).2.2.2
theorem gx_cs (h : gX z A U H) : va_Z "java/lang/String" "COMPACT_STRINGS" "Z" (.int (nI 1)) A U H := h.2.2.2.1
theorem gx_ks (h : gX z A U H) : va_Z "PackLists" "KINDS" "[LPackLists$Kind;" (.ref (zT z)) A U H := h.2.2.2.2.1
theorem gx_kt (h : gX z A U H) : va_T (.object "PackLists$Kind") (zT z) 9 (fun j => .ref (zA z j)) A U H := h.2.2.2.2.2.1
theorem gx_ms (h : gX z A U H) : va_Z "PackLists$1" "$SwitchMap$PackLists$Kind" "[I" (.ref (zM z)) A U H := h.2.2.2.2.2.2.1
theorem gx_mt (h : gX z A U H) : va_T .int (zM z) 9 (fun j => .int (nI (j + 1))) A U H := h.2.2.2.2.2.2.2.1
theorem gx_fm (h : gX z A U H) : va_Zq "jdk/internal/util/Preconditions" "SIOOBE_FORMATTER" "Ljava/util/function/BiFunction;" A U H := h.2.2.2.2.2.2.2.2.1
theorem gx_inj (h : gX z A U H) {i j : Nat} (hi : i < 9) (hj : j < 9) (e : zA z i = zA z j) : i = j := h.1.2 i j hi hj e
end GX
theorem kl_eq : ∀ i, i < 9 → Int32.ofNat (kLn.getD i 0) = nI (kwd i).length := by decide
theorem kl_ln : ∀ i, i < 9 → kLn.getD i 0 = (kwd i).length := by decide
theorem kl_le (i : Nat) : (kwd i).length ≤ 6 := by
  rcases i with _ | _ | _ | _ | _ | _ | _ | _ | i
  all_goals first | decide | (show 5 ≤ 6; decide)
theorem kb_eq : ∀ i, i < 9 → ∀ k, k < (kwd i).length → (kBy.getD i []).getD k 0 = nI (ch (kwd i) k) := by decide
theorem and255 {x : Nat} (h : x < 256) : x &&& 255 = x := by
  have := Nat.and_two_pow_sub_one_eq_mod x 8
  rw [show (2 : Nat) ^ 8 - 1 = 255 from rfl] at this
  rw [this]
  omega
theorem sub48 {a : Nat} (ha : a < 256) : nI a - nI 48 < 0 ↔ a < 48 := by
  constructor
  · intro h
    rcases Nat.lt_or_ge a 48 with g | g
    · exact g
    · rw [pk_sub g] at h
      exact absurd h (nI_pos (by omega))
  · intro h
    rw [Int32.lt_iff_toInt_lt]
    have e : (nI a - nI 48).toInt = (a : Int) - 48 := by
      rw [Int32.toInt_sub, nI_toInt (by omega), nI_toInt (by decide)]
      simp only [Int.bmod]
      omega
    rw [e]
    simp
    omega
theorem gx_n0 {z : GzT} {A : Nat → Prop} {U : State} {H : Heap} (h : gX z A U H) : va_Nw (Cond.methodLinkNest "PackLists" 11 ⟨"PackLists$Text", "<init>", "()V"⟩ "PackLists") U := h.2.2.2.2.2.2.2.2.2.1
theorem gx_n1 {z : GzT} {A : Nat → Prop} {U : State} {H : Heap} (h : gX z A U H) : va_Nw (Cond.methodLinkNest "PackLists" 18 ⟨"PackLists$Stock", "<init>", "()V"⟩ "PackLists") U := h.2.2.2.2.2.2.2.2.2.2.1
theorem gx_n2 {z : GzT} {A : Nat → Prop} {U : State} {H : Heap} (h : gX z A U H) : va_Nw (Cond.methodLinkNest "PackLists" 32 ⟨"PackLists$Load", "<init>", "()V"⟩ "PackLists") U := h.2.2.2.2.2.2.2.2.2.2.2.1
theorem gx_n3 {z : GzT} {A : Nat → Prop} {U : State} {H : Heap} (h : gX z A U H) : va_Nw (Cond.fieldLinkNest "PackLists$Text" 90 "PackLists" "KINDS" "[LPackLists$Kind;" "PackLists") U := h.2.2.2.2.2.2.2.2.2.2.2.2
theorem fl_En_7 : Cond.fieldLink R_En 7 R_En "ordinal" "I" ∈ lw_gd := (gd _ (tb4 _ (List.mem_of_getElem? (i := 12) rfl)) rfl)
theorem d_En_ordinal_0 : decode b_En_ordinal 0 = .ok (.aload_n 0, 1) := by decide +kernel
theorem d_En_ordinal_1 : decode b_En_ordinal 1 = .ok (.getfield 7, 3) := by decide +kernel
theorem d_En_ordinal_4 : decode b_En_ordinal 4 = .ok (.ireturn, 1) := by decide +kernel
theorem fl_Sg_38 : Cond.fieldLink R_Sg 38 R_Sg "COMPACT_STRINGS" "Z" ∈ lw_gd := (gd _ (tb1 _ (List.mem_of_getElem? (i := 49) rfl)) rfl)
theorem fl_Sg_15 : Cond.fieldLink R_Sg 15 R_Sg "coder" "B" ∈ lw_gd := (gd _ (tb4 _ (List.mem_of_getElem? (i := 7) rfl)) rfl)
theorem d_Sg_coder_0 : decode b_Sg_coder 0 = .ok (.getstatic 38, 3) := by decide +kernel
theorem d_Sg_coder_3 : decode b_Sg_coder 3 = .ok (.ifCond .eq 10, 3) := by decide +kernel
theorem d_Sg_coder_6 : decode b_Sg_coder 6 = .ok (.aload_n 0, 1) := by decide +kernel
theorem d_Sg_coder_7 : decode b_Sg_coder 7 = .ok (.getfield 15, 3) := by decide +kernel
theorem d_Sg_coder_10 : decode b_Sg_coder 10 = .ok (.goto 4, 3) := by decide +kernel
theorem d_Sg_coder_13 : decode b_Sg_coder 13 = .ok (.iconst 1, 1) := by decide +kernel
theorem d_Sg_coder_14 : decode b_Sg_coder 14 = .ok (.ireturn, 1) := by decide +kernel
theorem d_Sg_isLatin1_0 : decode b_Sg_isLatin1 0 = .ok (.getstatic 38, 3) := by decide +kernel
theorem d_Sg_isLatin1_3 : decode b_Sg_isLatin1 3 = .ok (.ifCond .eq 14, 3) := by decide +kernel
theorem d_Sg_isLatin1_6 : decode b_Sg_isLatin1 6 = .ok (.aload_n 0, 1) := by decide +kernel
theorem d_Sg_isLatin1_7 : decode b_Sg_isLatin1 7 = .ok (.getfield 15, 3) := by decide +kernel
theorem d_Sg_isLatin1_10 : decode b_Sg_isLatin1 10 = .ok (.ifCond .ne 7, 3) := by decide +kernel
theorem d_Sg_isLatin1_13 : decode b_Sg_isLatin1 13 = .ok (.iconst 1, 1) := by decide +kernel
theorem d_Sg_isLatin1_14 : decode b_Sg_isLatin1 14 = .ok (.goto 4, 3) := by decide +kernel
theorem d_Sg_isLatin1_17 : decode b_Sg_isLatin1 17 = .ok (.iconst 0, 1) := by decide +kernel
theorem d_Sg_isLatin1_18 : decode b_Sg_isLatin1 18 = .ok (.ireturn, 1) := by decide +kernel
theorem fl_Sg_9 : Cond.fieldLink R_Sg 9 R_Sg "value" "[B" ∈ lw_gd := (gd _ (tb4 _ (List.mem_of_getElem? (i := 6) rfl)) rfl)
theorem mv_Sg_335 : wk_V R_Sg 335 R_Sg y_Sg_coder b_Sg_coder 1 (some .byte) 0 := ⟨(gd _ (tb1 _ (List.mem_of_getElem? (i := 48) rfl)) rfl), (gd _ (tb0 _ (List.mem_of_getElem? (i := 9) rfl)) rfl), (gd _ (tb1 _ (List.mem_of_getElem? (i := 45) rfl)) rfl), (by decide +kernel), (gd _ (tb1 _ (List.mem_of_getElem? (i := 46) rfl)) rfl), (gd _ (tb1 _ (List.mem_of_getElem? (i := 47) rfl)) rfl)⟩
theorem d_Sg_length_0 : decode b_Sg_length 0 = .ok (.aload_n 0, 1) := by decide +kernel
theorem d_Sg_length_1 : decode b_Sg_length 1 = .ok (.getfield 9, 3) := by decide +kernel
theorem d_Sg_length_4 : decode b_Sg_length 4 = .ok (.arraylength, 1) := by decide +kernel
theorem d_Sg_length_5 : decode b_Sg_length 5 = .ok (.aload_n 0, 1) := by decide +kernel
theorem d_Sg_length_6 : decode b_Sg_length 6 = .ok (.invokevirtual 335, 3) := by decide +kernel
theorem d_Sg_length_9 : decode b_Sg_length 9 = .ok (.ishr, 1) := by decide +kernel
theorem d_Sg_length_10 : decode b_Sg_length 10 = .ok (.ireturn, 1) := by decide +kernel
-- no code: ⟨?,?,?⟩
theorem d_Pc_checkIndex_0 : decode b_Pc_checkIndex 0 = .ok (.iload_n 0, 1) := by decide +kernel
theorem d_Pc_checkIndex_1 : decode b_Pc_checkIndex 1 = .ok (.ifCond .lt 8, 3) := by decide +kernel
theorem d_Pc_checkIndex_4 : decode b_Pc_checkIndex 4 = .ok (.iload_n 0, 1) := by decide +kernel
theorem d_Pc_checkIndex_5 : decode b_Pc_checkIndex 5 = .ok (.iload_n 1, 1) := by decide +kernel
theorem d_Pc_checkIndex_6 : decode b_Pc_checkIndex 6 = .ok (.if_icmp .lt 10, 3) := by decide +kernel
theorem d_Pc_checkIndex_9 : decode b_Pc_checkIndex 9 = .ok (.aload_n 2, 1) := by decide +kernel
theorem d_Pc_checkIndex_10 : decode b_Pc_checkIndex 10 = .ok (.iload_n 0, 1) := by decide +kernel
theorem d_Pc_checkIndex_11 : decode b_Pc_checkIndex 11 = .ok (.iload_n 1, 1) := by decide +kernel
theorem d_Pc_checkIndex_12 : decode b_Pc_checkIndex 12 = .ok (.invokestatic 95, 3) := by decide +kernel
theorem d_Pc_checkIndex_15 : decode b_Pc_checkIndex 15 = .ok (.athrow, 1) := by decide +kernel
theorem d_Pc_checkIndex_16 : decode b_Pc_checkIndex 16 = .ok (.iload_n 0, 1) := by decide +kernel
theorem d_Pc_checkIndex_17 : decode b_Pc_checkIndex 17 = .ok (.ireturn, 1) := by decide +kernel
theorem fl_Sg_1053 : Cond.fieldLink R_Sg 1053 R_Pc "SIOOBE_FORMATTER" "Ljava/util/function/BiFunction;" ∈ lw_gd := (gd _ (tb1 _ (List.mem_of_getElem? (i := 65) rfl)) rfl)
theorem mv_Sg_1059 : wk_T R_Sg 1059 y_Pc_checkIndex b_Pc_checkIndex 3 (some .int) 3 := ⟨(gd _ (tb1 _ (List.mem_of_getElem? (i := 69) rfl)) rfl), (gd _ (tb0 _ (List.mem_of_getElem? (i := 11) rfl)) rfl), (gd _ (tb1 _ (List.mem_of_getElem? (i := 67) rfl)) rfl), (by decide +kernel), (gd _ (tb1 _ (List.mem_of_getElem? (i := 68) rfl)) rfl)⟩
theorem d_Sg_checkIndex_0 : decode b_Sg_checkIndex 0 = .ok (.iload_n 0, 1) := by decide +kernel
theorem d_Sg_checkIndex_1 : decode b_Sg_checkIndex 1 = .ok (.iload_n 1, 1) := by decide +kernel
theorem d_Sg_checkIndex_2 : decode b_Sg_checkIndex 2 = .ok (.getstatic 1053, 3) := by decide +kernel
theorem d_Sg_checkIndex_5 : decode b_Sg_checkIndex 5 = .ok (.invokestatic 1059, 3) := by decide +kernel
theorem d_Sg_checkIndex_8 : decode b_Sg_checkIndex 8 = .ok (.pop, 1) := by decide +kernel
theorem d_Sg_checkIndex_9 : decode b_Sg_checkIndex 9 = .ok (.return_, 1) := by decide +kernel
theorem mv_S1_9 : wk_T R_S1 9 y_Sg_checkIndex b_Sg_checkIndex 2 none 2 := ⟨(gd _ (tb1 _ (List.mem_of_getElem? (i := 64) rfl)) rfl), (gd _ (tb0 _ (List.mem_of_getElem? (i := 9) rfl)) rfl), (gd _ (tb1 _ (List.mem_of_getElem? (i := 62) rfl)) rfl), (by decide +kernel), (gd _ (tb1 _ (List.mem_of_getElem? (i := 63) rfl)) rfl)⟩
theorem d_S1_charAt_0 : decode b_S1_charAt 0 = .ok (.iload_n 1, 1) := by decide +kernel
theorem d_S1_charAt_1 : decode b_S1_charAt 1 = .ok (.aload_n 0, 1) := by decide +kernel
theorem d_S1_charAt_2 : decode b_S1_charAt 2 = .ok (.arraylength, 1) := by decide +kernel
theorem d_S1_charAt_3 : decode b_S1_charAt 3 = .ok (.invokestatic 9, 3) := by decide +kernel
theorem d_S1_charAt_6 : decode b_S1_charAt 6 = .ok (.aload_n 0, 1) := by decide +kernel
theorem d_S1_charAt_7 : decode b_S1_charAt 7 = .ok (.iload_n 1, 1) := by decide +kernel
theorem d_S1_charAt_8 : decode b_S1_charAt 8 = .ok (.baload, 1) := by decide +kernel
theorem d_S1_charAt_9 : decode b_S1_charAt 9 = .ok (.sipush 255, 3) := by decide +kernel
theorem d_S1_charAt_12 : decode b_S1_charAt 12 = .ok (.iand, 1) := by decide +kernel
theorem d_S1_charAt_13 : decode b_S1_charAt 13 = .ok (.i2c, 1) := by decide +kernel
theorem d_S1_charAt_14 : decode b_S1_charAt 14 = .ok (.ireturn, 1) := by decide +kernel
theorem mv_Sg_492 : wk_V R_Sg 492 R_Sg y_Sg_isLatin1 b_Sg_isLatin1 1 (some .boolean) 0 := ⟨(gd _ (tb1 _ (List.mem_of_getElem? (i := 58) rfl)) rfl), (gd _ (tb0 _ (List.mem_of_getElem? (i := 9) rfl)) rfl), (gd _ (tb1 _ (List.mem_of_getElem? (i := 55) rfl)) rfl), (by decide +kernel), (gd _ (tb1 _ (List.mem_of_getElem? (i := 56) rfl)) rfl), (gd _ (tb1 _ (List.mem_of_getElem? (i := 57) rfl)) rfl)⟩
theorem mv_Sg_495 : wk_T R_Sg 495 y_S1_charAt b_S1_charAt 2 (some .char) 2 := ⟨(gd _ (tb1 _ (List.mem_of_getElem? (i := 61) rfl)) rfl), (gd _ (tb0 _ (List.mem_of_getElem? (i := 10) rfl)) rfl), (gd _ (tb1 _ (List.mem_of_getElem? (i := 59) rfl)) rfl), (by decide +kernel), (gd _ (tb1 _ (List.mem_of_getElem? (i := 60) rfl)) rfl)⟩
theorem mv_Sg_498 : wk_T R_Sg 498 y_S2_charAt b_S2_charAt 2 (some .char) 2 := ⟨(gd _ (tb1 _ (List.mem_of_getElem? (i := 72) rfl)) rfl), (gd _ (tb0 _ (List.mem_of_getElem? (i := 12) rfl)) rfl), (gd _ (tb1 _ (List.mem_of_getElem? (i := 70) rfl)) rfl), (by decide +kernel), (gd _ (tb1 _ (List.mem_of_getElem? (i := 71) rfl)) rfl)⟩
theorem d_Sg_charAt_0 : decode b_Sg_charAt 0 = .ok (.aload_n 0, 1) := by decide +kernel
theorem d_Sg_charAt_1 : decode b_Sg_charAt 1 = .ok (.invokevirtual 492, 3) := by decide +kernel
theorem d_Sg_charAt_4 : decode b_Sg_charAt 4 = .ok (.ifCond .eq 12, 3) := by decide +kernel
theorem d_Sg_charAt_7 : decode b_Sg_charAt 7 = .ok (.aload_n 0, 1) := by decide +kernel
theorem d_Sg_charAt_8 : decode b_Sg_charAt 8 = .ok (.getfield 9, 3) := by decide +kernel
theorem d_Sg_charAt_11 : decode b_Sg_charAt 11 = .ok (.iload_n 1, 1) := by decide +kernel
theorem d_Sg_charAt_12 : decode b_Sg_charAt 12 = .ok (.invokestatic 495, 3) := by decide +kernel
theorem d_Sg_charAt_15 : decode b_Sg_charAt 15 = .ok (.ireturn, 1) := by decide +kernel
theorem d_Sg_charAt_16 : decode b_Sg_charAt 16 = .ok (.aload_n 0, 1) := by decide +kernel
theorem d_Sg_charAt_17 : decode b_Sg_charAt 17 = .ok (.getfield 9, 3) := by decide +kernel
theorem d_Sg_charAt_20 : decode b_Sg_charAt 20 = .ok (.iload_n 1, 1) := by decide +kernel
theorem d_Sg_charAt_21 : decode b_Sg_charAt 21 = .ok (.invokestatic 498, 3) := by decide +kernel
theorem d_Sg_charAt_24 : decode b_Sg_charAt 24 = .ok (.ireturn, 1) := by decide +kernel
set_option maxHeartbeats 4000000 in
set_option maxRecDepth 100000 in
theorem c_En_ordinal (l : Launch) (D : va_G) (cI : CiT) (z : GzT) (i : Nat) (hi : i < 9) : wk_C l D (tyK cI) (gX z) y_En_ordinal b_En_ordinal 1 (some .int) 0 0 0 0 [.ref (zA z (i))] [] wk_i (fun (r : Int32) (_ : Unit) => r = (nI (i))) (fun _ => []) := by
  refine wk_methI (own := R_En) [(0, .ref (zA z (i)))] (by decide) rfl (Nat.le_of_ble_eq_true rfl) rfl (gX_ok z) (fun p_ e_ R_ s_ m_ ar_ be_ me_ co_ Q_ A_ hR_ S_ hnm_ hQ_ => ?_)
  refine wk_aload_n (pc := 0) S_ 0 d_En_ordinal_0 rfl rfl ?_
  refine wk_getO (pc := 1) S_ (gx_or S_.2.2.2.1 (show i < 9 by omega)) fl_En_7 d_En_ordinal_1 ?_
  exact hQ_ (nI (i)) () d_En_ordinal_4 rfl rfl
set_option maxHeartbeats 4000000 in
set_option maxRecDepth 100000 in
theorem c_Sg_coder (l : Launch) (D : va_G) (cI : CiT) (z : GzT) (i : Nat) (hi : i < 9) : wk_C l D (tyK cI) (gX z) y_Sg_coder b_Sg_coder 1 (some .byte) 0 0 0 0 [.ref (zK z (i))] [] wk_i (fun (r : Int32) (_ : Unit) => r = (nI (0))) (fun _ => []) := by
  refine wk_methB (own := R_Sg) [(0, .ref (zK z (i)))] (by decide) rfl (Nat.le_of_ble_eq_true rfl) rfl (gX_ok z) (fun p_ e_ R_ s_ m_ ar_ be_ me_ co_ Q_ A_ hR_ S_ hnm_ hQ_ => ?_)
  refine wk_gets (pc := 0) S_ (gx_cs S_.2.2.2.1) fl_Sg_38 d_Sg_coder_0 ?_
  refine wk_if_eqN (pc := 3) (tgt := 13) S_ d_Sg_coder_3 (by decide) (by omega) (fun h3 => absurd h3 (by decide)) (fun h3 => ?_)
  refine wk_aload_n (pc := 6) S_ 0 d_Sg_coder_6 rfl rfl ?_
  refine wk_getO (pc := 7) S_ (gx_co S_.2.2.2.1 (show i < 9 by omega)) fl_Sg_15 d_Sg_coder_7 ?_
  refine wk_goto (pc := 10) (tgt := 14) S_ d_Sg_coder_10 (by decide) ?_
  exact hQ_ (nI (0)) () d_Sg_coder_14 rfl rfl rfl
set_option maxHeartbeats 4000000 in
set_option maxRecDepth 100000 in
theorem c_Sg_isLatin1 (l : Launch) (D : va_G) (cI : CiT) (z : GzT) (i : Nat) (hi : i < 9) : wk_C l D (tyK cI) (gX z) y_Sg_isLatin1 b_Sg_isLatin1 1 (some .boolean) 0 0 0 0 [.ref (zK z (i))] [] wk_i (fun (r : Int32) (_ : Unit) => r = (bI (true))) (fun _ => []) := by
  refine wk_methZ (own := R_Sg) [(0, .ref (zK z (i)))] (by decide) rfl (Nat.le_of_ble_eq_true rfl) rfl (gX_ok z) (fun p_ e_ R_ s_ m_ ar_ be_ me_ co_ Q_ A_ hR_ S_ hnm_ hQ_ => ?_)
  refine wk_gets (pc := 0) S_ (gx_cs S_.2.2.2.1) fl_Sg_38 d_Sg_isLatin1_0 ?_
  refine wk_if_eqN (pc := 3) (tgt := 17) S_ d_Sg_isLatin1_3 (by decide) (by omega) (fun h3 => absurd h3 (by decide)) (fun h3 => ?_)
  refine wk_aload_n (pc := 6) S_ 0 d_Sg_isLatin1_6 rfl rfl ?_
  refine wk_getO (pc := 7) S_ (gx_co S_.2.2.2.1 (show i < 9 by omega)) fl_Sg_15 d_Sg_isLatin1_7 ?_
  refine wk_if_neN (pc := 10) (tgt := 17) S_ d_Sg_isLatin1_10 (by decide) (by omega) (fun h10 => absurd h10 (by decide)) (fun h10 => ?_)
  refine wk_iconst (pc := 13) (v := (nI (1))) S_ d_Sg_isLatin1_13 (by decide) ?_
  refine wk_goto (pc := 14) (tgt := 18) S_ d_Sg_isLatin1_14 (by decide) ?_
  exact hQ_ (nI (1)) () d_Sg_isLatin1_18 rfl rfl rfl
set_option maxHeartbeats 4000000 in
set_option maxRecDepth 100000 in
theorem c_Sg_length (l : Launch) (D : va_G) (cI : CiT) (z : GzT) (i : Nat) (hi : i < 9) : wk_C l D (tyK cI) (gX z) y_Sg_length b_Sg_length 1 (some .int) 1 20 0 0 [.ref (zK z (i))] [] wk_i (fun (r : Int32) (_ : Unit) => r = (nI ((kwd i).length))) (fun _ => []) := by
  refine wk_methI (own := R_Sg) [(0, .ref (zK z (i)))] (by decide) rfl (Nat.le_of_ble_eq_true rfl) rfl (gX_ok z) (fun p_ e_ R_ s_ m_ ar_ be_ me_ co_ Q_ A_ hR_ S_ hnm_ hQ_ => ?_)
  refine wk_aload_n (pc := 0) S_ 0 d_Sg_length_0 rfl rfl ?_
  refine wk_getO (pc := 1) S_ (gx_va S_.2.2.2.1 (show i < 9 by omega)) fl_Sg_9 d_Sg_length_1 ?_
  refine wk_tlen (pc := 4) S_ (gx_by S_.2.2.2.1 (show i < 9 by omega)) (kl_eq _ (show i < 9 by omega)) d_Sg_length_4 ?_
  refine wk_aload_n (pc := 5) S_ 0 d_Sg_length_5 rfl rfl ?_
  refine wk_run (pc := 6) (rest := [.int (nI ((kwd (i)).length))]) (wr := []) (wN := fun _ => []) S_ (wk_rV S_ (c_Sg_coder l D cI z (i) (by omega)) mv_Sg_335 (fun H locs _ hS => vk_recv (S_.2.2.2.1).2.2.1 (show i < 9 by omega) hS) rfl rfl (Nat.le_of_ble_eq_true rfl) (by rw [hR_]; decide) (by rw [hR_]; decide) d_Sg_length_6) [] [] [] rfl rfl rfl (by decide) (by decide) (by decide) (by decide) (fun _ => rfl) (fun _ => rfl) (fun r6 _ hw6 => ?_)
  refine wk_st (st' := [.int (r6), .int (nI ((kwd (i)).length))]) rfl ?_
  refine wk_top (y := (nI (0))) hw6 ?_
  refine wk_ishrN (pc := 9) S_ d_Sg_length_9 (by have := kl_le i; omega) (by decide) ?_
  exact hQ_ (nI (((kwd (i)).length) / 2 ^ (0))) () d_Sg_length_10 rfl (congrArg nI (Nat.div_one _))
set_option maxHeartbeats 4000000 in
set_option maxRecDepth 100000 in
theorem c_Pc_checkIndex_n (l : Launch) (D : va_G) (cI : CiT) (z : GzT) (k : Nat) (n : Nat) (hk : k < n) (hn : n < 2 ^ 31) : wk_C l D (tyK cI) (gX z) y_Pc_checkIndex b_Pc_checkIndex 3 (some .int) 0 0 0 0 [.int (nI (k)), .int (nI (n)), .null] [] wk_i (fun (r : Int32) (_ : Unit) => r = (nI (k))) (fun _ => []) := by
  refine wk_methI (own := R_Pc) [(0, .int (nI (k))), (1, .int (nI (n))), (2, .null)] (by decide) rfl (Nat.le_of_ble_eq_true rfl) rfl (gX_ok z) (fun p_ e_ R_ s_ m_ ar_ be_ me_ co_ Q_ A_ hR_ S_ hnm_ hQ_ => ?_)
  refine wk_iload_n (pc := 0) S_ 0 d_Pc_checkIndex_0 rfl rfl ?_
  refine wk_if_ltN (pc := 1) (tgt := 9) S_ d_Pc_checkIndex_1 (by decide) (by omega) ?_
  refine wk_iload_n (pc := 4) S_ 0 d_Pc_checkIndex_4 rfl rfl ?_
  refine wk_iload_n (pc := 5) S_ 1 d_Pc_checkIndex_5 rfl rfl ?_
  refine wk_icmp_ltN (pc := 6) (tgt := 16) S_ d_Pc_checkIndex_6 (by decide) (by omega) (by omega) (fun h6 => ?_) (fun h6 => absurd hk (Nat.not_lt.mpr h6))
  refine wk_iload_n (pc := 16) S_ 0 d_Pc_checkIndex_16 rfl rfl ?_
  exact hQ_ (nI (k)) () d_Pc_checkIndex_17 rfl rfl
set_option maxHeartbeats 4000000 in
set_option maxRecDepth 100000 in
theorem c_Pc_checkIndex_r (l : Launch) (D : va_G) (cI : CiT) (z : GzT) (k : Nat) (n : Nat) (t : Nat) (hk : k < n) (hn : n < 2 ^ 31) : wk_C l D (tyK cI) (gX z) y_Pc_checkIndex b_Pc_checkIndex 3 (some .int) 0 0 0 0 [.int (nI (k)), .int (nI (n)), .ref (t)] [] wk_i (fun (r : Int32) (_ : Unit) => r = (nI (k))) (fun _ => []) := by
  refine wk_methI (own := R_Pc) [(0, .int (nI (k))), (1, .int (nI (n))), (2, .ref (t))] (by decide) rfl (Nat.le_of_ble_eq_true rfl) rfl (gX_ok z) (fun p_ e_ R_ s_ m_ ar_ be_ me_ co_ Q_ A_ hR_ S_ hnm_ hQ_ => ?_)
  refine wk_iload_n (pc := 0) S_ 0 d_Pc_checkIndex_0 rfl rfl ?_
  refine wk_if_ltN (pc := 1) (tgt := 9) S_ d_Pc_checkIndex_1 (by decide) (by omega) ?_
  refine wk_iload_n (pc := 4) S_ 0 d_Pc_checkIndex_4 rfl rfl ?_
  refine wk_iload_n (pc := 5) S_ 1 d_Pc_checkIndex_5 rfl rfl ?_
  refine wk_icmp_ltN (pc := 6) (tgt := 16) S_ d_Pc_checkIndex_6 (by decide) (by omega) (by omega) (fun h6 => ?_) (fun h6 => absurd hk (Nat.not_lt.mpr h6))
  refine wk_iload_n (pc := 16) S_ 0 d_Pc_checkIndex_16 rfl rfl ?_
  exact hQ_ (nI (k)) () d_Pc_checkIndex_17 rfl rfl
set_option maxHeartbeats 4000000 in
set_option maxRecDepth 100000 in
theorem c_Sg_checkIndex (l : Launch) (D : va_G) (cI : CiT) (z : GzT) (k : Nat) (n : Nat) (hk : k < n) (hn : n < 2 ^ 31) : wk_C l D (tyK cI) (gX z) y_Sg_checkIndex b_Sg_checkIndex 2 none 1 22 0 0 [.int (nI (k)), .int (nI (n))] [] wk_v (fun (_ : Unit) (_ : Unit) => True) (fun _ => []) := by
  refine wk_methV (own := R_Sg) [(0, .int (nI (k))), (1, .int (nI (n)))] (by decide) rfl (Nat.le_of_ble_eq_true rfl) rfl (gX_ok z) (fun p_ e_ R_ s_ m_ ar_ be_ me_ co_ Q_ A_ hR_ S_ hnm_ hQ_ => ?_)
  refine wk_iload_n (pc := 0) S_ 0 d_Sg_checkIndex_0 rfl rfl ?_
  refine wk_iload_n (pc := 1) S_ 1 d_Sg_checkIndex_1 rfl rfl ?_
  rcases gx_fm S_.2.2.2.1 with hfm | ⟨fmt, hfm⟩
  · -- a formatter
    refine wk_gets (pc := 2) S_ hfm fl_Sg_1053 d_Sg_checkIndex_2 ?_
    refine wk_run (pc := 5) (rest := []) (wr := []) (wN := fun _ => []) S_ (wk_rS S_ (c_Pc_checkIndex_n l D cI z (k) (n) (by omega) (by omega)) mv_Sg_1059 rfl rfl (Nat.le_of_ble_eq_true rfl) (by rw [hR_]; decide) (by rw [hR_]; decide) d_Sg_checkIndex_5) [] [] [] rfl rfl rfl (by decide) (by decide) (by decide) (by decide) (fun _ => rfl) (fun _ => rfl) (fun r5 _ hw5 => ?_)
    refine wk_st (st' := [.int (r5)]) rfl ?_
    refine wk_top (y := (nI ((k)))) hw5 ?_
    refine wk_pop (pc := 8) S_ d_Sg_checkIndex_8 rfl ?_
    exact hQ_ () d_Sg_checkIndex_9 rfl trivial
  · -- a formatter
    refine wk_gets (pc := 2) S_ hfm fl_Sg_1053 d_Sg_checkIndex_2 ?_
    refine wk_run (pc := 5) (rest := []) (wr := []) (wN := fun _ => []) S_ (wk_rS S_ (c_Pc_checkIndex_r l D cI z (k) (n) (fmt) (by omega) (by omega)) mv_Sg_1059 rfl rfl (Nat.le_of_ble_eq_true rfl) (by rw [hR_]; decide) (by rw [hR_]; decide) d_Sg_checkIndex_5) [] [] [] rfl rfl rfl (by decide) (by decide) (by decide) (by decide) (fun _ => rfl) (fun _ => rfl) (fun r5 _ hw5 => ?_)
    refine wk_st (st' := [.int (r5)]) rfl ?_
    refine wk_top (y := (nI ((k)))) hw5 ?_
    refine wk_pop (pc := 8) S_ d_Sg_checkIndex_8 rfl ?_
    exact hQ_ () d_Sg_checkIndex_9 rfl trivial
set_option maxHeartbeats 4000000 in
set_option maxRecDepth 100000 in
theorem c_S1_charAt (l : Launch) (D : va_G) (cI : CiT) (z : GzT) (i : Nat) (k : Nat) (hi : i < 9) (hk : k < (kwd i).length) : wk_C l D (tyK cI) (gX z) y_S1_charAt b_S1_charAt 2 (some .char) 2 43 0 0 [.ref (zV z (i)), .int (nI (k))] [] wk_i (fun (r : Int32) (_ : Unit) => r = (nI (ch (kwd i) k))) (fun _ => []) := by
  refine wk_methC (own := R_S1) [(0, .ref (zV z (i))), (1, .int (nI (k)))] (by decide) rfl (Nat.le_of_ble_eq_true rfl) rfl (gX_ok z) (fun p_ e_ R_ s_ m_ ar_ be_ me_ co_ Q_ A_ hR_ S_ hnm_ hQ_ => ?_)
  have hl6 := kl_le i
  have hc8 := kw_lt i k
  refine wk_iload_n (pc := 0) S_ 1 d_S1_charAt_0 rfl rfl ?_
  refine wk_aload_n (pc := 1) S_ 0 d_S1_charAt_1 rfl rfl ?_
  refine wk_tlen (pc := 2) S_ (gx_by S_.2.2.2.1 (show i < 9 by omega)) (kl_eq _ (show i < 9 by omega)) d_S1_charAt_2 ?_
  refine wk_run (pc := 3) (rest := []) (wr := []) (wN := fun _ => []) S_ (wk_rS S_ (c_Sg_checkIndex l D cI z (k) ((kwd (i)).length) (by omega) (by omega)) mv_S1_9 rfl rfl (Nat.le_of_ble_eq_true rfl) (by rw [hR_]; decide) (by rw [hR_]; decide) d_S1_charAt_3) [] [] [] rfl rfl rfl (by decide) (by decide) (by decide) (by decide) (fun _ => rfl) (fun _ => rfl) (fun r3 _ hw3 => ?_)
  refine wk_st (st' := []) rfl ?_
  refine wk_aload_n (pc := 6) S_ 0 d_S1_charAt_6 rfl rfl ?_
  refine wk_iload_n (pc := 7) S_ 1 d_S1_charAt_7 rfl rfl ?_
  refine wk_tb (pc := 8) S_ (gx_by S_.2.2.2.1 (show i < 9 by omega)) (by rw [kl_ln _ (show i < 9 by omega)]; omega) (by rw [kl_ln _ (show i < 9 by omega)]; have := kl_le (i); omega) d_S1_charAt_8 ?_
  refine wk_top (y := (nI (ch (kwd (i)) (k)))) (kb_eq _ (show i < 9 by omega) _ (by omega)) ?_
  refine wk_sipush (pc := 9) (v := (nI (255))) S_ d_S1_charAt_9 (by decide) ?_
  refine wk_iandN (pc := 12) S_ d_S1_charAt_12 ?_
  refine wk_top (y := (nI (ch (kwd i) k))) (congrArg nI (and255 hc8)) ?_
  refine wk_i2cN (pc := 13) S_ d_S1_charAt_13 (by omega) ?_
  exact hQ_ (nI (ch (kwd i) k)) () d_S1_charAt_14 (nar_ch (by omega)) rfl rfl
set_option maxHeartbeats 4000000 in
set_option maxRecDepth 100000 in
theorem c_Sg_charAt (l : Launch) (D : va_G) (cI : CiT) (z : GzT) (i : Nat) (k : Nat) (hi : i < 9) (hk : k < (kwd i).length) : wk_C l D (tyK cI) (gX z) y_Sg_charAt b_Sg_charAt 2 (some .char) 3 64 0 0 [.ref (zK z (i)), .int (nI (k))] [] wk_i (fun (r : Int32) (_ : Unit) => r = (nI (ch (kwd i) k))) (fun _ => []) := by
  refine wk_methC (own := R_Sg) [(0, .ref (zK z (i))), (1, .int (nI (k)))] (by decide) rfl (Nat.le_of_ble_eq_true rfl) rfl (gX_ok z) (fun p_ e_ R_ s_ m_ ar_ be_ me_ co_ Q_ A_ hR_ S_ hnm_ hQ_ => ?_)
  refine wk_aload_n (pc := 0) S_ 0 d_Sg_charAt_0 rfl rfl ?_
  refine wk_run (pc := 1) (rest := []) (wr := []) (wN := fun _ => []) S_ (wk_rV S_ (c_Sg_isLatin1 l D cI z (i) (by omega)) mv_Sg_492 (fun H locs _ hS => vk_recv (S_.2.2.2.1).2.2.1 (show i < 9 by omega) hS) rfl rfl (Nat.le_of_ble_eq_true rfl) (by rw [hR_]; decide) (by rw [hR_]; decide) d_Sg_charAt_1) [] [] [] rfl rfl rfl (by decide) (by decide) (by decide) (by decide) (fun _ => rfl) (fun _ => rfl) (fun r1 _ hw1 => ?_)
  refine wk_st (st' := [.int (r1)]) rfl ?_
  refine wk_top (y := (bI (true))) hw1 ?_
  refine wk_if_eqB (pc := 4) (tgt := 16) S_ d_Sg_charAt_4 (by decide) (fun h4 => absurd h4 (by decide)) (fun h4 => ?_)
  refine wk_aload_n (pc := 7) S_ 0 d_Sg_charAt_7 rfl rfl ?_
  refine wk_getO (pc := 8) S_ (gx_va S_.2.2.2.1 (show i < 9 by omega)) fl_Sg_9 d_Sg_charAt_8 ?_
  refine wk_iload_n (pc := 11) S_ 1 d_Sg_charAt_11 rfl rfl ?_
  refine wk_run (pc := 12) (rest := []) (wr := []) (wN := fun _ => []) S_ (wk_rS S_ (c_S1_charAt l D cI z (i) (k) (by omega) (by omega)) mv_Sg_495 rfl rfl (Nat.le_of_ble_eq_true rfl) (by rw [hR_]; decide) (by rw [hR_]; decide) d_Sg_charAt_12) [] [] [] rfl rfl rfl (by decide) (by decide) (by decide) (by decide) (fun _ => rfl) (fun _ => rfl) (fun r12 _ hw12 => ?_)
  refine wk_st (st' := [.int (r12)]) rfl ?_
  refine wk_top (y := (nI (ch (kwd (i)) (k)))) hw12 ?_
  exact hQ_ (nI (ch (kwd (i)) (k))) () d_Sg_charAt_15 (nar_ch (by have := kw_lt i k; omega)) rfl rfl
