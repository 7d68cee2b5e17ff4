/-! what stands outside the world, by its parts -/
section GX
variable {z : GzT} {A : Nat → Prop} {U : State} {H : Heap}
theorem gx_k (h : gX z A U H) (i : Nat) (hi : i < 9) {n : String} (hn : kNm.getD i "" = n) : va_Z "PackLists$Kind" n "LPackLists$Kind;" (.ref (zA z i)) A U H := by
  subst hn
  exact (h.1.1 i hi).1
theorem gx_fi (h : gX z A U H) (j : Nat) {o n d : String} {vs : List Int32} (hj : kFl[j]? = some (o, n, d, vs)) {i : Nat} (hi : i < 9) {v : Int32} (hv : vs.getD i 0 = v) : va_OF o n d (.int v) (zA z i) A U H := by
  subst hv
  exact (h.1.1 i hi).2.2 (o, n, d, vs) (List.mem_of_getElem? hj)
/-- how great the numbers may be, as the class has it -/
def moK (x p : Nat) : Nat := if p = 0 then [8, 8, 8, 999999, 8, 8, 3, 9, 9].getD x 0 else if p = 1 then [8, 1000, 99, 0, 999999, 5, 999999, 3, 3].getD x 0 else [0, 0, 0, 0, 9, 0, 0, 9, 8].getD x 0
theorem moK_gr : ∀ x, x < 9 → ∀ p, p < ptsK x → moK x p = grK x p := by decide
theorem kf_or : ∀ i, i < 9 → ([0, 1, 2, 3, 4, 5, 6, 7, 8] : List Int32).getD i 0 = nI i := by decide
theorem kf_nu : ∀ i, i < 9 → ([2, 2, 2, 1, 3, 2, 2, 3, 3] : List Int32).getD i 0 = nI (ptsK i) := by decide
theorem kf_m0 : ∀ i, i < 9 → ([8, 8, 8, 999999, 8, 8, 3, 9, 9] : List Int32).getD i 0 = nI (moK i 0) := by decide
theorem kf_m1 : ∀ i, i < 9 → ([8, 1000, 99, 0, 999999, 5, 999999, 3, 3] : List Int32).getD i 0 = nI (moK i 1) := by decide
theorem kf_m2 : ∀ i, i < 9 → ([0, 0, 0, 0, 9, 0, 0, 9, 8] : List Int32).getD i 0 = nI (moK i 2) := by decide
theorem gx_or (h : gX z A U H) {i : Nat} (hi : i < 9) : va_OF "java/lang/Enum" "ordinal" "I" (.int (nI i)) (zA z i) A U H := gx_fi h 0 rfl hi (kf_or i hi)
theorem gx_nu (h : gX z A U H) {i : Nat} (hi : i < 9) : va_OF "PackLists$Kind" "numbers" "I" (.int (nI (ptsK i))) (zA z i) A U H := gx_fi h 1 rfl hi (kf_nu i hi)
theorem gx_m0 (h : gX z A U H) {i : Nat} (hi : i < 9) : va_OF "PackLists$Kind" "mostFirst" "I" (.int (nI (moK i 0))) (zA z i) A U H := gx_fi h 2 rfl hi (kf_m0 i hi)
theorem gx_m1 (h : gX z A U H) {i : Nat} (hi : i < 9) : va_OF "PackLists$Kind" "mostSecond" "I" (.int (nI (moK i 1))) (zA z i) A U H := gx_fi h 3 rfl hi (kf_m1 i hi)
theorem gx_m2 (h : gX z A U H) {i : Nat} (hi : i < 9) : va_OF "PackLists$Kind" "mostThird" "I" (.int (nI (moK i 2))) (zA z i) A U H := gx_fi h 4 rfl hi (kf_m2 i hi)
theorem gx_w (h : gX z A U H) {i : Nat} (hi : i < 9) : va_OF "PackLists$Kind" "word" "Ljava/lang/String;" (.ref (zK z i)) (zA z i) A U H := h.2.1 i hi
theorem gx_co (h : gX z A U H) {i : Nat} (hi : i < 9) : va_OF "java/lang/String" "coder" "B" (.int (nI 0)) (zK z i) A U H := (h.2.2.1.1 i hi).2.1
theorem gx_va (h : gX z A U H) {i : Nat} (hi : i < 9) : va_OF "java/lang/String" "value" "[B" (.ref (zV z i)) (zK z i) A U H := (h.2.2.1.1 i hi).2.2.1
theorem gx_by (h : gX z A U H) {i : Nat} (hi : i < 9) : va_T .byte (zV z i) (kLn.getD i 0) (fun j => .int ((kBy.getD i []).getD j 0)) A U H := (h.2.2.1.1 i hi).2.2.2
theorem gx_cs (h : gX z A U H) : va_Z "java/lang/String" "COMPACT_STRINGS" "Z" (.int (nI 1)) A U H := h.2.2.2.1
theorem gx_ks (h : gX z A U H) : va_Z "PackLists" "KINDS" "[LPackLists$Kind;" (.ref (zT z)) A U H := h.2.2.2.2.1
theorem gx_kt (h : gX z A U H) : va_T (.object "PackLists$Kind") (zT z) 9 (fun j => .ref (zA z j)) A U H := h.2.2.2.2.2.1
theorem gx_ms (h : gX z A U H) : va_Z "PackLists$1" "$SwitchMap$PackLists$Kind" "[I" (.ref (zM z)) A U H := h.2.2.2.2.2.2.1
theorem gx_mt (h : gX z A U H) : va_T .int (zM z) 9 (fun j => .int (nI (j + 1))) A U H := h.2.2.2.2.2.2.2.1
theorem gx_inj (h : gX z A U H) {i j : Nat} (hi : i < 9) (hj : j < 9) (e : zA z i = zA z j) : i = j := h.1.2 i j hi hj e
end GX
theorem kl_eq : ∀ i, i < 9 → Int32.ofNat (kLn.getD i 0) = nI (kwd i).length := by decide
theorem kl_ln : ∀ i, i < 9 → kLn.getD i 0 = (kwd i).length := by decide
theorem kl_le (i : Nat) : (kwd i).length ≤ 6 := by
  rcases i with _ | _ | _ | _ | _ | _ | _ | _ | i
  all_goals first | decide | (show 5 ≤ 6; decide)
theorem kb_eq : ∀ i, i < 9 → ∀ k, k < (kwd i).length → (kBy.getD i []).getD k 0 = nI (ch (kwd i) k) := by decide
theorem and255 {x : Nat} (h : x < 256) : x &&& 255 = x := by
  have := Nat.and_two_pow_sub_one_eq_mod x 8
  rw [show (2 : Nat) ^ 8 - 1 = 255 from rfl] at this
  rw [this]
  omega
theorem sub48 {a : Nat} (ha : a < 256) : nI a - nI 48 < 0 ↔ a < 48 := by
  constructor
  · intro h
    rcases Nat.lt_or_ge a 48 with g | g
    · exact g
    · rw [pk_sub g] at h
      exact absurd h (nI_pos (by omega))
  · intro h
    rw [Int32.lt_iff_toInt_lt]
    have e : (nI a - nI 48).toInt = (a : Int) - 48 := by
      rw [Int32.toInt_sub, nI_toInt (by omega), nI_toInt (by decide)]
      simp only [Int.bmod]
      omega
    rw [e]
    simp
    omega
theorem gx_n0 {z : GzT} {A : Nat → Prop} {U : State} {H : Heap} (h : gX z A U H) : va_Nw (Cond.methodLinkNest "PackLists" 11 ⟨"PackLists$Text", "<init>", "()V"⟩ "PackLists") U := h.2.2.2.2.2.2.2.2.1
theorem gx_n1 {z : GzT} {A : Nat → Prop} {U : State} {H : Heap} (h : gX z A U H) : va_Nw (Cond.methodLinkNest "PackLists" 18 ⟨"PackLists$Stock", "<init>", "()V"⟩ "PackLists") U := h.2.2.2.2.2.2.2.2.2.1
theorem gx_n2 {z : GzT} {A : Nat → Prop} {U : State} {H : Heap} (h : gX z A U H) : va_Nw (Cond.methodLinkNest "PackLists" 32 ⟨"PackLists$Load", "<init>", "()V"⟩ "PackLists") U := h.2.2.2.2.2.2.2.2.2.2.1
theorem gx_n3 {z : GzT} {A : Nat → Prop} {U : State} {H : Heap} (h : gX z A U H) : va_Nw (Cond.fieldLinkNest "PackLists$Text" 90 "PackLists" "KINDS" "[LPackLists$Kind;" "PackLists") U := h.2.2.2.2.2.2.2.2.2.2.2
theorem fl_En_7 : Cond.fieldLink R_En 7 R_En "ordinal" "I" ∈ lw_gd := (gd _ (tb4 _ (List.mem_of_getElem? (i := 12) rfl)) rfl)
theorem d_En_ordinal_0 : decode b_En_ordinal 0 = .ok (.aload_n 0, 1) := by decide +kernel
theorem d_En_ordinal_1 : decode b_En_ordinal 1 = .ok (.getfield 7, 3) := by decide +kernel
theorem d_En_ordinal_4 : decode b_En_ordinal 4 = .ok (.ireturn, 1) := by decide +kernel
-- wanting: Cond.fieldLink "java/lang/String" 34 "java/lang/String" "COMPACT_STRINGS" "Z"
theorem fl_Sg_15 : Cond.fieldLink R_Sg 15 R_Sg "coder" "B" ∈ lw_gd := (gd _ (tb4 _ (List.mem_of_getElem? (i := 7) rfl)) rfl)
theorem d_Sg_coder_0 : decode b_Sg_coder 0 = .ok (.getstatic 34, 3) := by decide +kernel
theorem d_Sg_coder_3 : decode b_Sg_coder 3 = .ok (.ifCond .eq 10, 3) := by decide +kernel
theorem d_Sg_coder_6 : decode b_Sg_coder 6 = .ok (.aload_n 0, 1) := by decide +kernel
theorem d_Sg_coder_7 : decode b_Sg_coder 7 = .ok (.getfield 15, 3) := by decide +kernel
theorem d_Sg_coder_10 : decode b_Sg_coder 10 = .ok (.goto 4, 3) := by decide +kernel
theorem d_Sg_coder_13 : decode b_Sg_coder 13 = .ok (.iconst 1, 1) := by decide +kernel
theorem d_Sg_coder_14 : decode b_Sg_coder 14 = .ok (.ireturn, 1) := by decide +kernel
-- wanting: Cond.fieldLink "java/lang/String" 34 "java/lang/String" "COMPACT_STRINGS" "Z"
theorem d_Sg_isLatin1_0 : decode b_Sg_isLatin1 0 = .ok (.getstatic 34, 3) := by decide +kernel
theorem d_Sg_isLatin1_3 : decode b_Sg_isLatin1 3 = .ok (.ifCond .eq 14, 3) := by decide +kernel
theorem d_Sg_isLatin1_6 : decode b_Sg_isLatin1 6 = .ok (.aload_n 0, 1) := by decide +kernel
theorem d_Sg_isLatin1_7 : decode b_Sg_isLatin1 7 = .ok (.getfield 15, 3) := by decide +kernel
theorem d_Sg_isLatin1_10 : decode b_Sg_isLatin1 10 = .ok (.ifCond .ne 7, 3) := by decide +kernel
theorem d_Sg_isLatin1_13 : decode b_Sg_isLatin1 13 = .ok (.iconst 1, 1) := by decide +kernel
theorem d_Sg_isLatin1_14 : decode b_Sg_isLatin1 14 = .ok (.goto 4, 3) := by decide +kernel
theorem d_Sg_isLatin1_17 : decode b_Sg_isLatin1 17 = .ok (.iconst 0, 1) := by decide +kernel
theorem d_Sg_isLatin1_18 : decode b_Sg_isLatin1 18 = .ok (.ireturn, 1) := by decide +kernel
theorem fl_Sg_9 : Cond.fieldLink R_Sg 9 R_Sg "value" "[B" ∈ lw_gd := (gd _ (tb4 _ (List.mem_of_getElem? (i := 6) rfl)) rfl)
-- no link: java/lang/String 315 ⟨java/lang/String,coder,()B⟩
theorem d_Sg_length_0 : decode b_Sg_length 0 = .ok (.aload_n 0, 1) := by decide +kernel
theorem d_Sg_length_1 : decode b_Sg_length 1 = .ok (.getfield 9, 3) := by decide +kernel
theorem d_Sg_length_4 : decode b_Sg_length 4 = .ok (.arraylength, 1) := by decide +kernel
theorem d_Sg_length_5 : decode b_Sg_length 5 = .ok (.aload_n 0, 1) := by decide +kernel
theorem d_Sg_length_6 : decode b_Sg_length 6 = .ok (.invokevirtual 315, 3) := by decide +kernel
theorem d_Sg_length_9 : decode b_Sg_length 9 = .ok (.ishr, 1) := by decide +kernel
theorem d_Sg_length_10 : decode b_Sg_length 10 = .ok (.ireturn, 1) := by decide +kernel
-- no code: ⟨java/lang/StringIndexOutOfBoundsException,<init>,(I)V⟩
theorem d_S1_charAt_0 : decode b_S1_charAt 0 = .ok (.iload_n 1, 1) := by decide +kernel
theorem d_S1_charAt_1 : decode b_S1_charAt 1 = .ok (.ifCond .lt 9, 3) := by decide +kernel
theorem d_S1_charAt_4 : decode b_S1_charAt 4 = .ok (.iload_n 1, 1) := by decide +kernel
theorem d_S1_charAt_5 : decode b_S1_charAt 5 = .ok (.aload_n 0, 1) := by decide +kernel
theorem d_S1_charAt_6 : decode b_S1_charAt 6 = .ok (.arraylength, 1) := by decide +kernel
theorem d_S1_charAt_7 : decode b_S1_charAt 7 = .ok (.if_icmp .lt 12, 3) := by decide +kernel
theorem d_S1_charAt_10 : decode b_S1_charAt 10 = .ok (.new 9, 3) := by decide +kernel
theorem d_S1_charAt_13 : decode b_S1_charAt 13 = .ok (.dup, 1) := by decide +kernel
theorem d_S1_charAt_14 : decode b_S1_charAt 14 = .ok (.iload_n 1, 1) := by decide +kernel
theorem d_S1_charAt_15 : decode b_S1_charAt 15 = .ok (.invokespecial 11, 3) := by decide +kernel
theorem d_S1_charAt_18 : decode b_S1_charAt 18 = .ok (.athrow, 1) := by decide +kernel
theorem d_S1_charAt_19 : decode b_S1_charAt 19 = .ok (.aload_n 0, 1) := by decide +kernel
theorem d_S1_charAt_20 : decode b_S1_charAt 20 = .ok (.iload_n 1, 1) := by decide +kernel
theorem d_S1_charAt_21 : decode b_S1_charAt 21 = .ok (.baload, 1) := by decide +kernel
theorem d_S1_charAt_22 : decode b_S1_charAt 22 = .ok (.sipush 255, 3) := by decide +kernel
theorem d_S1_charAt_25 : decode b_S1_charAt 25 = .ok (.iand, 1) := by decide +kernel
theorem d_S1_charAt_26 : decode b_S1_charAt 26 = .ok (.i2c, 1) := by decide +kernel
theorem d_S1_charAt_27 : decode b_S1_charAt 27 = .ok (.ireturn, 1) := by decide +kernel
-- no link: java/lang/String 469 ⟨java/lang/String,isLatin1,()Z⟩
-- no link: java/lang/String 472 ⟨java/lang/StringLatin1,charAt,([BI)C⟩
-- no link: java/lang/String 475 ⟨java/lang/StringUTF16,charAt,([BI)C⟩
theorem d_Sg_charAt_0 : decode b_Sg_charAt 0 = .ok (.aload_n 0, 1) := by decide +kernel
theorem d_Sg_charAt_1 : decode b_Sg_charAt 1 = .ok (.invokevirtual 469, 3) := by decide +kernel
theorem d_Sg_charAt_4 : decode b_Sg_charAt 4 = .ok (.ifCond .eq 12, 3) := by decide +kernel
theorem d_Sg_charAt_7 : decode b_Sg_charAt 7 = .ok (.aload_n 0, 1) := by decide +kernel
theorem d_Sg_charAt_8 : decode b_Sg_charAt 8 = .ok (.getfield 9, 3) := by decide +kernel
theorem d_Sg_charAt_11 : decode b_Sg_charAt 11 = .ok (.iload_n 1, 1) := by decide +kernel
theorem d_Sg_charAt_12 : decode b_Sg_charAt 12 = .ok (.invokestatic 472, 3) := by decide +kernel
theorem d_Sg_charAt_15 : decode b_Sg_charAt 15 = .ok (.ireturn, 1) := by decide +kernel
theorem d_Sg_charAt_16 : decode b_Sg_charAt 16 = .ok (.aload_n 0, 1) := by decide +kernel
theorem d_Sg_charAt_17 : decode b_Sg_charAt 17 = .ok (.getfield 9, 3) := by decide +kernel
theorem d_Sg_charAt_20 : decode b_Sg_charAt 20 = .ok (.iload_n 1, 1) := by decide +kernel
theorem d_Sg_charAt_21 : decode b_Sg_charAt 21 = .ok (.invokestatic 475, 3) := by decide +kernel
theorem d_Sg_charAt_24 : decode b_Sg_charAt 24 = .ok (.ireturn, 1) := by decide +kernel
set_option maxHeartbeats 4000000 in
set_option maxRecDepth 100000 in
theorem c_En_ordinal (l : Launch) (D : va_G) (cI : CiT) (z : GzT) (i : Nat) (hi : i < 9) : wk_C l D (tyK cI) (gX z) y_En_ordinal b_En_ordinal 1 (some .int) 0 0 0 0 [.ref (zA z (i))] [] wk_i (fun (r : Int32) (_ : Unit) => r = (nI (i))) (fun _ => []) := by
  refine wk_methI (own := R_En) [(0, .ref (zA z (i)))] (by decide) rfl (Nat.le_of_ble_eq_true rfl) rfl (gX_ok z) (fun p_ e_ R_ s_ m_ ar_ be_ me_ co_ Q_ A_ hR_ S_ hnm_ hQ_ => ?_)
  refine wk_aload_n (pc := 0) S_ 0 d_En_ordinal_0 rfl rfl ?_
  refine wk_getO (pc := 1) S_ (gx_or S_.2.2.2.1 (show i < 9 by omega)) fl_En_7 d_En_ordinal_1 ?_
  exact hQ_ (nI (i)) () d_En_ordinal_4 rfl rfl
set_option maxHeartbeats 4000000 in
set_option maxRecDepth 100000 in
theorem c_Sg_coder (l : Launch) (D : va_G) (cI : CiT) (z : GzT) (i : Nat) (hi : i < 9) : wk_C l D (tyK cI) (gX z) y_Sg_coder b_Sg_coder 1 (some .byte) 0 0 0 0 [.ref (zK z (i))] [] wk_i (fun (r : Int32) (_ : Unit) => r = (nI (0))) (fun _ => []) := by
  refine wk_methB (own := R_Sg) [(0, .ref (zK z (i)))] (by decide) rfl (Nat.le_of_ble_eq_true rfl) rfl (gX_ok z) (fun p_ e_ R_ s_ m_ ar_ be_ me_ co_ Q_ A_ hR_ S_ hnm_ hQ_ => ?_)
  refine wk_gets (pc := 0) S_ (gx_cs S_.2.2.2.1) fl_Sg_34 d_Sg_coder_0 ?_
  refine wk_if_eqN (pc := 3) (tgt := 13) S_ d_Sg_coder_3 (by decide) (by omega) (fun h3 => absurd h3 (by decide)) (fun h3 => ?_)
  refine wk_aload_n (pc := 6) S_ 0 d_Sg_coder_6 rfl rfl ?_
  refine wk_getO (pc := 7) S_ (gx_co S_.2.2.2.1 (show i < 9 by omega)) fl_Sg_15 d_Sg_coder_7 ?_
  refine wk_goto (pc := 10) (tgt := 14) S_ d_Sg_coder_10 (by decide) ?_
  exact hQ_ (nI (0)) () d_Sg_coder_14 rfl rfl rfl
set_option maxHeartbeats 4000000 in
set_option maxRecDepth 100000 in
theorem c_Sg_isLatin1 (l : Launch) (D : va_G) (cI : CiT) (z : GzT) (i : Nat) (hi : i < 9) : wk_C l D (tyK cI) (gX z) y_Sg_isLatin1 b_Sg_isLatin1 1 (some .boolean) 0 0 0 0 [.ref (zK z (i))] [] wk_i (fun (r : Int32) (_ : Unit) => r = (bI (true))) (fun _ => []) := by
  refine wk_methZ (own := R_Sg) [(0, .ref (zK z (i)))] (by decide) rfl (Nat.le_of_ble_eq_true rfl) rfl (gX_ok z) (fun p_ e_ R_ s_ m_ ar_ be_ me_ co_ Q_ A_ hR_ S_ hnm_ hQ_ => ?_)
  refine wk_gets (pc := 0) S_ (gx_cs S_.2.2.2.1) fl_Sg_34 d_Sg_isLatin1_0 ?_
  refine wk_if_eqN (pc := 3) (tgt := 17) S_ d_Sg_isLatin1_3 (by decide) (by omega) (fun h3 => absurd h3 (by decide)) (fun h3 => ?_)
  refine wk_aload_n (pc := 6) S_ 0 d_Sg_isLatin1_6 rfl rfl ?_
  refine wk_getO (pc := 7) S_ (gx_co S_.2.2.2.1 (show i < 9 by omega)) fl_Sg_15 d_Sg_isLatin1_7 ?_
  refine wk_if_neN (pc := 10) (tgt := 17) S_ d_Sg_isLatin1_10 (by decide) (by omega) (fun h10 => absurd h10 (by decide)) (fun h10 => ?_)
  refine wk_iconst (pc := 13) (v := (nI (1))) S_ d_Sg_isLatin1_13 (by decide) ?_
  refine wk_goto (pc := 14) (tgt := 18) S_ d_Sg_isLatin1_14 (by decide) ?_
  exact hQ_ (nI (1)) () d_Sg_isLatin1_18 rfl rfl rfl
set_option maxHeartbeats 4000000 in
set_option maxRecDepth 100000 in
theorem c_Sg_length (l : Launch) (D : va_G) (cI : CiT) (z : GzT) (i : Nat) (hi : i < 9) : wk_C l D (tyK cI) (gX z) y_Sg_length b_Sg_length 1 (some .int) 1 20 0 0 [.ref (zK z (i))] [] wk_i (fun (r : Int32) (_ : Unit) => r = (nI ((kwd i).length))) (fun _ => []) := by
  refine wk_methI (own := R_Sg) [(0, .ref (zK z (i)))] (by decide) rfl (Nat.le_of_ble_eq_true rfl) rfl (gX_ok z) (fun p_ e_ R_ s_ m_ ar_ be_ me_ co_ Q_ A_ hR_ S_ hnm_ hQ_ => ?_)
  refine wk_aload_n (pc := 0) S_ 0 d_Sg_length_0 rfl rfl ?_
  refine wk_getO (pc := 1) S_ (gx_va S_.2.2.2.1 (show i < 9 by omega)) fl_Sg_9 d_Sg_length_1 ?_
  refine wk_tlen (pc := 4) S_ (gx_by S_.2.2.2.1 (show i < 9 by omega)) (kl_eq _ (show i < 9 by omega)) d_Sg_length_4 ?_
  refine wk_aload_n (pc := 5) S_ 0 d_Sg_length_5 rfl rfl ?_
  refine wk_run (pc := 6) (rest := [.int (nI ((kwd (i)).length))]) (wr := []) (wN := fun _ => []) S_ (wk_rV S_ (c_Sg_coder l D cI z (i) (by omega)) mv_Sg_315 (fun H locs _ hS => vk_recv (S_.2.2.2.1).2.2.1 (show i < 9 by omega) hS) rfl rfl (Nat.le_of_ble_eq_true rfl) (by rw [hR_]; decide) (by rw [hR_]; decide) d_Sg_length_6) [] [] [] rfl rfl rfl (by decide) (by decide) (by decide) (by decide) (fun _ => rfl) (fun _ => rfl) (fun r6 _ hw6 => ?_)
  refine wk_st (st' := [.int (r6), .int (nI ((kwd (i)).length))]) rfl ?_
  refine wk_top (y := (nI (0))) hw6 ?_
  refine wk_ishrN (pc := 9) S_ d_Sg_length_9 (by have := kl_le i; omega) (by decide) ?_
  exact hQ_ (nI (((kwd (i)).length) / 2 ^ (0))) () d_Sg_length_10 rfl (congrArg nI (Nat.div_one _))
set_option maxHeartbeats 4000000 in
set_option maxRecDepth 100000 in
theorem c_S1_charAt (l : Launch) (D : va_G) (cI : CiT) (z : GzT) (i : Nat) (k : Nat) (hi : i < 9) (hk : k < (kwd i).length) : wk_C l D (tyK cI) (gX z) y_S1_charAt b_S1_charAt 2 (some .char) 0 0 0 0 [.ref (zV z (i)), .int (nI (k))] [] wk_i (fun (r : Int32) (_ : Unit) => r = (nI (ch (kwd i) k))) (fun _ => []) := by
  refine wk_methC (own := R_S1) [(0, .ref (zV z (i))), (1, .int (nI (k)))] (by decide) rfl (Nat.le_of_ble_eq_true rfl) rfl (gX_ok z) (fun p_ e_ R_ s_ m_ ar_ be_ me_ co_ Q_ A_ hR_ S_ hnm_ hQ_ => ?_)
  refine wk_iload_n (pc := 0) S_ 1 d_S1_charAt_0 rfl rfl ?_
  have hl6 := kl_le i
  have hc8 := kw_lt i k
  refine wk_if_ltN (pc := 1) (tgt := 10) S_ d_S1_charAt_1 (by decide) (by omega) ?_
  refine wk_iload_n (pc := 4) S_ 1 d_S1_charAt_4 rfl rfl ?_
  refine wk_aload_n (pc := 5) S_ 0 d_S1_charAt_5 rfl rfl ?_
  refine wk_tlen (pc := 6) S_ (gx_by S_.2.2.2.1 (show i < 9 by omega)) (kl_eq _ (show i < 9 by omega)) d_S1_charAt_6 ?_
  refine wk_icmp_ltN (pc := 7) (tgt := 19) S_ d_S1_charAt_7 (by decide) (by omega) (by omega) (fun h7 => ?_) (fun h7 => absurd hk h7)
  refine wk_aload_n (pc := 19) S_ 0 d_S1_charAt_19 rfl rfl ?_
  refine wk_iload_n (pc := 20) S_ 1 d_S1_charAt_20 rfl rfl ?_
  refine wk_tb (pc := 21) S_ (gx_by S_.2.2.2.1 (show i < 9 by omega)) (by rw [kl_ln _ (show i < 9 by omega)]; omega) (by rw [kl_ln _ (show i < 9 by omega)]; have := kl_le (i); omega) d_S1_charAt_21 ?_
  refine wk_top (y := (nI (ch (kwd (i)) (k)))) (kb_eq _ (show i < 9 by omega) _ (by omega)) ?_
  refine wk_sipush (pc := 22) (v := (nI (255))) S_ d_S1_charAt_22 (by decide) ?_
  refine wk_iandN (pc := 25) S_ d_S1_charAt_25 ?_
  refine wk_top (y := (nI (ch (kwd i) k))) (congrArg nI (and255 hc8)) ?_
  refine wk_i2cN (pc := 26) S_ d_S1_charAt_26 (by omega) ?_
  exact hQ_ (nI (ch (kwd i) k)) () d_S1_charAt_27 (nar_ch (by omega)) rfl rfl
set_option maxHeartbeats 4000000 in
set_option maxRecDepth 100000 in
theorem c_Sg_charAt (l : Launch) (D : va_G) (cI : CiT) (z : GzT) (i : Nat) (k : Nat) (hi : i < 9) (hk : k < (kwd i).length) : wk_C l D (tyK cI) (gX z) y_Sg_charAt b_Sg_charAt 2 (some .char) 1 21 0 0 [.ref (zK z (i)), .int (nI (k))] [] wk_i (fun (r : Int32) (_ : Unit) => r = (nI (ch (kwd i) k))) (fun _ => []) := by
  refine wk_methC (own := R_Sg) [(0, .ref (zK z (i))), (1, .int (nI (k)))] (by decide) rfl (Nat.le_of_ble_eq_true rfl) rfl (gX_ok z) (fun p_ e_ R_ s_ m_ ar_ be_ me_ co_ Q_ A_ hR_ S_ hnm_ hQ_ => ?_)
  refine wk_aload_n (pc := 0) S_ 0 d_Sg_charAt_0 rfl rfl ?_
  refine wk_run (pc := 1) (rest := []) (wr := []) (wN := fun _ => []) S_ (wk_rV S_ (c_Sg_isLatin1 l D cI z (i) (by omega)) mv_Sg_469 (fun H locs _ hS => vk_recv (S_.2.2.2.1).2.2.1 (show i < 9 by omega) hS) rfl rfl (Nat.le_of_ble_eq_true rfl) (by rw [hR_]; decide) (by rw [hR_]; decide) d_Sg_charAt_1) [] [] [] rfl rfl rfl (by decide) (by decide) (by decide) (by decide) (fun _ => rfl) (fun _ => rfl) (fun r1 _ hw1 => ?_)
  refine wk_st (st' := [.int (r1)]) rfl ?_
  refine wk_top (y := (bI (true))) hw1 ?_
  refine wk_if_eqB (pc := 4) (tgt := 16) S_ d_Sg_charAt_4 (by decide) (fun h4 => absurd h4 (by decide)) (fun h4 => ?_)
  refine wk_aload_n (pc := 7) S_ 0 d_Sg_charAt_7 rfl rfl ?_
  refine wk_getO (pc := 8) S_ (gx_va S_.2.2.2.1 (show i < 9 by omega)) fl_Sg_9 d_Sg_charAt_8 ?_
  refine wk_iload_n (pc := 11) S_ 1 d_Sg_charAt_11 rfl rfl ?_
  refine wk_run (pc := 12) (rest := []) (wr := []) (wN := fun _ => []) S_ (wk_rS S_ (c_S1_charAt l D cI z (i) (k) (by omega) (by omega)) mv_Sg_472 rfl rfl (Nat.le_of_ble_eq_true rfl) (by rw [hR_]; decide) (by rw [hR_]; decide) d_Sg_charAt_12) [] [] [] rfl rfl rfl (by decide) (by decide) (by decide) (by decide) (fun _ => rfl) (fun _ => rfl) (fun r12 _ hw12 => ?_)
  refine wk_st (st' := [.int (r12)]) rfl ?_
  refine wk_top (y := (nI (ch (kwd (i)) (k)))) hw12 ?_
  exact hQ_ (nI (ch (kwd (i)) (k))) () d_Sg_charAt_15 (nar_ch (by have := kw_lt i k; omega)) rfl rfl
