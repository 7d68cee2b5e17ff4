theorem kw_all : ∀ k, k < 9 → ∀ c ∈ kwd k, c < 256 := by decide
theorem kw_lt (k : Nat) : ∀ i, ch (kwd k) i < 256 := by
  intro i
  have h : ∀ c ∈ kwd k, c < 256 := by
    by_cases hk : k < 9
    · exact kw_all k hk
    · have e : kwd k = kwd 8 := by
        rcases k with _ | _ | _ | _ | _ | _ | _ | _ | k
        all_goals first | rfl | omega
      rw [e]
      exact kw_all 8 (by decide)
  unfold ch
  rw [List.getD_eq_getElem?_getD]
  cases e : (kwd k)[i]? with
  | none => decide
  | some c => exact h c (List.mem_of_getElem? e)
abbrev RT : Type := (Nat → Bool) × (Nat → Nat) × (Nat → Nat) × (Nat → Nat) × Nat × (Nat → Nat) × (Nat → Nat) × (Nat → Nat) × (Nat → Nat) × (Nat → Nat) × (Nat → Nat)
/-- what a sentence tells: apart, points, ranks, codes, free, counts of marks, their grams, their sizes, counts of notes, notes, leads -/
def tellS (x a b c : Nat) (q : RT) : RT :=
  match q with
  | (ap, pt, rk, cd, fr, mc, mg, mz, nc, nt, ld) =>
    match x with
    | 0 => (va_up (va_up ap (9 * a + b) true) (9 * b + a) true, pt, rk, cd, fr, mc, mg, mz, nc, nt, ld)
    | 1 => (ap, va_up pt a b, rk, cd, fr, mc, mg, mz, nc, nt, ld)
    | 2 => (ap, pt, va_up rk a b, cd, fr, mc, mg, mz, nc, nt, ld)
    | 3 => (ap, pt, rk, cd, a, mc, mg, mz, nc, nt, ld)
    | 4 => (ap, pt, rk, cd, fr, va_up mc a (mc a + (if mpS mg a b (mc a) 0 = mc a then 1 else 0)), va_up mg (6 * a + mpS mg a b (mc a) 0) b, va_up mz (6 * a + mpS mg a b (mc a) 0) c, nc, nt, ld)
    | 5 => (ap, pt, rk, va_up cd a b, fr, mc, mg, mz, nc, nt, ld)
    | 6 => (ap, pt, rk, cd, fr, mc, mg, mz, va_up nc a (nc a + 1), va_up nt (8 * a + nc a) b, ld)
    | 7 => (ap, pt, rk, cd, fr, mc, mg, mz, nc, nt, va_up ld (4 * a + b) (c + 1))
    | _ => (ap, pt, rk, cd, fr, mc, mg, mz, nc, nt, va_up ld (4 * a + b) (c + 11))
theorem tellS4 (a b c : Nat) (ap : Nat → Bool) (pt rk cd : Nat → Nat) (fr : Nat) (mc mg mz nc nt ld : Nat → Nat) : tellS 4 a b c (ap, pt, rk, cd, fr, mc, mg, mz, nc, nt, ld) = (ap, pt, rk, cd, fr, va_up mc a (mc a + (if mpS mg a b (mc a) 0 = mc a then 1 else 0)), va_up mg (6 * a + mpS mg a b (mc a) 0) b, va_up mz (6 * a + mpS mg a b (mc a) 0) c, nc, nt, ld) := rfl
theorem d_Md_numberAt_0 : decode b_Md_numberAt 0 = .ok (.aload_n 0, 1) := by decide +kernel
theorem d_Md_numberAt_1 : decode b_Md_numberAt 1 = .ok (.getfield 140, 3) := by decide +kernel
theorem d_Md_numberAt_4 : decode b_Md_numberAt 4 = .ok (.aload_n 0, 1) := by decide +kernel
theorem d_Md_numberAt_5 : decode b_Md_numberAt 5 = .ok (.getfield 143, 3) := by decide +kernel
theorem d_Md_numberAt_8 : decode b_Md_numberAt 8 = .ok (.isub, 1) := by decide +kernel
theorem d_Md_numberAt_9 : decode b_Md_numberAt 9 = .ok (.iconst 1, 1) := by decide +kernel
theorem d_Md_numberAt_10 : decode b_Md_numberAt 10 = .ok (.if_icmp .lt 21, 3) := by decide +kernel
theorem d_Md_numberAt_13 : decode b_Md_numberAt 13 = .ok (.aload_n 0, 1) := by decide +kernel
theorem d_Md_numberAt_14 : decode b_Md_numberAt 14 = .ok (.getfield 140, 3) := by decide +kernel
theorem d_Md_numberAt_17 : decode b_Md_numberAt 17 = .ok (.aload_n 0, 1) := by decide +kernel
theorem d_Md_numberAt_18 : decode b_Md_numberAt 18 = .ok (.getfield 143, 3) := by decide +kernel
theorem d_Md_numberAt_21 : decode b_Md_numberAt 21 = .ok (.isub, 1) := by decide +kernel
theorem d_Md_numberAt_22 : decode b_Md_numberAt 22 = .ok (.bipush 6, 2) := by decide +kernel
theorem d_Md_numberAt_24 : decode b_Md_numberAt 24 = .ok (.if_icmp .gt 7, 3) := by decide +kernel
theorem d_Md_numberAt_27 : decode b_Md_numberAt 27 = .ok (.iconst 0, 1) := by decide +kernel
theorem d_Md_numberAt_28 : decode b_Md_numberAt 28 = .ok (.goto 4, 3) := by decide +kernel
theorem d_Md_numberAt_31 : decode b_Md_numberAt 31 = .ok (.iconst (-1), 1) := by decide +kernel
theorem d_Md_numberAt_32 : decode b_Md_numberAt 32 = .ok (.istore_n 1, 1) := by decide +kernel
theorem d_Md_numberAt_33 : decode b_Md_numberAt 33 = .ok (.aload_n 0, 1) := by decide +kernel
theorem d_Md_numberAt_34 : decode b_Md_numberAt 34 = .ok (.getfield 143, 3) := by decide +kernel
theorem d_Md_numberAt_37 : decode b_Md_numberAt 37 = .ok (.istore_n 2, 1) := by decide +kernel
theorem d_Md_numberAt_38 : decode b_Md_numberAt 38 = .ok (.iload_n 2, 1) := by decide +kernel
theorem d_Md_numberAt_39 : decode b_Md_numberAt 39 = .ok (.aload_n 0, 1) := by decide +kernel
theorem d_Md_numberAt_40 : decode b_Md_numberAt 40 = .ok (.getfield 140, 3) := by decide +kernel
theorem d_Md_numberAt_43 : decode b_Md_numberAt 43 = .ok (.if_icmp .ge 54, 3) := by decide +kernel
theorem d_Md_numberAt_46 : decode b_Md_numberAt 46 = .ok (.iload_n 1, 1) := by decide +kernel
theorem d_Md_numberAt_47 : decode b_Md_numberAt 47 = .ok (.ifCond .lt 50, 3) := by decide +kernel
theorem d_Md_numberAt_50 : decode b_Md_numberAt 50 = .ok (.aload_n 0, 1) := by decide +kernel
theorem d_Md_numberAt_51 : decode b_Md_numberAt 51 = .ok (.getfield 7, 3) := by decide +kernel
theorem d_Md_numberAt_54 : decode b_Md_numberAt 54 = .ok (.iload_n 2, 1) := by decide +kernel
theorem d_Md_numberAt_55 : decode b_Md_numberAt 55 = .ok (.iaload, 1) := by decide +kernel
theorem d_Md_numberAt_56 : decode b_Md_numberAt 56 = .ok (.bipush 48, 2) := by decide +kernel
theorem d_Md_numberAt_58 : decode b_Md_numberAt 58 = .ok (.if_icmp .lt 31, 3) := by decide +kernel
theorem d_Md_numberAt_61 : decode b_Md_numberAt 61 = .ok (.aload_n 0, 1) := by decide +kernel
theorem d_Md_numberAt_62 : decode b_Md_numberAt 62 = .ok (.getfield 7, 3) := by decide +kernel
theorem d_Md_numberAt_65 : decode b_Md_numberAt 65 = .ok (.iload_n 2, 1) := by decide +kernel
theorem d_Md_numberAt_66 : decode b_Md_numberAt 66 = .ok (.iaload, 1) := by decide +kernel
theorem d_Md_numberAt_67 : decode b_Md_numberAt 67 = .ok (.bipush 57, 2) := by decide +kernel
theorem d_Md_numberAt_69 : decode b_Md_numberAt 69 = .ok (.if_icmp .gt 20, 3) := by decide +kernel
theorem d_Md_numberAt_72 : decode b_Md_numberAt 72 = .ok (.bipush 10, 2) := by decide +kernel
theorem d_Md_numberAt_74 : decode b_Md_numberAt 74 = .ok (.iload_n 1, 1) := by decide +kernel
theorem d_Md_numberAt_75 : decode b_Md_numberAt 75 = .ok (.imul, 1) := by decide +kernel
theorem d_Md_numberAt_76 : decode b_Md_numberAt 76 = .ok (.aload_n 0, 1) := by decide +kernel
theorem d_Md_numberAt_77 : decode b_Md_numberAt 77 = .ok (.getfield 7, 3) := by decide +kernel
theorem d_Md_numberAt_80 : decode b_Md_numberAt 80 = .ok (.iload_n 2, 1) := by decide +kernel
theorem d_Md_numberAt_81 : decode b_Md_numberAt 81 = .ok (.iaload, 1) := by decide +kernel
theorem d_Md_numberAt_82 : decode b_Md_numberAt 82 = .ok (.iadd, 1) := by decide +kernel
theorem d_Md_numberAt_83 : decode b_Md_numberAt 83 = .ok (.bipush 48, 2) := by decide +kernel
theorem d_Md_numberAt_85 : decode b_Md_numberAt 85 = .ok (.isub, 1) := by decide +kernel
theorem d_Md_numberAt_86 : decode b_Md_numberAt 86 = .ok (.goto 4, 3) := by decide +kernel
theorem d_Md_numberAt_89 : decode b_Md_numberAt 89 = .ok (.iconst (-1), 1) := by decide +kernel
theorem d_Md_numberAt_90 : decode b_Md_numberAt 90 = .ok (.istore_n 1, 1) := by decide +kernel
theorem d_Md_numberAt_91 : decode b_Md_numberAt 91 = .ok (.iinc 2 1, 3) := by decide +kernel
theorem d_Md_numberAt_94 : decode b_Md_numberAt 94 = .ok (.goto (-56), 3) := by decide +kernel
theorem d_Md_numberAt_97 : decode b_Md_numberAt 97 = .ok (.iload_n 1, 1) := by decide +kernel
theorem d_Md_numberAt_98 : decode b_Md_numberAt 98 = .ok (.ireturn, 1) := by decide +kernel
theorem kc_Md_152 : Cond.constantLong R_Md 152 (lN 418497262196) ∈ lw_gd := (gd _ (tb3 _ (List.mem_of_getElem? (i := 75) rfl)) rfl)
theorem mv_Md_154 : wk_V R_Md 154 R_Md y_Md_is b_Md_is 7 (some .boolean) 1 := ⟨(gd _ (tb3 _ (List.mem_of_getElem? (i := 79) rfl)) rfl), (gd _ (tb0 _ (List.mem_of_getElem? (i := 8) rfl)) rfl), (gd _ (tb3 _ (List.mem_of_getElem? (i := 76) rfl)) rfl), (by decide +kernel), (gd _ (tb3 _ (List.mem_of_getElem? (i := 78) rfl)) rfl), (gd _ (List.mem_append_left _ (by decide +kernel)) rfl)⟩
theorem kc_Md_158 : Cond.constantLong R_Md 158 (lN 123623812527219) ∈ lw_gd := (gd _ (tb3 _ (List.mem_of_getElem? (i := 81) rfl)) rfl)
theorem kc_Md_160 : Cond.constantLong R_Md 160 (lN 1918987883) ∈ lw_gd := (gd _ (tb3 _ (List.mem_of_getElem? (i := 82) rfl)) rfl)
theorem kc_Md_162 : Cond.constantLong R_Md 162 (lN 1718773093) ∈ lw_gd := (gd _ (tb3 _ (List.mem_of_getElem? (i := 83) rfl)) rfl)
theorem kc_Md_164 : Cond.constantLong R_Md 164 (lN 1835102827) ∈ lw_gd := (gd _ (tb3 _ (List.mem_of_getElem? (i := 84) rfl)) rfl)
theorem kc_Md_166 : Cond.constantLong R_Md 166 (lN 128047712724332) ∈ lw_gd := (gd _ (tb3 _ (List.mem_of_getElem? (i := 85) rfl)) rfl)
theorem kc_Md_168 : Cond.constantLong R_Md 168 (lN 1852798053) ∈ lw_gd := (gd _ (tb3 _ (List.mem_of_getElem? (i := 86) rfl)) rfl)
theorem kc_Md_170 : Cond.constantLong R_Md 170 (lN 1937007984) ∈ lw_gd := (gd _ (tb3 _ (List.mem_of_getElem? (i := 87) rfl)) rfl)
theorem kc_Md_172 : Cond.constantLong R_Md 172 (lN 427020088179) ∈ lw_gd := (gd _ (tb3 _ (List.mem_of_getElem? (i := 88) rfl)) rfl)
theorem d_Md_sentence_0 : decode b_Md_sentence 0 = .ok (.aload_n 0, 1) := by decide +kernel
theorem d_Md_sentence_1 : decode b_Md_sentence 1 = .ok (.ldc2_w 152, 3) := by decide +kernel
theorem d_Md_sentence_4 : decode b_Md_sentence 4 = .ok (.invokevirtual 154, 3) := by decide +kernel
theorem d_Md_sentence_7 : decode b_Md_sentence 7 = .ok (.ifCond .eq 5, 3) := by decide +kernel
theorem d_Md_sentence_10 : decode b_Md_sentence 10 = .ok (.iconst 0, 1) := by decide +kernel
theorem d_Md_sentence_11 : decode b_Md_sentence 11 = .ok (.ireturn, 1) := by decide +kernel
theorem d_Md_sentence_12 : decode b_Md_sentence 12 = .ok (.aload_n 0, 1) := by decide +kernel
theorem d_Md_sentence_13 : decode b_Md_sentence 13 = .ok (.ldc2_w 158, 3) := by decide +kernel
theorem d_Md_sentence_16 : decode b_Md_sentence 16 = .ok (.invokevirtual 154, 3) := by decide +kernel
theorem d_Md_sentence_19 : decode b_Md_sentence 19 = .ok (.ifCond .eq 5, 3) := by decide +kernel
theorem d_Md_sentence_22 : decode b_Md_sentence 22 = .ok (.iconst 1, 1) := by decide +kernel
theorem d_Md_sentence_23 : decode b_Md_sentence 23 = .ok (.ireturn, 1) := by decide +kernel
theorem d_Md_sentence_24 : decode b_Md_sentence 24 = .ok (.aload_n 0, 1) := by decide +kernel
theorem d_Md_sentence_25 : decode b_Md_sentence 25 = .ok (.ldc2_w 160, 3) := by decide +kernel
theorem d_Md_sentence_28 : decode b_Md_sentence 28 = .ok (.invokevirtual 154, 3) := by decide +kernel
theorem d_Md_sentence_31 : decode b_Md_sentence 31 = .ok (.ifCond .eq 5, 3) := by decide +kernel
theorem d_Md_sentence_34 : decode b_Md_sentence 34 = .ok (.iconst 2, 1) := by decide +kernel
theorem d_Md_sentence_35 : decode b_Md_sentence 35 = .ok (.ireturn, 1) := by decide +kernel
theorem d_Md_sentence_36 : decode b_Md_sentence 36 = .ok (.aload_n 0, 1) := by decide +kernel
theorem d_Md_sentence_37 : decode b_Md_sentence 37 = .ok (.ldc2_w 162, 3) := by decide +kernel
theorem d_Md_sentence_40 : decode b_Md_sentence 40 = .ok (.invokevirtual 154, 3) := by decide +kernel
theorem d_Md_sentence_43 : decode b_Md_sentence 43 = .ok (.ifCond .eq 5, 3) := by decide +kernel
theorem d_Md_sentence_46 : decode b_Md_sentence 46 = .ok (.iconst 3, 1) := by decide +kernel
theorem d_Md_sentence_47 : decode b_Md_sentence 47 = .ok (.ireturn, 1) := by decide +kernel
theorem d_Md_sentence_48 : decode b_Md_sentence 48 = .ok (.aload_n 0, 1) := by decide +kernel
theorem d_Md_sentence_49 : decode b_Md_sentence 49 = .ok (.ldc2_w 164, 3) := by decide +kernel
theorem d_Md_sentence_52 : decode b_Md_sentence 52 = .ok (.invokevirtual 154, 3) := by decide +kernel
theorem d_Md_sentence_55 : decode b_Md_sentence 55 = .ok (.ifCond .eq 5, 3) := by decide +kernel
theorem d_Md_sentence_58 : decode b_Md_sentence 58 = .ok (.iconst 4, 1) := by decide +kernel
theorem d_Md_sentence_59 : decode b_Md_sentence 59 = .ok (.ireturn, 1) := by decide +kernel
theorem d_Md_sentence_60 : decode b_Md_sentence 60 = .ok (.aload_n 0, 1) := by decide +kernel
theorem d_Md_sentence_61 : decode b_Md_sentence 61 = .ok (.ldc2_w 166, 3) := by decide +kernel
theorem d_Md_sentence_64 : decode b_Md_sentence 64 = .ok (.invokevirtual 154, 3) := by decide +kernel
theorem d_Md_sentence_67 : decode b_Md_sentence 67 = .ok (.ifCond .eq 5, 3) := by decide +kernel
theorem d_Md_sentence_70 : decode b_Md_sentence 70 = .ok (.iconst 5, 1) := by decide +kernel
theorem d_Md_sentence_71 : decode b_Md_sentence 71 = .ok (.ireturn, 1) := by decide +kernel
theorem d_Md_sentence_72 : decode b_Md_sentence 72 = .ok (.aload_n 0, 1) := by decide +kernel
theorem d_Md_sentence_73 : decode b_Md_sentence 73 = .ok (.ldc2_w 168, 3) := by decide +kernel
theorem d_Md_sentence_76 : decode b_Md_sentence 76 = .ok (.invokevirtual 154, 3) := by decide +kernel
theorem d_Md_sentence_79 : decode b_Md_sentence 79 = .ok (.ifCond .eq 6, 3) := by decide +kernel
theorem d_Md_sentence_82 : decode b_Md_sentence 82 = .ok (.bipush 6, 2) := by decide +kernel
theorem d_Md_sentence_84 : decode b_Md_sentence 84 = .ok (.ireturn, 1) := by decide +kernel
theorem d_Md_sentence_85 : decode b_Md_sentence 85 = .ok (.aload_n 0, 1) := by decide +kernel
theorem d_Md_sentence_86 : decode b_Md_sentence 86 = .ok (.ldc2_w 170, 3) := by decide +kernel
theorem d_Md_sentence_89 : decode b_Md_sentence 89 = .ok (.invokevirtual 154, 3) := by decide +kernel
theorem d_Md_sentence_92 : decode b_Md_sentence 92 = .ok (.ifCond .eq 6, 3) := by decide +kernel
theorem d_Md_sentence_95 : decode b_Md_sentence 95 = .ok (.bipush 7, 2) := by decide +kernel
theorem d_Md_sentence_97 : decode b_Md_sentence 97 = .ok (.ireturn, 1) := by decide +kernel
theorem d_Md_sentence_98 : decode b_Md_sentence 98 = .ok (.aload_n 0, 1) := by decide +kernel
theorem d_Md_sentence_99 : decode b_Md_sentence 99 = .ok (.ldc2_w 172, 3) := by decide +kernel
theorem d_Md_sentence_102 : decode b_Md_sentence 102 = .ok (.invokevirtual 154, 3) := by decide +kernel
theorem d_Md_sentence_105 : decode b_Md_sentence 105 = .ok (.ifCond .eq 8, 3) := by decide +kernel
theorem d_Md_sentence_108 : decode b_Md_sentence 108 = .ok (.bipush 8, 2) := by decide +kernel
theorem d_Md_sentence_110 : decode b_Md_sentence 110 = .ok (.goto 4, 3) := by decide +kernel
theorem d_Md_sentence_113 : decode b_Md_sentence 113 = .ok (.iconst (-1), 1) := by decide +kernel
theorem d_Md_sentence_114 : decode b_Md_sentence 114 = .ok (.ireturn, 1) := by decide +kernel
theorem d_Md_parts_0 : decode b_Md_parts 0 = .ok (.iload_n 0, 1) := by decide +kernel
theorem d_Md_parts_1 : decode b_Md_parts 1 = .ok (.iconst 3, 1) := by decide +kernel
theorem d_Md_parts_2 : decode b_Md_parts 2 = .ok (.if_icmp .ne 7, 3) := by decide +kernel
theorem d_Md_parts_5 : decode b_Md_parts 5 = .ok (.iconst 1, 1) := by decide +kernel
theorem d_Md_parts_6 : decode b_Md_parts 6 = .ok (.goto 19, 3) := by decide +kernel
theorem d_Md_parts_9 : decode b_Md_parts 9 = .ok (.iload_n 0, 1) := by decide +kernel
theorem d_Md_parts_10 : decode b_Md_parts 10 = .ok (.iconst 4, 1) := by decide +kernel
theorem d_Md_parts_11 : decode b_Md_parts 11 = .ok (.if_icmp .eq 9, 3) := by decide +kernel
theorem d_Md_parts_14 : decode b_Md_parts 14 = .ok (.iload_n 0, 1) := by decide +kernel
theorem d_Md_parts_15 : decode b_Md_parts 15 = .ok (.bipush 6, 2) := by decide +kernel
theorem d_Md_parts_17 : decode b_Md_parts 17 = .ok (.if_icmp .le 7, 3) := by decide +kernel
theorem d_Md_parts_20 : decode b_Md_parts 20 = .ok (.iconst 3, 1) := by decide +kernel
theorem d_Md_parts_21 : decode b_Md_parts 21 = .ok (.goto 4, 3) := by decide +kernel
theorem d_Md_parts_24 : decode b_Md_parts 24 = .ok (.iconst 2, 1) := by decide +kernel
theorem d_Md_parts_25 : decode b_Md_parts 25 = .ok (.ireturn, 1) := by decide +kernel
theorem d_Md_least_0 : decode b_Md_least 0 = .ok (.iload_n 0, 1) := by decide +kernel
theorem d_Md_least_1 : decode b_Md_least 1 = .ok (.iconst 4, 1) := by decide +kernel
theorem d_Md_least_2 : decode b_Md_least 2 = .ok (.if_icmp .ne 8, 3) := by decide +kernel
theorem d_Md_least_5 : decode b_Md_least 5 = .ok (.iload_n 1, 1) := by decide +kernel
theorem d_Md_least_6 : decode b_Md_least 6 = .ok (.iconst 2, 1) := by decide +kernel
theorem d_Md_least_7 : decode b_Md_least 7 = .ok (.if_icmp .eq 13, 3) := by decide +kernel
theorem d_Md_least_10 : decode b_Md_least 10 = .ok (.iload_n 0, 1) := by decide +kernel
theorem d_Md_least_11 : decode b_Md_least 11 = .ok (.iconst 5, 1) := by decide +kernel
theorem d_Md_least_12 : decode b_Md_least 12 = .ok (.if_icmp .ne 12, 3) := by decide +kernel
theorem d_Md_least_15 : decode b_Md_least 15 = .ok (.iload_n 1, 1) := by decide +kernel
theorem d_Md_least_16 : decode b_Md_least 16 = .ok (.iconst 1, 1) := by decide +kernel
theorem d_Md_least_17 : decode b_Md_least 17 = .ok (.if_icmp .ne 7, 3) := by decide +kernel
theorem d_Md_least_20 : decode b_Md_least 20 = .ok (.iconst 1, 1) := by decide +kernel
theorem d_Md_least_21 : decode b_Md_least 21 = .ok (.goto 4, 3) := by decide +kernel
theorem d_Md_least_24 : decode b_Md_least 24 = .ok (.iconst 0, 1) := by decide +kernel
theorem d_Md_least_25 : decode b_Md_least 25 = .ok (.ireturn, 1) := by decide +kernel
theorem kc_Md_174 : Cond.constant R_Md 174 (nI 999999) ∈ lw_gd := (gd _ (tb3 _ (List.mem_of_getElem? (i := 106) rfl)) rfl)
theorem d_Md_greatest_0 : decode b_Md_greatest 0 = .ok (.iload_n 0, 1) := by decide +kernel
theorem d_Md_greatest_1 : decode b_Md_greatest 1 = .ok (.tableswitch 118 0 6 #[43, 46, 59, 71, 74, 96, 107], 43) := by decide +kernel
theorem d_Md_greatest_44 : decode b_Md_greatest 44 = .ok (.bipush 8, 2) := by decide +kernel
theorem d_Md_greatest_46 : decode b_Md_greatest 46 = .ok (.ireturn, 1) := by decide +kernel
theorem d_Md_greatest_47 : decode b_Md_greatest 47 = .ok (.iload_n 1, 1) := by decide +kernel
theorem d_Md_greatest_48 : decode b_Md_greatest 48 = .ok (.ifCond .ne 8, 3) := by decide +kernel
theorem d_Md_greatest_51 : decode b_Md_greatest 51 = .ok (.bipush 8, 2) := by decide +kernel
theorem d_Md_greatest_53 : decode b_Md_greatest 53 = .ok (.goto 6, 3) := by decide +kernel
theorem d_Md_greatest_56 : decode b_Md_greatest 56 = .ok (.sipush 1000, 3) := by decide +kernel
theorem d_Md_greatest_59 : decode b_Md_greatest 59 = .ok (.ireturn, 1) := by decide +kernel
theorem d_Md_greatest_60 : decode b_Md_greatest 60 = .ok (.iload_n 1, 1) := by decide +kernel
theorem d_Md_greatest_61 : decode b_Md_greatest 61 = .ok (.ifCond .ne 8, 3) := by decide +kernel
theorem d_Md_greatest_64 : decode b_Md_greatest 64 = .ok (.bipush 8, 2) := by decide +kernel
theorem d_Md_greatest_66 : decode b_Md_greatest 66 = .ok (.goto 5, 3) := by decide +kernel
theorem d_Md_greatest_69 : decode b_Md_greatest 69 = .ok (.bipush 99, 2) := by decide +kernel
theorem d_Md_greatest_71 : decode b_Md_greatest 71 = .ok (.ireturn, 1) := by decide +kernel
theorem d_Md_greatest_72 : decode b_Md_greatest 72 = .ok (.ldc 174, 2) := by decide +kernel
theorem d_Md_greatest_74 : decode b_Md_greatest 74 = .ok (.ireturn, 1) := by decide +kernel
theorem d_Md_greatest_75 : decode b_Md_greatest 75 = .ok (.iload_n 1, 1) := by decide +kernel
theorem d_Md_greatest_76 : decode b_Md_greatest 76 = .ok (.ifCond .ne 8, 3) := by decide +kernel
theorem d_Md_greatest_79 : decode b_Md_greatest 79 = .ok (.bipush 8, 2) := by decide +kernel
theorem d_Md_greatest_81 : decode b_Md_greatest 81 = .ok (.goto 15, 3) := by decide +kernel
theorem d_Md_greatest_84 : decode b_Md_greatest 84 = .ok (.iload_n 1, 1) := by decide +kernel
theorem d_Md_greatest_85 : decode b_Md_greatest 85 = .ok (.iconst 1, 1) := by decide +kernel
theorem d_Md_greatest_86 : decode b_Md_greatest 86 = .ok (.if_icmp .ne 8, 3) := by decide +kernel
theorem d_Md_greatest_89 : decode b_Md_greatest 89 = .ok (.ldc 174, 2) := by decide +kernel
theorem d_Md_greatest_91 : decode b_Md_greatest 91 = .ok (.goto 5, 3) := by decide +kernel
theorem d_Md_greatest_94 : decode b_Md_greatest 94 = .ok (.bipush 9, 2) := by decide +kernel
theorem d_Md_greatest_96 : decode b_Md_greatest 96 = .ok (.ireturn, 1) := by decide +kernel
theorem d_Md_greatest_97 : decode b_Md_greatest 97 = .ok (.iload_n 1, 1) := by decide +kernel
theorem d_Md_greatest_98 : decode b_Md_greatest 98 = .ok (.ifCond .ne 8, 3) := by decide +kernel
theorem d_Md_greatest_101 : decode b_Md_greatest 101 = .ok (.bipush 8, 2) := by decide +kernel
theorem d_Md_greatest_103 : decode b_Md_greatest 103 = .ok (.goto 4, 3) := by decide +kernel
theorem d_Md_greatest_106 : decode b_Md_greatest 106 = .ok (.iconst 5, 1) := by decide +kernel
theorem d_Md_greatest_107 : decode b_Md_greatest 107 = .ok (.ireturn, 1) := by decide +kernel
theorem d_Md_greatest_108 : decode b_Md_greatest 108 = .ok (.iload_n 1, 1) := by decide +kernel
theorem d_Md_greatest_109 : decode b_Md_greatest 109 = .ok (.ifCond .ne 7, 3) := by decide +kernel
theorem d_Md_greatest_112 : decode b_Md_greatest 112 = .ok (.iconst 3, 1) := by decide +kernel
theorem d_Md_greatest_113 : decode b_Md_greatest 113 = .ok (.goto 5, 3) := by decide +kernel
theorem d_Md_greatest_116 : decode b_Md_greatest 116 = .ok (.ldc 174, 2) := by decide +kernel
theorem d_Md_greatest_118 : decode b_Md_greatest 118 = .ok (.ireturn, 1) := by decide +kernel
theorem d_Md_greatest_119 : decode b_Md_greatest 119 = .ok (.iload_n 1, 1) := by decide +kernel
theorem d_Md_greatest_120 : decode b_Md_greatest 120 = .ok (.ifCond .ne 8, 3) := by decide +kernel
theorem d_Md_greatest_123 : decode b_Md_greatest 123 = .ok (.bipush 9, 2) := by decide +kernel
theorem d_Md_greatest_125 : decode b_Md_greatest 125 = .ok (.goto 25, 3) := by decide +kernel
theorem d_Md_greatest_128 : decode b_Md_greatest 128 = .ok (.iload_n 1, 1) := by decide +kernel
theorem d_Md_greatest_129 : decode b_Md_greatest 129 = .ok (.iconst 1, 1) := by decide +kernel
theorem d_Md_greatest_130 : decode b_Md_greatest 130 = .ok (.if_icmp .ne 7, 3) := by decide +kernel
theorem d_Md_greatest_133 : decode b_Md_greatest 133 = .ok (.iconst 3, 1) := by decide +kernel
theorem d_Md_greatest_134 : decode b_Md_greatest 134 = .ok (.goto 16, 3) := by decide +kernel
theorem d_Md_greatest_137 : decode b_Md_greatest 137 = .ok (.iload_n 0, 1) := by decide +kernel
theorem d_Md_greatest_138 : decode b_Md_greatest 138 = .ok (.bipush 7, 2) := by decide +kernel
theorem d_Md_greatest_140 : decode b_Md_greatest 140 = .ok (.if_icmp .ne 8, 3) := by decide +kernel
theorem d_Md_greatest_143 : decode b_Md_greatest 143 = .ok (.bipush 9, 2) := by decide +kernel
theorem d_Md_greatest_145 : decode b_Md_greatest 145 = .ok (.goto 5, 3) := by decide +kernel
theorem d_Md_greatest_148 : decode b_Md_greatest 148 = .ok (.bipush 8, 2) := by decide +kernel
theorem d_Md_greatest_150 : decode b_Md_greatest 150 = .ok (.ireturn, 1) := by decide +kernel
theorem d_Md_markOf_0 : decode b_Md_markOf 0 = .ok (.iconst 0, 1) := by decide +kernel
theorem d_Md_markOf_1 : decode b_Md_markOf 1 = .ok (.istore_n 3, 1) := by decide +kernel
theorem d_Md_markOf_2 : decode b_Md_markOf 2 = .ok (.iload_n 3, 1) := by decide +kernel
theorem d_Md_markOf_3 : decode b_Md_markOf 3 = .ok (.aload_n 0, 1) := by decide +kernel
theorem d_Md_markOf_4 : decode b_Md_markOf 4 = .ok (.getfield 56, 3) := by decide +kernel
theorem d_Md_markOf_7 : decode b_Md_markOf 7 = .ok (.iload_n 1, 1) := by decide +kernel
theorem d_Md_markOf_8 : decode b_Md_markOf 8 = .ok (.iaload, 1) := by decide +kernel
theorem d_Md_markOf_9 : decode b_Md_markOf 9 = .ok (.if_icmp .ge 24, 3) := by decide +kernel
theorem d_Md_markOf_12 : decode b_Md_markOf 12 = .ok (.aload_n 0, 1) := by decide +kernel
theorem d_Md_markOf_13 : decode b_Md_markOf 13 = .ok (.getfield 59, 3) := by decide +kernel
theorem d_Md_markOf_16 : decode b_Md_markOf 16 = .ok (.bipush 6, 2) := by decide +kernel
theorem d_Md_markOf_18 : decode b_Md_markOf 18 = .ok (.iload_n 1, 1) := by decide +kernel
theorem d_Md_markOf_19 : decode b_Md_markOf 19 = .ok (.imul, 1) := by decide +kernel
theorem d_Md_markOf_20 : decode b_Md_markOf 20 = .ok (.iload_n 3, 1) := by decide +kernel
theorem d_Md_markOf_21 : decode b_Md_markOf 21 = .ok (.iadd, 1) := by decide +kernel
theorem d_Md_markOf_22 : decode b_Md_markOf 22 = .ok (.iaload, 1) := by decide +kernel
theorem d_Md_markOf_23 : decode b_Md_markOf 23 = .ok (.iload_n 2, 1) := by decide +kernel
theorem d_Md_markOf_24 : decode b_Md_markOf 24 = .ok (.if_icmp .eq 9, 3) := by decide +kernel
theorem d_Md_markOf_27 : decode b_Md_markOf 27 = .ok (.iinc 3 1, 3) := by decide +kernel
theorem d_Md_markOf_30 : decode b_Md_markOf 30 = .ok (.goto (-28), 3) := by decide +kernel
theorem d_Md_markOf_33 : decode b_Md_markOf 33 = .ok (.iload_n 3, 1) := by decide +kernel
theorem d_Md_markOf_34 : decode b_Md_markOf 34 = .ok (.ireturn, 1) := by decide +kernel
theorem d_Md_hasRoom_0 : decode b_Md_hasRoom 0 = .ok (.iconst 0, 1) := by decide +kernel
theorem d_Md_hasRoom_1 : decode b_Md_hasRoom 1 = .ok (.istore_n 1, 1) := by decide +kernel
theorem d_Md_hasRoom_2 : decode b_Md_hasRoom 2 = .ok (.iconst 0, 1) := by decide +kernel
theorem d_Md_hasRoom_3 : decode b_Md_hasRoom 3 = .ok (.istore_n 2, 1) := by decide +kernel
theorem d_Md_hasRoom_4 : decode b_Md_hasRoom 4 = .ok (.iload_n 2, 1) := by decide +kernel
theorem d_Md_hasRoom_5 : decode b_Md_hasRoom 5 = .ok (.iconst 4, 1) := by decide +kernel
theorem d_Md_hasRoom_6 : decode b_Md_hasRoom 6 = .ok (.if_icmp .ge 30, 3) := by decide +kernel
theorem d_Md_hasRoom_9 : decode b_Md_hasRoom 9 = .ok (.iload_n 1, 1) := by decide +kernel
theorem d_Md_hasRoom_10 : decode b_Md_hasRoom 10 = .ok (.ifCond .ne 14, 3) := by decide +kernel
theorem d_Md_hasRoom_13 : decode b_Md_hasRoom 13 = .ok (.aload_n 0, 1) := by decide +kernel
theorem d_Md_hasRoom_14 : decode b_Md_hasRoom 14 = .ok (.getfield 65, 3) := by decide +kernel
theorem d_Md_hasRoom_17 : decode b_Md_hasRoom 17 = .ok (.iload_n 2, 1) := by decide +kernel
theorem d_Md_hasRoom_18 : decode b_Md_hasRoom 18 = .ok (.iaload, 1) := by decide +kernel
theorem d_Md_hasRoom_19 : decode b_Md_hasRoom 19 = .ok (.bipush 8, 2) := by decide +kernel
theorem d_Md_hasRoom_21 : decode b_Md_hasRoom 21 = .ok (.if_icmp .ge 7, 3) := by decide +kernel
theorem d_Md_hasRoom_24 : decode b_Md_hasRoom 24 = .ok (.iconst 1, 1) := by decide +kernel
theorem d_Md_hasRoom_25 : decode b_Md_hasRoom 25 = .ok (.goto 4, 3) := by decide +kernel
theorem d_Md_hasRoom_28 : decode b_Md_hasRoom 28 = .ok (.iconst 0, 1) := by decide +kernel
theorem d_Md_hasRoom_29 : decode b_Md_hasRoom 29 = .ok (.istore_n 1, 1) := by decide +kernel
theorem d_Md_hasRoom_30 : decode b_Md_hasRoom 30 = .ok (.iinc 2 1, 3) := by decide +kernel
theorem d_Md_hasRoom_33 : decode b_Md_hasRoom 33 = .ok (.goto (-29), 3) := by decide +kernel
theorem d_Md_hasRoom_36 : decode b_Md_hasRoom 36 = .ok (.iload_n 1, 1) := by decide +kernel
theorem d_Md_hasRoom_37 : decode b_Md_hasRoom 37 = .ok (.ireturn, 1) := by decide +kernel
theorem mv_Md_175 : wk_V R_Md 175 R_Md y_Md_markOf b_Md_markOf 4 (some .int) 2 := ⟨(gd _ (tb3 _ (List.mem_of_getElem? (i := 110) rfl)) rfl), (gd _ (tb0 _ (List.mem_of_getElem? (i := 8) rfl)) rfl), (gd _ (tb3 _ (List.mem_of_getElem? (i := 107) rfl)) rfl), (by decide +kernel), (gd _ (tb3 _ (List.mem_of_getElem? (i := 109) rfl)) rfl), (gd _ (List.mem_append_left _ (by decide +kernel)) rfl)⟩
theorem d_Md_tell_0 : decode b_Md_tell 0 = .ok (.iload_n 1, 1) := by decide +kernel
theorem d_Md_tell_1 : decode b_Md_tell 1 = .ok (.ifCond .ne 30, 3) := by decide +kernel
theorem d_Md_tell_4 : decode b_Md_tell 4 = .ok (.aload_n 0, 1) := by decide +kernel
theorem d_Md_tell_5 : decode b_Md_tell 5 = .ok (.getfield 44, 3) := by decide +kernel
theorem d_Md_tell_8 : decode b_Md_tell 8 = .ok (.bipush 9, 2) := by decide +kernel
theorem d_Md_tell_10 : decode b_Md_tell 10 = .ok (.iload_n 2, 1) := by decide +kernel
theorem d_Md_tell_11 : decode b_Md_tell 11 = .ok (.imul, 1) := by decide +kernel
theorem d_Md_tell_12 : decode b_Md_tell 12 = .ok (.iload_n 3, 1) := by decide +kernel
theorem d_Md_tell_13 : decode b_Md_tell 13 = .ok (.iadd, 1) := by decide +kernel
theorem d_Md_tell_14 : decode b_Md_tell 14 = .ok (.iconst 1, 1) := by decide +kernel
theorem d_Md_tell_15 : decode b_Md_tell 15 = .ok (.bastore, 1) := by decide +kernel
theorem d_Md_tell_16 : decode b_Md_tell 16 = .ok (.aload_n 0, 1) := by decide +kernel
theorem d_Md_tell_17 : decode b_Md_tell 17 = .ok (.getfield 44, 3) := by decide +kernel
theorem d_Md_tell_20 : decode b_Md_tell 20 = .ok (.bipush 9, 2) := by decide +kernel
theorem d_Md_tell_22 : decode b_Md_tell 22 = .ok (.iload_n 3, 1) := by decide +kernel
theorem d_Md_tell_23 : decode b_Md_tell 23 = .ok (.imul, 1) := by decide +kernel
theorem d_Md_tell_24 : decode b_Md_tell 24 = .ok (.iload_n 2, 1) := by decide +kernel
theorem d_Md_tell_25 : decode b_Md_tell 25 = .ok (.iadd, 1) := by decide +kernel
theorem d_Md_tell_26 : decode b_Md_tell 26 = .ok (.iconst 1, 1) := by decide +kernel
theorem d_Md_tell_27 : decode b_Md_tell 27 = .ok (.bastore, 1) := by decide +kernel
theorem d_Md_tell_28 : decode b_Md_tell 28 = .ok (.goto 190, 3) := by decide +kernel
theorem d_Md_tell_31 : decode b_Md_tell 31 = .ok (.iload_n 1, 1) := by decide +kernel
theorem d_Md_tell_32 : decode b_Md_tell 32 = .ok (.iconst 1, 1) := by decide +kernel
theorem d_Md_tell_33 : decode b_Md_tell 33 = .ok (.if_icmp .ne 13, 3) := by decide +kernel
theorem d_Md_tell_36 : decode b_Md_tell 36 = .ok (.aload_n 0, 1) := by decide +kernel
theorem d_Md_tell_37 : decode b_Md_tell 37 = .ok (.getfield 47, 3) := by decide +kernel
theorem d_Md_tell_40 : decode b_Md_tell 40 = .ok (.iload_n 2, 1) := by decide +kernel
theorem d_Md_tell_41 : decode b_Md_tell 41 = .ok (.iload_n 3, 1) := by decide +kernel
theorem d_Md_tell_42 : decode b_Md_tell 42 = .ok (.iastore, 1) := by decide +kernel
theorem d_Md_tell_43 : decode b_Md_tell 43 = .ok (.goto 175, 3) := by decide +kernel
theorem d_Md_tell_46 : decode b_Md_tell 46 = .ok (.iload_n 1, 1) := by decide +kernel
theorem d_Md_tell_47 : decode b_Md_tell 47 = .ok (.iconst 2, 1) := by decide +kernel
theorem d_Md_tell_48 : decode b_Md_tell 48 = .ok (.if_icmp .ne 13, 3) := by decide +kernel
theorem d_Md_tell_51 : decode b_Md_tell 51 = .ok (.aload_n 0, 1) := by decide +kernel
theorem d_Md_tell_52 : decode b_Md_tell 52 = .ok (.getfield 50, 3) := by decide +kernel
theorem d_Md_tell_55 : decode b_Md_tell 55 = .ok (.iload_n 2, 1) := by decide +kernel
theorem d_Md_tell_56 : decode b_Md_tell 56 = .ok (.iload_n 3, 1) := by decide +kernel
theorem d_Md_tell_57 : decode b_Md_tell 57 = .ok (.iastore, 1) := by decide +kernel
theorem d_Md_tell_58 : decode b_Md_tell 58 = .ok (.goto 160, 3) := by decide +kernel
theorem d_Md_tell_61 : decode b_Md_tell 61 = .ok (.iload_n 1, 1) := by decide +kernel
theorem d_Md_tell_62 : decode b_Md_tell 62 = .ok (.iconst 3, 1) := by decide +kernel
theorem d_Md_tell_63 : decode b_Md_tell 63 = .ok (.if_icmp .ne 11, 3) := by decide +kernel
theorem d_Md_tell_66 : decode b_Md_tell 66 = .ok (.aload_n 0, 1) := by decide +kernel
theorem d_Md_tell_67 : decode b_Md_tell 67 = .ok (.iload_n 2, 1) := by decide +kernel
theorem d_Md_tell_68 : decode b_Md_tell 68 = .ok (.putfield 134, 3) := by decide +kernel
theorem d_Md_tell_71 : decode b_Md_tell 71 = .ok (.goto 147, 3) := by decide +kernel
theorem d_Md_tell_74 : decode b_Md_tell 74 = .ok (.iload_n 1, 1) := by decide +kernel
theorem d_Md_tell_75 : decode b_Md_tell 75 = .ok (.iconst 4, 1) := by decide +kernel
theorem d_Md_tell_76 : decode b_Md_tell 76 = .ok (.if_icmp .ne 66, 3) := by decide +kernel
theorem d_Md_tell_79 : decode b_Md_tell 79 = .ok (.aload_n 0, 1) := by decide +kernel
theorem d_Md_tell_80 : decode b_Md_tell 80 = .ok (.iload_n 2, 1) := by decide +kernel
theorem d_Md_tell_81 : decode b_Md_tell 81 = .ok (.iload_n 3, 1) := by decide +kernel
theorem d_Md_tell_82 : decode b_Md_tell 82 = .ok (.invokevirtual 175, 3) := by decide +kernel
theorem d_Md_tell_85 : decode b_Md_tell 85 = .ok (.istore 5, 2) := by decide +kernel
theorem d_Md_tell_87 : decode b_Md_tell 87 = .ok (.aload_n 0, 1) := by decide +kernel
theorem d_Md_tell_88 : decode b_Md_tell 88 = .ok (.getfield 59, 3) := by decide +kernel
theorem d_Md_tell_91 : decode b_Md_tell 91 = .ok (.bipush 6, 2) := by decide +kernel
theorem d_Md_tell_93 : decode b_Md_tell 93 = .ok (.iload_n 2, 1) := by decide +kernel
theorem d_Md_tell_94 : decode b_Md_tell 94 = .ok (.imul, 1) := by decide +kernel
theorem d_Md_tell_95 : decode b_Md_tell 95 = .ok (.iload 5, 2) := by decide +kernel
theorem d_Md_tell_97 : decode b_Md_tell 97 = .ok (.iadd, 1) := by decide +kernel
theorem d_Md_tell_98 : decode b_Md_tell 98 = .ok (.iload_n 3, 1) := by decide +kernel
theorem d_Md_tell_99 : decode b_Md_tell 99 = .ok (.iastore, 1) := by decide +kernel
theorem d_Md_tell_100 : decode b_Md_tell 100 = .ok (.aload_n 0, 1) := by decide +kernel
theorem d_Md_tell_101 : decode b_Md_tell 101 = .ok (.getfield 62, 3) := by decide +kernel
theorem d_Md_tell_104 : decode b_Md_tell 104 = .ok (.bipush 6, 2) := by decide +kernel
theorem d_Md_tell_106 : decode b_Md_tell 106 = .ok (.iload_n 2, 1) := by decide +kernel
theorem d_Md_tell_107 : decode b_Md_tell 107 = .ok (.imul, 1) := by decide +kernel
theorem d_Md_tell_108 : decode b_Md_tell 108 = .ok (.iload 5, 2) := by decide +kernel
theorem d_Md_tell_110 : decode b_Md_tell 110 = .ok (.iadd, 1) := by decide +kernel
theorem d_Md_tell_111 : decode b_Md_tell 111 = .ok (.iload 4, 2) := by decide +kernel
theorem d_Md_tell_113 : decode b_Md_tell 113 = .ok (.iastore, 1) := by decide +kernel
theorem d_Md_tell_114 : decode b_Md_tell 114 = .ok (.aload_n 0, 1) := by decide +kernel
theorem d_Md_tell_115 : decode b_Md_tell 115 = .ok (.getfield 56, 3) := by decide +kernel
theorem d_Md_tell_118 : decode b_Md_tell 118 = .ok (.iload_n 2, 1) := by decide +kernel
theorem d_Md_tell_119 : decode b_Md_tell 119 = .ok (.dup2, 1) := by decide +kernel
theorem d_Md_tell_120 : decode b_Md_tell 120 = .ok (.iaload, 1) := by decide +kernel
theorem d_Md_tell_121 : decode b_Md_tell 121 = .ok (.iload 5, 2) := by decide +kernel
theorem d_Md_tell_123 : decode b_Md_tell 123 = .ok (.aload_n 0, 1) := by decide +kernel
theorem d_Md_tell_124 : decode b_Md_tell 124 = .ok (.getfield 56, 3) := by decide +kernel
theorem d_Md_tell_127 : decode b_Md_tell 127 = .ok (.iload_n 2, 1) := by decide +kernel
theorem d_Md_tell_128 : decode b_Md_tell 128 = .ok (.iaload, 1) := by decide +kernel
theorem d_Md_tell_129 : decode b_Md_tell 129 = .ok (.if_icmp .ne 7, 3) := by decide +kernel
theorem d_Md_tell_132 : decode b_Md_tell 132 = .ok (.iconst 1, 1) := by decide +kernel
theorem d_Md_tell_133 : decode b_Md_tell 133 = .ok (.goto 4, 3) := by decide +kernel
theorem d_Md_tell_136 : decode b_Md_tell 136 = .ok (.iconst 0, 1) := by decide +kernel
theorem d_Md_tell_137 : decode b_Md_tell 137 = .ok (.iadd, 1) := by decide +kernel
theorem d_Md_tell_138 : decode b_Md_tell 138 = .ok (.iastore, 1) := by decide +kernel
theorem d_Md_tell_139 : decode b_Md_tell 139 = .ok (.goto 79, 3) := by decide +kernel
theorem d_Md_tell_142 : decode b_Md_tell 142 = .ok (.iload_n 1, 1) := by decide +kernel
theorem d_Md_tell_143 : decode b_Md_tell 143 = .ok (.iconst 5, 1) := by decide +kernel
theorem d_Md_tell_144 : decode b_Md_tell 144 = .ok (.if_icmp .ne 13, 3) := by decide +kernel
theorem d_Md_tell_147 : decode b_Md_tell 147 = .ok (.aload_n 0, 1) := by decide +kernel
theorem d_Md_tell_148 : decode b_Md_tell 148 = .ok (.getfield 53, 3) := by decide +kernel
theorem d_Md_tell_151 : decode b_Md_tell 151 = .ok (.iload_n 2, 1) := by decide +kernel
theorem d_Md_tell_152 : decode b_Md_tell 152 = .ok (.iload_n 3, 1) := by decide +kernel
theorem d_Md_tell_153 : decode b_Md_tell 153 = .ok (.iastore, 1) := by decide +kernel
theorem d_Md_tell_154 : decode b_Md_tell 154 = .ok (.goto 64, 3) := by decide +kernel
theorem d_Md_tell_157 : decode b_Md_tell 157 = .ok (.iload_n 1, 1) := by decide +kernel
theorem d_Md_tell_158 : decode b_Md_tell 158 = .ok (.bipush 6, 2) := by decide +kernel
theorem d_Md_tell_160 : decode b_Md_tell 160 = .ok (.if_icmp .ne 33, 3) := by decide +kernel
theorem d_Md_tell_163 : decode b_Md_tell 163 = .ok (.aload_n 0, 1) := by decide +kernel
theorem d_Md_tell_164 : decode b_Md_tell 164 = .ok (.getfield 68, 3) := by decide +kernel
theorem d_Md_tell_167 : decode b_Md_tell 167 = .ok (.bipush 8, 2) := by decide +kernel
theorem d_Md_tell_169 : decode b_Md_tell 169 = .ok (.iload_n 2, 1) := by decide +kernel
theorem d_Md_tell_170 : decode b_Md_tell 170 = .ok (.imul, 1) := by decide +kernel
theorem d_Md_tell_171 : decode b_Md_tell 171 = .ok (.aload_n 0, 1) := by decide +kernel
theorem d_Md_tell_172 : decode b_Md_tell 172 = .ok (.getfield 65, 3) := by decide +kernel
theorem d_Md_tell_175 : decode b_Md_tell 175 = .ok (.iload_n 2, 1) := by decide +kernel
theorem d_Md_tell_176 : decode b_Md_tell 176 = .ok (.iaload, 1) := by decide +kernel
theorem d_Md_tell_177 : decode b_Md_tell 177 = .ok (.iadd, 1) := by decide +kernel
theorem d_Md_tell_178 : decode b_Md_tell 178 = .ok (.iload_n 3, 1) := by decide +kernel
theorem d_Md_tell_179 : decode b_Md_tell 179 = .ok (.iastore, 1) := by decide +kernel
theorem d_Md_tell_180 : decode b_Md_tell 180 = .ok (.aload_n 0, 1) := by decide +kernel
theorem d_Md_tell_181 : decode b_Md_tell 181 = .ok (.getfield 65, 3) := by decide +kernel
theorem d_Md_tell_184 : decode b_Md_tell 184 = .ok (.iload_n 2, 1) := by decide +kernel
theorem d_Md_tell_185 : decode b_Md_tell 185 = .ok (.dup2, 1) := by decide +kernel
theorem d_Md_tell_186 : decode b_Md_tell 186 = .ok (.iaload, 1) := by decide +kernel
theorem d_Md_tell_187 : decode b_Md_tell 187 = .ok (.iconst 1, 1) := by decide +kernel
theorem d_Md_tell_188 : decode b_Md_tell 188 = .ok (.iadd, 1) := by decide +kernel
theorem d_Md_tell_189 : decode b_Md_tell 189 = .ok (.iastore, 1) := by decide +kernel
theorem d_Md_tell_190 : decode b_Md_tell 190 = .ok (.goto 28, 3) := by decide +kernel
theorem d_Md_tell_193 : decode b_Md_tell 193 = .ok (.aload_n 0, 1) := by decide +kernel
theorem d_Md_tell_194 : decode b_Md_tell 194 = .ok (.getfield 71, 3) := by decide +kernel
theorem d_Md_tell_197 : decode b_Md_tell 197 = .ok (.iconst 4, 1) := by decide +kernel
theorem d_Md_tell_198 : decode b_Md_tell 198 = .ok (.iload_n 2, 1) := by decide +kernel
theorem d_Md_tell_199 : decode b_Md_tell 199 = .ok (.imul, 1) := by decide +kernel
theorem d_Md_tell_200 : decode b_Md_tell 200 = .ok (.iload_n 3, 1) := by decide +kernel
theorem d_Md_tell_201 : decode b_Md_tell 201 = .ok (.iadd, 1) := by decide +kernel
theorem d_Md_tell_202 : decode b_Md_tell 202 = .ok (.iload_n 1, 1) := by decide +kernel
theorem d_Md_tell_203 : decode b_Md_tell 203 = .ok (.bipush 7, 2) := by decide +kernel
theorem d_Md_tell_205 : decode b_Md_tell 205 = .ok (.if_icmp .ne 8, 3) := by decide +kernel
theorem d_Md_tell_208 : decode b_Md_tell 208 = .ok (.iload 4, 2) := by decide +kernel
theorem d_Md_tell_210 : decode b_Md_tell 210 = .ok (.goto 7, 3) := by decide +kernel
theorem d_Md_tell_213 : decode b_Md_tell 213 = .ok (.iconst (-1), 1) := by decide +kernel
theorem d_Md_tell_214 : decode b_Md_tell 214 = .ok (.iload 4, 2) := by decide +kernel
theorem d_Md_tell_216 : decode b_Md_tell 216 = .ok (.isub, 1) := by decide +kernel
theorem d_Md_tell_217 : decode b_Md_tell 217 = .ok (.iastore, 1) := by decide +kernel
theorem d_Md_tell_218 : decode b_Md_tell 218 = .ok (.return_, 1) := by decide +kernel
set_option maxHeartbeats 4000000 in
set_option maxRecDepth 100000 in
theorem c_Md_numberAt (l : Launch) (D : va_G) (cI : CiT) (z : GzT) (m : Nat → Nat) (tx : (Nat → Nat)) (sz : Nat) (ap : (Nat → Bool)) (pt : (Nat → Nat)) (rk : (Nat → Nat)) (cd : (Nat → Nat)) (fr : Nat) (mc : (Nat → Nat)) (mg : (Nat → Nat)) (mz : (Nat → Nat)) (nc : (Nat → Nat)) (nt : (Nat → Nat)) (ld : (Nat → Nat)) (qap : (Nat → Bool)) (qpt : (Nat → Nat)) (qrk : (Nat → Nat)) (qcd : (Nat → Nat)) (qfr : Nat) (qmc : (Nat → Nat)) (qmg : (Nat → Nat)) (qmz : (Nat → Nat)) (qnc : (Nat → Nat)) (qnt : (Nat → Nat)) (qld : (Nat → Nat)) (nb : Nat) (cl : (Nat → Nat)) (gr : (Nat → Nat)) (sp : (Nat → Nat)) (ot : (Nat → Bool)) (na : Nat) (aw : (Nat → Nat)) (nx : Nat) (bg : (Nat → Nat)) (bb : (Nat → Nat)) (ab : (Nat → Nat)) (fd : Bool) (pv : Bool) (bx : (Nat → Nat)) (wy : (Nat → Nat)) (li : (Nat → Nat)) (fm : Nat) (en : Nat) (nu : Nat) (td : (Nat → Nat)) (lf : Int32) (lk : Int32) (hfe : fm ≤ en ∧ en ≤ 1500) (htx : ∀ i, tx i < 256) : wk_C l D (tyK cI) (gX z) y_Md_numberAt b_Md_numberAt 3 (some .int) 0 0 0 0 [.ref (m 0)] (wMd m cI tx sz ap pt rk cd fr mc mg mz nc nt ld qap qpt qrk qcd qfr qmc qmg qmz qnc qnt qld nb cl gr sp ot na aw nx bg bb ab fd pv bx wy li fm en nu td lf lk) wk_i (fun (r : Int32) (_ : Unit) => r = (zI (nuN tx fm en))) (fun _ => (wMd m cI tx sz ap pt rk cd fr mc mg mz nc nt ld qap qpt qrk qcd qfr qmc qmg qmz qnc qnt qld nb cl gr sp ot na aw nx bg bb ab fd pv bx wy li fm en nu td lf lk)) := by
  refine wk_methI (own := R_Md) [(0, .ref (m 0))] (by decide) rfl (Nat.le_of_ble_eq_true rfl) rfl (gX_ok z) (fun p_ e_ R_ s_ m_ ar_ be_ me_ co_ Q_ A_ hR_ S_ hnm_ hQ_ => ?_)
  refine wk_aload_n (pc := 0) S_ 0 d_Md_numberAt_0 rfl rfl ?_
  refine wk_get (pc := 1) (v := .int (nI (en))) S_ 6 41 0 in_Md rfl (by decide) rfl fl_Md_140 d_Md_numberAt_1 rfl rfl ?_
  refine wk_aload_n (pc := 4) S_ 0 d_Md_numberAt_4 rfl rfl ?_
  refine wk_get (pc := 5) (v := .int (nI (fm))) S_ 6 40 0 in_Md rfl (by decide) rfl fl_Md_143 d_Md_numberAt_5 rfl rfl ?_
  refine wk_isubN (pc := 8) S_ d_Md_numberAt_8 (by omega) ?_
  refine wk_iconst (pc := 9) (v := (nI (1))) S_ d_Md_numberAt_9 (by decide) ?_
  refine wk_icmp_ltN (pc := 10) (tgt := 31) S_ d_Md_numberAt_10 (by decide) (by omega) (by omega) (fun h10 => ?_) (fun h10 => ?_)
  · -- taken
    refine wk_iconst (pc := 31) (v := (-1)) S_ d_Md_numberAt_31 (by decide) ?_
    refine wk_top (y := (zI (0))) zI_0.symm ?_
    refine wk_istore_n (pc := 32) (lv' := [(1, .int (zI (0))), (0, .ref (m 0))]) S_ d_Md_numberAt_32 rfl (by decide) rfl ?_
    refine wk_aload_n (pc := 33) S_ 1 d_Md_numberAt_33 rfl rfl ?_
    refine wk_get (pc := 34) (v := .int (nI (fm))) S_ 6 40 0 in_Md rfl (by decide) rfl fl_Md_143 d_Md_numberAt_34 rfl rfl ?_
    refine wk_istore_n (pc := 37) (lv' := [(2, .int (nI (fm))), (1, .int (zI (0))), (0, .ref (m 0))]) S_ d_Md_numberAt_37 rfl (by decide) rfl ?_
    have hL38 : ∀ (fuel38 : Nat), ∀ (q : Nat) (k : Nat) (v : Nat), q < fuel38 → (k + q = en) → (v = 0 ∨ (q ≤ 6 ∧ v ≤ 10 ^ (6 - q))) → (nuS tx q k v = nuN tx fm en) → wk_G p_ l e_ R_ s_ m_ ar_ be_ me_ co_ Q_ D A_ 3 0 0 (wMd m cI tx sz ap pt rk cd fr mc mg mz nc nt ld qap qpt qrk qcd qfr qmc qmg qmz qnc qnt qld nb cl gr sp ot na aw nx bg bb ab fd pv bx wy li fm en nu td lf lk) 38 [(0, .ref (m 0)), (1, .int (zI (v))), (2, .int (nI (k)))] [] := by
      intro fuel38
      induction fuel38 with
      | zero => intro q k v hm; exact absurd hm (Nat.not_lt_zero _)
      | succ fuel38 ih38 =>
        intro q k v hm hk hv hE
        refine wk_iload_n (pc := 38) S_ 2 d_Md_numberAt_38 rfl rfl ?_
        refine wk_aload_n (pc := 39) S_ 0 d_Md_numberAt_39 rfl rfl ?_
        refine wk_get (pc := 40) (v := .int (nI (en))) S_ 6 41 0 in_Md rfl (by decide) rfl fl_Md_140 d_Md_numberAt_40 rfl rfl ?_
        refine wk_icmp_geN (pc := 43) (tgt := 97) S_ d_Md_numberAt_43 (by decide) (by omega) (by omega) (fun h43 => ?_) (fun h43 => ?_)
        · -- taken
          refine wk_iload_n (pc := 97) S_ 1 d_Md_numberAt_97 rfl rfl ?_
          exact hQ_ (zI (v)) () d_Md_numberAt_98 rfl (congrArg zI (by rw [← hE, show q = 0 by omega]; rfl))
        · -- on
          refine wk_iload_n (pc := 46) S_ 1 d_Md_numberAt_46 rfl rfl ?_
          have hp6 : 10 ^ (6 - q) ≤ 10 ^ 6 := Nat.pow_le_pow_right (by decide) (by omega)
          refine wk_if_ltY (pc := 47) (tgt := 97) S_ d_Md_numberAt_47 (by decide) (by omega) (fun h47 => ?_) (fun h47 => ?_)
          · -- taken
            refine wk_iload_n (pc := 97) S_ 1 d_Md_numberAt_97 rfl rfl ?_
            exact hQ_ (zI (v)) () d_Md_numberAt_98 rfl (congrArg zI (by rw [← hE, h47, nuS_0]))
          · -- on
            have ht1 := htx k
            refine wk_aload_n (pc := 50) S_ 0 d_Md_numberAt_50 rfl rfl ?_
            refine wk_get (pc := 51) (v := .ref (m 1)) S_ 6 0 0 in_Md rfl (by decide) rfl fl_Md_7 d_Md_numberAt_51 rfl rfl ?_
            refine wk_iload_n (pc := 54) S_ 2 d_Md_numberAt_54 rfl rfl ?_
            refine wk_ialdN (pc := 55) (g := tx) S_ 1 0 d_Md_numberAt_55 rfl rfl (by omega) (by decide) ?_
            refine wk_bipush (pc := 56) (v := (nI (48))) S_ d_Md_numberAt_56 (by decide) ?_
            refine wk_icmp_ltN (pc := 58) (tgt := 89) S_ d_Md_numberAt_58 (by decide) (by omega) (by omega) (fun h58 => ?_) (fun h58 => ?_)
            · -- taken
              refine wk_iconst (pc := 89) (v := (-1)) S_ d_Md_numberAt_89 (by decide) ?_
              refine wk_top (y := (zI (0))) zI_0.symm ?_
              refine wk_istore_n (pc := 90) (lv' := [(1, .int (zI (0))), (0, .ref (m 0)), (2, .int (nI (k)))]) S_ d_Md_numberAt_90 rfl (by decide) rfl ?_
              refine wk_iincN (pc := 91) (d := 1) (lv' := [(2, .int (nI (k + 1))), (1, .int (zI (0))), (0, .ref (m 0))]) S_ 2 d_Md_numberAt_91 (by decide) rfl (by decide) rfl ?_
              refine wk_goto (pc := 94) (tgt := 38) S_ d_Md_numberAt_94 (by decide) ?_
              refine wk_lv [2, 1, 0] ?_ (ih38 (q - 1) (k + 1) (0) (by omega) (by omega) (Or.inl rfl) (by rw [← hE]; obtain ⟨r, rfl⟩ : ∃ r, q = r + 1 := ⟨q - 1, by omega⟩; rw [nuS, if_neg h47, if_neg (by omega)]; exact nuS_0 tx _ _))
              rfl
            · -- on
              refine wk_aload_n (pc := 61) S_ 0 d_Md_numberAt_61 rfl rfl ?_
              refine wk_get (pc := 62) (v := .ref (m 1)) S_ 6 0 0 in_Md rfl (by decide) rfl fl_Md_7 d_Md_numberAt_62 rfl rfl ?_
              refine wk_iload_n (pc := 65) S_ 2 d_Md_numberAt_65 rfl rfl ?_
              refine wk_ialdN (pc := 66) (g := tx) S_ 1 0 d_Md_numberAt_66 rfl rfl (by omega) (by decide) ?_
              refine wk_bipush (pc := 67) (v := (nI (57))) S_ d_Md_numberAt_67 (by decide) ?_
              refine wk_icmp_gtN (pc := 69) (tgt := 89) S_ d_Md_numberAt_69 (by decide) (by omega) (by omega) (fun h69 => ?_) (fun h69 => ?_)
              · -- taken
                refine wk_iconst (pc := 89) (v := (-1)) S_ d_Md_numberAt_89 (by decide) ?_
                refine wk_top (y := (zI (0))) zI_0.symm ?_
                refine wk_istore_n (pc := 90) (lv' := [(1, .int (zI (0))), (0, .ref (m 0)), (2, .int (nI (k)))]) S_ d_Md_numberAt_90 rfl (by decide) rfl ?_
                refine wk_iincN (pc := 91) (d := 1) (lv' := [(2, .int (nI (k + 1))), (1, .int (zI (0))), (0, .ref (m 0))]) S_ 2 d_Md_numberAt_91 (by decide) rfl (by decide) rfl ?_
                refine wk_goto (pc := 94) (tgt := 38) S_ d_Md_numberAt_94 (by decide) ?_
                refine wk_lv [2, 1, 0] ?_ (ih38 (q - 1) (k + 1) (0) (by omega) (by omega) (Or.inl rfl) (by rw [← hE]; obtain ⟨r, rfl⟩ : ∃ r, q = r + 1 := ⟨q - 1, by omega⟩; rw [nuS, if_neg h47, if_neg (by omega)]; exact nuS_0 tx _ _))
                rfl
              · -- on
                refine wk_bipush (pc := 72) (v := (nI (10))) S_ d_Md_numberAt_72 (by decide) ?_
                refine wk_iload_n (pc := 74) S_ 1 d_Md_numberAt_74 rfl rfl ?_
                refine wk_top (y := (nI (v - 1))) (zI_p h47) ?_
                refine wk_imulN (pc := 75) S_ d_Md_numberAt_75 ?_
                refine wk_aload_n (pc := 76) S_ 0 d_Md_numberAt_76 rfl rfl ?_
                refine wk_get (pc := 77) (v := .ref (m 1)) S_ 6 0 0 in_Md rfl (by decide) rfl fl_Md_7 d_Md_numberAt_77 rfl rfl ?_
                refine wk_iload_n (pc := 80) S_ 2 d_Md_numberAt_80 rfl rfl ?_
                refine wk_ialdN (pc := 81) (g := tx) S_ 1 0 d_Md_numberAt_81 rfl rfl (by omega) (by decide) ?_
                refine wk_iaddN (pc := 82) S_ d_Md_numberAt_82 ?_
                refine wk_bipush (pc := 83) (v := (nI (48))) S_ d_Md_numberAt_83 (by decide) ?_
                refine wk_isubN (pc := 85) S_ d_Md_numberAt_85 (by omega) ?_
                refine wk_goto (pc := 86) (tgt := 90) S_ d_Md_numberAt_86 (by decide) ?_
                refine wk_top (y := (zI (10 * (v - 1) + (tx k - 48) + 1))) (by rw [zI_s]; congr 1; omega) ?_
                refine wk_istore_n (pc := 90) (lv' := [(1, .int (zI (10 * (v - 1) + (tx k - 48) + 1))), (0, .ref (m 0)), (2, .int (nI (k)))]) S_ d_Md_numberAt_90 rfl (by decide) rfl ?_
                refine wk_iincN (pc := 91) (d := 1) (lv' := [(2, .int (nI (k + 1))), (1, .int (zI (10 * (v - 1) + (tx k - 48) + 1))), (0, .ref (m 0))]) S_ 2 d_Md_numberAt_91 (by decide) rfl (by decide) rfl ?_
                refine wk_goto (pc := 94) (tgt := 38) S_ d_Md_numberAt_94 (by decide) ?_
                refine wk_lv [2, 1, 0] ?_ (ih38 (q - 1) (k + 1) (10 * (v - 1) + (tx k - 48) + 1) (by omega) (by omega) (by rcases hv with z | ⟨z1, z2⟩; exact absurd z h47; refine Or.inr ⟨by omega, ?_⟩; have e : 10 ^ (6 - (q - 1)) = 10 ^ (6 - q) * 10 := by { rw [← Nat.pow_succ]; congr 1; omega }; rw [e]; omega) (by rw [← hE]; obtain ⟨r, rfl⟩ : ∃ r, q = r + 1 := ⟨q - 1, by omega⟩; rw [nuS, if_neg h47, if_pos ⟨by omega, by omega⟩]; rfl))
                rfl
    refine wk_lv [2, 1, 0] ?_ (hL38 _ (en - fm) (fm) (0) (Nat.lt_succ_self _) (by omega) (Or.inl rfl) (by rw [nuS_0, nuN, if_neg (by omega)]))
    rfl
  · -- on
    refine wk_aload_n (pc := 13) S_ 0 d_Md_numberAt_13 rfl rfl ?_
    refine wk_get (pc := 14) (v := .int (nI (en))) S_ 6 41 0 in_Md rfl (by decide) rfl fl_Md_140 d_Md_numberAt_14 rfl rfl ?_
    refine wk_aload_n (pc := 17) S_ 0 d_Md_numberAt_17 rfl rfl ?_
    refine wk_get (pc := 18) (v := .int (nI (fm))) S_ 6 40 0 in_Md rfl (by decide) rfl fl_Md_143 d_Md_numberAt_18 rfl rfl ?_
    refine wk_isubN (pc := 21) S_ d_Md_numberAt_21 (by omega) ?_
    refine wk_bipush (pc := 22) (v := (nI (6))) S_ d_Md_numberAt_22 (by decide) ?_
    refine wk_icmp_gtN (pc := 24) (tgt := 31) S_ d_Md_numberAt_24 (by decide) (by omega) (by omega) (fun h24 => ?_) (fun h24 => ?_)
    · -- taken
      refine wk_iconst (pc := 31) (v := (-1)) S_ d_Md_numberAt_31 (by decide) ?_
      refine wk_top (y := (zI (0))) zI_0.symm ?_
      refine wk_istore_n (pc := 32) (lv' := [(1, .int (zI (0))), (0, .ref (m 0))]) S_ d_Md_numberAt_32 rfl (by decide) rfl ?_
      refine wk_aload_n (pc := 33) S_ 1 d_Md_numberAt_33 rfl rfl ?_
      refine wk_get (pc := 34) (v := .int (nI (fm))) S_ 6 40 0 in_Md rfl (by decide) rfl fl_Md_143 d_Md_numberAt_34 rfl rfl ?_
      refine wk_istore_n (pc := 37) (lv' := [(2, .int (nI (fm))), (1, .int (zI (0))), (0, .ref (m 0))]) S_ d_Md_numberAt_37 rfl (by decide) rfl ?_
      have hL38 : ∀ (fuel38 : Nat), ∀ (q : Nat) (k : Nat) (v : Nat), q < fuel38 → (k + q = en) → (v = 0 ∨ (q ≤ 6 ∧ v ≤ 10 ^ (6 - q))) → (nuS tx q k v = nuN tx fm en) → wk_G p_ l e_ R_ s_ m_ ar_ be_ me_ co_ Q_ D A_ 3 0 0 (wMd m cI tx sz ap pt rk cd fr mc mg mz nc nt ld qap qpt qrk qcd qfr qmc qmg qmz qnc qnt qld nb cl gr sp ot na aw nx bg bb ab fd pv bx wy li fm en nu td lf lk) 38 [(0, .ref (m 0)), (1, .int (zI (v))), (2, .int (nI (k)))] [] := by
        intro fuel38
        induction fuel38 with
        | zero => intro q k v hm; exact absurd hm (Nat.not_lt_zero _)
        | succ fuel38 ih38 =>
          intro q k v hm hk hv hE
          refine wk_iload_n (pc := 38) S_ 2 d_Md_numberAt_38 rfl rfl ?_
          refine wk_aload_n (pc := 39) S_ 0 d_Md_numberAt_39 rfl rfl ?_
          refine wk_get (pc := 40) (v := .int (nI (en))) S_ 6 41 0 in_Md rfl (by decide) rfl fl_Md_140 d_Md_numberAt_40 rfl rfl ?_
          refine wk_icmp_geN (pc := 43) (tgt := 97) S_ d_Md_numberAt_43 (by decide) (by omega) (by omega) (fun h43 => ?_) (fun h43 => ?_)
          · -- taken
            refine wk_iload_n (pc := 97) S_ 1 d_Md_numberAt_97 rfl rfl ?_
            exact hQ_ (zI (v)) () d_Md_numberAt_98 rfl (congrArg zI (by rw [← hE, show q = 0 by omega]; rfl))
          · -- on
            refine wk_iload_n (pc := 46) S_ 1 d_Md_numberAt_46 rfl rfl ?_
            have hp6 : 10 ^ (6 - q) ≤ 10 ^ 6 := Nat.pow_le_pow_right (by decide) (by omega)
            refine wk_if_ltY (pc := 47) (tgt := 97) S_ d_Md_numberAt_47 (by decide) (by omega) (fun h47 => ?_) (fun h47 => ?_)
            · -- taken
              refine wk_iload_n (pc := 97) S_ 1 d_Md_numberAt_97 rfl rfl ?_
              exact hQ_ (zI (v)) () d_Md_numberAt_98 rfl (congrArg zI (by rw [← hE, h47, nuS_0]))
            · -- on
              have ht1 := htx k
              refine wk_aload_n (pc := 50) S_ 0 d_Md_numberAt_50 rfl rfl ?_
              refine wk_get (pc := 51) (v := .ref (m 1)) S_ 6 0 0 in_Md rfl (by decide) rfl fl_Md_7 d_Md_numberAt_51 rfl rfl ?_
              refine wk_iload_n (pc := 54) S_ 2 d_Md_numberAt_54 rfl rfl ?_
              refine wk_ialdN (pc := 55) (g := tx) S_ 1 0 d_Md_numberAt_55 rfl rfl (by omega) (by decide) ?_
              refine wk_bipush (pc := 56) (v := (nI (48))) S_ d_Md_numberAt_56 (by decide) ?_
              refine wk_icmp_ltN (pc := 58) (tgt := 89) S_ d_Md_numberAt_58 (by decide) (by omega) (by omega) (fun h58 => ?_) (fun h58 => ?_)
              · -- taken
                refine wk_iconst (pc := 89) (v := (-1)) S_ d_Md_numberAt_89 (by decide) ?_
                refine wk_top (y := (zI (0))) zI_0.symm ?_
                refine wk_istore_n (pc := 90) (lv' := [(1, .int (zI (0))), (0, .ref (m 0)), (2, .int (nI (k)))]) S_ d_Md_numberAt_90 rfl (by decide) rfl ?_
                refine wk_iincN (pc := 91) (d := 1) (lv' := [(2, .int (nI (k + 1))), (1, .int (zI (0))), (0, .ref (m 0))]) S_ 2 d_Md_numberAt_91 (by decide) rfl (by decide) rfl ?_
                refine wk_goto (pc := 94) (tgt := 38) S_ d_Md_numberAt_94 (by decide) ?_
                refine wk_lv [2, 1, 0] ?_ (ih38 (q - 1) (k + 1) (0) (by omega) (by omega) (Or.inl rfl) (by rw [← hE]; obtain ⟨r, rfl⟩ : ∃ r, q = r + 1 := ⟨q - 1, by omega⟩; rw [nuS, if_neg h47, if_neg (by omega)]; exact nuS_0 tx _ _))
                rfl
              · -- on
                refine wk_aload_n (pc := 61) S_ 0 d_Md_numberAt_61 rfl rfl ?_
                refine wk_get (pc := 62) (v := .ref (m 1)) S_ 6 0 0 in_Md rfl (by decide) rfl fl_Md_7 d_Md_numberAt_62 rfl rfl ?_
                refine wk_iload_n (pc := 65) S_ 2 d_Md_numberAt_65 rfl rfl ?_
                refine wk_ialdN (pc := 66) (g := tx) S_ 1 0 d_Md_numberAt_66 rfl rfl (by omega) (by decide) ?_
                refine wk_bipush (pc := 67) (v := (nI (57))) S_ d_Md_numberAt_67 (by decide) ?_
                refine wk_icmp_gtN (pc := 69) (tgt := 89) S_ d_Md_numberAt_69 (by decide) (by omega) (by omega) (fun h69 => ?_) (fun h69 => ?_)
                · -- taken
                  refine wk_iconst (pc := 89) (v := (-1)) S_ d_Md_numberAt_89 (by decide) ?_
                  refine wk_top (y := (zI (0))) zI_0.symm ?_
                  refine wk_istore_n (pc := 90) (lv' := [(1, .int (zI (0))), (0, .ref (m 0)), (2, .int (nI (k)))]) S_ d_Md_numberAt_90 rfl (by decide) rfl ?_
                  refine wk_iincN (pc := 91) (d := 1) (lv' := [(2, .int (nI (k + 1))), (1, .int (zI (0))), (0, .ref (m 0))]) S_ 2 d_Md_numberAt_91 (by decide) rfl (by decide) rfl ?_
                  refine wk_goto (pc := 94) (tgt := 38) S_ d_Md_numberAt_94 (by decide) ?_
                  refine wk_lv [2, 1, 0] ?_ (ih38 (q - 1) (k + 1) (0) (by omega) (by omega) (Or.inl rfl) (by rw [← hE]; obtain ⟨r, rfl⟩ : ∃ r, q = r + 1 := ⟨q - 1, by omega⟩; rw [nuS, if_neg h47, if_neg (by omega)]; exact nuS_0 tx _ _))
                  rfl
                · -- on
                  refine wk_bipush (pc := 72) (v := (nI (10))) S_ d_Md_numberAt_72 (by decide) ?_
                  refine wk_iload_n (pc := 74) S_ 1 d_Md_numberAt_74 rfl rfl ?_
                  refine wk_top (y := (nI (v - 1))) (zI_p h47) ?_
                  refine wk_imulN (pc := 75) S_ d_Md_numberAt_75 ?_
                  refine wk_aload_n (pc := 76) S_ 0 d_Md_numberAt_76 rfl rfl ?_
                  refine wk_get (pc := 77) (v := .ref (m 1)) S_ 6 0 0 in_Md rfl (by decide) rfl fl_Md_7 d_Md_numberAt_77 rfl rfl ?_
                  refine wk_iload_n (pc := 80) S_ 2 d_Md_numberAt_80 rfl rfl ?_
                  refine wk_ialdN (pc := 81) (g := tx) S_ 1 0 d_Md_numberAt_81 rfl rfl (by omega) (by decide) ?_
                  refine wk_iaddN (pc := 82) S_ d_Md_numberAt_82 ?_
                  refine wk_bipush (pc := 83) (v := (nI (48))) S_ d_Md_numberAt_83 (by decide) ?_
                  refine wk_isubN (pc := 85) S_ d_Md_numberAt_85 (by omega) ?_
                  refine wk_goto (pc := 86) (tgt := 90) S_ d_Md_numberAt_86 (by decide) ?_
                  refine wk_top (y := (zI (10 * (v - 1) + (tx k - 48) + 1))) (by rw [zI_s]; congr 1; omega) ?_
                  refine wk_istore_n (pc := 90) (lv' := [(1, .int (zI (10 * (v - 1) + (tx k - 48) + 1))), (0, .ref (m 0)), (2, .int (nI (k)))]) S_ d_Md_numberAt_90 rfl (by decide) rfl ?_
                  refine wk_iincN (pc := 91) (d := 1) (lv' := [(2, .int (nI (k + 1))), (1, .int (zI (10 * (v - 1) + (tx k - 48) + 1))), (0, .ref (m 0))]) S_ 2 d_Md_numberAt_91 (by decide) rfl (by decide) rfl ?_
                  refine wk_goto (pc := 94) (tgt := 38) S_ d_Md_numberAt_94 (by decide) ?_
                  refine wk_lv [2, 1, 0] ?_ (ih38 (q - 1) (k + 1) (10 * (v - 1) + (tx k - 48) + 1) (by omega) (by omega) (by rcases hv with z | ⟨z1, z2⟩; exact absurd z h47; refine Or.inr ⟨by omega, ?_⟩; have e : 10 ^ (6 - (q - 1)) = 10 ^ (6 - q) * 10 := by { rw [← Nat.pow_succ]; congr 1; omega }; rw [e]; omega) (by rw [← hE]; obtain ⟨r, rfl⟩ : ∃ r, q = r + 1 := ⟨q - 1, by omega⟩; rw [nuS, if_neg h47, if_pos ⟨by omega, by omega⟩]; rfl))
                  rfl
      refine wk_lv [2, 1, 0] ?_ (hL38 _ (en - fm) (fm) (0) (Nat.lt_succ_self _) (by omega) (Or.inl rfl) (by rw [nuS_0, nuN, if_neg (by omega)]))
      rfl
    · -- on
      refine wk_iconst (pc := 27) (v := (nI (0))) S_ d_Md_numberAt_27 (by decide) ?_
      refine wk_goto (pc := 28) (tgt := 32) S_ d_Md_numberAt_28 (by decide) ?_
      refine wk_top (y := (zI (1))) (zI_s 0).symm ?_
      refine wk_istore_n (pc := 32) (lv' := [(1, .int (zI (1))), (0, .ref (m 0))]) S_ d_Md_numberAt_32 rfl (by decide) rfl ?_
      refine wk_aload_n (pc := 33) S_ 1 d_Md_numberAt_33 rfl rfl ?_
      refine wk_get (pc := 34) (v := .int (nI (fm))) S_ 6 40 0 in_Md rfl (by decide) rfl fl_Md_143 d_Md_numberAt_34 rfl rfl ?_
      refine wk_istore_n (pc := 37) (lv' := [(2, .int (nI (fm))), (1, .int (zI (1))), (0, .ref (m 0))]) S_ d_Md_numberAt_37 rfl (by decide) rfl ?_
      have hL38 : ∀ (fuel38 : Nat), ∀ (q : Nat) (k : Nat) (v : Nat), q < fuel38 → (k + q = en) → (v = 0 ∨ (q ≤ 6 ∧ v ≤ 10 ^ (6 - q))) → (nuS tx q k v = nuN tx fm en) → wk_G p_ l e_ R_ s_ m_ ar_ be_ me_ co_ Q_ D A_ 3 0 0 (wMd m cI tx sz ap pt rk cd fr mc mg mz nc nt ld qap qpt qrk qcd qfr qmc qmg qmz qnc qnt qld nb cl gr sp ot na aw nx bg bb ab fd pv bx wy li fm en nu td lf lk) 38 [(0, .ref (m 0)), (1, .int (zI (v))), (2, .int (nI (k)))] [] := by
        intro fuel38
        induction fuel38 with
        | zero => intro q k v hm; exact absurd hm (Nat.not_lt_zero _)
        | succ fuel38 ih38 =>
          intro q k v hm hk hv hE
          refine wk_iload_n (pc := 38) S_ 2 d_Md_numberAt_38 rfl rfl ?_
          refine wk_aload_n (pc := 39) S_ 0 d_Md_numberAt_39 rfl rfl ?_
          refine wk_get (pc := 40) (v := .int (nI (en))) S_ 6 41 0 in_Md rfl (by decide) rfl fl_Md_140 d_Md_numberAt_40 rfl rfl ?_
          refine wk_icmp_geN (pc := 43) (tgt := 97) S_ d_Md_numberAt_43 (by decide) (by omega) (by omega) (fun h43 => ?_) (fun h43 => ?_)
          · -- taken
            refine wk_iload_n (pc := 97) S_ 1 d_Md_numberAt_97 rfl rfl ?_
            exact hQ_ (zI (v)) () d_Md_numberAt_98 rfl (congrArg zI (by rw [← hE, show q = 0 by omega]; rfl))
          · -- on
            refine wk_iload_n (pc := 46) S_ 1 d_Md_numberAt_46 rfl rfl ?_
            have hp6 : 10 ^ (6 - q) ≤ 10 ^ 6 := Nat.pow_le_pow_right (by decide) (by omega)
            refine wk_if_ltY (pc := 47) (tgt := 97) S_ d_Md_numberAt_47 (by decide) (by omega) (fun h47 => ?_) (fun h47 => ?_)
            · -- taken
              refine wk_iload_n (pc := 97) S_ 1 d_Md_numberAt_97 rfl rfl ?_
              exact hQ_ (zI (v)) () d_Md_numberAt_98 rfl (congrArg zI (by rw [← hE, h47, nuS_0]))
            · -- on
              have ht1 := htx k
              refine wk_aload_n (pc := 50) S_ 0 d_Md_numberAt_50 rfl rfl ?_
              refine wk_get (pc := 51) (v := .ref (m 1)) S_ 6 0 0 in_Md rfl (by decide) rfl fl_Md_7 d_Md_numberAt_51 rfl rfl ?_
              refine wk_iload_n (pc := 54) S_ 2 d_Md_numberAt_54 rfl rfl ?_
              refine wk_ialdN (pc := 55) (g := tx) S_ 1 0 d_Md_numberAt_55 rfl rfl (by omega) (by decide) ?_
              refine wk_bipush (pc := 56) (v := (nI (48))) S_ d_Md_numberAt_56 (by decide) ?_
              refine wk_icmp_ltN (pc := 58) (tgt := 89) S_ d_Md_numberAt_58 (by decide) (by omega) (by omega) (fun h58 => ?_) (fun h58 => ?_)
              · -- taken
                refine wk_iconst (pc := 89) (v := (-1)) S_ d_Md_numberAt_89 (by decide) ?_
                refine wk_top (y := (zI (0))) zI_0.symm ?_
                refine wk_istore_n (pc := 90) (lv' := [(1, .int (zI (0))), (0, .ref (m 0)), (2, .int (nI (k)))]) S_ d_Md_numberAt_90 rfl (by decide) rfl ?_
                refine wk_iincN (pc := 91) (d := 1) (lv' := [(2, .int (nI (k + 1))), (1, .int (zI (0))), (0, .ref (m 0))]) S_ 2 d_Md_numberAt_91 (by decide) rfl (by decide) rfl ?_
                refine wk_goto (pc := 94) (tgt := 38) S_ d_Md_numberAt_94 (by decide) ?_
                refine wk_lv [2, 1, 0] ?_ (ih38 (q - 1) (k + 1) (0) (by omega) (by omega) (Or.inl rfl) (by rw [← hE]; obtain ⟨r, rfl⟩ : ∃ r, q = r + 1 := ⟨q - 1, by omega⟩; rw [nuS, if_neg h47, if_neg (by omega)]; exact nuS_0 tx _ _))
                rfl
              · -- on
                refine wk_aload_n (pc := 61) S_ 0 d_Md_numberAt_61 rfl rfl ?_
                refine wk_get (pc := 62) (v := .ref (m 1)) S_ 6 0 0 in_Md rfl (by decide) rfl fl_Md_7 d_Md_numberAt_62 rfl rfl ?_
                refine wk_iload_n (pc := 65) S_ 2 d_Md_numberAt_65 rfl rfl ?_
                refine wk_ialdN (pc := 66) (g := tx) S_ 1 0 d_Md_numberAt_66 rfl rfl (by omega) (by decide) ?_
                refine wk_bipush (pc := 67) (v := (nI (57))) S_ d_Md_numberAt_67 (by decide) ?_
                refine wk_icmp_gtN (pc := 69) (tgt := 89) S_ d_Md_numberAt_69 (by decide) (by omega) (by omega) (fun h69 => ?_) (fun h69 => ?_)
                · -- taken
                  refine wk_iconst (pc := 89) (v := (-1)) S_ d_Md_numberAt_89 (by decide) ?_
                  refine wk_top (y := (zI (0))) zI_0.symm ?_
                  refine wk_istore_n (pc := 90) (lv' := [(1, .int (zI (0))), (0, .ref (m 0)), (2, .int (nI (k)))]) S_ d_Md_numberAt_90 rfl (by decide) rfl ?_
                  refine wk_iincN (pc := 91) (d := 1) (lv' := [(2, .int (nI (k + 1))), (1, .int (zI (0))), (0, .ref (m 0))]) S_ 2 d_Md_numberAt_91 (by decide) rfl (by decide) rfl ?_
                  refine wk_goto (pc := 94) (tgt := 38) S_ d_Md_numberAt_94 (by decide) ?_
                  refine wk_lv [2, 1, 0] ?_ (ih38 (q - 1) (k + 1) (0) (by omega) (by omega) (Or.inl rfl) (by rw [← hE]; obtain ⟨r, rfl⟩ : ∃ r, q = r + 1 := ⟨q - 1, by omega⟩; rw [nuS, if_neg h47, if_neg (by omega)]; exact nuS_0 tx _ _))
                  rfl
                · -- on
                  refine wk_bipush (pc := 72) (v := (nI (10))) S_ d_Md_numberAt_72 (by decide) ?_
                  refine wk_iload_n (pc := 74) S_ 1 d_Md_numberAt_74 rfl rfl ?_
                  refine wk_top (y := (nI (v - 1))) (zI_p h47) ?_
                  refine wk_imulN (pc := 75) S_ d_Md_numberAt_75 ?_
                  refine wk_aload_n (pc := 76) S_ 0 d_Md_numberAt_76 rfl rfl ?_
                  refine wk_get (pc := 77) (v := .ref (m 1)) S_ 6 0 0 in_Md rfl (by decide) rfl fl_Md_7 d_Md_numberAt_77 rfl rfl ?_
                  refine wk_iload_n (pc := 80) S_ 2 d_Md_numberAt_80 rfl rfl ?_
                  refine wk_ialdN (pc := 81) (g := tx) S_ 1 0 d_Md_numberAt_81 rfl rfl (by omega) (by decide) ?_
                  refine wk_iaddN (pc := 82) S_ d_Md_numberAt_82 ?_
                  refine wk_bipush (pc := 83) (v := (nI (48))) S_ d_Md_numberAt_83 (by decide) ?_
                  refine wk_isubN (pc := 85) S_ d_Md_numberAt_85 (by omega) ?_
                  refine wk_goto (pc := 86) (tgt := 90) S_ d_Md_numberAt_86 (by decide) ?_
                  refine wk_top (y := (zI (10 * (v - 1) + (tx k - 48) + 1))) (by rw [zI_s]; congr 1; omega) ?_
                  refine wk_istore_n (pc := 90) (lv' := [(1, .int (zI (10 * (v - 1) + (tx k - 48) + 1))), (0, .ref (m 0)), (2, .int (nI (k)))]) S_ d_Md_numberAt_90 rfl (by decide) rfl ?_
                  refine wk_iincN (pc := 91) (d := 1) (lv' := [(2, .int (nI (k + 1))), (1, .int (zI (10 * (v - 1) + (tx k - 48) + 1))), (0, .ref (m 0))]) S_ 2 d_Md_numberAt_91 (by decide) rfl (by decide) rfl ?_
                  refine wk_goto (pc := 94) (tgt := 38) S_ d_Md_numberAt_94 (by decide) ?_
                  refine wk_lv [2, 1, 0] ?_ (ih38 (q - 1) (k + 1) (10 * (v - 1) + (tx k - 48) + 1) (by omega) (by omega) (by rcases hv with z | ⟨z1, z2⟩; exact absurd z h47; refine Or.inr ⟨by omega, ?_⟩; have e : 10 ^ (6 - (q - 1)) = 10 ^ (6 - q) * 10 := by { rw [← Nat.pow_succ]; congr 1; omega }; rw [e]; omega) (by rw [← hE]; obtain ⟨r, rfl⟩ : ∃ r, q = r + 1 := ⟨q - 1, by omega⟩; rw [nuS, if_neg h47, if_pos ⟨by omega, by omega⟩]; rfl))
                  rfl
      refine wk_lv [2, 1, 0] ?_ (hL38 _ (en - fm) (fm) (1) (Nat.lt_succ_self _) (by omega) (Or.inr ⟨by omega, Nat.pow_pos (by decide)⟩) (by rw [nuN, if_pos (by omega)]))
      rfl
set_option maxHeartbeats 4000000 in
set_option maxRecDepth 100000 in
theorem c_Md_sentence (l : Launch) (D : va_G) (cI : CiT) (z : GzT) (m : Nat → Nat) (tx : (Nat → Nat)) (sz : Nat) (ap : (Nat → Bool)) (pt : (Nat → Nat)) (rk : (Nat → Nat)) (cd : (Nat → Nat)) (fr : Nat) (mc : (Nat → Nat)) (mg : (Nat → Nat)) (mz : (Nat → Nat)) (nc : (Nat → Nat)) (nt : (Nat → Nat)) (ld : (Nat → Nat)) (qap : (Nat → Bool)) (qpt : (Nat → Nat)) (qrk : (Nat → Nat)) (qcd : (Nat → Nat)) (qfr : Nat) (qmc : (Nat → Nat)) (qmg : (Nat → Nat)) (qmz : (Nat → Nat)) (qnc : (Nat → Nat)) (qnt : (Nat → Nat)) (qld : (Nat → Nat)) (nb : Nat) (cl : (Nat → Nat)) (gr : (Nat → Nat)) (sp : (Nat → Nat)) (ot : (Nat → Bool)) (na : Nat) (aw : (Nat → Nat)) (nx : Nat) (bg : (Nat → Nat)) (bb : (Nat → Nat)) (ab : (Nat → Nat)) (fd : Bool) (pv : Bool) (bx : (Nat → Nat)) (wy : (Nat → Nat)) (li : (Nat → Nat)) (fm : Nat) (en : Nat) (nu : Nat) (td : (Nat → Nat)) (lf : Int32) (lk : Int32) (hfe : fm ≤ en ∧ en ≤ 1500) (htx : ∀ i, tx i < 256) : wk_C l D (tyK cI) (gX z) y_Md_sentence b_Md_sentence 1 (some .int) 1 26 0 0 [.ref (m 0)] (wMd m cI tx sz ap pt rk cd fr mc mg mz nc nt ld qap qpt qrk qcd qfr qmc qmg qmz qnc qnt qld nb cl gr sp ot na aw nx bg bb ab fd pv bx wy li fm en nu td lf lk) wk_i (fun (r : Int32) (_ : Unit) => r = (zI (kdS tx fm en 9 0))) (fun _ => (wMd m cI tx sz ap pt rk cd fr mc mg mz nc nt ld qap qpt qrk qcd qfr qmc qmg qmz qnc qnt qld nb cl gr sp ot na aw nx bg bb ab fd pv bx wy li fm en nu td lf lk)) := by
  refine wk_methI (own := R_Md) [(0, .ref (m 0))] (by decide) rfl (Nat.le_of_ble_eq_true rfl) rfl (gX_ok z) (fun p_ e_ R_ s_ m_ ar_ be_ me_ co_ Q_ A_ hR_ S_ hnm_ hQ_ => ?_)
  refine wk_aload_n (pc := 0) S_ 0 d_Md_sentence_0 rfl rfl ?_
  refine wk_ldc2 (pc := 1) (v := (lN (418497262196))) S_ kc_Md_152 d_Md_sentence_1 ?_
  refine wk_run (pc := 4) (rest := []) (wr := []) (wN := fun _ => (wMd m cI tx sz ap pt rk cd fr mc mg mz nc nt ld qap qpt qrk qcd qfr qmc qmg qmz qnc qnt qld nb cl gr sp ot na aw nx bg bb ab fd pv bx wy li fm en nu td lf lk)) S_ (wk_rV S_ (c_Md_is l D cI z (m) (tx) (sz) (ap) (pt) (rk) (cd) (fr) (mc) (mg) (mz) (nc) (nt) (ld) (qap) (qpt) (qrk) (qcd) (qfr) (qmc) (qmg) (qmz) (qnc) (qnt) (qld) (nb) (cl) (gr) (sp) (ot) (na) (aw) (nx) (bg) (bb) (ab) (fd) (pv) (bx) (wy) (li) (fm) (en) (nu) (td) (lf) (lk) (ch (kwd 0)) ((kwd 0).length) (kw_lt 0) (by decide) (by decide) htx hfe) mv_Md_154 (wk_rcv S_ 0 6 rfl rfl rfl) rfl rfl (Nat.le_of_ble_eq_true rfl) (by rw [hR_]; decide) (by rw [hR_]; decide) d_Md_sentence_4) [0, 1, 2, 3, 4, 5, 6, 7, 8, 9, 10, 11, 12, 13, 14, 15, 16, 17, 18, 19, 20, 21, 22, 23, 24, 25, 26, 27, 28, 29, 30, 31, 32, 33] [] [0, 1, 2, 3, 4, 5, 6, 7, 8, 9, 10, 11, 12, 13, 14, 15, 16, 17, 18, 19, 20, 21, 22, 23, 24, 25, 26, 27, 28, 29, 30, 31, 32, 33] rfl rfl rfl (by decide) (by decide) (by decide) (by decide) (fun _ => rfl) (fun _ => rfl) (fun r4 _ hw4 => ?_)
  refine wk_st (st' := [.int (r4)]) rfl ?_
  refine wk_top (y := (bI (wIs (tx) (fm) (en) (ch (kwd 0)) ((kwd 0).length)))) hw4 ?_
  refine wk_top (y := (bI (kwI tx fm en 0))) rfl ?_
  refine wk_if_eqB (pc := 7) (tgt := 12) S_ d_Md_sentence_7 (by decide) (fun h7 => ?_) (fun h7 => ?_)
  · -- taken
    refine wk_aload_n (pc := 12) S_ 0 d_Md_sentence_12 rfl rfl ?_
    refine wk_ldc2 (pc := 13) (v := (lN (123623812527219))) S_ kc_Md_158 d_Md_sentence_13 ?_
    refine wk_run (pc := 16) (rest := []) (wr := []) (wN := fun _ => (wMd m cI tx sz ap pt rk cd fr mc mg mz nc nt ld qap qpt qrk qcd qfr qmc qmg qmz qnc qnt qld nb cl gr sp ot na aw nx bg bb ab fd pv bx wy li fm en nu td lf lk)) S_ (wk_rV S_ (c_Md_is l D cI z (m) (tx) (sz) (ap) (pt) (rk) (cd) (fr) (mc) (mg) (mz) (nc) (nt) (ld) (qap) (qpt) (qrk) (qcd) (qfr) (qmc) (qmg) (qmz) (qnc) (qnt) (qld) (nb) (cl) (gr) (sp) (ot) (na) (aw) (nx) (bg) (bb) (ab) (fd) (pv) (bx) (wy) (li) (fm) (en) (nu) (td) (lf) (lk) (ch (kwd 1)) ((kwd 1).length) (kw_lt 1) (by decide) (by decide) htx hfe) mv_Md_154 (wk_rcv S_ 0 6 rfl rfl rfl) rfl rfl (Nat.le_of_ble_eq_true rfl) (by rw [hR_]; decide) (by rw [hR_]; decide) d_Md_sentence_16) [0, 1, 2, 3, 4, 5, 6, 7, 8, 9, 10, 11, 12, 13, 14, 15, 16, 17, 18, 19, 20, 21, 22, 23, 24, 25, 26, 27, 28, 29, 30, 31, 32, 33] [] [0, 1, 2, 3, 4, 5, 6, 7, 8, 9, 10, 11, 12, 13, 14, 15, 16, 17, 18, 19, 20, 21, 22, 23, 24, 25, 26, 27, 28, 29, 30, 31, 32, 33] rfl rfl rfl (by decide) (by decide) (by decide) (by decide) (fun _ => rfl) (fun _ => rfl) (fun r16 _ hw16 => ?_)
    refine wk_st (st' := [.int (r16)]) rfl ?_
    refine wk_top (y := (bI (wIs (tx) (fm) (en) (ch (kwd 1)) ((kwd 1).length)))) hw16 ?_
    refine wk_top (y := (bI (kwI tx fm en 1))) rfl ?_
    refine wk_if_eqB (pc := 19) (tgt := 24) S_ d_Md_sentence_19 (by decide) (fun h19 => ?_) (fun h19 => ?_)
    · -- taken
      refine wk_aload_n (pc := 24) S_ 0 d_Md_sentence_24 rfl rfl ?_
      refine wk_ldc2 (pc := 25) (v := (lN (1918987883))) S_ kc_Md_160 d_Md_sentence_25 ?_
      refine wk_run (pc := 28) (rest := []) (wr := []) (wN := fun _ => (wMd m cI tx sz ap pt rk cd fr mc mg mz nc nt ld qap qpt qrk qcd qfr qmc qmg qmz qnc qnt qld nb cl gr sp ot na aw nx bg bb ab fd pv bx wy li fm en nu td lf lk)) S_ (wk_rV S_ (c_Md_is l D cI z (m) (tx) (sz) (ap) (pt) (rk) (cd) (fr) (mc) (mg) (mz) (nc) (nt) (ld) (qap) (qpt) (qrk) (qcd) (qfr) (qmc) (qmg) (qmz) (qnc) (qnt) (qld) (nb) (cl) (gr) (sp) (ot) (na) (aw) (nx) (bg) (bb) (ab) (fd) (pv) (bx) (wy) (li) (fm) (en) (nu) (td) (lf) (lk) (ch (kwd 2)) ((kwd 2).length) (kw_lt 2) (by decide) (by decide) htx hfe) mv_Md_154 (wk_rcv S_ 0 6 rfl rfl rfl) rfl rfl (Nat.le_of_ble_eq_true rfl) (by rw [hR_]; decide) (by rw [hR_]; decide) d_Md_sentence_28) [0, 1, 2, 3, 4, 5, 6, 7, 8, 9, 10, 11, 12, 13, 14, 15, 16, 17, 18, 19, 20, 21, 22, 23, 24, 25, 26, 27, 28, 29, 30, 31, 32, 33] [] [0, 1, 2, 3, 4, 5, 6, 7, 8, 9, 10, 11, 12, 13, 14, 15, 16, 17, 18, 19, 20, 21, 22, 23, 24, 25, 26, 27, 28, 29, 30, 31, 32, 33] rfl rfl rfl (by decide) (by decide) (by decide) (by decide) (fun _ => rfl) (fun _ => rfl) (fun r28 _ hw28 => ?_)
      refine wk_st (st' := [.int (r28)]) rfl ?_
      refine wk_top (y := (bI (wIs (tx) (fm) (en) (ch (kwd 2)) ((kwd 2).length)))) hw28 ?_
      refine wk_top (y := (bI (kwI tx fm en 2))) rfl ?_
      refine wk_if_eqB (pc := 31) (tgt := 36) S_ d_Md_sentence_31 (by decide) (fun h31 => ?_) (fun h31 => ?_)
      · -- taken
        refine wk_aload_n (pc := 36) S_ 0 d_Md_sentence_36 rfl rfl ?_
        refine wk_ldc2 (pc := 37) (v := (lN (1718773093))) S_ kc_Md_162 d_Md_sentence_37 ?_
        refine wk_run (pc := 40) (rest := []) (wr := []) (wN := fun _ => (wMd m cI tx sz ap pt rk cd fr mc mg mz nc nt ld qap qpt qrk qcd qfr qmc qmg qmz qnc qnt qld nb cl gr sp ot na aw nx bg bb ab fd pv bx wy li fm en nu td lf lk)) S_ (wk_rV S_ (c_Md_is l D cI z (m) (tx) (sz) (ap) (pt) (rk) (cd) (fr) (mc) (mg) (mz) (nc) (nt) (ld) (qap) (qpt) (qrk) (qcd) (qfr) (qmc) (qmg) (qmz) (qnc) (qnt) (qld) (nb) (cl) (gr) (sp) (ot) (na) (aw) (nx) (bg) (bb) (ab) (fd) (pv) (bx) (wy) (li) (fm) (en) (nu) (td) (lf) (lk) (ch (kwd 3)) ((kwd 3).length) (kw_lt 3) (by decide) (by decide) htx hfe) mv_Md_154 (wk_rcv S_ 0 6 rfl rfl rfl) rfl rfl (Nat.le_of_ble_eq_true rfl) (by rw [hR_]; decide) (by rw [hR_]; decide) d_Md_sentence_40) [0, 1, 2, 3, 4, 5, 6, 7, 8, 9, 10, 11, 12, 13, 14, 15, 16, 17, 18, 19, 20, 21, 22, 23, 24, 25, 26, 27, 28, 29, 30, 31, 32, 33] [] [0, 1, 2, 3, 4, 5, 6, 7, 8, 9, 10, 11, 12, 13, 14, 15, 16, 17, 18, 19, 20, 21, 22, 23, 24, 25, 26, 27, 28, 29, 30, 31, 32, 33] rfl rfl rfl (by decide) (by decide) (by decide) (by decide) (fun _ => rfl) (fun _ => rfl) (fun r40 _ hw40 => ?_)
        refine wk_st (st' := [.int (r40)]) rfl ?_
        refine wk_top (y := (bI (wIs (tx) (fm) (en) (ch (kwd 3)) ((kwd 3).length)))) hw40 ?_
        refine wk_top (y := (bI (kwI tx fm en 3))) rfl ?_
        refine wk_if_eqB (pc := 43) (tgt := 48) S_ d_Md_sentence_43 (by decide) (fun h43 => ?_) (fun h43 => ?_)
        · -- taken
          refine wk_aload_n (pc := 48) S_ 0 d_Md_sentence_48 rfl rfl ?_
          refine wk_ldc2 (pc := 49) (v := (lN (1835102827))) S_ kc_Md_164 d_Md_sentence_49 ?_
          refine wk_run (pc := 52) (rest := []) (wr := []) (wN := fun _ => (wMd m cI tx sz ap pt rk cd fr mc mg mz nc nt ld qap qpt qrk qcd qfr qmc qmg qmz qnc qnt qld nb cl gr sp ot na aw nx bg bb ab fd pv bx wy li fm en nu td lf lk)) S_ (wk_rV S_ (c_Md_is l D cI z (m) (tx) (sz) (ap) (pt) (rk) (cd) (fr) (mc) (mg) (mz) (nc) (nt) (ld) (qap) (qpt) (qrk) (qcd) (qfr) (qmc) (qmg) (qmz) (qnc) (qnt) (qld) (nb) (cl) (gr) (sp) (ot) (na) (aw) (nx) (bg) (bb) (ab) (fd) (pv) (bx) (wy) (li) (fm) (en) (nu) (td) (lf) (lk) (ch (kwd 4)) ((kwd 4).length) (kw_lt 4) (by decide) (by decide) htx hfe) mv_Md_154 (wk_rcv S_ 0 6 rfl rfl rfl) rfl rfl (Nat.le_of_ble_eq_true rfl) (by rw [hR_]; decide) (by rw [hR_]; decide) d_Md_sentence_52) [0, 1, 2, 3, 4, 5, 6, 7, 8, 9, 10, 11, 12, 13, 14, 15, 16, 17, 18, 19, 20, 21, 22, 23, 24, 25, 26, 27, 28, 29, 30, 31, 32, 33] [] [0, 1, 2, 3, 4, 5, 6, 7, 8, 9, 10, 11, 12, 13, 14, 15, 16, 17, 18, 19, 20, 21, 22, 23, 24, 25, 26, 27, 28, 29, 30, 31, 32, 33] rfl rfl rfl (by decide) (by decide) (by decide) (by decide) (fun _ => rfl) (fun _ => rfl) (fun r52 _ hw52 => ?_)
          refine wk_st (st' := [.int (r52)]) rfl ?_
          refine wk_top (y := (bI (wIs (tx) (fm) (en) (ch (kwd 4)) ((kwd 4).length)))) hw52 ?_
          refine wk_top (y := (bI (kwI tx fm en 4))) rfl ?_
          refine wk_if_eqB (pc := 55) (tgt := 60) S_ d_Md_sentence_55 (by decide) (fun h55 => ?_) (fun h55 => ?_)
          · -- taken
            refine wk_aload_n (pc := 60) S_ 0 d_Md_sentence_60 rfl rfl ?_
            refine wk_ldc2 (pc := 61) (v := (lN (128047712724332))) S_ kc_Md_166 d_Md_sentence_61 ?_
            refine wk_run (pc := 64) (rest := []) (wr := []) (wN := fun _ => (wMd m cI tx sz ap pt rk cd fr mc mg mz nc nt ld qap qpt qrk qcd qfr qmc qmg qmz qnc qnt qld nb cl gr sp ot na aw nx bg bb ab fd pv bx wy li fm en nu td lf lk)) S_ (wk_rV S_ (c_Md_is l D cI z (m) (tx) (sz) (ap) (pt) (rk) (cd) (fr) (mc) (mg) (mz) (nc) (nt) (ld) (qap) (qpt) (qrk) (qcd) (qfr) (qmc) (qmg) (qmz) (qnc) (qnt) (qld) (nb) (cl) (gr) (sp) (ot) (na) (aw) (nx) (bg) (bb) (ab) (fd) (pv) (bx) (wy) (li) (fm) (en) (nu) (td) (lf) (lk) (ch (kwd 5)) ((kwd 5).length) (kw_lt 5) (by decide) (by decide) htx hfe) mv_Md_154 (wk_rcv S_ 0 6 rfl rfl rfl) rfl rfl (Nat.le_of_ble_eq_true rfl) (by rw [hR_]; decide) (by rw [hR_]; decide) d_Md_sentence_64) [0, 1, 2, 3, 4, 5, 6, 7, 8, 9, 10, 11, 12, 13, 14, 15, 16, 17, 18, 19, 20, 21, 22, 23, 24, 25, 26, 27, 28, 29, 30, 31, 32, 33] [] [0, 1, 2, 3, 4, 5, 6, 7, 8, 9, 10, 11, 12, 13, 14, 15, 16, 17, 18, 19, 20, 21, 22, 23, 24, 25, 26, 27, 28, 29, 30, 31, 32, 33] rfl rfl rfl (by decide) (by decide) (by decide) (by decide) (fun _ => rfl) (fun _ => rfl) (fun r64 _ hw64 => ?_)
            refine wk_st (st' := [.int (r64)]) rfl ?_
            refine wk_top (y := (bI (wIs (tx) (fm) (en) (ch (kwd 5)) ((kwd 5).length)))) hw64 ?_
            refine wk_top (y := (bI (kwI tx fm en 5))) rfl ?_
            refine wk_if_eqB (pc := 67) (tgt := 72) S_ d_Md_sentence_67 (by decide) (fun h67 => ?_) (fun h67 => ?_)
            · -- taken
              refine wk_aload_n (pc := 72) S_ 0 d_Md_sentence_72 rfl rfl ?_
              refine wk_ldc2 (pc := 73) (v := (lN (1852798053))) S_ kc_Md_168 d_Md_sentence_73 ?_
              refine wk_run (pc := 76) (rest := []) (wr := []) (wN := fun _ => (wMd m cI tx sz ap pt rk cd fr mc mg mz nc nt ld qap qpt qrk qcd qfr qmc qmg qmz qnc qnt qld nb cl gr sp ot na aw nx bg bb ab fd pv bx wy li fm en nu td lf lk)) S_ (wk_rV S_ (c_Md_is l D cI z (m) (tx) (sz) (ap) (pt) (rk) (cd) (fr) (mc) (mg) (mz) (nc) (nt) (ld) (qap) (qpt) (qrk) (qcd) (qfr) (qmc) (qmg) (qmz) (qnc) (qnt) (qld) (nb) (cl) (gr) (sp) (ot) (na) (aw) (nx) (bg) (bb) (ab) (fd) (pv) (bx) (wy) (li) (fm) (en) (nu) (td) (lf) (lk) (ch (kwd 6)) ((kwd 6).length) (kw_lt 6) (by decide) (by decide) htx hfe) mv_Md_154 (wk_rcv S_ 0 6 rfl rfl rfl) rfl rfl (Nat.le_of_ble_eq_true rfl) (by rw [hR_]; decide) (by rw [hR_]; decide) d_Md_sentence_76) [0, 1, 2, 3, 4, 5, 6, 7, 8, 9, 10, 11, 12, 13, 14, 15, 16, 17, 18, 19, 20, 21, 22, 23, 24, 25, 26, 27, 28, 29, 30, 31, 32, 33] [] [0, 1, 2, 3, 4, 5, 6, 7, 8, 9, 10, 11, 12, 13, 14, 15, 16, 17, 18, 19, 20, 21, 22, 23, 24, 25, 26, 27, 28, 29, 30, 31, 32, 33] rfl rfl rfl (by decide) (by decide) (by decide) (by decide) (fun _ => rfl) (fun _ => rfl) (fun r76 _ hw76 => ?_)
              refine wk_st (st' := [.int (r76)]) rfl ?_
              refine wk_top (y := (bI (wIs (tx) (fm) (en) (ch (kwd 6)) ((kwd 6).length)))) hw76 ?_
              refine wk_top (y := (bI (kwI tx fm en 6))) rfl ?_
              refine wk_if_eqB (pc := 79) (tgt := 85) S_ d_Md_sentence_79 (by decide) (fun h79 => ?_) (fun h79 => ?_)
              · -- taken
                refine wk_aload_n (pc := 85) S_ 0 d_Md_sentence_85 rfl rfl ?_
                refine wk_ldc2 (pc := 86) (v := (lN (1937007984))) S_ kc_Md_170 d_Md_sentence_86 ?_
                refine wk_run (pc := 89) (rest := []) (wr := []) (wN := fun _ => (wMd m cI tx sz ap pt rk cd fr mc mg mz nc nt ld qap qpt qrk qcd qfr qmc qmg qmz qnc qnt qld nb cl gr sp ot na aw nx bg bb ab fd pv bx wy li fm en nu td lf lk)) S_ (wk_rV S_ (c_Md_is l D cI z (m) (tx) (sz) (ap) (pt) (rk) (cd) (fr) (mc) (mg) (mz) (nc) (nt) (ld) (qap) (qpt) (qrk) (qcd) (qfr) (qmc) (qmg) (qmz) (qnc) (qnt) (qld) (nb) (cl) (gr) (sp) (ot) (na) (aw) (nx) (bg) (bb) (ab) (fd) (pv) (bx) (wy) (li) (fm) (en) (nu) (td) (lf) (lk) (ch (kwd 7)) ((kwd 7).length) (kw_lt 7) (by decide) (by decide) htx hfe) mv_Md_154 (wk_rcv S_ 0 6 rfl rfl rfl) rfl rfl (Nat.le_of_ble_eq_true rfl) (by rw [hR_]; decide) (by rw [hR_]; decide) d_Md_sentence_89) [0, 1, 2, 3, 4, 5, 6, 7, 8, 9, 10, 11, 12, 13, 14, 15, 16, 17, 18, 19, 20, 21, 22, 23, 24, 25, 26, 27, 28, 29, 30, 31, 32, 33] [] [0, 1, 2, 3, 4, 5, 6, 7, 8, 9, 10, 11, 12, 13, 14, 15, 16, 17, 18, 19, 20, 21, 22, 23, 24, 25, 26, 27, 28, 29, 30, 31, 32, 33] rfl rfl rfl (by decide) (by decide) (by decide) (by decide) (fun _ => rfl) (fun _ => rfl) (fun r89 _ hw89 => ?_)
                refine wk_st (st' := [.int (r89)]) rfl ?_
                refine wk_top (y := (bI (wIs (tx) (fm) (en) (ch (kwd 7)) ((kwd 7).length)))) hw89 ?_
                refine wk_top (y := (bI (kwI tx fm en 7))) rfl ?_
                refine wk_if_eqB (pc := 92) (tgt := 98) S_ d_Md_sentence_92 (by decide) (fun h92 => ?_) (fun h92 => ?_)
                · -- taken
                  refine wk_aload_n (pc := 98) S_ 0 d_Md_sentence_98 rfl rfl ?_
                  refine wk_ldc2 (pc := 99) (v := (lN (427020088179))) S_ kc_Md_172 d_Md_sentence_99 ?_
                  refine wk_run (pc := 102) (rest := []) (wr := []) (wN := fun _ => (wMd m cI tx sz ap pt rk cd fr mc mg mz nc nt ld qap qpt qrk qcd qfr qmc qmg qmz qnc qnt qld nb cl gr sp ot na aw nx bg bb ab fd pv bx wy li fm en nu td lf lk)) S_ (wk_rV S_ (c_Md_is l D cI z (m) (tx) (sz) (ap) (pt) (rk) (cd) (fr) (mc) (mg) (mz) (nc) (nt) (ld) (qap) (qpt) (qrk) (qcd) (qfr) (qmc) (qmg) (qmz) (qnc) (qnt) (qld) (nb) (cl) (gr) (sp) (ot) (na) (aw) (nx) (bg) (bb) (ab) (fd) (pv) (bx) (wy) (li) (fm) (en) (nu) (td) (lf) (lk) (ch (kwd 8)) ((kwd 8).length) (kw_lt 8) (by decide) (by decide) htx hfe) mv_Md_154 (wk_rcv S_ 0 6 rfl rfl rfl) rfl rfl (Nat.le_of_ble_eq_true rfl) (by rw [hR_]; decide) (by rw [hR_]; decide) d_Md_sentence_102) [0, 1, 2, 3, 4, 5, 6, 7, 8, 9, 10, 11, 12, 13, 14, 15, 16, 17, 18, 19, 20, 21, 22, 23, 24, 25, 26, 27, 28, 29, 30, 31, 32, 33] [] [0, 1, 2, 3, 4, 5, 6, 7, 8, 9, 10, 11, 12, 13, 14, 15, 16, 17, 18, 19, 20, 21, 22, 23, 24, 25, 26, 27, 28, 29, 30, 31, 32, 33] rfl rfl rfl (by decide) (by decide) (by decide) (by decide) (fun _ => rfl) (fun _ => rfl) (fun r102 _ hw102 => ?_)
                  refine wk_st (st' := [.int (r102)]) rfl ?_
                  refine wk_top (y := (bI (wIs (tx) (fm) (en) (ch (kwd 8)) ((kwd 8).length)))) hw102 ?_
                  refine wk_top (y := (bI (kwI tx fm en 8))) rfl ?_
                  refine wk_if_eqB (pc := 105) (tgt := 113) S_ d_Md_sentence_105 (by decide) (fun h105 => ?_) (fun h105 => ?_)
                  · -- taken
                    refine wk_iconst (pc := 113) (v := (-1)) S_ d_Md_sentence_113 (by decide) ?_
                    exact hQ_ (-1) () d_Md_sentence_114 rfl (by rw [show kdS tx fm en 9 0 = 0 from by simp [kdS, h7, h19, h31, h43, h55, h67, h79, h92, h105]]; decide)
                  · -- on
                    refine wk_bipush (pc := 108) (v := (nI (8))) S_ d_Md_sentence_108 (by decide) ?_
                    refine wk_goto (pc := 110) (tgt := 114) S_ d_Md_sentence_110 (by decide) ?_
                    exact hQ_ (nI (8)) () d_Md_sentence_114 rfl (by rw [show kdS tx fm en 9 0 = 9 from by simp [kdS, h7, h19, h31, h43, h55, h67, h79, h92, h105]]; decide)
                · -- on
                  refine wk_bipush (pc := 95) (v := (nI (7))) S_ d_Md_sentence_95 (by decide) ?_
                  exact hQ_ (nI (7)) () d_Md_sentence_97 rfl (by rw [show kdS tx fm en 9 0 = 8 from by simp [kdS, h7, h19, h31, h43, h55, h67, h79, h92]]; decide)
              · -- on
                refine wk_bipush (pc := 82) (v := (nI (6))) S_ d_Md_sentence_82 (by decide) ?_
                exact hQ_ (nI (6)) () d_Md_sentence_84 rfl (by rw [show kdS tx fm en 9 0 = 7 from by simp [kdS, h7, h19, h31, h43, h55, h67, h79]]; decide)
            · -- on
              refine wk_iconst (pc := 70) (v := (nI (5))) S_ d_Md_sentence_70 (by decide) ?_
              exact hQ_ (nI (5)) () d_Md_sentence_71 rfl (by rw [show kdS tx fm en 9 0 = 6 from by simp [kdS, h7, h19, h31, h43, h55, h67]]; decide)
          · -- on
            refine wk_iconst (pc := 58) (v := (nI (4))) S_ d_Md_sentence_58 (by decide) ?_
            exact hQ_ (nI (4)) () d_Md_sentence_59 rfl (by rw [show kdS tx fm en 9 0 = 5 from by simp [kdS, h7, h19, h31, h43, h55]]; decide)
        · -- on
          refine wk_iconst (pc := 46) (v := (nI (3))) S_ d_Md_sentence_46 (by decide) ?_
          exact hQ_ (nI (3)) () d_Md_sentence_47 rfl (by rw [show kdS tx fm en 9 0 = 4 from by simp [kdS, h7, h19, h31, h43]]; decide)
      · -- on
        refine wk_iconst (pc := 34) (v := (nI (2))) S_ d_Md_sentence_34 (by decide) ?_
        exact hQ_ (nI (2)) () d_Md_sentence_35 rfl (by rw [show kdS tx fm en 9 0 = 3 from by simp [kdS, h7, h19, h31]]; decide)
    · -- on
      refine wk_iconst (pc := 22) (v := (nI (1))) S_ d_Md_sentence_22 (by decide) ?_
      exact hQ_ (nI (1)) () d_Md_sentence_23 rfl (by rw [show kdS tx fm en 9 0 = 2 from by simp [kdS, h7, h19]]; decide)
  · -- on
    refine wk_iconst (pc := 10) (v := (nI (0))) S_ d_Md_sentence_10 (by decide) ?_
    exact hQ_ (nI (0)) () d_Md_sentence_11 rfl (by rw [show kdS tx fm en 9 0 = 1 from by simp [kdS, h7]]; decide)
set_option maxHeartbeats 4000000 in
set_option maxRecDepth 100000 in
theorem c_Md_parts (l : Launch) (D : va_G) (cI : CiT) (z : GzT) (x : Nat) (hx : x < 9) : wk_C l D (tyK cI) (gX z) y_Md_parts b_Md_parts 1 (some .int) 0 0 0 0 [.int (nI (x))] [] wk_i (fun (r : Int32) (_ : Unit) => r = (nI (ptsK x))) (fun _ => []) := by
  refine wk_methI (own := R_Md) [(0, .int (nI (x)))] (by decide) rfl (Nat.le_of_ble_eq_true rfl) rfl (gX_ok z) (fun p_ e_ R_ s_ m_ ar_ be_ me_ co_ Q_ A_ hR_ S_ hnm_ hQ_ => ?_)
  refine wk_iload_n (pc := 0) S_ 0 d_Md_parts_0 rfl rfl ?_
  refine wk_iconst (pc := 1) (v := (nI (3))) S_ d_Md_parts_1 (by decide) ?_
  refine wk_icmp_neN (pc := 2) (tgt := 9) S_ d_Md_parts_2 (by decide) (by omega) (by omega) (fun h2 => ?_) (fun h2 => ?_)
  · -- taken
    refine wk_iload_n (pc := 9) S_ 0 d_Md_parts_9 rfl rfl ?_
    refine wk_iconst (pc := 10) (v := (nI (4))) S_ d_Md_parts_10 (by decide) ?_
    refine wk_icmp_eqN (pc := 11) (tgt := 20) S_ d_Md_parts_11 (by decide) (by omega) (by omega) (fun h11 => ?_) (fun h11 => ?_)
    · -- taken
      refine wk_iconst (pc := 20) (v := (nI (3))) S_ d_Md_parts_20 (by decide) ?_
      refine wk_goto (pc := 21) (tgt := 25) S_ d_Md_parts_21 (by decide) ?_
      exact hQ_ (nI (3)) () d_Md_parts_25 rfl (congrArg nI (by unfold ptsK; (repeat' split) <;> omega))
    · -- on
      refine wk_iload_n (pc := 14) S_ 0 d_Md_parts_14 rfl rfl ?_
      refine wk_bipush (pc := 15) (v := (nI (6))) S_ d_Md_parts_15 (by decide) ?_
      refine wk_icmp_leN (pc := 17) (tgt := 24) S_ d_Md_parts_17 (by decide) (by omega) (by omega) (fun h17 => ?_) (fun h17 => ?_)
      · -- taken
        refine wk_iconst (pc := 24) (v := (nI (2))) S_ d_Md_parts_24 (by decide) ?_
        exact hQ_ (nI (2)) () d_Md_parts_25 rfl (congrArg nI (by unfold ptsK; (repeat' split) <;> omega))
      · -- on
        refine wk_iconst (pc := 20) (v := (nI (3))) S_ d_Md_parts_20 (by decide) ?_
        refine wk_goto (pc := 21) (tgt := 25) S_ d_Md_parts_21 (by decide) ?_
        exact hQ_ (nI (3)) () d_Md_parts_25 rfl (congrArg nI (by unfold ptsK; (repeat' split) <;> omega))
  · -- on
    refine wk_iconst (pc := 5) (v := (nI (1))) S_ d_Md_parts_5 (by decide) ?_
    refine wk_goto (pc := 6) (tgt := 25) S_ d_Md_parts_6 (by decide) ?_
    exact hQ_ (nI (1)) () d_Md_parts_25 rfl (congrArg nI (by unfold ptsK; (repeat' split) <;> omega))
set_option maxHeartbeats 4000000 in
set_option maxRecDepth 100000 in
theorem c_Md_least (l : Launch) (D : va_G) (cI : CiT) (z : GzT) (x : Nat) (y : Nat) (hx : x < 9) (hy : y < 3) : wk_C l D (tyK cI) (gX z) y_Md_least b_Md_least 2 (some .int) 0 0 0 0 [.int (nI (x)), .int (nI (y))] [] wk_i (fun (r : Int32) (_ : Unit) => r = (nI (lsK x y))) (fun _ => []) := by
  refine wk_methI (own := R_Md) [(0, .int (nI (x))), (1, .int (nI (y)))] (by decide) rfl (Nat.le_of_ble_eq_true rfl) rfl (gX_ok z) (fun p_ e_ R_ s_ m_ ar_ be_ me_ co_ Q_ A_ hR_ S_ hnm_ hQ_ => ?_)
  refine wk_iload_n (pc := 0) S_ 0 d_Md_least_0 rfl rfl ?_
  refine wk_iconst (pc := 1) (v := (nI (4))) S_ d_Md_least_1 (by decide) ?_
  refine wk_icmp_neN (pc := 2) (tgt := 10) S_ d_Md_least_2 (by decide) (by omega) (by omega) (fun h2 => ?_) (fun h2 => ?_)
  · -- taken
    refine wk_iload_n (pc := 10) S_ 0 d_Md_least_10 rfl rfl ?_
    refine wk_iconst (pc := 11) (v := (nI (5))) S_ d_Md_least_11 (by decide) ?_
    refine wk_icmp_neN (pc := 12) (tgt := 24) S_ d_Md_least_12 (by decide) (by omega) (by omega) (fun h12 => ?_) (fun h12 => ?_)
    · -- taken
      refine wk_iconst (pc := 24) (v := (nI (0))) S_ d_Md_least_24 (by decide) ?_
      exact hQ_ (nI (0)) () d_Md_least_25 rfl (congrArg nI (by unfold lsK; (repeat' split) <;> omega))
    · -- on
      refine wk_iload_n (pc := 15) S_ 1 d_Md_least_15 rfl rfl ?_
      refine wk_iconst (pc := 16) (v := (nI (1))) S_ d_Md_least_16 (by decide) ?_
      refine wk_icmp_neN (pc := 17) (tgt := 24) S_ d_Md_least_17 (by decide) (by omega) (by omega) (fun h17 => ?_) (fun h17 => ?_)
      · -- taken
        refine wk_iconst (pc := 24) (v := (nI (0))) S_ d_Md_least_24 (by decide) ?_
        exact hQ_ (nI (0)) () d_Md_least_25 rfl (congrArg nI (by unfold lsK; (repeat' split) <;> omega))
      · -- on
        refine wk_iconst (pc := 20) (v := (nI (1))) S_ d_Md_least_20 (by decide) ?_
        refine wk_goto (pc := 21) (tgt := 25) S_ d_Md_least_21 (by decide) ?_
        exact hQ_ (nI (1)) () d_Md_least_25 rfl (congrArg nI (by unfold lsK; (repeat' split) <;> omega))
  · -- on
    refine wk_iload_n (pc := 5) S_ 1 d_Md_least_5 rfl rfl ?_
    refine wk_iconst (pc := 6) (v := (nI (2))) S_ d_Md_least_6 (by decide) ?_
    refine wk_icmp_eqN (pc := 7) (tgt := 20) S_ d_Md_least_7 (by decide) (by omega) (by omega) (fun h7 => ?_) (fun h7 => ?_)
    · -- taken
      refine wk_iconst (pc := 20) (v := (nI (1))) S_ d_Md_least_20 (by decide) ?_
      refine wk_goto (pc := 21) (tgt := 25) S_ d_Md_least_21 (by decide) ?_
      exact hQ_ (nI (1)) () d_Md_least_25 rfl (congrArg nI (by unfold lsK; (repeat' split) <;> omega))
    · -- on
      refine wk_iload_n (pc := 10) S_ 0 d_Md_least_10 rfl rfl ?_
      refine wk_iconst (pc := 11) (v := (nI (5))) S_ d_Md_least_11 (by decide) ?_
      refine wk_icmp_neN (pc := 12) (tgt := 24) S_ d_Md_least_12 (by decide) (by omega) (by omega) (fun h12 => ?_) (fun h12 => ?_)
      · -- taken
        refine wk_iconst (pc := 24) (v := (nI (0))) S_ d_Md_least_24 (by decide) ?_
        exact hQ_ (nI (0)) () d_Md_least_25 rfl (congrArg nI (by unfold lsK; (repeat' split) <;> omega))
      · -- on
        refine wk_iload_n (pc := 15) S_ 1 d_Md_least_15 rfl rfl ?_
        refine wk_iconst (pc := 16) (v := (nI (1))) S_ d_Md_least_16 (by decide) ?_
        refine wk_icmp_neN (pc := 17) (tgt := 24) S_ d_Md_least_17 (by decide) (by omega) (by omega) (fun h17 => ?_) (fun h17 => ?_)
        · -- taken
          refine wk_iconst (pc := 24) (v := (nI (0))) S_ d_Md_least_24 (by decide) ?_
          exact hQ_ (nI (0)) () d_Md_least_25 rfl (congrArg nI (by unfold lsK; (repeat' split) <;> omega))
        · -- on
          refine wk_iconst (pc := 20) (v := (nI (1))) S_ d_Md_least_20 (by decide) ?_
          refine wk_goto (pc := 21) (tgt := 25) S_ d_Md_least_21 (by decide) ?_
          exact hQ_ (nI (1)) () d_Md_least_25 rfl (congrArg nI (by unfold lsK; (repeat' split) <;> omega))
set_option maxHeartbeats 4000000 in
set_option maxRecDepth 100000 in
theorem c_Md_greatest (l : Launch) (D : va_G) (cI : CiT) (z : GzT) (x : Nat) (y : Nat) (hx : x < 9) (hy : y < 3) : wk_C l D (tyK cI) (gX z) y_Md_greatest b_Md_greatest 2 (some .int) 0 0 0 0 [.int (nI (x)), .int (nI (y))] [] wk_i (fun (r : Int32) (_ : Unit) => r = (nI (grK x y))) (fun _ => []) := by
  refine wk_methI (own := R_Md) [(0, .int (nI (x))), (1, .int (nI (y)))] (by decide) rfl (Nat.le_of_ble_eq_true rfl) rfl (gX_ok z) (fun p_ e_ R_ s_ m_ ar_ be_ me_ co_ Q_ A_ hR_ S_ hnm_ hQ_ => ?_)
  rcases (show x = 0 ∨ x = 1 ∨ x = 2 ∨ x = 3 ∨ x = 4 ∨ x = 5 ∨ x = 6 ∨ x = 7 ∨ x = 8 by omega) with rfl | rfl | rfl | rfl | rfl | rfl | rfl | rfl | rfl
  · -- 0
    refine wk_iload_n (pc := 0) S_ 0 d_Md_greatest_0 rfl rfl ?_
    refine wk_tblI (pc := 1) (off := 43) (tgt := 44) S_ d_Md_greatest_1 (by decide) (by decide) (by decide) (by decide) ?_
    refine wk_bipush (pc := 44) (v := (nI (8))) S_ d_Md_greatest_44 (by decide) ?_
    exact hQ_ (nI (8)) () d_Md_greatest_46 rfl (congrArg nI (by simp [grK]))
  · -- 1
    refine wk_iload_n (pc := 0) S_ 0 d_Md_greatest_0 rfl rfl ?_
    refine wk_tblI (pc := 1) (off := 46) (tgt := 47) S_ d_Md_greatest_1 (by decide) (by decide) (by decide) (by decide) ?_
    refine wk_iload_n (pc := 47) S_ 1 d_Md_greatest_47 rfl rfl ?_
    refine wk_if_neN (pc := 48) (tgt := 56) S_ d_Md_greatest_48 (by decide) (by omega) (fun h48 => ?_) (fun h48 => ?_)
    · -- taken
      refine wk_sipush (pc := 56) (v := (nI (1000))) S_ d_Md_greatest_56 (by decide) ?_
      exact hQ_ (nI (1000)) () d_Md_greatest_59 rfl (congrArg nI (by simp [grK, h48]))
    · -- on
      refine wk_bipush (pc := 51) (v := (nI (8))) S_ d_Md_greatest_51 (by decide) ?_
      refine wk_goto (pc := 53) (tgt := 59) S_ d_Md_greatest_53 (by decide) ?_
      exact hQ_ (nI (8)) () d_Md_greatest_59 rfl (congrArg nI (by simp [grK, h48]))
  · -- 2
    refine wk_iload_n (pc := 0) S_ 0 d_Md_greatest_0 rfl rfl ?_
    refine wk_tblI (pc := 1) (off := 59) (tgt := 60) S_ d_Md_greatest_1 (by decide) (by decide) (by decide) (by decide) ?_
    refine wk_iload_n (pc := 60) S_ 1 d_Md_greatest_60 rfl rfl ?_
    refine wk_if_neN (pc := 61) (tgt := 69) S_ d_Md_greatest_61 (by decide) (by omega) (fun h61 => ?_) (fun h61 => ?_)
    · -- taken
      refine wk_bipush (pc := 69) (v := (nI (99))) S_ d_Md_greatest_69 (by decide) ?_
      exact hQ_ (nI (99)) () d_Md_greatest_71 rfl (congrArg nI (by simp [grK, h61]))
    · -- on
      refine wk_bipush (pc := 64) (v := (nI (8))) S_ d_Md_greatest_64 (by decide) ?_
      refine wk_goto (pc := 66) (tgt := 71) S_ d_Md_greatest_66 (by decide) ?_
      exact hQ_ (nI (8)) () d_Md_greatest_71 rfl (congrArg nI (by simp [grK, h61]))
  · -- 3
    refine wk_iload_n (pc := 0) S_ 0 d_Md_greatest_0 rfl rfl ?_
    refine wk_tblI (pc := 1) (off := 71) (tgt := 72) S_ d_Md_greatest_1 (by decide) (by decide) (by decide) (by decide) ?_
    refine wk_ldc (pc := 72) (v := (nI (999999))) S_ kc_Md_174 d_Md_greatest_72 ?_
    exact hQ_ (nI (999999)) () d_Md_greatest_74 rfl (congrArg nI (by simp [grK]))
  · -- 4
    refine wk_iload_n (pc := 0) S_ 0 d_Md_greatest_0 rfl rfl ?_
    refine wk_tblI (pc := 1) (off := 74) (tgt := 75) S_ d_Md_greatest_1 (by decide) (by decide) (by decide) (by decide) ?_
    refine wk_iload_n (pc := 75) S_ 1 d_Md_greatest_75 rfl rfl ?_
    refine wk_if_neN (pc := 76) (tgt := 84) S_ d_Md_greatest_76 (by decide) (by omega) (fun h76 => ?_) (fun h76 => ?_)
    · -- taken
      refine wk_iload_n (pc := 84) S_ 1 d_Md_greatest_84 rfl rfl ?_
      refine wk_iconst (pc := 85) (v := (nI (1))) S_ d_Md_greatest_85 (by decide) ?_
      refine wk_icmp_neN (pc := 86) (tgt := 94) S_ d_Md_greatest_86 (by decide) (by omega) (by omega) (fun h86 => ?_) (fun h86 => ?_)
      · -- taken
        refine wk_bipush (pc := 94) (v := (nI (9))) S_ d_Md_greatest_94 (by decide) ?_
        exact hQ_ (nI (9)) () d_Md_greatest_96 rfl (congrArg nI (by simp [grK, h76, h86]))
      · -- on
        refine wk_ldc (pc := 89) (v := (nI (999999))) S_ kc_Md_174 d_Md_greatest_89 ?_
        refine wk_goto (pc := 91) (tgt := 96) S_ d_Md_greatest_91 (by decide) ?_
        exact hQ_ (nI (999999)) () d_Md_greatest_96 rfl (congrArg nI (by simp [grK, h76, h86]))
    · -- on
      refine wk_bipush (pc := 79) (v := (nI (8))) S_ d_Md_greatest_79 (by decide) ?_
      refine wk_goto (pc := 81) (tgt := 96) S_ d_Md_greatest_81 (by decide) ?_
      exact hQ_ (nI (8)) () d_Md_greatest_96 rfl (congrArg nI (by simp [grK, h76]))
  · -- 5
    refine wk_iload_n (pc := 0) S_ 0 d_Md_greatest_0 rfl rfl ?_
    refine wk_tblI (pc := 1) (off := 96) (tgt := 97) S_ d_Md_greatest_1 (by decide) (by decide) (by decide) (by decide) ?_
    refine wk_iload_n (pc := 97) S_ 1 d_Md_greatest_97 rfl rfl ?_
    refine wk_if_neN (pc := 98) (tgt := 106) S_ d_Md_greatest_98 (by decide) (by omega) (fun h98 => ?_) (fun h98 => ?_)
    · -- taken
      refine wk_iconst (pc := 106) (v := (nI (5))) S_ d_Md_greatest_106 (by decide) ?_
      exact hQ_ (nI (5)) () d_Md_greatest_107 rfl (congrArg nI (by simp [grK, h98]))
    · -- on
      refine wk_bipush (pc := 101) (v := (nI (8))) S_ d_Md_greatest_101 (by decide) ?_
      refine wk_goto (pc := 103) (tgt := 107) S_ d_Md_greatest_103 (by decide) ?_
      exact hQ_ (nI (8)) () d_Md_greatest_107 rfl (congrArg nI (by simp [grK, h98]))
  · -- 6
    refine wk_iload_n (pc := 0) S_ 0 d_Md_greatest_0 rfl rfl ?_
    refine wk_tblI (pc := 1) (off := 107) (tgt := 108) S_ d_Md_greatest_1 (by decide) (by decide) (by decide) (by decide) ?_
    refine wk_iload_n (pc := 108) S_ 1 d_Md_greatest_108 rfl rfl ?_
    refine wk_if_neN (pc := 109) (tgt := 116) S_ d_Md_greatest_109 (by decide) (by omega) (fun h109 => ?_) (fun h109 => ?_)
    · -- taken
      refine wk_ldc (pc := 116) (v := (nI (999999))) S_ kc_Md_174 d_Md_greatest_116 ?_
      exact hQ_ (nI (999999)) () d_Md_greatest_118 rfl (congrArg nI (by simp [grK, h109]))
    · -- on
      refine wk_iconst (pc := 112) (v := (nI (3))) S_ d_Md_greatest_112 (by decide) ?_
      refine wk_goto (pc := 113) (tgt := 118) S_ d_Md_greatest_113 (by decide) ?_
      exact hQ_ (nI (3)) () d_Md_greatest_118 rfl (congrArg nI (by simp [grK, h109]))
  · -- 7
    refine wk_iload_n (pc := 0) S_ 0 d_Md_greatest_0 rfl rfl ?_
    refine wk_tblO (pc := 1) (tgt := 119) S_ d_Md_greatest_1 (by decide) (by decide) ?_
    refine wk_iload_n (pc := 119) S_ 1 d_Md_greatest_119 rfl rfl ?_
    refine wk_if_neN (pc := 120) (tgt := 128) S_ d_Md_greatest_120 (by decide) (by omega) (fun h120 => ?_) (fun h120 => ?_)
    · -- taken
      refine wk_iload_n (pc := 128) S_ 1 d_Md_greatest_128 rfl rfl ?_
      refine wk_iconst (pc := 129) (v := (nI (1))) S_ d_Md_greatest_129 (by decide) ?_
      refine wk_icmp_neN (pc := 130) (tgt := 137) S_ d_Md_greatest_130 (by decide) (by omega) (by omega) (fun h130 => ?_) (fun h130 => ?_)
      · -- taken
        refine wk_iload_n (pc := 137) S_ 0 d_Md_greatest_137 rfl rfl ?_
        refine wk_bipush (pc := 138) (v := (nI (7))) S_ d_Md_greatest_138 (by decide) ?_
        refine wk_icmp_neN (pc := 140) (tgt := 148) S_ d_Md_greatest_140 (by decide) (by omega) (by omega) (fun h140 => absurd h140 (by decide)) (fun h140 => ?_)
        refine wk_bipush (pc := 143) (v := (nI (9))) S_ d_Md_greatest_143 (by decide) ?_
        refine wk_goto (pc := 145) (tgt := 150) S_ d_Md_greatest_145 (by decide) ?_
        exact hQ_ (nI (9)) () d_Md_greatest_150 rfl (congrArg nI (by simp [grK, h120, h130]))
      · -- on
        refine wk_iconst (pc := 133) (v := (nI (3))) S_ d_Md_greatest_133 (by decide) ?_
        refine wk_goto (pc := 134) (tgt := 150) S_ d_Md_greatest_134 (by decide) ?_
        exact hQ_ (nI (3)) () d_Md_greatest_150 rfl (congrArg nI (by simp [grK, h120, h130]))
    · -- on
      refine wk_bipush (pc := 123) (v := (nI (9))) S_ d_Md_greatest_123 (by decide) ?_
      refine wk_goto (pc := 125) (tgt := 150) S_ d_Md_greatest_125 (by decide) ?_
      exact hQ_ (nI (9)) () d_Md_greatest_150 rfl (congrArg nI (by simp [grK, h120]))
  · -- 8
    refine wk_iload_n (pc := 0) S_ 0 d_Md_greatest_0 rfl rfl ?_
    refine wk_tblO (pc := 1) (tgt := 119) S_ d_Md_greatest_1 (by decide) (by decide) ?_
    refine wk_iload_n (pc := 119) S_ 1 d_Md_greatest_119 rfl rfl ?_
    refine wk_if_neN (pc := 120) (tgt := 128) S_ d_Md_greatest_120 (by decide) (by omega) (fun h120 => ?_) (fun h120 => ?_)
    · -- taken
      refine wk_iload_n (pc := 128) S_ 1 d_Md_greatest_128 rfl rfl ?_
      refine wk_iconst (pc := 129) (v := (nI (1))) S_ d_Md_greatest_129 (by decide) ?_
      refine wk_icmp_neN (pc := 130) (tgt := 137) S_ d_Md_greatest_130 (by decide) (by omega) (by omega) (fun h130 => ?_) (fun h130 => ?_)
      · -- taken
        refine wk_iload_n (pc := 137) S_ 0 d_Md_greatest_137 rfl rfl ?_
        refine wk_bipush (pc := 138) (v := (nI (7))) S_ d_Md_greatest_138 (by decide) ?_
        refine wk_icmp_neN (pc := 140) (tgt := 148) S_ d_Md_greatest_140 (by decide) (by omega) (by omega) (fun h140 => ?_) (fun h140 => absurd h140 (by decide))
        refine wk_bipush (pc := 148) (v := (nI (8))) S_ d_Md_greatest_148 (by decide) ?_
        exact hQ_ (nI (8)) () d_Md_greatest_150 rfl (congrArg nI (by simp [grK, h120, h130]))
      · -- on
        refine wk_iconst (pc := 133) (v := (nI (3))) S_ d_Md_greatest_133 (by decide) ?_
        refine wk_goto (pc := 134) (tgt := 150) S_ d_Md_greatest_134 (by decide) ?_
        exact hQ_ (nI (3)) () d_Md_greatest_150 rfl (congrArg nI (by simp [grK, h120, h130]))
    · -- on
      refine wk_bipush (pc := 123) (v := (nI (9))) S_ d_Md_greatest_123 (by decide) ?_
      refine wk_goto (pc := 125) (tgt := 150) S_ d_Md_greatest_125 (by decide) ?_
      exact hQ_ (nI (9)) () d_Md_greatest_150 rfl (congrArg nI (by simp [grK, h120]))
set_option maxHeartbeats 4000000 in
set_option maxRecDepth 100000 in
theorem c_Md_markOf (l : Launch) (D : va_G) (cI : CiT) (z : GzT) (m : Nat → Nat) (tx : (Nat → Nat)) (sz : Nat) (ap : (Nat → Bool)) (pt : (Nat → Nat)) (rk : (Nat → Nat)) (cd : (Nat → Nat)) (fr : Nat) (mc : (Nat → Nat)) (mg : (Nat → Nat)) (mz : (Nat → Nat)) (nc : (Nat → Nat)) (nt : (Nat → Nat)) (ld : (Nat → Nat)) (qap : (Nat → Bool)) (qpt : (Nat → Nat)) (qrk : (Nat → Nat)) (qcd : (Nat → Nat)) (qfr : Nat) (qmc : (Nat → Nat)) (qmg : (Nat → Nat)) (qmz : (Nat → Nat)) (qnc : (Nat → Nat)) (qnt : (Nat → Nat)) (qld : (Nat → Nat)) (nb : Nat) (cl : (Nat → Nat)) (gr : (Nat → Nat)) (sp : (Nat → Nat)) (ot : (Nat → Bool)) (na : Nat) (aw : (Nat → Nat)) (nx : Nat) (bg : (Nat → Nat)) (bb : (Nat → Nat)) (ab : (Nat → Nat)) (fd : Bool) (pv : Bool) (bx : (Nat → Nat)) (wy : (Nat → Nat)) (li : (Nat → Nat)) (fm : Nat) (en : Nat) (nu : Nat) (td : (Nat → Nat)) (lf : Int32) (lk : Int32) (c : Nat) (w : Nat) (hc : c < 9) (hw : w < 2 ^ 31) (hmc : ∀ c, qmc c ≤ 6) (hmg : ∀ c, qmg c ≤ 999999) : wk_C l D (tyK cI) (gX z) y_Md_markOf b_Md_markOf 4 (some .int) 0 0 0 0 [.ref (m 0), .int (nI (c)), .int (nI (w))] (wMd m cI tx sz ap pt rk cd fr mc mg mz nc nt ld qap qpt qrk qcd qfr qmc qmg qmz qnc qnt qld nb cl gr sp ot na aw nx bg bb ab fd pv bx wy li fm en nu td lf lk) wk_i (fun (r : Int32) (_ : Unit) => r = (nI (mpS qmg c w (qmc c) 0))) (fun _ => (wMd m cI tx sz ap pt rk cd fr mc mg mz nc nt ld qap qpt qrk qcd qfr qmc qmg qmz qnc qnt qld nb cl gr sp ot na aw nx bg bb ab fd pv bx wy li fm en nu td lf lk)) := by
  refine wk_methI (own := R_Md) [(0, .ref (m 0)), (1, .int (nI (c))), (2, .int (nI (w)))] (by decide) rfl (Nat.le_of_ble_eq_true rfl) rfl (gX_ok z) (fun p_ e_ R_ s_ m_ ar_ be_ me_ co_ Q_ A_ hR_ S_ hnm_ hQ_ => ?_)
  refine wk_iconst (pc := 0) (v := (nI (0))) S_ d_Md_markOf_0 (by decide) ?_
  refine wk_istore_n (pc := 1) (lv' := [(3, .int (nI (0))), (0, .ref (m 0)), (1, .int (nI (c))), (2, .int (nI (w)))]) S_ d_Md_markOf_1 rfl (by decide) rfl ?_
  have hL2 : ∀ (fuel2 : Nat), ∀ (q : Nat) (i : Nat), q < fuel2 → (i + q = qmc c) → (mpS qmg c w q i = mpS qmg c w (qmc c) 0) → wk_G p_ l e_ R_ s_ m_ ar_ be_ me_ co_ Q_ D A_ 4 0 0 (wMd m cI tx sz ap pt rk cd fr mc mg mz nc nt ld qap qpt qrk qcd qfr qmc qmg qmz qnc qnt qld nb cl gr sp ot na aw nx bg bb ab fd pv bx wy li fm en nu td lf lk) 2 [(0, .ref (m 0)), (1, .int (nI (c))), (2, .int (nI (w))), (3, .int (nI (i)))] [] := by
    intro fuel2
    induction fuel2 with
    | zero => intro q i hm; exact absurd hm (Nat.not_lt_zero _)
    | succ fuel2 ih2 =>
      intro q i hm hk hE
      refine wk_iload_n (pc := 2) S_ 3 d_Md_markOf_2 rfl rfl ?_
      refine wk_aload_n (pc := 3) S_ 0 d_Md_markOf_3 rfl rfl ?_
      refine wk_get (pc := 4) (v := .ref (m 16)) S_ 6 18 0 in_Md rfl (by decide) rfl fl_Md_56 d_Md_markOf_4 rfl rfl ?_
      refine wk_iload_n (pc := 7) S_ 1 d_Md_markOf_7 rfl rfl ?_
      refine wk_ialdN (pc := 8) (g := qmc) S_ 16 0 d_Md_markOf_8 rfl rfl (by omega) (by decide) ?_
      have hm1 := hmc c
      refine wk_icmp_geN (pc := 9) (tgt := 33) S_ d_Md_markOf_9 (by decide) (by omega) (by omega) (fun h9 => ?_) (fun h9 => ?_)
      · -- taken
        refine wk_iload_n (pc := 33) S_ 3 d_Md_markOf_33 rfl rfl ?_
        exact hQ_ (nI (i)) () d_Md_markOf_34 rfl (congrArg nI (by rw [← hE, show q = 0 by omega]; rfl))
      · -- on
        refine wk_aload_n (pc := 12) S_ 0 d_Md_markOf_12 rfl rfl ?_
        refine wk_get (pc := 13) (v := .ref (m 17)) S_ 6 19 0 in_Md rfl (by decide) rfl fl_Md_59 d_Md_markOf_13 rfl rfl ?_
        refine wk_bipush (pc := 16) (v := (nI (6))) S_ d_Md_markOf_16 (by decide) ?_
        refine wk_iload_n (pc := 18) S_ 1 d_Md_markOf_18 rfl rfl ?_
        refine wk_imulN (pc := 19) S_ d_Md_markOf_19 ?_
        refine wk_iload_n (pc := 20) S_ 3 d_Md_markOf_20 rfl rfl ?_
        refine wk_iaddN (pc := 21) S_ d_Md_markOf_21 ?_
        refine wk_ialdN (pc := 22) (g := qmg) S_ 17 0 d_Md_markOf_22 rfl rfl (by omega) (by decide) ?_
        refine wk_iload_n (pc := 23) S_ 2 d_Md_markOf_23 rfl rfl ?_
        have hm2 := hmg (6 * c + i)
        refine wk_icmp_eqN (pc := 24) (tgt := 33) S_ d_Md_markOf_24 (by decide) (by omega) (by omega) (fun h24 => ?_) (fun h24 => ?_)
        · -- taken
          refine wk_iload_n (pc := 33) S_ 3 d_Md_markOf_33 rfl rfl ?_
          exact hQ_ (nI (i)) () d_Md_markOf_34 rfl (congrArg nI (by rw [← hE]; obtain ⟨r, rfl⟩ : ∃ r, q = r + 1 := ⟨q - 1, by omega⟩; rw [mpS, if_pos h24]))
        · -- on
          refine wk_iincN (pc := 27) (d := 1) (lv' := [(3, .int (nI (i + 1))), (0, .ref (m 0)), (1, .int (nI (c))), (2, .int (nI (w)))]) S_ 3 d_Md_markOf_27 (by decide) rfl (by decide) rfl ?_
          refine wk_goto (pc := 30) (tgt := 2) S_ d_Md_markOf_30 (by decide) ?_
          refine wk_lv [1, 2, 3, 0] ?_ (ih2 (q - 1) (i + 1) (by omega) (by omega) (by rw [← hE]; obtain ⟨r, rfl⟩ : ∃ r, q = r + 1 := ⟨q - 1, by omega⟩; rw [mpS, if_neg h24]; rfl))
          rfl
  refine wk_lv [1, 2, 3, 0] ?_ (hL2 _ (qmc c) (0) (Nat.lt_succ_self _) (by omega) rfl)
  rfl
set_option maxHeartbeats 4000000 in
set_option maxRecDepth 100000 in
theorem c_Md_hasRoom (l : Launch) (D : va_G) (cI : CiT) (z : GzT) (m : Nat → Nat) (tx : (Nat → Nat)) (sz : Nat) (ap : (Nat → Bool)) (pt : (Nat → Nat)) (rk : (Nat → Nat)) (cd : (Nat → Nat)) (fr : Nat) (mc : (Nat → Nat)) (mg : (Nat → Nat)) (mz : (Nat → Nat)) (nc : (Nat → Nat)) (nt : (Nat → Nat)) (ld : (Nat → Nat)) (qap : (Nat → Bool)) (qpt : (Nat → Nat)) (qrk : (Nat → Nat)) (qcd : (Nat → Nat)) (qfr : Nat) (qmc : (Nat → Nat)) (qmg : (Nat → Nat)) (qmz : (Nat → Nat)) (qnc : (Nat → Nat)) (qnt : (Nat → Nat)) (qld : (Nat → Nat)) (nb : Nat) (cl : (Nat → Nat)) (gr : (Nat → Nat)) (sp : (Nat → Nat)) (ot : (Nat → Bool)) (na : Nat) (aw : (Nat → Nat)) (nx : Nat) (bg : (Nat → Nat)) (bb : (Nat → Nat)) (ab : (Nat → Nat)) (fd : Bool) (pv : Bool) (bx : (Nat → Nat)) (wy : (Nat → Nat)) (li : (Nat → Nat)) (fm : Nat) (en : Nat) (nu : Nat) (td : (Nat → Nat)) (lf : Int32) (lk : Int32) (hnc : ∀ c, qnc c ≤ 8) : wk_C l D (tyK cI) (gX z) y_Md_hasRoom b_Md_hasRoom 3 (some .boolean) 0 0 0 0 [.ref (m 0)] (wMd m cI tx sz ap pt rk cd fr mc mg mz nc nt ld qap qpt qrk qcd qfr qmc qmg qmz qnc qnt qld nb cl gr sp ot na aw nx bg bb ab fd pv bx wy li fm en nu td lf lk) wk_i (fun (r : Int32) (_ : Unit) => r = (bI (hrS qnc 4))) (fun _ => (wMd m cI tx sz ap pt rk cd fr mc mg mz nc nt ld qap qpt qrk qcd qfr qmc qmg qmz qnc qnt qld nb cl gr sp ot na aw nx bg bb ab fd pv bx wy li fm en nu td lf lk)) := by
  refine wk_methZ (own := R_Md) [(0, .ref (m 0))] (by decide) rfl (Nat.le_of_ble_eq_true rfl) rfl (gX_ok z) (fun p_ e_ R_ s_ m_ ar_ be_ me_ co_ Q_ A_ hR_ S_ hnm_ hQ_ => ?_)
  refine wk_iconst (pc := 0) (v := (nI (0))) S_ d_Md_hasRoom_0 (by decide) ?_
  refine wk_istore_n (pc := 1) (lv' := [(1, .int (nI (0))), (0, .ref (m 0))]) S_ d_Md_hasRoom_1 rfl (by decide) rfl ?_
  refine wk_iconst (pc := 2) (v := (nI (0))) S_ d_Md_hasRoom_2 (by decide) ?_
  refine wk_istore_n (pc := 3) (lv' := [(2, .int (nI (0))), (1, .int (nI (0))), (0, .ref (m 0))]) S_ d_Md_hasRoom_3 rfl (by decide) rfl ?_
  have hL4 : ∀ (fuel4 : Nat), ∀ (k : Nat), 4 - k < fuel4 → (k ≤ 4) → wk_G p_ l e_ R_ s_ m_ ar_ be_ me_ co_ Q_ D A_ 3 0 0 (wMd m cI tx sz ap pt rk cd fr mc mg mz nc nt ld qap qpt qrk qcd qfr qmc qmg qmz qnc qnt qld nb cl gr sp ot na aw nx bg bb ab fd pv bx wy li fm en nu td lf lk) 4 [(0, .ref (m 0)), (1, .int (bI (hrS qnc k))), (2, .int (nI (k)))] [] := by
    intro fuel4
    induction fuel4 with
    | zero => intro k hm; exact absurd hm (Nat.not_lt_zero _)
    | succ fuel4 ih4 =>
      intro k hm hk
      refine wk_iload_n (pc := 4) S_ 2 d_Md_hasRoom_4 rfl rfl ?_
      refine wk_iconst (pc := 5) (v := (nI (4))) S_ d_Md_hasRoom_5 (by decide) ?_
      refine wk_icmp_geN (pc := 6) (tgt := 36) S_ d_Md_hasRoom_6 (by decide) (by omega) (by omega) (fun h6 => ?_) (fun h6 => ?_)
      · -- taken
        refine wk_iload_n (pc := 36) S_ 1 d_Md_hasRoom_36 rfl rfl ?_
        exact hQ_ (bI (hrS qnc k)) () d_Md_hasRoom_37 (bI_z _) rfl (congrArg bI (by rw [show k = 4 by omega]))
      · -- on
        refine wk_iload_n (pc := 9) S_ 1 d_Md_hasRoom_9 rfl rfl ?_
        refine wk_if_neB (pc := 10) (tgt := 24) S_ d_Md_hasRoom_10 (by decide) (fun h10 => ?_) (fun h10 => ?_)
        · -- taken
          refine wk_iconst (pc := 24) (v := (nI (1))) S_ d_Md_hasRoom_24 (by decide) ?_
          refine wk_goto (pc := 25) (tgt := 29) S_ d_Md_hasRoom_25 (by decide) ?_
          refine wk_top (y := (bI (hrS qnc (k + 1)))) (bI_t (by simp [hrS, h10])) ?_
          refine wk_istore_n (pc := 29) (lv' := [(1, .int (bI (hrS qnc (k + 1)))), (0, .ref (m 0)), (2, .int (nI (k)))]) S_ d_Md_hasRoom_29 rfl (by decide) rfl ?_
          refine wk_iincN (pc := 30) (d := 1) (lv' := [(2, .int (nI (k + 1))), (1, .int (bI (hrS qnc (k + 1)))), (0, .ref (m 0))]) S_ 2 d_Md_hasRoom_30 (by decide) rfl (by decide) rfl ?_
          refine wk_goto (pc := 33) (tgt := 4) S_ d_Md_hasRoom_33 (by decide) ?_
          refine wk_lv [2, 1, 0] ?_ (ih4 (k + 1) (by omega) (by omega))
          rfl
        · -- on
          refine wk_aload_n (pc := 13) S_ 0 d_Md_hasRoom_13 rfl rfl ?_
          refine wk_get (pc := 14) (v := .ref (m 19)) S_ 6 21 0 in_Md rfl (by decide) rfl fl_Md_65 d_Md_hasRoom_14 rfl rfl ?_
          refine wk_iload_n (pc := 17) S_ 2 d_Md_hasRoom_17 rfl rfl ?_
          refine wk_ialdN (pc := 18) (g := qnc) S_ 19 0 d_Md_hasRoom_18 rfl rfl (by omega) (by decide) ?_
          refine wk_bipush (pc := 19) (v := (nI (8))) S_ d_Md_hasRoom_19 (by decide) ?_
          have hn1 := hnc k
          refine wk_icmp_geN (pc := 21) (tgt := 28) S_ d_Md_hasRoom_21 (by decide) (by omega) (by omega) (fun h21 => ?_) (fun h21 => ?_)
          · -- taken
            refine wk_iconst (pc := 28) (v := (nI (0))) S_ d_Md_hasRoom_28 (by decide) ?_
            refine wk_top (y := (bI (hrS qnc (k + 1)))) (bI_f (by simp [hrS, h10]; omega)) ?_
            refine wk_istore_n (pc := 29) (lv' := [(1, .int (bI (hrS qnc (k + 1)))), (0, .ref (m 0)), (2, .int (nI (k)))]) S_ d_Md_hasRoom_29 rfl (by decide) rfl ?_
            refine wk_iincN (pc := 30) (d := 1) (lv' := [(2, .int (nI (k + 1))), (1, .int (bI (hrS qnc (k + 1)))), (0, .ref (m 0))]) S_ 2 d_Md_hasRoom_30 (by decide) rfl (by decide) rfl ?_
            refine wk_goto (pc := 33) (tgt := 4) S_ d_Md_hasRoom_33 (by decide) ?_
            refine wk_lv [2, 1, 0] ?_ (ih4 (k + 1) (by omega) (by omega))
            rfl
          · -- on
            refine wk_iconst (pc := 24) (v := (nI (1))) S_ d_Md_hasRoom_24 (by decide) ?_
            refine wk_goto (pc := 25) (tgt := 29) S_ d_Md_hasRoom_25 (by decide) ?_
            refine wk_top (y := (bI (hrS qnc (k + 1)))) (bI_t (by simp [hrS]; omega)) ?_
            refine wk_istore_n (pc := 29) (lv' := [(1, .int (bI (hrS qnc (k + 1)))), (0, .ref (m 0)), (2, .int (nI (k)))]) S_ d_Md_hasRoom_29 rfl (by decide) rfl ?_
            refine wk_iincN (pc := 30) (d := 1) (lv' := [(2, .int (nI (k + 1))), (1, .int (bI (hrS qnc (k + 1)))), (0, .ref (m 0))]) S_ 2 d_Md_hasRoom_30 (by decide) rfl (by decide) rfl ?_
            refine wk_goto (pc := 33) (tgt := 4) S_ d_Md_hasRoom_33 (by decide) ?_
            refine wk_lv [2, 1, 0] ?_ (ih4 (k + 1) (by omega) (by omega))
            rfl
  refine wk_lv [2, 1, 0] ?_ (hL4 _ (0) (Nat.lt_succ_self _) (by omega))
  rfl
set_option maxHeartbeats 4000000 in
set_option maxRecDepth 100000 in
theorem c_Md_tell (l : Launch) (D : va_G) (cI : CiT) (z : GzT) (m : Nat → Nat) (tx : (Nat → Nat)) (sz : Nat) (ap : (Nat → Bool)) (pt : (Nat → Nat)) (rk : (Nat → Nat)) (cd : (Nat → Nat)) (fr : Nat) (mc : (Nat → Nat)) (mg : (Nat → Nat)) (mz : (Nat → Nat)) (nc : (Nat → Nat)) (nt : (Nat → Nat)) (ld : (Nat → Nat)) (qap : (Nat → Bool)) (qpt : (Nat → Nat)) (qrk : (Nat → Nat)) (qcd : (Nat → Nat)) (qfr : Nat) (qmc : (Nat → Nat)) (qmg : (Nat → Nat)) (qmz : (Nat → Nat)) (qnc : (Nat → Nat)) (qnt : (Nat → Nat)) (qld : (Nat → Nat)) (nb : Nat) (cl : (Nat → Nat)) (gr : (Nat → Nat)) (sp : (Nat → Nat)) (ot : (Nat → Bool)) (na : Nat) (aw : (Nat → Nat)) (nx : Nat) (bg : (Nat → Nat)) (bb : (Nat → Nat)) (ab : (Nat → Nat)) (fd : Bool) (pv : Bool) (bx : (Nat → Nat)) (wy : (Nat → Nat)) (li : (Nat → Nat)) (fm : Nat) (en : Nat) (nu : Nat) (td : (Nat → Nat)) (lf : Int32) (lk : Int32) (x : Nat) (a1 : Nat) (b1 : Nat) (c1 : Nat) (hx : x < 9) (h1 : a1 ≠ 0) (h2 : x = 3 ∨ b1 ≠ 0) (h3 : (x ≠ 4 ∧ x < 7) ∨ c1 ≠ 0) (hA : a1 - 1 ≤ grK x 0) (hB : x = 3 ∨ b1 - 1 ≤ grK x 1) (hC : (x ≠ 4 ∧ x < 7) ∨ c1 - 1 ≤ grK x 2) (hmc : ∀ c, qmc c ≤ 6) (hmg : ∀ c, qmg c ≤ 999999) (hnc : ∀ c, qnc c ≤ 8) (hnf : x = 6 → qnc (a1 - 1) < 8) (hmf : x = 4 → mpS qmg (a1 - 1) (b1 - 1) (qmc (a1 - 1)) 0 < 6) : wk_C l D (tyK cI) (gX z) y_Md_tell b_Md_tell 6 none 1 23 0 0 [.ref (m 0), .int (nI (x)), .int (zI (a1)), .int (zI (b1)), .int (zI (c1))] (wMd m cI tx sz ap pt rk cd fr mc mg mz nc nt ld qap qpt qrk qcd qfr qmc qmg qmz qnc qnt qld nb cl gr sp ot na aw nx bg bb ab fd pv bx wy li fm en nu td lf lk) wk_v (fun (r : Unit) (u : (Nat → Bool) × (Nat → Nat) × (Nat → Nat) × (Nat → Nat) × Nat × (Nat → Nat) × (Nat → Nat) × (Nat → Nat) × (Nat → Nat) × (Nat → Nat) × (Nat → Nat)) => u = tellS x (a1 - 1) (b1 - 1) (c1 - 1) (qap, qpt, qrk, qcd, qfr, qmc, qmg, qmz, qnc, qnt, qld)) (fun u => (wMd m cI tx sz ap pt rk cd fr mc mg mz nc nt ld u.1 u.2.1 u.2.2.1 u.2.2.2.1 u.2.2.2.2.1 u.2.2.2.2.2.1 u.2.2.2.2.2.2.1 u.2.2.2.2.2.2.2.1 u.2.2.2.2.2.2.2.2.1 u.2.2.2.2.2.2.2.2.2.1 u.2.2.2.2.2.2.2.2.2.2 nb cl gr sp ot na aw nx bg bb ab fd pv bx wy li fm en nu td lf lk)) := by
  refine wk_methV (own := R_Md) [(0, .ref (m 0)), (1, .int (nI (x))), (2, .int (zI (a1))), (3, .int (zI (b1))), (4, .int (zI (c1)))] (by decide) rfl (Nat.le_of_ble_eq_true rfl) rfl (gX_ok z) (fun p_ e_ R_ s_ m_ ar_ be_ me_ co_ Q_ A_ hR_ S_ hnm_ hQ_ => ?_)
  rcases (show x = 0 ∨ x = 1 ∨ x = 2 ∨ x = 3 ∨ x = 4 ∨ x = 5 ∨ x = 6 ∨ x = 7 ∨ x = 8 by omega) with rfl | rfl | rfl | rfl | rfl | rfl | rfl | rfl | rfl
  · -- 0
    obtain ⟨a, rfl⟩ : ∃ a, a1 = a + 1 := ⟨a1 - 1, by omega⟩
    obtain ⟨b, rfl⟩ : ∃ b, b1 = b + 1 := ⟨b1 - 1, by omega⟩
    have hA' : a ≤ 8 := hA
    have hB' : b ≤ 8 := by rcases hB with z | z; exact absurd z (by decide); exact z
    rw [zI_s a, zI_s b]
    refine wk_iload_n (pc := 0) S_ 1 d_Md_tell_0 rfl rfl ?_
    refine wk_if_neN (pc := 1) (tgt := 31) S_ d_Md_tell_1 (by decide) (by omega) (fun h1 => absurd h1 (by decide)) (fun h1 => ?_)
    refine wk_aload_n (pc := 4) S_ 0 d_Md_tell_4 rfl rfl ?_
    refine wk_get (pc := 5) (v := .ref (m 12)) S_ 6 13 0 in_Md rfl (by decide) rfl fl_Md_44 d_Md_tell_5 rfl rfl ?_
    refine wk_bipush (pc := 8) (v := (nI (9))) S_ d_Md_tell_8 (by decide) ?_
    refine wk_iload_n (pc := 10) S_ 2 d_Md_tell_10 rfl rfl ?_
    refine wk_imulN (pc := 11) S_ d_Md_tell_11 ?_
    refine wk_iload_n (pc := 12) S_ 3 d_Md_tell_12 rfl rfl ?_
    refine wk_iaddN (pc := 13) S_ d_Md_tell_13 ?_
    refine wk_iconst (pc := 14) (v := (nI (1))) S_ d_Md_tell_14 (by decide) ?_
    refine wk_top (y := bI true) rfl ?_
    refine wk_zast (pc := 15) (g := qap) (ws' := (wMd m cI tx sz ap pt rk cd fr mc mg mz nc nt ld (va_up (qap) (((9) * (a)) + (b)) (true)) qpt qrk qcd qfr qmc qmg qmz qnc qnt qld nb cl gr sp ot na aw nx bg bb ab fd pv bx wy li fm en nu td lf lk)) S_ 12 1 d_Md_tell_15 rfl rfl (by omega) (by decide) rfl ?_
    refine wk_aload_n (pc := 16) S_ 0 d_Md_tell_16 rfl rfl ?_
    refine wk_get (pc := 17) (v := .ref (m 12)) S_ 6 13 0 in_Md rfl (by decide) rfl fl_Md_44 d_Md_tell_17 rfl rfl ?_
    refine wk_bipush (pc := 20) (v := (nI (9))) S_ d_Md_tell_20 (by decide) ?_
    refine wk_iload_n (pc := 22) S_ 3 d_Md_tell_22 rfl rfl ?_
    refine wk_imulN (pc := 23) S_ d_Md_tell_23 ?_
    refine wk_iload_n (pc := 24) S_ 2 d_Md_tell_24 rfl rfl ?_
    refine wk_iaddN (pc := 25) S_ d_Md_tell_25 ?_
    refine wk_iconst (pc := 26) (v := (nI (1))) S_ d_Md_tell_26 (by decide) ?_
    refine wk_top (y := bI true) rfl ?_
    refine wk_zast (pc := 27) (g := va_up (qap) (((9) * (a)) + (b)) (true)) (ws' := (wMd m cI tx sz ap pt rk cd fr mc mg mz nc nt ld (va_up (va_up (qap) (((9) * (a)) + (b)) (true)) (((9) * (b)) + (a)) (true)) qpt qrk qcd qfr qmc qmg qmz qnc qnt qld nb cl gr sp ot na aw nx bg bb ab fd pv bx wy li fm en nu td lf lk)) S_ 12 1 d_Md_tell_27 rfl rfl (by omega) (by decide) rfl ?_
    refine wk_goto (pc := 28) (tgt := 218) S_ d_Md_tell_28 (by decide) ?_
    exact hQ_ (va_up (va_up (qap) (((9) * (a)) + (b)) (true)) (((9) * (b)) + (a)) (true), qpt, qrk, qcd, qfr, qmc, qmg, qmz, qnc, qnt, qld) d_Md_tell_218 rfl rfl
  · -- 1
    obtain ⟨a, rfl⟩ : ∃ a, a1 = a + 1 := ⟨a1 - 1, by omega⟩
    obtain ⟨b, rfl⟩ : ∃ b, b1 = b + 1 := ⟨b1 - 1, by omega⟩
    have hA' : a ≤ 8 := hA
    have hB' : b ≤ 1000 := by rcases hB with z | z; exact absurd z (by decide); exact z
    rw [zI_s a, zI_s b]
    refine wk_iload_n (pc := 0) S_ 1 d_Md_tell_0 rfl rfl ?_
    refine wk_if_neN (pc := 1) (tgt := 31) S_ d_Md_tell_1 (by decide) (by omega) (fun h1 => ?_) (fun h1 => absurd h1 (by decide))
    refine wk_iload_n (pc := 31) S_ 1 d_Md_tell_31 rfl rfl ?_
    refine wk_iconst (pc := 32) (v := (nI (1))) S_ d_Md_tell_32 (by decide) ?_
    refine wk_icmp_neN (pc := 33) (tgt := 46) S_ d_Md_tell_33 (by decide) (by omega) (by omega) (fun h33 => absurd h33 (by decide)) (fun h33 => ?_)
    refine wk_aload_n (pc := 36) S_ 0 d_Md_tell_36 rfl rfl ?_
    refine wk_get (pc := 37) (v := .ref (m 13)) S_ 6 14 0 in_Md rfl (by decide) rfl fl_Md_47 d_Md_tell_37 rfl rfl ?_
    refine wk_iload_n (pc := 40) S_ 2 d_Md_tell_40 rfl rfl ?_
    refine wk_iload_n (pc := 41) S_ 3 d_Md_tell_41 rfl rfl ?_
    refine wk_iastN (pc := 42) (g := qpt) (ws' := (wMd m cI tx sz ap pt rk cd fr mc mg mz nc nt ld qap (va_up (qpt) (a) (b)) qrk qcd qfr qmc qmg qmz qnc qnt qld nb cl gr sp ot na aw nx bg bb ab fd pv bx wy li fm en nu td lf lk)) S_ 13 0 d_Md_tell_42 rfl rfl (by omega) (by decide) rfl ?_
    refine wk_goto (pc := 43) (tgt := 218) S_ d_Md_tell_43 (by decide) ?_
    exact hQ_ (qap, va_up (qpt) (a) (b), qrk, qcd, qfr, qmc, qmg, qmz, qnc, qnt, qld) d_Md_tell_218 rfl rfl
  · -- 2
    obtain ⟨a, rfl⟩ : ∃ a, a1 = a + 1 := ⟨a1 - 1, by omega⟩
    obtain ⟨b, rfl⟩ : ∃ b, b1 = b + 1 := ⟨b1 - 1, by omega⟩
    have hA' : a ≤ 8 := hA
    have hB' : b ≤ 99 := by rcases hB with z | z; exact absurd z (by decide); exact z
    rw [zI_s a, zI_s b]
    refine wk_iload_n (pc := 0) S_ 1 d_Md_tell_0 rfl rfl ?_
    refine wk_if_neN (pc := 1) (tgt := 31) S_ d_Md_tell_1 (by decide) (by omega) (fun h1 => ?_) (fun h1 => absurd h1 (by decide))
    refine wk_iload_n (pc := 31) S_ 1 d_Md_tell_31 rfl rfl ?_
    refine wk_iconst (pc := 32) (v := (nI (1))) S_ d_Md_tell_32 (by decide) ?_
    refine wk_icmp_neN (pc := 33) (tgt := 46) S_ d_Md_tell_33 (by decide) (by omega) (by omega) (fun h33 => ?_) (fun h33 => absurd h33 (by decide))
    refine wk_iload_n (pc := 46) S_ 1 d_Md_tell_46 rfl rfl ?_
    refine wk_iconst (pc := 47) (v := (nI (2))) S_ d_Md_tell_47 (by decide) ?_
    refine wk_icmp_neN (pc := 48) (tgt := 61) S_ d_Md_tell_48 (by decide) (by omega) (by omega) (fun h48 => absurd h48 (by decide)) (fun h48 => ?_)
    refine wk_aload_n (pc := 51) S_ 0 d_Md_tell_51 rfl rfl ?_
    refine wk_get (pc := 52) (v := .ref (m 14)) S_ 6 15 0 in_Md rfl (by decide) rfl fl_Md_50 d_Md_tell_52 rfl rfl ?_
    refine wk_iload_n (pc := 55) S_ 2 d_Md_tell_55 rfl rfl ?_
    refine wk_iload_n (pc := 56) S_ 3 d_Md_tell_56 rfl rfl ?_
    refine wk_iastN (pc := 57) (g := qrk) (ws' := (wMd m cI tx sz ap pt rk cd fr mc mg mz nc nt ld qap qpt (va_up (qrk) (a) (b)) qcd qfr qmc qmg qmz qnc qnt qld nb cl gr sp ot na aw nx bg bb ab fd pv bx wy li fm en nu td lf lk)) S_ 14 0 d_Md_tell_57 rfl rfl (by omega) (by decide) rfl ?_
    refine wk_goto (pc := 58) (tgt := 218) S_ d_Md_tell_58 (by decide) ?_
    exact hQ_ (qap, qpt, va_up (qrk) (a) (b), qcd, qfr, qmc, qmg, qmz, qnc, qnt, qld) d_Md_tell_218 rfl rfl
  · -- 3
    obtain ⟨a, rfl⟩ : ∃ a, a1 = a + 1 := ⟨a1 - 1, by omega⟩
    have hA' : a ≤ 999999 := hA
    rw [zI_s a]
    refine wk_iload_n (pc := 0) S_ 1 d_Md_tell_0 rfl rfl ?_
    refine wk_if_neN (pc := 1) (tgt := 31) S_ d_Md_tell_1 (by decide) (by omega) (fun h1 => ?_) (fun h1 => absurd h1 (by decide))
    refine wk_iload_n (pc := 31) S_ 1 d_Md_tell_31 rfl rfl ?_
    refine wk_iconst (pc := 32) (v := (nI (1))) S_ d_Md_tell_32 (by decide) ?_
    refine wk_icmp_neN (pc := 33) (tgt := 46) S_ d_Md_tell_33 (by decide) (by omega) (by omega) (fun h33 => ?_) (fun h33 => absurd h33 (by decide))
    refine wk_iload_n (pc := 46) S_ 1 d_Md_tell_46 rfl rfl ?_
    refine wk_iconst (pc := 47) (v := (nI (2))) S_ d_Md_tell_47 (by decide) ?_
    refine wk_icmp_neN (pc := 48) (tgt := 61) S_ d_Md_tell_48 (by decide) (by omega) (by omega) (fun h48 => ?_) (fun h48 => absurd h48 (by decide))
    refine wk_iload_n (pc := 61) S_ 1 d_Md_tell_61 rfl rfl ?_
    refine wk_iconst (pc := 62) (v := (nI (3))) S_ d_Md_tell_62 (by decide) ?_
    refine wk_icmp_neN (pc := 63) (tgt := 74) S_ d_Md_tell_63 (by decide) (by omega) (by omega) (fun h63 => absurd h63 (by decide)) (fun h63 => ?_)
    refine wk_aload_n (pc := 66) S_ 0 d_Md_tell_66 rfl rfl ?_
    refine wk_iload_n (pc := 67) S_ 2 d_Md_tell_67 rfl rfl ?_
    refine wk_put (pc := 68) (ty := .int) (ws' := (wMd m cI tx sz ap pt rk cd fr mc mg mz nc nt ld qap qpt qrk qcd a qmc qmg qmz qnc qnt qld nb cl gr sp ot na aw nx bg bb ab fd pv bx wy li fm en nu td lf lk)) S_ 6 17 0 in_Md t_Md t_Md_ok n_Md rfl (by decide) rfl fl_Md_134 (by decide +kernel) d_Md_tell_68 rfl rfl rfl (Nat.le_of_ble_eq_true rfl) rfl ?_
    refine wk_goto (pc := 71) (tgt := 218) S_ d_Md_tell_71 (by decide) ?_
    exact hQ_ (qap, qpt, qrk, qcd, a, qmc, qmg, qmz, qnc, qnt, qld) d_Md_tell_218 rfl rfl
  · -- 4
    obtain ⟨a, rfl⟩ : ∃ a, a1 = a + 1 := ⟨a1 - 1, by omega⟩
    obtain ⟨b, rfl⟩ : ∃ b, b1 = b + 1 := ⟨b1 - 1, by omega⟩
    obtain ⟨c, rfl⟩ : ∃ c, c1 = c + 1 := ⟨c1 - 1, by omega⟩
    have hA' : a ≤ 8 := hA
    have hB' : b ≤ 999999 := by rcases hB with z | z; exact absurd z (by decide); exact z
    have hC' : c ≤ 9 := by rcases hC with z | z; exact absurd z (by decide); exact z
    rw [zI_s a, zI_s b, zI_s c]
    refine wk_iload_n (pc := 0) S_ 1 d_Md_tell_0 rfl rfl ?_
    refine wk_if_neN (pc := 1) (tgt := 31) S_ d_Md_tell_1 (by decide) (by omega) (fun h1 => ?_) (fun h1 => absurd h1 (by decide))
    refine wk_iload_n (pc := 31) S_ 1 d_Md_tell_31 rfl rfl ?_
    refine wk_iconst (pc := 32) (v := (nI (1))) S_ d_Md_tell_32 (by decide) ?_
    refine wk_icmp_neN (pc := 33) (tgt := 46) S_ d_Md_tell_33 (by decide) (by omega) (by omega) (fun h33 => ?_) (fun h33 => absurd h33 (by decide))
    refine wk_iload_n (pc := 46) S_ 1 d_Md_tell_46 rfl rfl ?_
    refine wk_iconst (pc := 47) (v := (nI (2))) S_ d_Md_tell_47 (by decide) ?_
    refine wk_icmp_neN (pc := 48) (tgt := 61) S_ d_Md_tell_48 (by decide) (by omega) (by omega) (fun h48 => ?_) (fun h48 => absurd h48 (by decide))
    refine wk_iload_n (pc := 61) S_ 1 d_Md_tell_61 rfl rfl ?_
    refine wk_iconst (pc := 62) (v := (nI (3))) S_ d_Md_tell_62 (by decide) ?_
    refine wk_icmp_neN (pc := 63) (tgt := 74) S_ d_Md_tell_63 (by decide) (by omega) (by omega) (fun h63 => ?_) (fun h63 => absurd h63 (by decide))
    refine wk_iload_n (pc := 74) S_ 1 d_Md_tell_74 rfl rfl ?_
    refine wk_iconst (pc := 75) (v := (nI (4))) S_ d_Md_tell_75 (by decide) ?_
    refine wk_icmp_neN (pc := 76) (tgt := 142) S_ d_Md_tell_76 (by decide) (by omega) (by omega) (fun h76 => absurd h76 (by decide)) (fun h76 => ?_)
    refine wk_aload_n (pc := 79) S_ 0 d_Md_tell_79 rfl rfl ?_
    refine wk_iload_n (pc := 80) S_ 2 d_Md_tell_80 rfl rfl ?_
    refine wk_iload_n (pc := 81) S_ 3 d_Md_tell_81 rfl rfl ?_
    refine wk_run (pc := 82) (rest := []) (wr := []) (wN := fun _ => (wMd m cI tx sz ap pt rk cd fr mc mg mz nc nt ld qap qpt qrk qcd qfr qmc qmg qmz qnc qnt qld nb cl gr sp ot na aw nx bg bb ab fd pv bx wy li fm en nu td lf lk)) S_ (wk_rV S_ (c_Md_markOf l D cI z (m) (tx) (sz) (ap) (pt) (rk) (cd) (fr) (mc) (mg) (mz) (nc) (nt) (ld) (qap) (qpt) (qrk) (qcd) (qfr) (qmc) (qmg) (qmz) (qnc) (qnt) (qld) (nb) (cl) (gr) (sp) (ot) (na) (aw) (nx) (bg) (bb) (ab) (fd) (pv) (bx) (wy) (li) (fm) (en) (nu) (td) (lf) (lk) (a) (b) (by omega) (by omega) hmc hmg) mv_Md_175 (wk_rcv S_ 0 6 rfl rfl rfl) rfl rfl (Nat.le_of_ble_eq_true rfl) (by rw [hR_]; decide) (by rw [hR_]; decide) d_Md_tell_82) [0, 1, 2, 3, 4, 5, 6, 7, 8, 9, 10, 11, 12, 13, 14, 15, 16, 17, 18, 19, 20, 21, 22, 23, 24, 25, 26, 27, 28, 29, 30, 31, 32, 33] [] [0, 1, 2, 3, 4, 5, 6, 7, 8, 9, 10, 11, 12, 13, 14, 15, 16, 17, 18, 19, 20, 21, 22, 23, 24, 25, 26, 27, 28, 29, 30, 31, 32, 33] rfl rfl rfl (by decide) (by decide) (by decide) (by decide) (fun _ => rfl) (fun _ => rfl) (fun r82 _ hw82 => ?_)
    refine wk_st (st' := [.int (r82)]) rfl ?_
    refine wk_top (y := (nI (mpS (qmg) (a) (b) ((qmc) (a)) 0))) hw82 ?_
    have hmf' : mpS qmg a b (qmc a) 0 < 6 := hmf rfl
    refine wk_istore (pc := 85) (lv' := [(5, .int (nI (mpS (qmg) (a) (b) ((qmc) (a)) 0))), (0, .ref (m 0)), (1, .int (nI (4))), (2, .int (nI (a))), (3, .int (nI (b))), (4, .int (nI (c)))]) S_ d_Md_tell_85 (by decide) rfl ?_
    refine wk_aload_n (pc := 87) S_ 1 d_Md_tell_87 rfl rfl ?_
    refine wk_get (pc := 88) (v := .ref (m 17)) S_ 6 19 0 in_Md rfl (by decide) rfl fl_Md_59 d_Md_tell_88 rfl rfl ?_
    refine wk_bipush (pc := 91) (v := (nI (6))) S_ d_Md_tell_91 (by decide) ?_
    refine wk_iload_n (pc := 93) S_ 3 d_Md_tell_93 rfl rfl ?_
    refine wk_imulN (pc := 94) S_ d_Md_tell_94 ?_
    refine wk_iload (pc := 95) S_ 0 d_Md_tell_95 rfl ?_
    refine wk_iaddN (pc := 97) S_ d_Md_tell_97 ?_
    refine wk_iload_n (pc := 98) S_ 4 d_Md_tell_98 rfl rfl ?_
    refine wk_iastN (pc := 99) (g := qmg) (ws' := (wMd m cI tx sz ap pt rk cd fr mc mg mz nc nt ld qap qpt qrk qcd qfr qmc (va_up (qmg) (((6) * (a)) + (mpS (qmg) (a) (b) ((qmc) (a)) 0)) (b)) qmz qnc qnt qld nb cl gr sp ot na aw nx bg bb ab fd pv bx wy li fm en nu td lf lk)) S_ 17 0 d_Md_tell_99 rfl rfl (by omega) (by decide) rfl ?_
    refine wk_aload_n (pc := 100) S_ 1 d_Md_tell_100 rfl rfl ?_
    refine wk_get (pc := 101) (v := .ref (m 18)) S_ 6 20 0 in_Md rfl (by decide) rfl fl_Md_62 d_Md_tell_101 rfl rfl ?_
    refine wk_bipush (pc := 104) (v := (nI (6))) S_ d_Md_tell_104 (by decide) ?_
    refine wk_iload_n (pc := 106) S_ 3 d_Md_tell_106 rfl rfl ?_
    refine wk_imulN (pc := 107) S_ d_Md_tell_107 ?_
    refine wk_iload (pc := 108) S_ 0 d_Md_tell_108 rfl ?_
    refine wk_iaddN (pc := 110) S_ d_Md_tell_110 ?_
    refine wk_iload (pc := 111) S_ 5 d_Md_tell_111 rfl ?_
    refine wk_iastN (pc := 113) (g := qmz) (ws' := (wMd m cI tx sz ap pt rk cd fr mc mg mz nc nt ld qap qpt qrk qcd qfr qmc (va_up (qmg) (((6) * (a)) + (mpS (qmg) (a) (b) ((qmc) (a)) 0)) (b)) (va_up (qmz) (((6) * (a)) + (mpS (qmg) (a) (b) ((qmc) (a)) 0)) (c)) qnc qnt qld nb cl gr sp ot na aw nx bg bb ab fd pv bx wy li fm en nu td lf lk)) S_ 18 0 d_Md_tell_113 rfl rfl (by omega) (by decide) rfl ?_
    refine wk_aload_n (pc := 114) S_ 1 d_Md_tell_114 rfl rfl ?_
    refine wk_get (pc := 115) (v := .ref (m 16)) S_ 6 18 0 in_Md rfl (by decide) rfl fl_Md_56 d_Md_tell_115 rfl rfl ?_
    refine wk_iload_n (pc := 118) S_ 3 d_Md_tell_118 rfl rfl ?_
    refine wk_dup2 (pc := 119) S_ d_Md_tell_119 rfl rfl ?_
    refine wk_ialdN (pc := 120) (g := qmc) S_ 16 0 d_Md_tell_120 rfl rfl (by omega) (by decide) ?_
    refine wk_iload (pc := 121) S_ 0 d_Md_tell_121 rfl ?_
    refine wk_aload_n (pc := 123) S_ 1 d_Md_tell_123 rfl rfl ?_
    refine wk_get (pc := 124) (v := .ref (m 16)) S_ 6 18 0 in_Md rfl (by decide) rfl fl_Md_56 d_Md_tell_124 rfl rfl ?_
    refine wk_iload_n (pc := 127) S_ 3 d_Md_tell_127 rfl rfl ?_
    refine wk_ialdN (pc := 128) (g := qmc) S_ 16 0 d_Md_tell_128 rfl rfl (by omega) (by decide) ?_
    have hm1 := hmc a
    refine wk_icmp_neN (pc := 129) (tgt := 136) S_ d_Md_tell_129 (by decide) (by omega) (by omega) (fun h129 => ?_) (fun h129 => ?_)
    · -- taken
      refine wk_iconst (pc := 136) (v := (nI (0))) S_ d_Md_tell_136 (by decide) ?_
      refine wk_iaddN (pc := 137) S_ d_Md_tell_137 ?_
      refine wk_iastN (pc := 138) (g := qmc) (ws' := (wMd m cI tx sz ap pt rk cd fr mc mg mz nc nt ld qap qpt qrk qcd qfr (va_up (qmc) (a) (((qmc) (a)) + (0))) (va_up (qmg) (((6) * (a)) + (mpS (qmg) (a) (b) ((qmc) (a)) 0)) (b)) (va_up (qmz) (((6) * (a)) + (mpS (qmg) (a) (b) ((qmc) (a)) 0)) (c)) qnc qnt qld nb cl gr sp ot na aw nx bg bb ab fd pv bx wy li fm en nu td lf lk)) S_ 16 0 d_Md_tell_138 rfl rfl (by omega) (by decide) rfl ?_
      refine wk_goto (pc := 139) (tgt := 218) S_ d_Md_tell_139 (by decide) ?_
      exact hQ_ (qap, qpt, qrk, qcd, qfr, va_up (qmc) (a) (((qmc) (a)) + (0)), va_up (qmg) (((6) * (a)) + (mpS (qmg) (a) (b) ((qmc) (a)) 0)) (b), va_up (qmz) (((6) * (a)) + (mpS (qmg) (a) (b) ((qmc) (a)) 0)) (c), qnc, qnt, qld) d_Md_tell_218 rfl (show _ = tellS 4 a b c _ from by rw [tellS4, if_neg h129])
    · -- on
      refine wk_iconst (pc := 132) (v := (nI (1))) S_ d_Md_tell_132 (by decide) ?_
      refine wk_goto (pc := 133) (tgt := 137) S_ d_Md_tell_133 (by decide) ?_
      refine wk_iaddN (pc := 137) S_ d_Md_tell_137 ?_
      refine wk_iastN (pc := 138) (g := qmc) (ws' := (wMd m cI tx sz ap pt rk cd fr mc mg mz nc nt ld qap qpt qrk qcd qfr (va_up (qmc) (a) (((qmc) (a)) + (1))) (va_up (qmg) (((6) * (a)) + (mpS (qmg) (a) (b) ((qmc) (a)) 0)) (b)) (va_up (qmz) (((6) * (a)) + (mpS (qmg) (a) (b) ((qmc) (a)) 0)) (c)) qnc qnt qld nb cl gr sp ot na aw nx bg bb ab fd pv bx wy li fm en nu td lf lk)) S_ 16 0 d_Md_tell_138 rfl rfl (by omega) (by decide) rfl ?_
      refine wk_goto (pc := 139) (tgt := 218) S_ d_Md_tell_139 (by decide) ?_
      exact hQ_ (qap, qpt, qrk, qcd, qfr, va_up (qmc) (a) (((qmc) (a)) + (1)), va_up (qmg) (((6) * (a)) + (mpS (qmg) (a) (b) ((qmc) (a)) 0)) (b), va_up (qmz) (((6) * (a)) + (mpS (qmg) (a) (b) ((qmc) (a)) 0)) (c), qnc, qnt, qld) d_Md_tell_218 rfl (show _ = tellS 4 a b c _ from by rw [tellS4, if_pos h129])
  · -- 5
    obtain ⟨a, rfl⟩ : ∃ a, a1 = a + 1 := ⟨a1 - 1, by omega⟩
    obtain ⟨b, rfl⟩ : ∃ b, b1 = b + 1 := ⟨b1 - 1, by omega⟩
    have hA' : a ≤ 8 := hA
    have hB' : b ≤ 5 := by rcases hB with z | z; exact absurd z (by decide); exact z
    rw [zI_s a, zI_s b]
    refine wk_iload_n (pc := 0) S_ 1 d_Md_tell_0 rfl rfl ?_
    refine wk_if_neN (pc := 1) (tgt := 31) S_ d_Md_tell_1 (by decide) (by omega) (fun h1 => ?_) (fun h1 => absurd h1 (by decide))
    refine wk_iload_n (pc := 31) S_ 1 d_Md_tell_31 rfl rfl ?_
    refine wk_iconst (pc := 32) (v := (nI (1))) S_ d_Md_tell_32 (by decide) ?_
    refine wk_icmp_neN (pc := 33) (tgt := 46) S_ d_Md_tell_33 (by decide) (by omega) (by omega) (fun h33 => ?_) (fun h33 => absurd h33 (by decide))
    refine wk_iload_n (pc := 46) S_ 1 d_Md_tell_46 rfl rfl ?_
    refine wk_iconst (pc := 47) (v := (nI (2))) S_ d_Md_tell_47 (by decide) ?_
    refine wk_icmp_neN (pc := 48) (tgt := 61) S_ d_Md_tell_48 (by decide) (by omega) (by omega) (fun h48 => ?_) (fun h48 => absurd h48 (by decide))
    refine wk_iload_n (pc := 61) S_ 1 d_Md_tell_61 rfl rfl ?_
    refine wk_iconst (pc := 62) (v := (nI (3))) S_ d_Md_tell_62 (by decide) ?_
    refine wk_icmp_neN (pc := 63) (tgt := 74) S_ d_Md_tell_63 (by decide) (by omega) (by omega) (fun h63 => ?_) (fun h63 => absurd h63 (by decide))
    refine wk_iload_n (pc := 74) S_ 1 d_Md_tell_74 rfl rfl ?_
    refine wk_iconst (pc := 75) (v := (nI (4))) S_ d_Md_tell_75 (by decide) ?_
    refine wk_icmp_neN (pc := 76) (tgt := 142) S_ d_Md_tell_76 (by decide) (by omega) (by omega) (fun h76 => ?_) (fun h76 => absurd h76 (by decide))
    refine wk_iload_n (pc := 142) S_ 1 d_Md_tell_142 rfl rfl ?_
    refine wk_iconst (pc := 143) (v := (nI (5))) S_ d_Md_tell_143 (by decide) ?_
    refine wk_icmp_neN (pc := 144) (tgt := 157) S_ d_Md_tell_144 (by decide) (by omega) (by omega) (fun h144 => absurd h144 (by decide)) (fun h144 => ?_)
    refine wk_aload_n (pc := 147) S_ 0 d_Md_tell_147 rfl rfl ?_
    refine wk_get (pc := 148) (v := .ref (m 15)) S_ 6 16 0 in_Md rfl (by decide) rfl fl_Md_53 d_Md_tell_148 rfl rfl ?_
    refine wk_iload_n (pc := 151) S_ 2 d_Md_tell_151 rfl rfl ?_
    refine wk_iload_n (pc := 152) S_ 3 d_Md_tell_152 rfl rfl ?_
    refine wk_iastN (pc := 153) (g := qcd) (ws' := (wMd m cI tx sz ap pt rk cd fr mc mg mz nc nt ld qap qpt qrk (va_up (qcd) (a) (b)) qfr qmc qmg qmz qnc qnt qld nb cl gr sp ot na aw nx bg bb ab fd pv bx wy li fm en nu td lf lk)) S_ 15 0 d_Md_tell_153 rfl rfl (by omega) (by decide) rfl ?_
    refine wk_goto (pc := 154) (tgt := 218) S_ d_Md_tell_154 (by decide) ?_
    exact hQ_ (qap, qpt, qrk, va_up (qcd) (a) (b), qfr, qmc, qmg, qmz, qnc, qnt, qld) d_Md_tell_218 rfl rfl
  · -- 6
    obtain ⟨a, rfl⟩ : ∃ a, a1 = a + 1 := ⟨a1 - 1, by omega⟩
    obtain ⟨b, rfl⟩ : ∃ b, b1 = b + 1 := ⟨b1 - 1, by omega⟩
    have hA' : a ≤ 3 := hA
    have hB' : b ≤ 999999 := by rcases hB with z | z; exact absurd z (by decide); exact z
    rw [zI_s a, zI_s b]
    refine wk_iload_n (pc := 0) S_ 1 d_Md_tell_0 rfl rfl ?_
    refine wk_if_neN (pc := 1) (tgt := 31) S_ d_Md_tell_1 (by decide) (by omega) (fun h1 => ?_) (fun h1 => absurd h1 (by decide))
    refine wk_iload_n (pc := 31) S_ 1 d_Md_tell_31 rfl rfl ?_
    refine wk_iconst (pc := 32) (v := (nI (1))) S_ d_Md_tell_32 (by decide) ?_
    refine wk_icmp_neN (pc := 33) (tgt := 46) S_ d_Md_tell_33 (by decide) (by omega) (by omega) (fun h33 => ?_) (fun h33 => absurd h33 (by decide))
    refine wk_iload_n (pc := 46) S_ 1 d_Md_tell_46 rfl rfl ?_
    refine wk_iconst (pc := 47) (v := (nI (2))) S_ d_Md_tell_47 (by decide) ?_
    refine wk_icmp_neN (pc := 48) (tgt := 61) S_ d_Md_tell_48 (by decide) (by omega) (by omega) (fun h48 => ?_) (fun h48 => absurd h48 (by decide))
    refine wk_iload_n (pc := 61) S_ 1 d_Md_tell_61 rfl rfl ?_
    refine wk_iconst (pc := 62) (v := (nI (3))) S_ d_Md_tell_62 (by decide) ?_
    refine wk_icmp_neN (pc := 63) (tgt := 74) S_ d_Md_tell_63 (by decide) (by omega) (by omega) (fun h63 => ?_) (fun h63 => absurd h63 (by decide))
    refine wk_iload_n (pc := 74) S_ 1 d_Md_tell_74 rfl rfl ?_
    refine wk_iconst (pc := 75) (v := (nI (4))) S_ d_Md_tell_75 (by decide) ?_
    refine wk_icmp_neN (pc := 76) (tgt := 142) S_ d_Md_tell_76 (by decide) (by omega) (by omega) (fun h76 => ?_) (fun h76 => absurd h76 (by decide))
    refine wk_iload_n (pc := 142) S_ 1 d_Md_tell_142 rfl rfl ?_
    refine wk_iconst (pc := 143) (v := (nI (5))) S_ d_Md_tell_143 (by decide) ?_
    refine wk_icmp_neN (pc := 144) (tgt := 157) S_ d_Md_tell_144 (by decide) (by omega) (by omega) (fun h144 => ?_) (fun h144 => absurd h144 (by decide))
    refine wk_iload_n (pc := 157) S_ 1 d_Md_tell_157 rfl rfl ?_
    refine wk_bipush (pc := 158) (v := (nI (6))) S_ d_Md_tell_158 (by decide) ?_
    refine wk_icmp_neN (pc := 160) (tgt := 193) S_ d_Md_tell_160 (by decide) (by omega) (by omega) (fun h160 => absurd h160 (by decide)) (fun h160 => ?_)
    refine wk_aload_n (pc := 163) S_ 0 d_Md_tell_163 rfl rfl ?_
    refine wk_get (pc := 164) (v := .ref (m 20)) S_ 6 22 0 in_Md rfl (by decide) rfl fl_Md_68 d_Md_tell_164 rfl rfl ?_
    refine wk_bipush (pc := 167) (v := (nI (8))) S_ d_Md_tell_167 (by decide) ?_
    refine wk_iload_n (pc := 169) S_ 2 d_Md_tell_169 rfl rfl ?_
    refine wk_imulN (pc := 170) S_ d_Md_tell_170 ?_
    refine wk_aload_n (pc := 171) S_ 0 d_Md_tell_171 rfl rfl ?_
    refine wk_get (pc := 172) (v := .ref (m 19)) S_ 6 21 0 in_Md rfl (by decide) rfl fl_Md_65 d_Md_tell_172 rfl rfl ?_
    refine wk_iload_n (pc := 175) S_ 2 d_Md_tell_175 rfl rfl ?_
    have hnf' : qnc a < 8 := hnf rfl
    refine wk_ialdN (pc := 176) (g := qnc) S_ 19 0 d_Md_tell_176 rfl rfl (by omega) (by decide) ?_
    refine wk_iaddN (pc := 177) S_ d_Md_tell_177 ?_
    refine wk_iload_n (pc := 178) S_ 3 d_Md_tell_178 rfl rfl ?_
    refine wk_iastN (pc := 179) (g := qnt) (ws' := (wMd m cI tx sz ap pt rk cd fr mc mg mz nc nt ld qap qpt qrk qcd qfr qmc qmg qmz qnc (va_up (qnt) (((8) * (a)) + ((qnc) (a))) (b)) qld nb cl gr sp ot na aw nx bg bb ab fd pv bx wy li fm en nu td lf lk)) S_ 20 0 d_Md_tell_179 rfl rfl (by omega) (by decide) rfl ?_
    refine wk_aload_n (pc := 180) S_ 0 d_Md_tell_180 rfl rfl ?_
    refine wk_get (pc := 181) (v := .ref (m 19)) S_ 6 21 0 in_Md rfl (by decide) rfl fl_Md_65 d_Md_tell_181 rfl rfl ?_
    refine wk_iload_n (pc := 184) S_ 2 d_Md_tell_184 rfl rfl ?_
    refine wk_dup2 (pc := 185) S_ d_Md_tell_185 rfl rfl ?_
    refine wk_ialdN (pc := 186) (g := qnc) S_ 19 0 d_Md_tell_186 rfl rfl (by omega) (by decide) ?_
    refine wk_iconst (pc := 187) (v := (nI (1))) S_ d_Md_tell_187 (by decide) ?_
    refine wk_iaddN (pc := 188) S_ d_Md_tell_188 ?_
    refine wk_iastN (pc := 189) (g := qnc) (ws' := (wMd m cI tx sz ap pt rk cd fr mc mg mz nc nt ld qap qpt qrk qcd qfr qmc qmg qmz (va_up (qnc) (a) (((qnc) (a)) + (1))) (va_up (qnt) (((8) * (a)) + ((qnc) (a))) (b)) qld nb cl gr sp ot na aw nx bg bb ab fd pv bx wy li fm en nu td lf lk)) S_ 19 0 d_Md_tell_189 rfl rfl (by omega) (by decide) rfl ?_
    refine wk_goto (pc := 190) (tgt := 218) S_ d_Md_tell_190 (by decide) ?_
    exact hQ_ (qap, qpt, qrk, qcd, qfr, qmc, qmg, qmz, va_up (qnc) (a) (((qnc) (a)) + (1)), va_up (qnt) (((8) * (a)) + ((qnc) (a))) (b), qld) d_Md_tell_218 rfl rfl
  · -- 7
    obtain ⟨a, rfl⟩ : ∃ a, a1 = a + 1 := ⟨a1 - 1, by omega⟩
    obtain ⟨b, rfl⟩ : ∃ b, b1 = b + 1 := ⟨b1 - 1, by omega⟩
    obtain ⟨c, rfl⟩ : ∃ c, c1 = c + 1 := ⟨c1 - 1, by omega⟩
    have hA' : a ≤ 9 := hA
    have hB' : b ≤ 3 := by rcases hB with z | z; exact absurd z (by decide); exact z
    have hC' : c ≤ 9 := by rcases hC with z | z; exact absurd z (by decide); exact z
    rw [zI_s a, zI_s b, zI_s c]
    refine wk_iload_n (pc := 0) S_ 1 d_Md_tell_0 rfl rfl ?_
    refine wk_if_neN (pc := 1) (tgt := 31) S_ d_Md_tell_1 (by decide) (by omega) (fun h1 => ?_) (fun h1 => absurd h1 (by decide))
    refine wk_iload_n (pc := 31) S_ 1 d_Md_tell_31 rfl rfl ?_
    refine wk_iconst (pc := 32) (v := (nI (1))) S_ d_Md_tell_32 (by decide) ?_
    refine wk_icmp_neN (pc := 33) (tgt := 46) S_ d_Md_tell_33 (by decide) (by omega) (by omega) (fun h33 => ?_) (fun h33 => absurd h33 (by decide))
    refine wk_iload_n (pc := 46) S_ 1 d_Md_tell_46 rfl rfl ?_
    refine wk_iconst (pc := 47) (v := (nI (2))) S_ d_Md_tell_47 (by decide) ?_
    refine wk_icmp_neN (pc := 48) (tgt := 61) S_ d_Md_tell_48 (by decide) (by omega) (by omega) (fun h48 => ?_) (fun h48 => absurd h48 (by decide))
    refine wk_iload_n (pc := 61) S_ 1 d_Md_tell_61 rfl rfl ?_
    refine wk_iconst (pc := 62) (v := (nI (3))) S_ d_Md_tell_62 (by decide) ?_
    refine wk_icmp_neN (pc := 63) (tgt := 74) S_ d_Md_tell_63 (by decide) (by omega) (by omega) (fun h63 => ?_) (fun h63 => absurd h63 (by decide))
    refine wk_iload_n (pc := 74) S_ 1 d_Md_tell_74 rfl rfl ?_
    refine wk_iconst (pc := 75) (v := (nI (4))) S_ d_Md_tell_75 (by decide) ?_
    refine wk_icmp_neN (pc := 76) (tgt := 142) S_ d_Md_tell_76 (by decide) (by omega) (by omega) (fun h76 => ?_) (fun h76 => absurd h76 (by decide))
    refine wk_iload_n (pc := 142) S_ 1 d_Md_tell_142 rfl rfl ?_
    refine wk_iconst (pc := 143) (v := (nI (5))) S_ d_Md_tell_143 (by decide) ?_
    refine wk_icmp_neN (pc := 144) (tgt := 157) S_ d_Md_tell_144 (by decide) (by omega) (by omega) (fun h144 => ?_) (fun h144 => absurd h144 (by decide))
    refine wk_iload_n (pc := 157) S_ 1 d_Md_tell_157 rfl rfl ?_
    refine wk_bipush (pc := 158) (v := (nI (6))) S_ d_Md_tell_158 (by decide) ?_
    refine wk_icmp_neN (pc := 160) (tgt := 193) S_ d_Md_tell_160 (by decide) (by omega) (by omega) (fun h160 => ?_) (fun h160 => absurd h160 (by decide))
    refine wk_aload_n (pc := 193) S_ 0 d_Md_tell_193 rfl rfl ?_
    refine wk_get (pc := 194) (v := .ref (m 21)) S_ 6 23 0 in_Md rfl (by decide) rfl fl_Md_71 d_Md_tell_194 rfl rfl ?_
    refine wk_iconst (pc := 197) (v := (nI (4))) S_ d_Md_tell_197 (by decide) ?_
    refine wk_iload_n (pc := 198) S_ 2 d_Md_tell_198 rfl rfl ?_
    refine wk_imulN (pc := 199) S_ d_Md_tell_199 ?_
    refine wk_iload_n (pc := 200) S_ 3 d_Md_tell_200 rfl rfl ?_
    refine wk_iaddN (pc := 201) S_ d_Md_tell_201 ?_
    refine wk_iload_n (pc := 202) S_ 1 d_Md_tell_202 rfl rfl ?_
    refine wk_bipush (pc := 203) (v := (nI (7))) S_ d_Md_tell_203 (by decide) ?_
    refine wk_icmp_neN (pc := 205) (tgt := 213) S_ d_Md_tell_205 (by decide) (by omega) (by omega) (fun h205 => absurd h205 (by decide)) (fun h205 => ?_)
    refine wk_iload (pc := 208) S_ 4 d_Md_tell_208 rfl ?_
    refine wk_goto (pc := 210) (tgt := 217) S_ d_Md_tell_210 (by decide) ?_
    refine wk_top (y := (lI (c + 1))) (by rw [lI_st (by omega) (by omega)]; rfl) ?_
    refine wk_iastD (pc := 217) (g := qld) (ws' := (wMd m cI tx sz ap pt rk cd fr mc mg mz nc nt ld qap qpt qrk qcd qfr qmc qmg qmz qnc qnt (va_up (qld) (((4) * (a)) + (b)) (c + 1)) nb cl gr sp ot na aw nx bg bb ab fd pv bx wy li fm en nu td lf lk)) S_ 21 0 d_Md_tell_217 rfl rfl (by omega) (by decide) rfl ?_
    exact hQ_ (qap, qpt, qrk, qcd, qfr, qmc, qmg, qmz, qnc, qnt, va_up (qld) (((4) * (a)) + (b)) (c + 1)) d_Md_tell_218 rfl rfl
  · -- 8
    obtain ⟨a, rfl⟩ : ∃ a, a1 = a + 1 := ⟨a1 - 1, by omega⟩
    obtain ⟨b, rfl⟩ : ∃ b, b1 = b + 1 := ⟨b1 - 1, by omega⟩
    obtain ⟨c, rfl⟩ : ∃ c, c1 = c + 1 := ⟨c1 - 1, by omega⟩
    have hA' : a ≤ 9 := hA
    have hB' : b ≤ 3 := by rcases hB with z | z; exact absurd z (by decide); exact z
    have hC' : c ≤ 8 := by rcases hC with z | z; exact absurd z (by decide); exact z
    rw [zI_s a, zI_s b, zI_s c]
    refine wk_iload_n (pc := 0) S_ 1 d_Md_tell_0 rfl rfl ?_
    refine wk_if_neN (pc := 1) (tgt := 31) S_ d_Md_tell_1 (by decide) (by omega) (fun h1 => ?_) (fun h1 => absurd h1 (by decide))
    refine wk_iload_n (pc := 31) S_ 1 d_Md_tell_31 rfl rfl ?_
    refine wk_iconst (pc := 32) (v := (nI (1))) S_ d_Md_tell_32 (by decide) ?_
    refine wk_icmp_neN (pc := 33) (tgt := 46) S_ d_Md_tell_33 (by decide) (by omega) (by omega) (fun h33 => ?_) (fun h33 => absurd h33 (by decide))
    refine wk_iload_n (pc := 46) S_ 1 d_Md_tell_46 rfl rfl ?_
    refine wk_iconst (pc := 47) (v := (nI (2))) S_ d_Md_tell_47 (by decide) ?_
    refine wk_icmp_neN (pc := 48) (tgt := 61) S_ d_Md_tell_48 (by decide) (by omega) (by omega) (fun h48 => ?_) (fun h48 => absurd h48 (by decide))
    refine wk_iload_n (pc := 61) S_ 1 d_Md_tell_61 rfl rfl ?_
    refine wk_iconst (pc := 62) (v := (nI (3))) S_ d_Md_tell_62 (by decide) ?_
    refine wk_icmp_neN (pc := 63) (tgt := 74) S_ d_Md_tell_63 (by decide) (by omega) (by omega) (fun h63 => ?_) (fun h63 => absurd h63 (by decide))
    refine wk_iload_n (pc := 74) S_ 1 d_Md_tell_74 rfl rfl ?_
    refine wk_iconst (pc := 75) (v := (nI (4))) S_ d_Md_tell_75 (by decide) ?_
    refine wk_icmp_neN (pc := 76) (tgt := 142) S_ d_Md_tell_76 (by decide) (by omega) (by omega) (fun h76 => ?_) (fun h76 => absurd h76 (by decide))
    refine wk_iload_n (pc := 142) S_ 1 d_Md_tell_142 rfl rfl ?_
    refine wk_iconst (pc := 143) (v := (nI (5))) S_ d_Md_tell_143 (by decide) ?_
    refine wk_icmp_neN (pc := 144) (tgt := 157) S_ d_Md_tell_144 (by decide) (by omega) (by omega) (fun h144 => ?_) (fun h144 => absurd h144 (by decide))
    refine wk_iload_n (pc := 157) S_ 1 d_Md_tell_157 rfl rfl ?_
    refine wk_bipush (pc := 158) (v := (nI (6))) S_ d_Md_tell_158 (by decide) ?_
    refine wk_icmp_neN (pc := 160) (tgt := 193) S_ d_Md_tell_160 (by decide) (by omega) (by omega) (fun h160 => ?_) (fun h160 => absurd h160 (by decide))
    refine wk_aload_n (pc := 193) S_ 0 d_Md_tell_193 rfl rfl ?_
    refine wk_get (pc := 194) (v := .ref (m 21)) S_ 6 23 0 in_Md rfl (by decide) rfl fl_Md_71 d_Md_tell_194 rfl rfl ?_
    refine wk_iconst (pc := 197) (v := (nI (4))) S_ d_Md_tell_197 (by decide) ?_
    refine wk_iload_n (pc := 198) S_ 2 d_Md_tell_198 rfl rfl ?_
    refine wk_imulN (pc := 199) S_ d_Md_tell_199 ?_
    refine wk_iload_n (pc := 200) S_ 3 d_Md_tell_200 rfl rfl ?_
    refine wk_iaddN (pc := 201) S_ d_Md_tell_201 ?_
    refine wk_iload_n (pc := 202) S_ 1 d_Md_tell_202 rfl rfl ?_
    refine wk_bipush (pc := 203) (v := (nI (7))) S_ d_Md_tell_203 (by decide) ?_
    refine wk_icmp_neN (pc := 205) (tgt := 213) S_ d_Md_tell_205 (by decide) (by omega) (by omega) (fun h205 => ?_) (fun h205 => absurd h205 (by decide))
    refine wk_iconst (pc := 213) (v := (-1)) S_ d_Md_tell_213 (by decide) ?_
    refine wk_iload (pc := 214) S_ 4 d_Md_tell_214 rfl ?_
    refine wk_isub (pc := 216) S_ d_Md_tell_216 ?_
    refine wk_top (y := (lI (c + 11))) (by rw [lI, if_neg (by omega), if_neg (by omega)]; rfl) ?_
    refine wk_iastD (pc := 217) (g := qld) (ws' := (wMd m cI tx sz ap pt rk cd fr mc mg mz nc nt ld qap qpt qrk qcd qfr qmc qmg qmz qnc qnt (va_up (qld) (((4) * (a)) + (b)) (c + 11)) nb cl gr sp ot na aw nx bg bb ab fd pv bx wy li fm en nu td lf lk)) S_ 21 0 d_Md_tell_217 rfl rfl (by omega) (by decide) rfl ?_
    exact hQ_ (qap, qpt, qrk, qcd, qfr, qmc, qmg, qmz, qnc, qnt, va_up (qld) (((4) * (a)) + (b)) (c + 11)) d_Md_tell_218 rfl rfl
