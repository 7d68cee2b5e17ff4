/-- how many of the first n are x; their grams -/
def cnN (gv : Nat → Nat) (x : Nat) : Nat → Nat
  | 0 => 0
  | n + 1 => cnN gv x n + (if gv n = x then 1 else 0)
def smN (gr gv : Nat → Nat) (x : Nat) : Nat → Nat
  | 0 => 0
  | n + 1 => smN gr gv x n + (if gv n = x then gr n else 0)
theorem cnN_le {gv : Nat → Nat} {x : Nat} : ∀ n, cnN gv x n ≤ n
  | 0 => Nat.le_refl _
  | n + 1 => by
    have h := cnN_le (gv := gv) (x := x) n
    rw [cnN]
    split <;> omega
theorem smN_le {gr gv : Nat → Nat} {x : Nat} (hg : ∀ b, gr b ≤ 100000) : ∀ n, smN gr gv x n ≤ 100000 * n
  | 0 => Nat.le_refl _
  | n + 1 => by
    have h := smN_le (gv := gv) (x := x) hg n
    have h2 := hg n
    rw [smN]
    split <;> omega
/-- one box is well filled -/
def bxP (ap : Nat → Bool) (cl gr gv bg bb ab : Nat → Nat) (nb x : Nat) : Prop :=
  (∀ b, b < nb → gv b = x + 1 → ∀ d, d < b → gv d = x + 1 → ap (9 * (cl b - 1) + (cl d - 1)) = false) ∧ cnN gv (x + 1) nb ≤ bb x ∧ (cnN gv (x + 1) nb = 0 ∨ ab x + smN gr gv (x + 1) nb ≤ bg x)
def kpP (ap : Nat → Bool) (cl gr gv bg bb ab : Nat → Nat) (nb nx : Nat) : Prop := ∀ x, x < nx → bxP ap cl gr gv bg bb ab nb x
noncomputable def kpB (ap : Nat → Bool) (cl gr gv bg bb ab : Nat → Nat) (nb nx : Nat) : Bool := @decide (kpP ap cl gr gv bg bb ab nb nx) (Classical.propDecidable _)
theorem kpB_t {ap : Nat → Bool} {cl gr gv bg bb ab : Nat → Nat} {nb nx : Nat} (h : kpP ap cl gr gv bg bb ab nb nx) : kpB ap cl gr gv bg bb ab nb nx = true := @decide_eq_true _ (Classical.propDecidable _) h
theorem kpB_f {ap : Nat → Bool} {cl gr gv bg bb ab : Nat → Nat} {nb nx : Nat} (h : ¬ kpP ap cl gr gv bg bb ab nb nx) : kpB ap cl gr gv bg bb ab nb nx = false := @decide_eq_false _ (Classical.propDecidable _) h
/-- boxes in use: their bits, how many -/
def usS (gv : Nat → Nat) : Nat → Nat × Nat
  | 0 => (0, 0)
  | n + 1 => if gv n ≠ 0 ∧ (usS gv n).1 / 2 ^ (gv n - 1) &&& 1 = 0 then ((usS gv n).1 ||| 2 ^ (gv n - 1), (usS gv n).2 + 1) else usS gv n
theorem usS_le {gv : Nat → Nat} (h : ∀ b, gv b ≤ 5) : ∀ n, (usS gv n).1 < 32 ∧ (usS gv n).2 ≤ n
  | 0 => by simp [usS]
  | n + 1 => by
    have ih := usS_le h n
    have h1 := h n
    rw [usS]
    split
    · refine ⟨?_, by show _ + 1 ≤ _; omega⟩
      show (usS gv n).1 ||| 2 ^ (gv n - 1) < 2 ^ 5
      exact Nat.or_lt_two_pow ih.1 (Nat.pow_lt_pow_right (by decide) (by omega))
    · omega
/-- the next way -/
def trS (li : Nat → Nat) (nx : Nat) : Nat → (Nat → Nat) → (Nat → Nat) × Bool
  | 0, wy => (wy, false)
  | k + 1, wy => if wy (li k) = nx then trS li nx k (va_up wy (li k) 1) else (va_up wy (li k) (wy (li k) + 1), true)
/-- all that are to be packed have a box, and no others -/
def smB (ot : Nat → Bool) (cl bx : Nat → Nat) (fd : Bool) : Nat → Bool
  | 0 => fd
  | n + 1 => smB ot cl bx fd n && decide ((ot n = false ∧ cl n ≠ 0) ↔ bx n ≠ 0)
theorem bI_inj {a b : Bool} (h : bI a = bI b) : a = b := by
  cases a <;> cases b <;> first | rfl | exact absurd h (by decide)
theorem d_Md_keeps_0 : decode b_Md_keeps 0 = .ok (.iconst 0, 1) := by decide +kernel
theorem d_Md_keeps_1 : decode b_Md_keeps 1 = .ok (.istore_n 2, 1) := by decide +kernel
theorem d_Md_keeps_2 : decode b_Md_keeps 2 = .ok (.iload_n 2, 1) := by decide +kernel
theorem d_Md_keeps_3 : decode b_Md_keeps 3 = .ok (.aload_n 0, 1) := by decide +kernel
theorem d_Md_keeps_4 : decode b_Md_keeps 4 = .ok (.getfield 213, 3) := by decide +kernel
theorem d_Md_keeps_7 : decode b_Md_keeps 7 = .ok (.if_icmp .ge 140, 3) := by decide +kernel
theorem d_Md_keeps_10 : decode b_Md_keeps 10 = .ok (.iconst 0, 1) := by decide +kernel
theorem d_Md_keeps_11 : decode b_Md_keeps 11 = .ok (.istore_n 3, 1) := by decide +kernel
theorem d_Md_keeps_12 : decode b_Md_keeps 12 = .ok (.aload_n 0, 1) := by decide +kernel
theorem d_Md_keeps_13 : decode b_Md_keeps 13 = .ok (.getfield 96, 3) := by decide +kernel
theorem d_Md_keeps_16 : decode b_Md_keeps 16 = .ok (.iload_n 2, 1) := by decide +kernel
theorem d_Md_keeps_17 : decode b_Md_keeps 17 = .ok (.laload, 1) := by decide +kernel
theorem d_Md_keeps_18 : decode b_Md_keeps 18 = .ok (.lstore 4, 2) := by decide +kernel
theorem d_Md_keeps_20 : decode b_Md_keeps 20 = .ok (.iconst 0, 1) := by decide +kernel
theorem d_Md_keeps_21 : decode b_Md_keeps 21 = .ok (.istore 6, 2) := by decide +kernel
theorem d_Md_keeps_23 : decode b_Md_keeps 23 = .ok (.iload 6, 2) := by decide +kernel
theorem d_Md_keeps_25 : decode b_Md_keeps 25 = .ok (.aload_n 0, 1) := by decide +kernel
theorem d_Md_keeps_26 : decode b_Md_keeps 26 = .ok (.getfield 117, 3) := by decide +kernel
theorem d_Md_keeps_29 : decode b_Md_keeps 29 = .ok (.if_icmp .ge 84, 3) := by decide +kernel
theorem d_Md_keeps_32 : decode b_Md_keeps 32 = .ok (.aload_n 1, 1) := by decide +kernel
theorem d_Md_keeps_33 : decode b_Md_keeps 33 = .ok (.iload 6, 2) := by decide +kernel
theorem d_Md_keeps_35 : decode b_Md_keeps 35 = .ok (.iaload, 1) := by decide +kernel
theorem d_Md_keeps_36 : decode b_Md_keeps 36 = .ok (.iload_n 2, 1) := by decide +kernel
theorem d_Md_keeps_37 : decode b_Md_keeps 37 = .ok (.if_icmp .ne 70, 3) := by decide +kernel
theorem d_Md_keeps_40 : decode b_Md_keeps 40 = .ok (.iinc 3 1, 3) := by decide +kernel
theorem d_Md_keeps_43 : decode b_Md_keeps 43 = .ok (.lload 4, 2) := by decide +kernel
theorem d_Md_keeps_45 : decode b_Md_keeps 45 = .ok (.aload_n 0, 1) := by decide +kernel
theorem d_Md_keeps_46 : decode b_Md_keeps 46 = .ok (.getfield 77, 3) := by decide +kernel
theorem d_Md_keeps_49 : decode b_Md_keeps 49 = .ok (.iload 6, 2) := by decide +kernel
theorem d_Md_keeps_51 : decode b_Md_keeps 51 = .ok (.laload, 1) := by decide +kernel
theorem d_Md_keeps_52 : decode b_Md_keeps 52 = .ok (.ladd, 1) := by decide +kernel
theorem d_Md_keeps_53 : decode b_Md_keeps 53 = .ok (.lstore 4, 2) := by decide +kernel
theorem d_Md_keeps_55 : decode b_Md_keeps 55 = .ok (.iconst 0, 1) := by decide +kernel
theorem d_Md_keeps_56 : decode b_Md_keeps 56 = .ok (.istore 7, 2) := by decide +kernel
theorem d_Md_keeps_58 : decode b_Md_keeps 58 = .ok (.iload 7, 2) := by decide +kernel
theorem d_Md_keeps_60 : decode b_Md_keeps 60 = .ok (.iload 6, 2) := by decide +kernel
theorem d_Md_keeps_62 : decode b_Md_keeps 62 = .ok (.if_icmp .ge 45, 3) := by decide +kernel
theorem d_Md_keeps_65 : decode b_Md_keeps 65 = .ok (.aload_n 1, 1) := by decide +kernel
theorem d_Md_keeps_66 : decode b_Md_keeps 66 = .ok (.iload 7, 2) := by decide +kernel
theorem d_Md_keeps_68 : decode b_Md_keeps 68 = .ok (.iaload, 1) := by decide +kernel
theorem d_Md_keeps_69 : decode b_Md_keeps 69 = .ok (.iload_n 2, 1) := by decide +kernel
theorem d_Md_keeps_70 : decode b_Md_keeps 70 = .ok (.if_icmp .ne 31, 3) := by decide +kernel
theorem d_Md_keeps_73 : decode b_Md_keeps 73 = .ok (.aload_n 0, 1) := by decide +kernel
theorem d_Md_keeps_74 : decode b_Md_keeps 74 = .ok (.getfield 13, 3) := by decide +kernel
theorem d_Md_keeps_77 : decode b_Md_keeps 77 = .ok (.bipush 9, 2) := by decide +kernel
theorem d_Md_keeps_79 : decode b_Md_keeps 79 = .ok (.aload_n 0, 1) := by decide +kernel
theorem d_Md_keeps_80 : decode b_Md_keeps 80 = .ok (.getfield 74, 3) := by decide +kernel
theorem d_Md_keeps_83 : decode b_Md_keeps 83 = .ok (.iload 6, 2) := by decide +kernel
theorem d_Md_keeps_85 : decode b_Md_keeps 85 = .ok (.iaload, 1) := by decide +kernel
theorem d_Md_keeps_86 : decode b_Md_keeps 86 = .ok (.imul, 1) := by decide +kernel
theorem d_Md_keeps_87 : decode b_Md_keeps 87 = .ok (.aload_n 0, 1) := by decide +kernel
theorem d_Md_keeps_88 : decode b_Md_keeps 88 = .ok (.getfield 74, 3) := by decide +kernel
theorem d_Md_keeps_91 : decode b_Md_keeps 91 = .ok (.iload 7, 2) := by decide +kernel
theorem d_Md_keeps_93 : decode b_Md_keeps 93 = .ok (.iaload, 1) := by decide +kernel
theorem d_Md_keeps_94 : decode b_Md_keeps 94 = .ok (.iadd, 1) := by decide +kernel
theorem d_Md_keeps_95 : decode b_Md_keeps 95 = .ok (.baload, 1) := by decide +kernel
theorem d_Md_keeps_96 : decode b_Md_keeps 96 = .ok (.ifCond .eq 5, 3) := by decide +kernel
theorem d_Md_keeps_99 : decode b_Md_keeps 99 = .ok (.iconst 0, 1) := by decide +kernel
theorem d_Md_keeps_100 : decode b_Md_keeps 100 = .ok (.ireturn, 1) := by decide +kernel
theorem d_Md_keeps_101 : decode b_Md_keeps 101 = .ok (.iinc 7 1, 3) := by decide +kernel
theorem d_Md_keeps_104 : decode b_Md_keeps 104 = .ok (.goto (-46), 3) := by decide +kernel
theorem d_Md_keeps_107 : decode b_Md_keeps 107 = .ok (.iinc 6 1, 3) := by decide +kernel
theorem d_Md_keeps_110 : decode b_Md_keeps 110 = .ok (.goto (-87), 3) := by decide +kernel
theorem d_Md_keeps_113 : decode b_Md_keeps 113 = .ok (.iload_n 3, 1) := by decide +kernel
theorem d_Md_keeps_114 : decode b_Md_keeps 114 = .ok (.aload_n 0, 1) := by decide +kernel
theorem d_Md_keeps_115 : decode b_Md_keeps 115 = .ok (.getfield 93, 3) := by decide +kernel
theorem d_Md_keeps_118 : decode b_Md_keeps 118 = .ok (.iload_n 2, 1) := by decide +kernel
theorem d_Md_keeps_119 : decode b_Md_keeps 119 = .ok (.iaload, 1) := by decide +kernel
theorem d_Md_keeps_120 : decode b_Md_keeps 120 = .ok (.if_icmp .gt 19, 3) := by decide +kernel
theorem d_Md_keeps_123 : decode b_Md_keeps 123 = .ok (.iload_n 3, 1) := by decide +kernel
theorem d_Md_keeps_124 : decode b_Md_keeps 124 = .ok (.ifCond .le 17, 3) := by decide +kernel
theorem d_Md_keeps_127 : decode b_Md_keeps 127 = .ok (.lload 4, 2) := by decide +kernel
theorem d_Md_keeps_129 : decode b_Md_keeps 129 = .ok (.aload_n 0, 1) := by decide +kernel
theorem d_Md_keeps_130 : decode b_Md_keeps 130 = .ok (.getfield 90, 3) := by decide +kernel
theorem d_Md_keeps_133 : decode b_Md_keeps 133 = .ok (.iload_n 2, 1) := by decide +kernel
theorem d_Md_keeps_134 : decode b_Md_keeps 134 = .ok (.laload, 1) := by decide +kernel
theorem d_Md_keeps_135 : decode b_Md_keeps 135 = .ok (.lcmp, 1) := by decide +kernel
theorem d_Md_keeps_136 : decode b_Md_keeps 136 = .ok (.ifCond .le 5, 3) := by decide +kernel
theorem d_Md_keeps_139 : decode b_Md_keeps 139 = .ok (.iconst 0, 1) := by decide +kernel
theorem d_Md_keeps_140 : decode b_Md_keeps 140 = .ok (.ireturn, 1) := by decide +kernel
theorem d_Md_keeps_141 : decode b_Md_keeps 141 = .ok (.iinc 2 1, 3) := by decide +kernel
theorem d_Md_keeps_144 : decode b_Md_keeps 144 = .ok (.goto (-142), 3) := by decide +kernel
theorem d_Md_keeps_147 : decode b_Md_keeps 147 = .ok (.iconst 1, 1) := by decide +kernel
theorem d_Md_keeps_148 : decode b_Md_keeps 148 = .ok (.ireturn, 1) := by decide +kernel
theorem d_Md_used_0 : decode b_Md_used 0 = .ok (.iconst 0, 1) := by decide +kernel
theorem d_Md_used_1 : decode b_Md_used 1 = .ok (.istore_n 2, 1) := by decide +kernel
theorem d_Md_used_2 : decode b_Md_used 2 = .ok (.iconst 0, 1) := by decide +kernel
theorem d_Md_used_3 : decode b_Md_used 3 = .ok (.istore_n 3, 1) := by decide +kernel
theorem d_Md_used_4 : decode b_Md_used 4 = .ok (.iconst 0, 1) := by decide +kernel
theorem d_Md_used_5 : decode b_Md_used 5 = .ok (.istore 4, 2) := by decide +kernel
theorem d_Md_used_7 : decode b_Md_used 7 = .ok (.iload 4, 2) := by decide +kernel
theorem d_Md_used_9 : decode b_Md_used 9 = .ok (.aload_n 0, 1) := by decide +kernel
theorem d_Md_used_10 : decode b_Md_used 10 = .ok (.getfield 117, 3) := by decide +kernel
theorem d_Md_used_13 : decode b_Md_used 13 = .ok (.if_icmp .ge 39, 3) := by decide +kernel
theorem d_Md_used_16 : decode b_Md_used 16 = .ok (.aload_n 1, 1) := by decide +kernel
theorem d_Md_used_17 : decode b_Md_used 17 = .ok (.iload 4, 2) := by decide +kernel
theorem d_Md_used_19 : decode b_Md_used 19 = .ok (.iaload, 1) := by decide +kernel
theorem d_Md_used_20 : decode b_Md_used 20 = .ok (.ifCond .lt 26, 3) := by decide +kernel
theorem d_Md_used_23 : decode b_Md_used 23 = .ok (.iload_n 2, 1) := by decide +kernel
theorem d_Md_used_24 : decode b_Md_used 24 = .ok (.aload_n 1, 1) := by decide +kernel
theorem d_Md_used_25 : decode b_Md_used 25 = .ok (.iload 4, 2) := by decide +kernel
theorem d_Md_used_27 : decode b_Md_used 27 = .ok (.iaload, 1) := by decide +kernel
theorem d_Md_used_28 : decode b_Md_used 28 = .ok (.ishr, 1) := by decide +kernel
theorem d_Md_used_29 : decode b_Md_used 29 = .ok (.iconst 1, 1) := by decide +kernel
theorem d_Md_used_30 : decode b_Md_used 30 = .ok (.iand, 1) := by decide +kernel
theorem d_Md_used_31 : decode b_Md_used 31 = .ok (.ifCond .ne 15, 3) := by decide +kernel
theorem d_Md_used_34 : decode b_Md_used 34 = .ok (.iload_n 2, 1) := by decide +kernel
theorem d_Md_used_35 : decode b_Md_used 35 = .ok (.iconst 1, 1) := by decide +kernel
theorem d_Md_used_36 : decode b_Md_used 36 = .ok (.aload_n 1, 1) := by decide +kernel
theorem d_Md_used_37 : decode b_Md_used 37 = .ok (.iload 4, 2) := by decide +kernel
theorem d_Md_used_39 : decode b_Md_used 39 = .ok (.iaload, 1) := by decide +kernel
theorem d_Md_used_40 : decode b_Md_used 40 = .ok (.ishl, 1) := by decide +kernel
theorem d_Md_used_41 : decode b_Md_used 41 = .ok (.ior, 1) := by decide +kernel
theorem d_Md_used_42 : decode b_Md_used 42 = .ok (.istore_n 2, 1) := by decide +kernel
theorem d_Md_used_43 : decode b_Md_used 43 = .ok (.iinc 3 1, 3) := by decide +kernel
theorem d_Md_used_46 : decode b_Md_used 46 = .ok (.iinc 4 1, 3) := by decide +kernel
theorem d_Md_used_49 : decode b_Md_used 49 = .ok (.goto (-42), 3) := by decide +kernel
theorem d_Md_used_52 : decode b_Md_used 52 = .ok (.iload_n 3, 1) := by decide +kernel
theorem d_Md_used_53 : decode b_Md_used 53 = .ok (.ireturn, 1) := by decide +kernel
theorem fl_Md_102 : Cond.fieldLink R_Md 102 R_Md "way" "[I" ∈ lw_gd := (gd _ (tb2 _ (List.mem_of_getElem? (i := 190) rfl)) rfl)
theorem fl_Md_105 : Cond.fieldLink R_Md 105 R_Md "list" "[I" ∈ lw_gd := (gd _ (tb2 _ (List.mem_of_getElem? (i := 191) rfl)) rfl)
theorem d_Md_turn_0 : decode b_Md_turn 0 = .ok (.iload_n 1, 1) := by decide +kernel
theorem d_Md_turn_1 : decode b_Md_turn 1 = .ok (.iconst 1, 1) := by decide +kernel
theorem d_Md_turn_2 : decode b_Md_turn 2 = .ok (.isub, 1) := by decide +kernel
theorem d_Md_turn_3 : decode b_Md_turn 3 = .ok (.istore_n 2, 1) := by decide +kernel
theorem d_Md_turn_4 : decode b_Md_turn 4 = .ok (.iload_n 2, 1) := by decide +kernel
theorem d_Md_turn_5 : decode b_Md_turn 5 = .ok (.ifCond .lt 41, 3) := by decide +kernel
theorem d_Md_turn_8 : decode b_Md_turn 8 = .ok (.aload_n 0, 1) := by decide +kernel
theorem d_Md_turn_9 : decode b_Md_turn 9 = .ok (.getfield 102, 3) := by decide +kernel
theorem d_Md_turn_12 : decode b_Md_turn 12 = .ok (.aload_n 0, 1) := by decide +kernel
theorem d_Md_turn_13 : decode b_Md_turn 13 = .ok (.getfield 105, 3) := by decide +kernel
theorem d_Md_turn_16 : decode b_Md_turn 16 = .ok (.iload_n 2, 1) := by decide +kernel
theorem d_Md_turn_17 : decode b_Md_turn 17 = .ok (.iaload, 1) := by decide +kernel
theorem d_Md_turn_18 : decode b_Md_turn 18 = .ok (.iaload, 1) := by decide +kernel
theorem d_Md_turn_19 : decode b_Md_turn 19 = .ok (.aload_n 0, 1) := by decide +kernel
theorem d_Md_turn_20 : decode b_Md_turn 20 = .ok (.getfield 213, 3) := by decide +kernel
theorem d_Md_turn_23 : decode b_Md_turn 23 = .ok (.iconst 1, 1) := by decide +kernel
theorem d_Md_turn_24 : decode b_Md_turn 24 = .ok (.isub, 1) := by decide +kernel
theorem d_Md_turn_25 : decode b_Md_turn 25 = .ok (.if_icmp .ne 21, 3) := by decide +kernel
theorem d_Md_turn_28 : decode b_Md_turn 28 = .ok (.aload_n 0, 1) := by decide +kernel
theorem d_Md_turn_29 : decode b_Md_turn 29 = .ok (.getfield 102, 3) := by decide +kernel
theorem d_Md_turn_32 : decode b_Md_turn 32 = .ok (.aload_n 0, 1) := by decide +kernel
theorem d_Md_turn_33 : decode b_Md_turn 33 = .ok (.getfield 105, 3) := by decide +kernel
theorem d_Md_turn_36 : decode b_Md_turn 36 = .ok (.iload_n 2, 1) := by decide +kernel
theorem d_Md_turn_37 : decode b_Md_turn 37 = .ok (.iaload, 1) := by decide +kernel
theorem d_Md_turn_38 : decode b_Md_turn 38 = .ok (.iconst 0, 1) := by decide +kernel
theorem d_Md_turn_39 : decode b_Md_turn 39 = .ok (.iastore, 1) := by decide +kernel
theorem d_Md_turn_40 : decode b_Md_turn 40 = .ok (.iinc 2 (-1), 3) := by decide +kernel
theorem d_Md_turn_43 : decode b_Md_turn 43 = .ok (.goto (-39), 3) := by decide +kernel
theorem d_Md_turn_46 : decode b_Md_turn 46 = .ok (.iload_n 2, 1) := by decide +kernel
theorem d_Md_turn_47 : decode b_Md_turn 47 = .ok (.ifCond .lt 18, 3) := by decide +kernel
theorem d_Md_turn_50 : decode b_Md_turn 50 = .ok (.aload_n 0, 1) := by decide +kernel
theorem d_Md_turn_51 : decode b_Md_turn 51 = .ok (.getfield 102, 3) := by decide +kernel
theorem d_Md_turn_54 : decode b_Md_turn 54 = .ok (.aload_n 0, 1) := by decide +kernel
theorem d_Md_turn_55 : decode b_Md_turn 55 = .ok (.getfield 105, 3) := by decide +kernel
theorem d_Md_turn_58 : decode b_Md_turn 58 = .ok (.iload_n 2, 1) := by decide +kernel
theorem d_Md_turn_59 : decode b_Md_turn 59 = .ok (.iaload, 1) := by decide +kernel
theorem d_Md_turn_60 : decode b_Md_turn 60 = .ok (.dup2, 1) := by decide +kernel
theorem d_Md_turn_61 : decode b_Md_turn 61 = .ok (.iaload, 1) := by decide +kernel
theorem d_Md_turn_62 : decode b_Md_turn 62 = .ok (.iconst 1, 1) := by decide +kernel
theorem d_Md_turn_63 : decode b_Md_turn 63 = .ok (.iadd, 1) := by decide +kernel
theorem d_Md_turn_64 : decode b_Md_turn 64 = .ok (.iastore, 1) := by decide +kernel
theorem d_Md_turn_65 : decode b_Md_turn 65 = .ok (.iload_n 2, 1) := by decide +kernel
theorem d_Md_turn_66 : decode b_Md_turn 66 = .ok (.ifCond .lt 7, 3) := by decide +kernel
theorem d_Md_turn_69 : decode b_Md_turn 69 = .ok (.iconst 1, 1) := by decide +kernel
theorem d_Md_turn_70 : decode b_Md_turn 70 = .ok (.goto 4, 3) := by decide +kernel
theorem d_Md_turn_73 : decode b_Md_turn 73 = .ok (.iconst 0, 1) := by decide +kernel
theorem d_Md_turn_74 : decode b_Md_turn 74 = .ok (.ireturn, 1) := by decide +kernel
theorem mv_Md_228 : wk_V R_Md 228 R_Md y_Md_isToBePacked b_Md_isToBePacked 2 (some .boolean) 1 := ⟨(gd _ (tb3 _ (List.mem_of_getElem? (i := 156) rfl)) rfl), (gd _ (tb0 _ (List.mem_of_getElem? (i := 8) rfl)) rfl), (gd _ (tb3 _ (List.mem_of_getElem? (i := 153) rfl)) rfl), (by decide +kernel), (gd _ (tb3 _ (List.mem_of_getElem? (i := 155) rfl)) rfl), (gd _ (List.mem_append_left _ (by decide +kernel)) rfl)⟩
theorem mv_Md_235 : wk_V R_Md 235 R_Md y_Md_keeps b_Md_keeps 8 (some .boolean) 1 := ⟨(gd _ (tb3 _ (List.mem_of_getElem? (i := 164) rfl)) rfl), (gd _ (tb0 _ (List.mem_of_getElem? (i := 8) rfl)) rfl), (gd _ (tb3 _ (List.mem_of_getElem? (i := 161) rfl)) rfl), (by decide +kernel), (gd _ (tb3 _ (List.mem_of_getElem? (i := 163) rfl)) rfl), (gd _ (List.mem_append_left _ (by decide +kernel)) rfl)⟩
theorem d_Md_kept_0 : decode b_Md_kept 0 = .ok (.aload_n 0, 1) := by decide +kernel
theorem d_Md_kept_1 : decode b_Md_kept 1 = .ok (.getfield 239, 3) := by decide +kernel
theorem d_Md_kept_4 : decode b_Md_kept 4 = .ok (.istore_n 1, 1) := by decide +kernel
theorem d_Md_kept_5 : decode b_Md_kept 5 = .ok (.iconst 0, 1) := by decide +kernel
theorem d_Md_kept_6 : decode b_Md_kept 6 = .ok (.istore_n 2, 1) := by decide +kernel
theorem d_Md_kept_7 : decode b_Md_kept 7 = .ok (.iload_n 2, 1) := by decide +kernel
theorem d_Md_kept_8 : decode b_Md_kept 8 = .ok (.aload_n 0, 1) := by decide +kernel
theorem d_Md_kept_9 : decode b_Md_kept 9 = .ok (.getfield 117, 3) := by decide +kernel
theorem d_Md_kept_12 : decode b_Md_kept 12 = .ok (.if_icmp .ge 41, 3) := by decide +kernel
theorem d_Md_kept_15 : decode b_Md_kept 15 = .ok (.iload_n 1, 1) := by decide +kernel
theorem d_Md_kept_16 : decode b_Md_kept 16 = .ok (.ifCond .eq 29, 3) := by decide +kernel
theorem d_Md_kept_19 : decode b_Md_kept 19 = .ok (.aload_n 0, 1) := by decide +kernel
theorem d_Md_kept_20 : decode b_Md_kept 20 = .ok (.iload_n 2, 1) := by decide +kernel
theorem d_Md_kept_21 : decode b_Md_kept 21 = .ok (.invokevirtual 228, 3) := by decide +kernel
theorem d_Md_kept_24 : decode b_Md_kept 24 = .ok (.aload_n 0, 1) := by decide +kernel
theorem d_Md_kept_25 : decode b_Md_kept 25 = .ok (.getfield 99, 3) := by decide +kernel
theorem d_Md_kept_28 : decode b_Md_kept 28 = .ok (.iload_n 2, 1) := by decide +kernel
theorem d_Md_kept_29 : decode b_Md_kept 29 = .ok (.iaload, 1) := by decide +kernel
theorem d_Md_kept_30 : decode b_Md_kept 30 = .ok (.ifCond .lt 7, 3) := by decide +kernel
theorem d_Md_kept_33 : decode b_Md_kept 33 = .ok (.iconst 1, 1) := by decide +kernel
theorem d_Md_kept_34 : decode b_Md_kept 34 = .ok (.goto 4, 3) := by decide +kernel
theorem d_Md_kept_37 : decode b_Md_kept 37 = .ok (.iconst 0, 1) := by decide +kernel
theorem d_Md_kept_38 : decode b_Md_kept 38 = .ok (.if_icmp .ne 7, 3) := by decide +kernel
theorem d_Md_kept_41 : decode b_Md_kept 41 = .ok (.iconst 1, 1) := by decide +kernel
theorem d_Md_kept_42 : decode b_Md_kept 42 = .ok (.goto 4, 3) := by decide +kernel
theorem d_Md_kept_45 : decode b_Md_kept 45 = .ok (.iconst 0, 1) := by decide +kernel
theorem d_Md_kept_46 : decode b_Md_kept 46 = .ok (.istore_n 1, 1) := by decide +kernel
theorem d_Md_kept_47 : decode b_Md_kept 47 = .ok (.iinc 2 1, 3) := by decide +kernel
theorem d_Md_kept_50 : decode b_Md_kept 50 = .ok (.goto (-43), 3) := by decide +kernel
theorem d_Md_kept_53 : decode b_Md_kept 53 = .ok (.iload_n 1, 1) := by decide +kernel
theorem d_Md_kept_54 : decode b_Md_kept 54 = .ok (.ifCond .eq 18, 3) := by decide +kernel
theorem d_Md_kept_57 : decode b_Md_kept 57 = .ok (.aload_n 0, 1) := by decide +kernel
theorem d_Md_kept_58 : decode b_Md_kept 58 = .ok (.aload_n 0, 1) := by decide +kernel
theorem d_Md_kept_59 : decode b_Md_kept 59 = .ok (.getfield 99, 3) := by decide +kernel
theorem d_Md_kept_62 : decode b_Md_kept 62 = .ok (.invokevirtual 235, 3) := by decide +kernel
theorem d_Md_kept_65 : decode b_Md_kept 65 = .ok (.ifCond .eq 7, 3) := by decide +kernel
theorem d_Md_kept_68 : decode b_Md_kept 68 = .ok (.iconst 1, 1) := by decide +kernel
theorem d_Md_kept_69 : decode b_Md_kept 69 = .ok (.goto 4, 3) := by decide +kernel
theorem d_Md_kept_72 : decode b_Md_kept 72 = .ok (.iconst 0, 1) := by decide +kernel
theorem d_Md_kept_73 : decode b_Md_kept 73 = .ok (.ireturn, 1) := by decide +kernel
set_option maxHeartbeats 4000000 in
set_option maxRecDepth 100000 in
theorem c_Md_keeps_bx (l : Launch) (D : va_G) (cI : CiT) (z : GzT) (m : Nat → Nat) (tx : (Nat → Nat)) (sz : Nat) (ap : (Nat → Bool)) (pt : (Nat → Nat)) (rk : (Nat → Nat)) (cd : (Nat → Nat)) (fr : Nat) (mc : (Nat → Nat)) (mg : (Nat → Nat)) (mz : (Nat → Nat)) (nc : (Nat → Nat)) (nt : (Nat → Nat)) (ld : (Nat → Nat)) (qap : (Nat → Bool)) (qpt : (Nat → Nat)) (qrk : (Nat → Nat)) (qcd : (Nat → Nat)) (qfr : Nat) (qmc : (Nat → Nat)) (qmg : (Nat → Nat)) (qmz : (Nat → Nat)) (qnc : (Nat → Nat)) (qnt : (Nat → Nat)) (qld : (Nat → Nat)) (nb : Nat) (cl : (Nat → Nat)) (gr : (Nat → Nat)) (sp : (Nat → Nat)) (ot : (Nat → Bool)) (na : Nat) (aw : (Nat → Nat)) (nx : Nat) (bg : (Nat → Nat)) (bb : (Nat → Nat)) (ab : (Nat → Nat)) (fd : Bool) (pv : Bool) (bx : (Nat → Nat)) (wy : (Nat → Nat)) (li : (Nat → Nat)) (fm : Nat) (en : Nat) (nu : Nat) (td : (Nat → Nat)) (lf : Int32) (lk : Int32) (hnb : nb ≤ 8) (hnx : nx ≤ 5) (hgr : ∀ b, gr b ≤ 100000) (hcl : ∀ b, cl b ≤ 9) (hgv : ∀ b, bx b ≤ 5) (hcv : ∀ b, b < nb → bx b ≠ 0 → cl b ≠ 0) (hbg : ∀ x, bg x ≤ 1000000) (hbb : ∀ x, bb x ≤ 8) (hab : ∀ x, ab x ≤ 1000000) : wk_C l D (tyK cI) (gX z) y_Md_keeps b_Md_keeps 8 (some .boolean) 0 0 0 0 [.ref (m 0), .ref (m 30)] (wMd m cI tx sz ap pt rk cd fr mc mg mz nc nt ld qap qpt qrk qcd qfr qmc qmg qmz qnc qnt qld nb cl gr sp ot na aw nx bg bb ab fd pv bx wy li fm en nu td lf lk) wk_i (fun (r : Int32) (_ : Unit) => r = (bI (kpB ap cl gr bx bg bb ab nb nx))) (fun _ => (wMd m cI tx sz ap pt rk cd fr mc mg mz nc nt ld qap qpt qrk qcd qfr qmc qmg qmz qnc qnt qld nb cl gr sp ot na aw nx bg bb ab fd pv bx wy li fm en nu td lf lk)) := by
  refine wk_methZ (own := R_Md) [(0, .ref (m 0)), (1, .ref (m 30))] (by decide) rfl (Nat.le_of_ble_eq_true rfl) rfl (gX_ok z) (fun p_ e_ R_ s_ m_ ar_ be_ me_ co_ Q_ A_ hR_ S_ hnm_ hQ_ => ?_)
  refine wk_iconst (pc := 0) (v := (nI (0))) S_ d_Md_keeps_0 (by decide) ?_
  refine wk_istore_n (pc := 1) (lv' := [(2, .int (nI (0))), (0, .ref (m 0)), (1, .ref (m 30))]) S_ d_Md_keeps_1 rfl (by decide) rfl ?_
  have hL2 : ∀ (fuel2 : Nat), ∀ (x : Nat), nx - x < fuel2 → (x ≤ nx) → (∀ y, y < x → bxP ap cl gr bx bg bb ab nb y) → wk_G p_ l e_ R_ s_ m_ ar_ be_ me_ co_ Q_ D A_ 8 0 0 (wMd m cI tx sz ap pt rk cd fr mc mg mz nc nt ld qap qpt qrk qcd qfr qmc qmg qmz qnc qnt qld nb cl gr sp ot na aw nx bg bb ab fd pv bx wy li fm en nu td lf lk) 2 [(0, .ref (m 0)), (1, .ref (m 30)), (2, .int (nI (x)))] [] := by
    intro fuel2
    induction fuel2 with
    | zero => intro x hm; exact absurd hm (Nat.not_lt_zero _)
    | succ fuel2 ih2 =>
      intro x hm hx hX
      refine wk_iload_n (pc := 2) S_ 2 d_Md_keeps_2 rfl rfl ?_
      refine wk_aload_n (pc := 3) S_ 0 d_Md_keeps_3 rfl rfl ?_
      refine wk_get (pc := 4) (v := .int (nI (nx))) S_ 6 31 0 in_Md rfl (by decide) rfl fl_Md_213 d_Md_keeps_4 rfl rfl ?_
      refine wk_icmp_geN (pc := 7) (tgt := 147) S_ d_Md_keeps_7 (by decide) (by omega) (by omega) (fun h7 => ?_) (fun h7 => ?_)
      · -- taken
        refine wk_iconst (pc := 147) (v := (nI (1))) S_ d_Md_keeps_147 (by decide) ?_
        exact hQ_ (nI (1)) () d_Md_keeps_148 rfl rfl (bI_t (kpB_t (fun y hy => hX y (by omega))))
      · -- on
        have ha1 := hab x
        refine wk_iconst (pc := 10) (v := (nI (0))) S_ d_Md_keeps_10 (by decide) ?_
        refine wk_istore_n (pc := 11) (lv' := [(3, .int (nI (0))), (0, .ref (m 0)), (1, .ref (m 30)), (2, .int (nI (x)))]) S_ d_Md_keeps_11 rfl (by decide) rfl ?_
        refine wk_aload_n (pc := 12) S_ 1 d_Md_keeps_12 rfl rfl ?_
        refine wk_get (pc := 13) (v := .ref (m 29)) S_ 6 34 0 in_Md rfl (by decide) rfl fl_Md_96 d_Md_keeps_13 rfl rfl ?_
        refine wk_iload_n (pc := 16) S_ 3 d_Md_keeps_16 rfl rfl ?_
        refine wk_lald (pc := 17) (g := ab) S_ 29 2 d_Md_keeps_17 rfl rfl (by omega) (by decide) ?_
        refine wk_lstore (pc := 18) (lv' := [(4, .long (lN ((ab) (x)))), (3, .int (nI (0))), (0, .ref (m 0)), (1, .ref (m 30)), (2, .int (nI (x)))]) S_ d_Md_keeps_18 (by decide) rfl ?_
        refine wk_iconst (pc := 20) (v := (nI (0))) S_ d_Md_keeps_20 (by decide) ?_
        refine wk_istore (pc := 21) (lv' := [(6, .int (nI (0))), (4, .long (lN ((ab) (x)))), (3, .int (nI (0))), (0, .ref (m 0)), (1, .ref (m 30)), (2, .int (nI (x)))]) S_ d_Md_keeps_21 (by decide) rfl ?_
        have hL23 : ∀ (fuel23 : Nat), ∀ (b : Nat), nb - b < fuel23 → (b ≤ nb) → (∀ b2, b2 < b → bx b2 = x + 1 → ∀ d, d < b2 → bx d = x + 1 → ap (9 * (cl b2 - 1) + (cl d - 1)) = false) → wk_G p_ l e_ R_ s_ m_ ar_ be_ me_ co_ Q_ D A_ 8 0 0 (wMd m cI tx sz ap pt rk cd fr mc mg mz nc nt ld qap qpt qrk qcd qfr qmc qmg qmz qnc qnt qld nb cl gr sp ot na aw nx bg bb ab fd pv bx wy li fm en nu td lf lk) 23 [(0, .ref (m 0)), (1, .ref (m 30)), (2, .int (nI (x))), (3, .int (nI (cnN bx (x + 1) b))), (4, .long (lN (ab x + smN gr bx (x + 1) b))), (6, .int (nI (b)))] [] := by
          intro fuel23
          induction fuel23 with
          | zero => intro b hm; exact absurd hm (Nat.not_lt_zero _)
          | succ fuel23 ih23 =>
            intro b hm hb hB
            refine wk_iload (pc := 23) S_ 5 d_Md_keeps_23 rfl ?_
            refine wk_aload_n (pc := 25) S_ 0 d_Md_keeps_25 rfl rfl ?_
            refine wk_get (pc := 26) (v := .int (nI (nb))) S_ 6 24 0 in_Md rfl (by decide) rfl fl_Md_117 d_Md_keeps_26 rfl rfl ?_
            refine wk_icmp_geN (pc := 29) (tgt := 113) S_ d_Md_keeps_29 (by decide) (by omega) (by omega) (fun h29 => ?_) (fun h29 => ?_)
            · -- taken
              have hbn : b = nb := by omega
              subst hbn
              have hc5 := cnN_le (gv := bx) (x := x + 1) b
              have hs5 := smN_le (gr := gr) (gv := bx) (x := x + 1) hgr b
              have hb5 := hbb x
              have hb6 := hbg x
              refine wk_iload_n (pc := 113) S_ 3 d_Md_keeps_113 rfl rfl ?_
              refine wk_aload_n (pc := 114) S_ 0 d_Md_keeps_114 rfl rfl ?_
              refine wk_get (pc := 115) (v := .ref (m 28)) S_ 6 33 0 in_Md rfl (by decide) rfl fl_Md_93 d_Md_keeps_115 rfl rfl ?_
              refine wk_iload_n (pc := 118) S_ 2 d_Md_keeps_118 rfl rfl ?_
              refine wk_ialdN (pc := 119) (g := bb) S_ 28 0 d_Md_keeps_119 rfl rfl (by omega) (by decide) ?_
              refine wk_icmp_gtN (pc := 120) (tgt := 139) S_ d_Md_keeps_120 (by decide) (by omega) (by omega) (fun h120 => ?_) (fun h120 => ?_)
              · -- taken
                refine wk_iconst (pc := 139) (v := (nI (0))) S_ d_Md_keeps_139 (by decide) ?_
                exact hQ_ (nI (0)) () d_Md_keeps_140 rfl rfl (bI_f (kpB_f (fun h => absurd (h x (by omega)).2 (by omega))))
              · -- on
                refine wk_iload_n (pc := 123) S_ 3 d_Md_keeps_123 rfl rfl ?_
                refine wk_if_leN (pc := 124) (tgt := 141) S_ d_Md_keeps_124 (by decide) (by omega) (fun h124 => ?_) (fun h124 => ?_)
                · -- taken
                  have hcn : cnN bx (x + 1) b ≤ bb x := by omega
                  have hsm : cnN bx (x + 1) b = 0 ∨ ab x + smN gr bx (x + 1) b ≤ bg x := by omega
                  refine wk_iincN (pc := 141) (d := 1) (lv' := [(2, .int (nI (x + 1))), (0, .ref (m 0)), (1, .ref (m 30)), (3, .int (nI (cnN bx (x + 1) b))), (4, .long (lN (ab x + smN gr bx (x + 1) b))), (6, .int (nI (b)))]) S_ 2 d_Md_keeps_141 (by decide) rfl (by decide) rfl ?_
                  refine wk_goto (pc := 144) (tgt := 2) S_ d_Md_keeps_144 (by decide) ?_
                  refine wk_lv [1, 2, 0] ?_ (ih2 (x + 1) (by omega) (by omega) (fun y hy => by by_cases e : y = x; subst e; exact ⟨fun b2 hb2 => hB b2 (by omega), hcn, hsm⟩; exact hX y (by omega)))
                  rfl
                · -- on
                  refine wk_lload (pc := 127) S_ 4 d_Md_keeps_127 rfl ?_
                  refine wk_aload_n (pc := 129) S_ 0 d_Md_keeps_129 rfl rfl ?_
                  refine wk_get (pc := 130) (v := .ref (m 27)) S_ 6 32 0 in_Md rfl (by decide) rfl fl_Md_90 d_Md_keeps_130 rfl rfl ?_
                  refine wk_iload_n (pc := 133) S_ 2 d_Md_keeps_133 rfl rfl ?_
                  refine wk_lald (pc := 134) (g := bg) S_ 27 2 d_Md_keeps_134 rfl rfl (by omega) (by decide) ?_
                  refine wk_lcmp (pc := 135) S_ d_Md_keeps_135 ?_
                  refine wk_cmp_leN (pc := 136) (tgt := 141) S_ d_Md_keeps_136 (by decide) (by omega) (by omega) (fun h136 => ?_) (fun h136 => ?_)
                  · -- taken
                    have hcn : cnN bx (x + 1) b ≤ bb x := by omega
                    have hsm : cnN bx (x + 1) b = 0 ∨ ab x + smN gr bx (x + 1) b ≤ bg x := by omega
                    refine wk_iincN (pc := 141) (d := 1) (lv' := [(2, .int (nI (x + 1))), (0, .ref (m 0)), (1, .ref (m 30)), (3, .int (nI (cnN bx (x + 1) b))), (4, .long (lN (ab x + smN gr bx (x + 1) b))), (6, .int (nI (b)))]) S_ 2 d_Md_keeps_141 (by decide) rfl (by decide) rfl ?_
                    refine wk_goto (pc := 144) (tgt := 2) S_ d_Md_keeps_144 (by decide) ?_
                    refine wk_lv [1, 2, 0] ?_ (ih2 (x + 1) (by omega) (by omega) (fun y hy => by by_cases e : y = x; subst e; exact ⟨fun b2 hb2 => hB b2 (by omega), hcn, hsm⟩; exact hX y (by omega)))
                    rfl
                  · -- on
                    refine wk_iconst (pc := 139) (v := (nI (0))) S_ d_Md_keeps_139 (by decide) ?_
                    exact hQ_ (nI (0)) () d_Md_keeps_140 rfl rfl (bI_f (kpB_f (fun h => absurd (h x (by omega)).2 (by omega))))
            · -- on
              refine wk_aload_n (pc := 32) S_ 1 d_Md_keeps_32 rfl rfl ?_
              refine wk_iload (pc := 33) S_ 5 d_Md_keeps_33 rfl ?_
              refine wk_ialdY (pc := 35) (g := bx) S_ 30 0 d_Md_keeps_35 rfl rfl (by omega) (by decide) ?_
              refine wk_iload_n (pc := 36) S_ 2 d_Md_keeps_36 rfl rfl ?_
              have hg1 := hgv b
              refine wk_icmp_neYN (pc := 37) (tgt := 107) S_ d_Md_keeps_37 (by decide) (by omega) (by omega) (fun h37 => ?_) (fun h37 => ?_)
              · -- taken
                refine wk_lveq (lv' := [(0, .ref (m 0)), (1, .ref (m 30)), (2, .int (nI (x))), (3, .int (nI (cnN bx (x + 1) (b + 1)))), (4, .long (lN (ab x + smN gr bx (x + 1) b))), (6, .int (nI (b)))]) (by simp only [cnN, smN, if_neg h37, Nat.add_zero]) ?_
                refine wk_lveq (lv' := [(0, .ref (m 0)), (1, .ref (m 30)), (2, .int (nI (x))), (3, .int (nI (cnN bx (x + 1) (b + 1)))), (4, .long (lN (ab x + smN gr bx (x + 1) (b + 1)))), (6, .int (nI (b)))]) (by simp only [cnN, smN, if_neg h37, Nat.add_zero]) ?_
                refine wk_iincN (pc := 107) (d := 1) (lv' := [(6, .int (nI (b + 1))), (0, .ref (m 0)), (1, .ref (m 30)), (2, .int (nI (x))), (3, .int (nI (cnN bx (x + 1) (b + 1)))), (4, .long (lN (ab x + smN gr bx (x + 1) (b + 1))))]) S_ 5 d_Md_keeps_107 (by decide) rfl (by decide) rfl ?_
                refine wk_goto (pc := 110) (tgt := 23) S_ d_Md_keeps_110 (by decide) ?_
                refine wk_lv [1, 2, 3, 4, 5, 0] ?_ (ih23 (b + 1) (by omega) (by omega) (fun b2 hb2 e2 d2 hd2 => by by_cases e : b2 = b; subst e; exact absurd e2 h37; exact hB b2 (by omega) e2 d2 hd2))
                rfl
              · -- on
                have hc1 := hcl b
                have hc2 := hcv b (by omega) (by omega)
                refine wk_iincN (pc := 40) (d := 1) (lv' := [(3, .int (nI (cnN bx (x + 1) b + 1))), (0, .ref (m 0)), (1, .ref (m 30)), (2, .int (nI (x))), (4, .long (lN (ab x + smN gr bx (x + 1) b))), (6, .int (nI (b)))]) S_ 3 d_Md_keeps_40 (by decide) rfl (by decide) rfl ?_
                refine wk_lload (pc := 43) S_ 4 d_Md_keeps_43 rfl ?_
                refine wk_aload_n (pc := 45) S_ 1 d_Md_keeps_45 rfl rfl ?_
                refine wk_get (pc := 46) (v := .ref (m 23)) S_ 6 26 0 in_Md rfl (by decide) rfl fl_Md_77 d_Md_keeps_46 rfl rfl ?_
                refine wk_iload (pc := 49) S_ 5 d_Md_keeps_49 rfl ?_
                refine wk_lald (pc := 51) (g := gr) S_ 23 2 d_Md_keeps_51 rfl rfl (by omega) (by decide) ?_
                refine wk_laddN (pc := 52) S_ d_Md_keeps_52 ?_
                refine wk_topl (y := (lN (ab x + smN gr bx (x + 1) (b + 1)))) (congrArg lN (by rw [smN, if_pos h37]; omega)) ?_
                refine wk_lstore (pc := 53) (lv' := [(4, .long (lN (ab x + smN gr bx (x + 1) (b + 1)))), (3, .int (nI (cnN bx (x + 1) b + 1))), (0, .ref (m 0)), (1, .ref (m 30)), (2, .int (nI (x))), (6, .int (nI (b)))]) S_ d_Md_keeps_53 (by decide) rfl ?_
                refine wk_lveq (lv' := [(4, .long (lN (ab x + smN gr bx (x + 1) (b + 1)))), (3, .int (nI (cnN bx (x + 1) (b + 1)))), (0, .ref (m 0)), (1, .ref (m 30)), (2, .int (nI (x))), (6, .int (nI (b)))]) (by rw [cnN, if_pos h37]) ?_
                refine wk_iconst (pc := 55) (v := (nI (0))) S_ d_Md_keeps_55 (by decide) ?_
                refine wk_istore (pc := 56) (lv' := [(7, .int (nI (0))), (4, .long (lN (ab x + smN gr bx (x + 1) (b + 1)))), (3, .int (nI (cnN bx (x + 1) (b + 1)))), (0, .ref (m 0)), (1, .ref (m 30)), (2, .int (nI (x))), (6, .int (nI (b)))]) S_ d_Md_keeps_56 (by decide) rfl ?_
                have hL58 : ∀ (fuel58 : Nat), ∀ (d : Nat), b - d < fuel58 → (d ≤ b) → (∀ d2, d2 < d → bx d2 = x + 1 → ap (9 * (cl b - 1) + (cl d2 - 1)) = false) → wk_G p_ l e_ R_ s_ m_ ar_ be_ me_ co_ Q_ D A_ 8 0 0 (wMd m cI tx sz ap pt rk cd fr mc mg mz nc nt ld qap qpt qrk qcd qfr qmc qmg qmz qnc qnt qld nb cl gr sp ot na aw nx bg bb ab fd pv bx wy li fm en nu td lf lk) 58 [(0, .ref (m 0)), (1, .ref (m 30)), (2, .int (nI (x))), (3, .int (nI (cnN bx (x + 1) (b + 1)))), (4, .long (lN (ab x + smN gr bx (x + 1) (b + 1)))), (6, .int (nI (b))), (7, .int (nI (d)))] [] := by
                  intro fuel58
                  induction fuel58 with
                  | zero => intro d hm; exact absurd hm (Nat.not_lt_zero _)
                  | succ fuel58 ih58 =>
                    intro d hm hd hDD
                    refine wk_iload (pc := 58) S_ 6 d_Md_keeps_58 rfl ?_
                    refine wk_iload (pc := 60) S_ 5 d_Md_keeps_60 rfl ?_
                    refine wk_icmp_geN (pc := 62) (tgt := 107) S_ d_Md_keeps_62 (by decide) (by omega) (by omega) (fun h62 => ?_) (fun h62 => ?_)
                    · -- taken
                      refine wk_iincN (pc := 107) (d := 1) (lv' := [(6, .int (nI (b + 1))), (0, .ref (m 0)), (1, .ref (m 30)), (2, .int (nI (x))), (3, .int (nI (cnN bx (x + 1) (b + 1)))), (4, .long (lN (ab x + smN gr bx (x + 1) (b + 1)))), (7, .int (nI (d)))]) S_ 5 d_Md_keeps_107 (by decide) rfl (by decide) rfl ?_
                      refine wk_goto (pc := 110) (tgt := 23) S_ d_Md_keeps_110 (by decide) ?_
                      refine wk_lv [1, 2, 3, 4, 5, 0] ?_ (ih23 (b + 1) (by omega) (by omega) (fun b2 hb2 e2 d2 hd2 => by by_cases e : b2 = b; subst e; exact hDD d2 (by omega); exact hB b2 (by omega) e2 d2 hd2))
                      rfl
                    · -- on
                      refine wk_aload_n (pc := 65) S_ 1 d_Md_keeps_65 rfl rfl ?_
                      refine wk_iload (pc := 66) S_ 6 d_Md_keeps_66 rfl ?_
                      refine wk_ialdY (pc := 68) (g := bx) S_ 30 0 d_Md_keeps_68 rfl rfl (by omega) (by decide) ?_
                      refine wk_iload_n (pc := 69) S_ 2 d_Md_keeps_69 rfl rfl ?_
                      have hg2 := hgv d
                      refine wk_icmp_neYN (pc := 70) (tgt := 101) S_ d_Md_keeps_70 (by decide) (by omega) (by omega) (fun h70 => ?_) (fun h70 => ?_)
                      · -- taken
                        refine wk_iincN (pc := 101) (d := 1) (lv' := [(7, .int (nI (d + 1))), (0, .ref (m 0)), (1, .ref (m 30)), (2, .int (nI (x))), (3, .int (nI (cnN bx (x + 1) (b + 1)))), (4, .long (lN (ab x + smN gr bx (x + 1) (b + 1)))), (6, .int (nI (b)))]) S_ 6 d_Md_keeps_101 (by decide) rfl (by decide) rfl ?_
                        refine wk_goto (pc := 104) (tgt := 58) S_ d_Md_keeps_104 (by decide) ?_
                        refine wk_lv [1, 2, 3, 4, 5, 6, 0] ?_ (ih58 (d + 1) (by omega) (by omega) (fun d2 hd2 e2 => by by_cases e : d2 = d; subst e; exact absurd e2 h70; exact hDD d2 (by omega) e2))
                        rfl
                      · -- on
                        have hc3 := hcl d
                        have hc4 := hcv d (by omega) (by omega)
                        refine wk_aload_n (pc := 73) S_ 0 d_Md_keeps_73 rfl rfl ?_
                        refine wk_get (pc := 74) (v := .ref (m 2)) S_ 6 2 0 in_Md rfl (by decide) rfl fl_Md_13 d_Md_keeps_74 rfl rfl ?_
                        refine wk_bipush (pc := 77) (v := (nI (9))) S_ d_Md_keeps_77 (by decide) ?_
                        refine wk_aload_n (pc := 79) S_ 0 d_Md_keeps_79 rfl rfl ?_
                        refine wk_get (pc := 80) (v := .ref (m 22)) S_ 6 25 0 in_Md rfl (by decide) rfl fl_Md_74 d_Md_keeps_80 rfl rfl ?_
                        refine wk_iload (pc := 83) S_ 5 d_Md_keeps_83 rfl ?_
                        refine wk_ialdY (pc := 85) (g := cl) S_ 22 0 d_Md_keeps_85 rfl rfl (by omega) (by decide) ?_
                        refine wk_top (y := (nI (cl b - 1))) (zI_p hc2) ?_
                        refine wk_imulN (pc := 86) S_ d_Md_keeps_86 ?_
                        refine wk_aload_n (pc := 87) S_ 0 d_Md_keeps_87 rfl rfl ?_
                        refine wk_get (pc := 88) (v := .ref (m 22)) S_ 6 25 0 in_Md rfl (by decide) rfl fl_Md_74 d_Md_keeps_88 rfl rfl ?_
                        refine wk_iload (pc := 91) S_ 6 d_Md_keeps_91 rfl ?_
                        refine wk_ialdY (pc := 93) (g := cl) S_ 22 0 d_Md_keeps_93 rfl rfl (by omega) (by decide) ?_
                        refine wk_top (y := (nI (cl d - 1))) (zI_p hc4) ?_
                        refine wk_iaddN (pc := 94) S_ d_Md_keeps_94 ?_
                        refine wk_zald (pc := 95) (g := ap) S_ 2 1 d_Md_keeps_95 rfl rfl (by omega) (by decide) ?_
                        refine wk_if_eqB (pc := 96) (tgt := 101) S_ d_Md_keeps_96 (by decide) (fun h96 => ?_) (fun h96 => ?_)
                        · -- taken
                          refine wk_iincN (pc := 101) (d := 1) (lv' := [(7, .int (nI (d + 1))), (0, .ref (m 0)), (1, .ref (m 30)), (2, .int (nI (x))), (3, .int (nI (cnN bx (x + 1) (b + 1)))), (4, .long (lN (ab x + smN gr bx (x + 1) (b + 1)))), (6, .int (nI (b)))]) S_ 6 d_Md_keeps_101 (by decide) rfl (by decide) rfl ?_
                          refine wk_goto (pc := 104) (tgt := 58) S_ d_Md_keeps_104 (by decide) ?_
                          refine wk_lv [1, 2, 3, 4, 5, 6, 0] ?_ (ih58 (d + 1) (by omega) (by omega) (fun d2 hd2 e2 => by by_cases e : d2 = d; subst e; exact h96; exact hDD d2 (by omega) e2))
                          rfl
                        · -- on
                          refine wk_iconst (pc := 99) (v := (nI (0))) S_ d_Md_keeps_99 (by decide) ?_
                          exact hQ_ (nI (0)) () d_Md_keeps_100 rfl rfl (bI_f (kpB_f (fun h => absurd ((h x (by omega)).1 b (by omega) h37 d (by omega) h70) (by rw [h96]; decide))))
                refine wk_lv [3, 4, 5, 2, 1, 6, 0] ?_ (hL58 _ (0) (Nat.lt_succ_self _) (by omega) (fun y h => absurd h (Nat.not_lt_zero _)))
                rfl
        refine wk_lv [3, 4, 5, 2, 1, 0] ?_ (hL23 _ (0) (Nat.lt_succ_self _) (by omega) (fun y h => absurd h (Nat.not_lt_zero _)))
        rfl
  refine wk_lv [1, 2, 0] ?_ (hL2 _ (0) (Nat.lt_succ_self _) (by omega) (fun y h => absurd h (Nat.not_lt_zero _)))
  rfl
set_option maxHeartbeats 4000000 in
set_option maxRecDepth 100000 in
theorem c_Md_used_bx (l : Launch) (D : va_G) (cI : CiT) (z : GzT) (m : Nat → Nat) (tx : (Nat → Nat)) (sz : Nat) (ap : (Nat → Bool)) (pt : (Nat → Nat)) (rk : (Nat → Nat)) (cd : (Nat → Nat)) (fr : Nat) (mc : (Nat → Nat)) (mg : (Nat → Nat)) (mz : (Nat → Nat)) (nc : (Nat → Nat)) (nt : (Nat → Nat)) (ld : (Nat → Nat)) (qap : (Nat → Bool)) (qpt : (Nat → Nat)) (qrk : (Nat → Nat)) (qcd : (Nat → Nat)) (qfr : Nat) (qmc : (Nat → Nat)) (qmg : (Nat → Nat)) (qmz : (Nat → Nat)) (qnc : (Nat → Nat)) (qnt : (Nat → Nat)) (qld : (Nat → Nat)) (nb : Nat) (cl : (Nat → Nat)) (gr : (Nat → Nat)) (sp : (Nat → Nat)) (ot : (Nat → Bool)) (na : Nat) (aw : (Nat → Nat)) (nx : Nat) (bg : (Nat → Nat)) (bb : (Nat → Nat)) (ab : (Nat → Nat)) (fd : Bool) (pv : Bool) (bx : (Nat → Nat)) (wy : (Nat → Nat)) (li : (Nat → Nat)) (fm : Nat) (en : Nat) (nu : Nat) (td : (Nat → Nat)) (lf : Int32) (lk : Int32) (hnb : nb ≤ 8) (hgv : ∀ b, bx b ≤ 5) : wk_C l D (tyK cI) (gX z) y_Md_used b_Md_used 5 (some .int) 0 0 0 0 [.ref (m 0), .ref (m 30)] (wMd m cI tx sz ap pt rk cd fr mc mg mz nc nt ld qap qpt qrk qcd qfr qmc qmg qmz qnc qnt qld nb cl gr sp ot na aw nx bg bb ab fd pv bx wy li fm en nu td lf lk) wk_i (fun (r : Int32) (_ : Unit) => r = (nI ((usS bx nb).2))) (fun _ => (wMd m cI tx sz ap pt rk cd fr mc mg mz nc nt ld qap qpt qrk qcd qfr qmc qmg qmz qnc qnt qld nb cl gr sp ot na aw nx bg bb ab fd pv bx wy li fm en nu td lf lk)) := by
  refine wk_methI (own := R_Md) [(0, .ref (m 0)), (1, .ref (m 30))] (by decide) rfl (Nat.le_of_ble_eq_true rfl) rfl (gX_ok z) (fun p_ e_ R_ s_ m_ ar_ be_ me_ co_ Q_ A_ hR_ S_ hnm_ hQ_ => ?_)
  refine wk_iconst (pc := 0) (v := (nI (0))) S_ d_Md_used_0 (by decide) ?_
  refine wk_istore_n (pc := 1) (lv' := [(2, .int (nI (0))), (0, .ref (m 0)), (1, .ref (m 30))]) S_ d_Md_used_1 rfl (by decide) rfl ?_
  refine wk_iconst (pc := 2) (v := (nI (0))) S_ d_Md_used_2 (by decide) ?_
  refine wk_istore_n (pc := 3) (lv' := [(3, .int (nI (0))), (2, .int (nI (0))), (0, .ref (m 0)), (1, .ref (m 30))]) S_ d_Md_used_3 rfl (by decide) rfl ?_
  refine wk_iconst (pc := 4) (v := (nI (0))) S_ d_Md_used_4 (by decide) ?_
  refine wk_istore (pc := 5) (lv' := [(4, .int (nI (0))), (3, .int (nI (0))), (2, .int (nI (0))), (0, .ref (m 0)), (1, .ref (m 30))]) S_ d_Md_used_5 (by decide) rfl ?_
  have hL7 : ∀ (fuel7 : Nat), ∀ (b : Nat), nb - b < fuel7 → (b ≤ nb) → wk_G p_ l e_ R_ s_ m_ ar_ be_ me_ co_ Q_ D A_ 5 0 0 (wMd m cI tx sz ap pt rk cd fr mc mg mz nc nt ld qap qpt qrk qcd qfr qmc qmg qmz qnc qnt qld nb cl gr sp ot na aw nx bg bb ab fd pv bx wy li fm en nu td lf lk) 7 [(0, .ref (m 0)), (1, .ref (m 30)), (2, .int (nI ((usS bx b).1))), (3, .int (nI ((usS bx b).2))), (4, .int (nI (b)))] [] := by
    intro fuel7
    induction fuel7 with
    | zero => intro b hm; exact absurd hm (Nat.not_lt_zero _)
    | succ fuel7 ih7 =>
      intro b hm hb
      refine wk_iload (pc := 7) S_ 4 d_Md_used_7 rfl ?_
      refine wk_aload_n (pc := 9) S_ 0 d_Md_used_9 rfl rfl ?_
      refine wk_get (pc := 10) (v := .int (nI (nb))) S_ 6 24 0 in_Md rfl (by decide) rfl fl_Md_117 d_Md_used_10 rfl rfl ?_
      refine wk_icmp_geN (pc := 13) (tgt := 52) S_ d_Md_used_13 (by decide) (by omega) (by omega) (fun h13 => ?_) (fun h13 => ?_)
      · -- taken
        refine wk_iload_n (pc := 52) S_ 3 d_Md_used_52 rfl rfl ?_
        exact hQ_ (nI ((usS bx b).2)) () d_Md_used_53 rfl (congrArg nI (by rw [show b = nb by omega]))
      · -- on
        refine wk_aload_n (pc := 16) S_ 1 d_Md_used_16 rfl rfl ?_
        refine wk_iload (pc := 17) S_ 4 d_Md_used_17 rfl ?_
        refine wk_ialdY (pc := 19) (g := bx) S_ 30 0 d_Md_used_19 rfl rfl (by omega) (by decide) ?_
        have hg1 := hgv b
        have hu1 := usS_le hgv b
        refine wk_if_ltY (pc := 20) (tgt := 46) S_ d_Md_used_20 (by decide) (by omega) (fun h20 => ?_) (fun h20 => ?_)
        · -- taken
          refine wk_iincN (pc := 46) (d := 1) (lv' := [(4, .int (nI (b + 1))), (0, .ref (m 0)), (1, .ref (m 30)), (2, .int (nI ((usS bx b).1))), (3, .int (nI ((usS bx b).2)))]) S_ 4 d_Md_used_46 (by decide) rfl (by decide) rfl ?_
          refine wk_goto (pc := 49) (tgt := 7) S_ d_Md_used_49 (by decide) ?_
          refine wk_lveq (lv' := [(4, .int (nI (b + 1))), (0, .ref (m 0)), (1, .ref (m 30)), (2, .int (nI ((usS bx (b + 1)).1))), (3, .int (nI ((usS bx b).2)))]) (by rw [usS, if_neg (by omega)]) ?_
          refine wk_lveq (lv' := [(4, .int (nI (b + 1))), (0, .ref (m 0)), (1, .ref (m 30)), (2, .int (nI ((usS bx (b + 1)).1))), (3, .int (nI ((usS bx (b + 1)).2)))]) (by rw [usS, if_neg (by omega)]) ?_
          refine wk_lv [1, 2, 3, 4, 0] ?_ (ih7 (b + 1) (by omega) (by omega))
          rfl
        · -- on
          refine wk_iload_n (pc := 23) S_ 2 d_Md_used_23 rfl rfl ?_
          refine wk_aload_n (pc := 24) S_ 1 d_Md_used_24 rfl rfl ?_
          refine wk_iload (pc := 25) S_ 4 d_Md_used_25 rfl ?_
          refine wk_ialdY (pc := 27) (g := bx) S_ 30 0 d_Md_used_27 rfl rfl (by omega) (by decide) ?_
          refine wk_top (y := (nI (bx b - 1))) (zI_p h20) ?_
          refine wk_ishrN (pc := 28) S_ d_Md_used_28 (by omega) (by omega) ?_
          refine wk_iconst (pc := 29) (v := (nI (1))) S_ d_Md_used_29 (by decide) ?_
          refine wk_iandN (pc := 30) S_ d_Md_used_30 ?_
          refine wk_if_neN (pc := 31) (tgt := 46) S_ d_Md_used_31 (by decide) (Nat.lt_of_le_of_lt Nat.and_le_right (by decide)) (fun h31 => ?_) (fun h31 => ?_)
          · -- taken
            refine wk_iincN (pc := 46) (d := 1) (lv' := [(4, .int (nI (b + 1))), (0, .ref (m 0)), (1, .ref (m 30)), (2, .int (nI ((usS bx b).1))), (3, .int (nI ((usS bx b).2)))]) S_ 4 d_Md_used_46 (by decide) rfl (by decide) rfl ?_
            refine wk_goto (pc := 49) (tgt := 7) S_ d_Md_used_49 (by decide) ?_
            refine wk_lveq (lv' := [(4, .int (nI (b + 1))), (0, .ref (m 0)), (1, .ref (m 30)), (2, .int (nI ((usS bx (b + 1)).1))), (3, .int (nI ((usS bx b).2)))]) (by rw [usS, if_neg (by omega)]) ?_
            refine wk_lveq (lv' := [(4, .int (nI (b + 1))), (0, .ref (m 0)), (1, .ref (m 30)), (2, .int (nI ((usS bx (b + 1)).1))), (3, .int (nI ((usS bx (b + 1)).2)))]) (by rw [usS, if_neg (by omega)]) ?_
            refine wk_lv [1, 2, 3, 4, 0] ?_ (ih7 (b + 1) (by omega) (by omega))
            rfl
          · -- on
            refine wk_iload_n (pc := 34) S_ 2 d_Md_used_34 rfl rfl ?_
            refine wk_iconst (pc := 35) (v := (nI (1))) S_ d_Md_used_35 (by decide) ?_
            refine wk_aload_n (pc := 36) S_ 1 d_Md_used_36 rfl rfl ?_
            refine wk_iload (pc := 37) S_ 4 d_Md_used_37 rfl ?_
            refine wk_ialdY (pc := 39) (g := bx) S_ 30 0 d_Md_used_39 rfl rfl (by omega) (by decide) ?_
            refine wk_top (y := (nI (bx b - 1))) (zI_p h20) ?_
            refine wk_ishlN (pc := 40) S_ d_Md_used_40 (by omega) ?_
            refine wk_iorN (pc := 41) S_ d_Md_used_41 ?_
            refine wk_istore_n (pc := 42) (lv' := [(2, .int (nI (((usS bx b).1) ||| (2 ^ (bx b - 1))))), (0, .ref (m 0)), (1, .ref (m 30)), (3, .int (nI ((usS bx b).2))), (4, .int (nI (b)))]) S_ d_Md_used_42 rfl (by decide) rfl ?_
            refine wk_iincN (pc := 43) (d := 1) (lv' := [(3, .int (nI ((usS bx b).2 + 1))), (2, .int (nI (((usS bx b).1) ||| (2 ^ (bx b - 1))))), (0, .ref (m 0)), (1, .ref (m 30)), (4, .int (nI (b)))]) S_ 3 d_Md_used_43 (by decide) rfl (by decide) rfl ?_
            refine wk_iincN (pc := 46) (d := 1) (lv' := [(4, .int (nI (b + 1))), (3, .int (nI ((usS bx b).2 + 1))), (2, .int (nI (((usS bx b).1) ||| (2 ^ (bx b - 1))))), (0, .ref (m 0)), (1, .ref (m 30))]) S_ 4 d_Md_used_46 (by decide) rfl (by decide) rfl ?_
            refine wk_goto (pc := 49) (tgt := 7) S_ d_Md_used_49 (by decide) ?_
            refine wk_lveq (lv' := [(4, .int (nI (b + 1))), (3, .int (nI ((usS bx b).2 + 1))), (2, .int (nI ((usS bx (b + 1)).1))), (0, .ref (m 0)), (1, .ref (m 30))]) (by rw [usS, if_pos ⟨h20, h31⟩]) ?_
            refine wk_lveq (lv' := [(4, .int (nI (b + 1))), (3, .int (nI ((usS bx (b + 1)).2))), (2, .int (nI ((usS bx (b + 1)).1))), (0, .ref (m 0)), (1, .ref (m 30))]) (by rw [usS, if_pos ⟨h20, h31⟩]) ?_
            refine wk_lv [3, 4, 2, 1, 0] ?_ (ih7 (b + 1) (by omega) (by omega))
            rfl
  refine wk_lv [3, 4, 2, 1, 0] ?_ (hL7 _ (0) (Nat.lt_succ_self _) (by omega))
  rfl
set_option maxHeartbeats 4000000 in
set_option maxRecDepth 100000 in
theorem c_Md_keeps_wy (l : Launch) (D : va_G) (cI : CiT) (z : GzT) (m : Nat → Nat) (tx : (Nat → Nat)) (sz : Nat) (ap : (Nat → Bool)) (pt : (Nat → Nat)) (rk : (Nat → Nat)) (cd : (Nat → Nat)) (fr : Nat) (mc : (Nat → Nat)) (mg : (Nat → Nat)) (mz : (Nat → Nat)) (nc : (Nat → Nat)) (nt : (Nat → Nat)) (ld : (Nat → Nat)) (qap : (Nat → Bool)) (qpt : (Nat → Nat)) (qrk : (Nat → Nat)) (qcd : (Nat → Nat)) (qfr : Nat) (qmc : (Nat → Nat)) (qmg : (Nat → Nat)) (qmz : (Nat → Nat)) (qnc : (Nat → Nat)) (qnt : (Nat → Nat)) (qld : (Nat → Nat)) (nb : Nat) (cl : (Nat → Nat)) (gr : (Nat → Nat)) (sp : (Nat → Nat)) (ot : (Nat → Bool)) (na : Nat) (aw : (Nat → Nat)) (nx : Nat) (bg : (Nat → Nat)) (bb : (Nat → Nat)) (ab : (Nat → Nat)) (fd : Bool) (pv : Bool) (bx : (Nat → Nat)) (wy : (Nat → Nat)) (li : (Nat → Nat)) (fm : Nat) (en : Nat) (nu : Nat) (td : (Nat → Nat)) (lf : Int32) (lk : Int32) (hnb : nb ≤ 8) (hnx : nx ≤ 5) (hgr : ∀ b, gr b ≤ 100000) (hcl : ∀ b, cl b ≤ 9) (hgv : ∀ b, wy b ≤ 5) (hcv : ∀ b, b < nb → wy b ≠ 0 → cl b ≠ 0) (hbg : ∀ x, bg x ≤ 1000000) (hbb : ∀ x, bb x ≤ 8) (hab : ∀ x, ab x ≤ 1000000) : wk_C l D (tyK cI) (gX z) y_Md_keeps b_Md_keeps 8 (some .boolean) 0 0 0 0 [.ref (m 0), .ref (m 31)] (wMd m cI tx sz ap pt rk cd fr mc mg mz nc nt ld qap qpt qrk qcd qfr qmc qmg qmz qnc qnt qld nb cl gr sp ot na aw nx bg bb ab fd pv bx wy li fm en nu td lf lk) wk_i (fun (r : Int32) (_ : Unit) => r = (bI (kpB ap cl gr wy bg bb ab nb nx))) (fun _ => (wMd m cI tx sz ap pt rk cd fr mc mg mz nc nt ld qap qpt qrk qcd qfr qmc qmg qmz qnc qnt qld nb cl gr sp ot na aw nx bg bb ab fd pv bx wy li fm en nu td lf lk)) := by
  refine wk_methZ (own := R_Md) [(0, .ref (m 0)), (1, .ref (m 31))] (by decide) rfl (Nat.le_of_ble_eq_true rfl) rfl (gX_ok z) (fun p_ e_ R_ s_ m_ ar_ be_ me_ co_ Q_ A_ hR_ S_ hnm_ hQ_ => ?_)
  refine wk_iconst (pc := 0) (v := (nI (0))) S_ d_Md_keeps_0 (by decide) ?_
  refine wk_istore_n (pc := 1) (lv' := [(2, .int (nI (0))), (0, .ref (m 0)), (1, .ref (m 31))]) S_ d_Md_keeps_1 rfl (by decide) rfl ?_
  have hL2 : ∀ (fuel2 : Nat), ∀ (x : Nat), nx - x < fuel2 → (x ≤ nx) → (∀ y, y < x → bxP ap cl gr wy bg bb ab nb y) → wk_G p_ l e_ R_ s_ m_ ar_ be_ me_ co_ Q_ D A_ 8 0 0 (wMd m cI tx sz ap pt rk cd fr mc mg mz nc nt ld qap qpt qrk qcd qfr qmc qmg qmz qnc qnt qld nb cl gr sp ot na aw nx bg bb ab fd pv bx wy li fm en nu td lf lk) 2 [(0, .ref (m 0)), (1, .ref (m 31)), (2, .int (nI (x)))] [] := by
    intro fuel2
    induction fuel2 with
    | zero => intro x hm; exact absurd hm (Nat.not_lt_zero _)
    | succ fuel2 ih2 =>
      intro x hm hx hX
      refine wk_iload_n (pc := 2) S_ 2 d_Md_keeps_2 rfl rfl ?_
      refine wk_aload_n (pc := 3) S_ 0 d_Md_keeps_3 rfl rfl ?_
      refine wk_get (pc := 4) (v := .int (nI (nx))) S_ 6 31 0 in_Md rfl (by decide) rfl fl_Md_213 d_Md_keeps_4 rfl rfl ?_
      refine wk_icmp_geN (pc := 7) (tgt := 147) S_ d_Md_keeps_7 (by decide) (by omega) (by omega) (fun h7 => ?_) (fun h7 => ?_)
      · -- taken
        refine wk_iconst (pc := 147) (v := (nI (1))) S_ d_Md_keeps_147 (by decide) ?_
        exact hQ_ (nI (1)) () d_Md_keeps_148 rfl rfl (bI_t (kpB_t (fun y hy => hX y (by omega))))
      · -- on
        have ha1 := hab x
        refine wk_iconst (pc := 10) (v := (nI (0))) S_ d_Md_keeps_10 (by decide) ?_
        refine wk_istore_n (pc := 11) (lv' := [(3, .int (nI (0))), (0, .ref (m 0)), (1, .ref (m 31)), (2, .int (nI (x)))]) S_ d_Md_keeps_11 rfl (by decide) rfl ?_
        refine wk_aload_n (pc := 12) S_ 1 d_Md_keeps_12 rfl rfl ?_
        refine wk_get (pc := 13) (v := .ref (m 29)) S_ 6 34 0 in_Md rfl (by decide) rfl fl_Md_96 d_Md_keeps_13 rfl rfl ?_
        refine wk_iload_n (pc := 16) S_ 3 d_Md_keeps_16 rfl rfl ?_
        refine wk_lald (pc := 17) (g := ab) S_ 29 2 d_Md_keeps_17 rfl rfl (by omega) (by decide) ?_
        refine wk_lstore (pc := 18) (lv' := [(4, .long (lN ((ab) (x)))), (3, .int (nI (0))), (0, .ref (m 0)), (1, .ref (m 31)), (2, .int (nI (x)))]) S_ d_Md_keeps_18 (by decide) rfl ?_
        refine wk_iconst (pc := 20) (v := (nI (0))) S_ d_Md_keeps_20 (by decide) ?_
        refine wk_istore (pc := 21) (lv' := [(6, .int (nI (0))), (4, .long (lN ((ab) (x)))), (3, .int (nI (0))), (0, .ref (m 0)), (1, .ref (m 31)), (2, .int (nI (x)))]) S_ d_Md_keeps_21 (by decide) rfl ?_
        have hL23 : ∀ (fuel23 : Nat), ∀ (b : Nat), nb - b < fuel23 → (b ≤ nb) → (∀ b2, b2 < b → wy b2 = x + 1 → ∀ d, d < b2 → wy d = x + 1 → ap (9 * (cl b2 - 1) + (cl d - 1)) = false) → wk_G p_ l e_ R_ s_ m_ ar_ be_ me_ co_ Q_ D A_ 8 0 0 (wMd m cI tx sz ap pt rk cd fr mc mg mz nc nt ld qap qpt qrk qcd qfr qmc qmg qmz qnc qnt qld nb cl gr sp ot na aw nx bg bb ab fd pv bx wy li fm en nu td lf lk) 23 [(0, .ref (m 0)), (1, .ref (m 31)), (2, .int (nI (x))), (3, .int (nI (cnN wy (x + 1) b))), (4, .long (lN (ab x + smN gr wy (x + 1) b))), (6, .int (nI (b)))] [] := by
          intro fuel23
          induction fuel23 with
          | zero => intro b hm; exact absurd hm (Nat.not_lt_zero _)
          | succ fuel23 ih23 =>
            intro b hm hb hB
            refine wk_iload (pc := 23) S_ 5 d_Md_keeps_23 rfl ?_
            refine wk_aload_n (pc := 25) S_ 0 d_Md_keeps_25 rfl rfl ?_
            refine wk_get (pc := 26) (v := .int (nI (nb))) S_ 6 24 0 in_Md rfl (by decide) rfl fl_Md_117 d_Md_keeps_26 rfl rfl ?_
            refine wk_icmp_geN (pc := 29) (tgt := 113) S_ d_Md_keeps_29 (by decide) (by omega) (by omega) (fun h29 => ?_) (fun h29 => ?_)
            · -- taken
              have hbn : b = nb := by omega
              subst hbn
              have hc5 := cnN_le (gv := wy) (x := x + 1) b
              have hs5 := smN_le (gr := gr) (gv := wy) (x := x + 1) hgr b
              have hb5 := hbb x
              have hb6 := hbg x
              refine wk_iload_n (pc := 113) S_ 3 d_Md_keeps_113 rfl rfl ?_
              refine wk_aload_n (pc := 114) S_ 0 d_Md_keeps_114 rfl rfl ?_
              refine wk_get (pc := 115) (v := .ref (m 28)) S_ 6 33 0 in_Md rfl (by decide) rfl fl_Md_93 d_Md_keeps_115 rfl rfl ?_
              refine wk_iload_n (pc := 118) S_ 2 d_Md_keeps_118 rfl rfl ?_
              refine wk_ialdN (pc := 119) (g := bb) S_ 28 0 d_Md_keeps_119 rfl rfl (by omega) (by decide) ?_
              refine wk_icmp_gtN (pc := 120) (tgt := 139) S_ d_Md_keeps_120 (by decide) (by omega) (by omega) (fun h120 => ?_) (fun h120 => ?_)
              · -- taken
                refine wk_iconst (pc := 139) (v := (nI (0))) S_ d_Md_keeps_139 (by decide) ?_
                exact hQ_ (nI (0)) () d_Md_keeps_140 rfl rfl (bI_f (kpB_f (fun h => absurd (h x (by omega)).2 (by omega))))
              · -- on
                refine wk_iload_n (pc := 123) S_ 3 d_Md_keeps_123 rfl rfl ?_
                refine wk_if_leN (pc := 124) (tgt := 141) S_ d_Md_keeps_124 (by decide) (by omega) (fun h124 => ?_) (fun h124 => ?_)
                · -- taken
                  have hcn : cnN wy (x + 1) b ≤ bb x := by omega
                  have hsm : cnN wy (x + 1) b = 0 ∨ ab x + smN gr wy (x + 1) b ≤ bg x := by omega
                  refine wk_iincN (pc := 141) (d := 1) (lv' := [(2, .int (nI (x + 1))), (0, .ref (m 0)), (1, .ref (m 31)), (3, .int (nI (cnN wy (x + 1) b))), (4, .long (lN (ab x + smN gr wy (x + 1) b))), (6, .int (nI (b)))]) S_ 2 d_Md_keeps_141 (by decide) rfl (by decide) rfl ?_
                  refine wk_goto (pc := 144) (tgt := 2) S_ d_Md_keeps_144 (by decide) ?_
                  refine wk_lv [1, 2, 0] ?_ (ih2 (x + 1) (by omega) (by omega) (fun y hy => by by_cases e : y = x; subst e; exact ⟨fun b2 hb2 => hB b2 (by omega), hcn, hsm⟩; exact hX y (by omega)))
                  rfl
                · -- on
                  refine wk_lload (pc := 127) S_ 4 d_Md_keeps_127 rfl ?_
                  refine wk_aload_n (pc := 129) S_ 0 d_Md_keeps_129 rfl rfl ?_
                  refine wk_get (pc := 130) (v := .ref (m 27)) S_ 6 32 0 in_Md rfl (by decide) rfl fl_Md_90 d_Md_keeps_130 rfl rfl ?_
                  refine wk_iload_n (pc := 133) S_ 2 d_Md_keeps_133 rfl rfl ?_
                  refine wk_lald (pc := 134) (g := bg) S_ 27 2 d_Md_keeps_134 rfl rfl (by omega) (by decide) ?_
                  refine wk_lcmp (pc := 135) S_ d_Md_keeps_135 ?_
                  refine wk_cmp_leN (pc := 136) (tgt := 141) S_ d_Md_keeps_136 (by decide) (by omega) (by omega) (fun h136 => ?_) (fun h136 => ?_)
                  · -- taken
                    have hcn : cnN wy (x + 1) b ≤ bb x := by omega
                    have hsm : cnN wy (x + 1) b = 0 ∨ ab x + smN gr wy (x + 1) b ≤ bg x := by omega
                    refine wk_iincN (pc := 141) (d := 1) (lv' := [(2, .int (nI (x + 1))), (0, .ref (m 0)), (1, .ref (m 31)), (3, .int (nI (cnN wy (x + 1) b))), (4, .long (lN (ab x + smN gr wy (x + 1) b))), (6, .int (nI (b)))]) S_ 2 d_Md_keeps_141 (by decide) rfl (by decide) rfl ?_
                    refine wk_goto (pc := 144) (tgt := 2) S_ d_Md_keeps_144 (by decide) ?_
                    refine wk_lv [1, 2, 0] ?_ (ih2 (x + 1) (by omega) (by omega) (fun y hy => by by_cases e : y = x; subst e; exact ⟨fun b2 hb2 => hB b2 (by omega), hcn, hsm⟩; exact hX y (by omega)))
                    rfl
                  · -- on
                    refine wk_iconst (pc := 139) (v := (nI (0))) S_ d_Md_keeps_139 (by decide) ?_
                    exact hQ_ (nI (0)) () d_Md_keeps_140 rfl rfl (bI_f (kpB_f (fun h => absurd (h x (by omega)).2 (by omega))))
            · -- on
              refine wk_aload_n (pc := 32) S_ 1 d_Md_keeps_32 rfl rfl ?_
              refine wk_iload (pc := 33) S_ 5 d_Md_keeps_33 rfl ?_
              refine wk_ialdY (pc := 35) (g := wy) S_ 31 0 d_Md_keeps_35 rfl rfl (by omega) (by decide) ?_
              refine wk_iload_n (pc := 36) S_ 2 d_Md_keeps_36 rfl rfl ?_
              have hg1 := hgv b
              refine wk_icmp_neYN (pc := 37) (tgt := 107) S_ d_Md_keeps_37 (by decide) (by omega) (by omega) (fun h37 => ?_) (fun h37 => ?_)
              · -- taken
                refine wk_lveq (lv' := [(0, .ref (m 0)), (1, .ref (m 31)), (2, .int (nI (x))), (3, .int (nI (cnN wy (x + 1) (b + 1)))), (4, .long (lN (ab x + smN gr wy (x + 1) b))), (6, .int (nI (b)))]) (by simp only [cnN, smN, if_neg h37, Nat.add_zero]) ?_
                refine wk_lveq (lv' := [(0, .ref (m 0)), (1, .ref (m 31)), (2, .int (nI (x))), (3, .int (nI (cnN wy (x + 1) (b + 1)))), (4, .long (lN (ab x + smN gr wy (x + 1) (b + 1)))), (6, .int (nI (b)))]) (by simp only [cnN, smN, if_neg h37, Nat.add_zero]) ?_
                refine wk_iincN (pc := 107) (d := 1) (lv' := [(6, .int (nI (b + 1))), (0, .ref (m 0)), (1, .ref (m 31)), (2, .int (nI (x))), (3, .int (nI (cnN wy (x + 1) (b + 1)))), (4, .long (lN (ab x + smN gr wy (x + 1) (b + 1))))]) S_ 5 d_Md_keeps_107 (by decide) rfl (by decide) rfl ?_
                refine wk_goto (pc := 110) (tgt := 23) S_ d_Md_keeps_110 (by decide) ?_
                refine wk_lv [1, 2, 3, 4, 5, 0] ?_ (ih23 (b + 1) (by omega) (by omega) (fun b2 hb2 e2 d2 hd2 => by by_cases e : b2 = b; subst e; exact absurd e2 h37; exact hB b2 (by omega) e2 d2 hd2))
                rfl
              · -- on
                have hc1 := hcl b
                have hc2 := hcv b (by omega) (by omega)
                refine wk_iincN (pc := 40) (d := 1) (lv' := [(3, .int (nI (cnN wy (x + 1) b + 1))), (0, .ref (m 0)), (1, .ref (m 31)), (2, .int (nI (x))), (4, .long (lN (ab x + smN gr wy (x + 1) b))), (6, .int (nI (b)))]) S_ 3 d_Md_keeps_40 (by decide) rfl (by decide) rfl ?_
                refine wk_lload (pc := 43) S_ 4 d_Md_keeps_43 rfl ?_
                refine wk_aload_n (pc := 45) S_ 1 d_Md_keeps_45 rfl rfl ?_
                refine wk_get (pc := 46) (v := .ref (m 23)) S_ 6 26 0 in_Md rfl (by decide) rfl fl_Md_77 d_Md_keeps_46 rfl rfl ?_
                refine wk_iload (pc := 49) S_ 5 d_Md_keeps_49 rfl ?_
                refine wk_lald (pc := 51) (g := gr) S_ 23 2 d_Md_keeps_51 rfl rfl (by omega) (by decide) ?_
                refine wk_laddN (pc := 52) S_ d_Md_keeps_52 ?_
                refine wk_topl (y := (lN (ab x + smN gr wy (x + 1) (b + 1)))) (congrArg lN (by rw [smN, if_pos h37]; omega)) ?_
                refine wk_lstore (pc := 53) (lv' := [(4, .long (lN (ab x + smN gr wy (x + 1) (b + 1)))), (3, .int (nI (cnN wy (x + 1) b + 1))), (0, .ref (m 0)), (1, .ref (m 31)), (2, .int (nI (x))), (6, .int (nI (b)))]) S_ d_Md_keeps_53 (by decide) rfl ?_
                refine wk_lveq (lv' := [(4, .long (lN (ab x + smN gr wy (x + 1) (b + 1)))), (3, .int (nI (cnN wy (x + 1) (b + 1)))), (0, .ref (m 0)), (1, .ref (m 31)), (2, .int (nI (x))), (6, .int (nI (b)))]) (by rw [cnN, if_pos h37]) ?_
                refine wk_iconst (pc := 55) (v := (nI (0))) S_ d_Md_keeps_55 (by decide) ?_
                refine wk_istore (pc := 56) (lv' := [(7, .int (nI (0))), (4, .long (lN (ab x + smN gr wy (x + 1) (b + 1)))), (3, .int (nI (cnN wy (x + 1) (b + 1)))), (0, .ref (m 0)), (1, .ref (m 31)), (2, .int (nI (x))), (6, .int (nI (b)))]) S_ d_Md_keeps_56 (by decide) rfl ?_
                have hL58 : ∀ (fuel58 : Nat), ∀ (d : Nat), b - d < fuel58 → (d ≤ b) → (∀ d2, d2 < d → wy d2 = x + 1 → ap (9 * (cl b - 1) + (cl d2 - 1)) = false) → wk_G p_ l e_ R_ s_ m_ ar_ be_ me_ co_ Q_ D A_ 8 0 0 (wMd m cI tx sz ap pt rk cd fr mc mg mz nc nt ld qap qpt qrk qcd qfr qmc qmg qmz qnc qnt qld nb cl gr sp ot na aw nx bg bb ab fd pv bx wy li fm en nu td lf lk) 58 [(0, .ref (m 0)), (1, .ref (m 31)), (2, .int (nI (x))), (3, .int (nI (cnN wy (x + 1) (b + 1)))), (4, .long (lN (ab x + smN gr wy (x + 1) (b + 1)))), (6, .int (nI (b))), (7, .int (nI (d)))] [] := by
                  intro fuel58
                  induction fuel58 with
                  | zero => intro d hm; exact absurd hm (Nat.not_lt_zero _)
                  | succ fuel58 ih58 =>
                    intro d hm hd hDD
                    refine wk_iload (pc := 58) S_ 6 d_Md_keeps_58 rfl ?_
                    refine wk_iload (pc := 60) S_ 5 d_Md_keeps_60 rfl ?_
                    refine wk_icmp_geN (pc := 62) (tgt := 107) S_ d_Md_keeps_62 (by decide) (by omega) (by omega) (fun h62 => ?_) (fun h62 => ?_)
                    · -- taken
                      refine wk_iincN (pc := 107) (d := 1) (lv' := [(6, .int (nI (b + 1))), (0, .ref (m 0)), (1, .ref (m 31)), (2, .int (nI (x))), (3, .int (nI (cnN wy (x + 1) (b + 1)))), (4, .long (lN (ab x + smN gr wy (x + 1) (b + 1)))), (7, .int (nI (d)))]) S_ 5 d_Md_keeps_107 (by decide) rfl (by decide) rfl ?_
                      refine wk_goto (pc := 110) (tgt := 23) S_ d_Md_keeps_110 (by decide) ?_
                      refine wk_lv [1, 2, 3, 4, 5, 0] ?_ (ih23 (b + 1) (by omega) (by omega) (fun b2 hb2 e2 d2 hd2 => by by_cases e : b2 = b; subst e; exact hDD d2 (by omega); exact hB b2 (by omega) e2 d2 hd2))
                      rfl
                    · -- on
                      refine wk_aload_n (pc := 65) S_ 1 d_Md_keeps_65 rfl rfl ?_
                      refine wk_iload (pc := 66) S_ 6 d_Md_keeps_66 rfl ?_
                      refine wk_ialdY (pc := 68) (g := wy) S_ 31 0 d_Md_keeps_68 rfl rfl (by omega) (by decide) ?_
                      refine wk_iload_n (pc := 69) S_ 2 d_Md_keeps_69 rfl rfl ?_
                      have hg2 := hgv d
                      refine wk_icmp_neYN (pc := 70) (tgt := 101) S_ d_Md_keeps_70 (by decide) (by omega) (by omega) (fun h70 => ?_) (fun h70 => ?_)
                      · -- taken
                        refine wk_iincN (pc := 101) (d := 1) (lv' := [(7, .int (nI (d + 1))), (0, .ref (m 0)), (1, .ref (m 31)), (2, .int (nI (x))), (3, .int (nI (cnN wy (x + 1) (b + 1)))), (4, .long (lN (ab x + smN gr wy (x + 1) (b + 1)))), (6, .int (nI (b)))]) S_ 6 d_Md_keeps_101 (by decide) rfl (by decide) rfl ?_
                        refine wk_goto (pc := 104) (tgt := 58) S_ d_Md_keeps_104 (by decide) ?_
                        refine wk_lv [1, 2, 3, 4, 5, 6, 0] ?_ (ih58 (d + 1) (by omega) (by omega) (fun d2 hd2 e2 => by by_cases e : d2 = d; subst e; exact absurd e2 h70; exact hDD d2 (by omega) e2))
                        rfl
                      · -- on
                        have hc3 := hcl d
                        have hc4 := hcv d (by omega) (by omega)
                        refine wk_aload_n (pc := 73) S_ 0 d_Md_keeps_73 rfl rfl ?_
                        refine wk_get (pc := 74) (v := .ref (m 2)) S_ 6 2 0 in_Md rfl (by decide) rfl fl_Md_13 d_Md_keeps_74 rfl rfl ?_
                        refine wk_bipush (pc := 77) (v := (nI (9))) S_ d_Md_keeps_77 (by decide) ?_
                        refine wk_aload_n (pc := 79) S_ 0 d_Md_keeps_79 rfl rfl ?_
                        refine wk_get (pc := 80) (v := .ref (m 22)) S_ 6 25 0 in_Md rfl (by decide) rfl fl_Md_74 d_Md_keeps_80 rfl rfl ?_
                        refine wk_iload (pc := 83) S_ 5 d_Md_keeps_83 rfl ?_
                        refine wk_ialdY (pc := 85) (g := cl) S_ 22 0 d_Md_keeps_85 rfl rfl (by omega) (by decide) ?_
                        refine wk_top (y := (nI (cl b - 1))) (zI_p hc2) ?_
                        refine wk_imulN (pc := 86) S_ d_Md_keeps_86 ?_
                        refine wk_aload_n (pc := 87) S_ 0 d_Md_keeps_87 rfl rfl ?_
                        refine wk_get (pc := 88) (v := .ref (m 22)) S_ 6 25 0 in_Md rfl (by decide) rfl fl_Md_74 d_Md_keeps_88 rfl rfl ?_
                        refine wk_iload (pc := 91) S_ 6 d_Md_keeps_91 rfl ?_
                        refine wk_ialdY (pc := 93) (g := cl) S_ 22 0 d_Md_keeps_93 rfl rfl (by omega) (by decide) ?_
                        refine wk_top (y := (nI (cl d - 1))) (zI_p hc4) ?_
                        refine wk_iaddN (pc := 94) S_ d_Md_keeps_94 ?_
                        refine wk_zald (pc := 95) (g := ap) S_ 2 1 d_Md_keeps_95 rfl rfl (by omega) (by decide) ?_
                        refine wk_if_eqB (pc := 96) (tgt := 101) S_ d_Md_keeps_96 (by decide) (fun h96 => ?_) (fun h96 => ?_)
                        · -- taken
                          refine wk_iincN (pc := 101) (d := 1) (lv' := [(7, .int (nI (d + 1))), (0, .ref (m 0)), (1, .ref (m 31)), (2, .int (nI (x))), (3, .int (nI (cnN wy (x + 1) (b + 1)))), (4, .long (lN (ab x + smN gr wy (x + 1) (b + 1)))), (6, .int (nI (b)))]) S_ 6 d_Md_keeps_101 (by decide) rfl (by decide) rfl ?_
                          refine wk_goto (pc := 104) (tgt := 58) S_ d_Md_keeps_104 (by decide) ?_
                          refine wk_lv [1, 2, 3, 4, 5, 6, 0] ?_ (ih58 (d + 1) (by omega) (by omega) (fun d2 hd2 e2 => by by_cases e : d2 = d; subst e; exact h96; exact hDD d2 (by omega) e2))
                          rfl
                        · -- on
                          refine wk_iconst (pc := 99) (v := (nI (0))) S_ d_Md_keeps_99 (by decide) ?_
                          exact hQ_ (nI (0)) () d_Md_keeps_100 rfl rfl (bI_f (kpB_f (fun h => absurd ((h x (by omega)).1 b (by omega) h37 d (by omega) h70) (by rw [h96]; decide))))
                refine wk_lv [3, 4, 5, 2, 1, 6, 0] ?_ (hL58 _ (0) (Nat.lt_succ_self _) (by omega) (fun y h => absurd h (Nat.not_lt_zero _)))
                rfl
        refine wk_lv [3, 4, 5, 2, 1, 0] ?_ (hL23 _ (0) (Nat.lt_succ_self _) (by omega) (fun y h => absurd h (Nat.not_lt_zero _)))
        rfl
  refine wk_lv [1, 2, 0] ?_ (hL2 _ (0) (Nat.lt_succ_self _) (by omega) (fun y h => absurd h (Nat.not_lt_zero _)))
  rfl
set_option maxHeartbeats 4000000 in
set_option maxRecDepth 100000 in
theorem c_Md_used_wy (l : Launch) (D : va_G) (cI : CiT) (z : GzT) (m : Nat → Nat) (tx : (Nat → Nat)) (sz : Nat) (ap : (Nat → Bool)) (pt : (Nat → Nat)) (rk : (Nat → Nat)) (cd : (Nat → Nat)) (fr : Nat) (mc : (Nat → Nat)) (mg : (Nat → Nat)) (mz : (Nat → Nat)) (nc : (Nat → Nat)) (nt : (Nat → Nat)) (ld : (Nat → Nat)) (qap : (Nat → Bool)) (qpt : (Nat → Nat)) (qrk : (Nat → Nat)) (qcd : (Nat → Nat)) (qfr : Nat) (qmc : (Nat → Nat)) (qmg : (Nat → Nat)) (qmz : (Nat → Nat)) (qnc : (Nat → Nat)) (qnt : (Nat → Nat)) (qld : (Nat → Nat)) (nb : Nat) (cl : (Nat → Nat)) (gr : (Nat → Nat)) (sp : (Nat → Nat)) (ot : (Nat → Bool)) (na : Nat) (aw : (Nat → Nat)) (nx : Nat) (bg : (Nat → Nat)) (bb : (Nat → Nat)) (ab : (Nat → Nat)) (fd : Bool) (pv : Bool) (bx : (Nat → Nat)) (wy : (Nat → Nat)) (li : (Nat → Nat)) (fm : Nat) (en : Nat) (nu : Nat) (td : (Nat → Nat)) (lf : Int32) (lk : Int32) (hnb : nb ≤ 8) (hgv : ∀ b, wy b ≤ 5) : wk_C l D (tyK cI) (gX z) y_Md_used b_Md_used 5 (some .int) 0 0 0 0 [.ref (m 0), .ref (m 31)] (wMd m cI tx sz ap pt rk cd fr mc mg mz nc nt ld qap qpt qrk qcd qfr qmc qmg qmz qnc qnt qld nb cl gr sp ot na aw nx bg bb ab fd pv bx wy li fm en nu td lf lk) wk_i (fun (r : Int32) (_ : Unit) => r = (nI ((usS wy nb).2))) (fun _ => (wMd m cI tx sz ap pt rk cd fr mc mg mz nc nt ld qap qpt qrk qcd qfr qmc qmg qmz qnc qnt qld nb cl gr sp ot na aw nx bg bb ab fd pv bx wy li fm en nu td lf lk)) := by
  refine wk_methI (own := R_Md) [(0, .ref (m 0)), (1, .ref (m 31))] (by decide) rfl (Nat.le_of_ble_eq_true rfl) rfl (gX_ok z) (fun p_ e_ R_ s_ m_ ar_ be_ me_ co_ Q_ A_ hR_ S_ hnm_ hQ_ => ?_)
  refine wk_iconst (pc := 0) (v := (nI (0))) S_ d_Md_used_0 (by decide) ?_
  refine wk_istore_n (pc := 1) (lv' := [(2, .int (nI (0))), (0, .ref (m 0)), (1, .ref (m 31))]) S_ d_Md_used_1 rfl (by decide) rfl ?_
  refine wk_iconst (pc := 2) (v := (nI (0))) S_ d_Md_used_2 (by decide) ?_
  refine wk_istore_n (pc := 3) (lv' := [(3, .int (nI (0))), (2, .int (nI (0))), (0, .ref (m 0)), (1, .ref (m 31))]) S_ d_Md_used_3 rfl (by decide) rfl ?_
  refine wk_iconst (pc := 4) (v := (nI (0))) S_ d_Md_used_4 (by decide) ?_
  refine wk_istore (pc := 5) (lv' := [(4, .int (nI (0))), (3, .int (nI (0))), (2, .int (nI (0))), (0, .ref (m 0)), (1, .ref (m 31))]) S_ d_Md_used_5 (by decide) rfl ?_
  have hL7 : ∀ (fuel7 : Nat), ∀ (b : Nat), nb - b < fuel7 → (b ≤ nb) → wk_G p_ l e_ R_ s_ m_ ar_ be_ me_ co_ Q_ D A_ 5 0 0 (wMd m cI tx sz ap pt rk cd fr mc mg mz nc nt ld qap qpt qrk qcd qfr qmc qmg qmz qnc qnt qld nb cl gr sp ot na aw nx bg bb ab fd pv bx wy li fm en nu td lf lk) 7 [(0, .ref (m 0)), (1, .ref (m 31)), (2, .int (nI ((usS wy b).1))), (3, .int (nI ((usS wy b).2))), (4, .int (nI (b)))] [] := by
    intro fuel7
    induction fuel7 with
    | zero => intro b hm; exact absurd hm (Nat.not_lt_zero _)
    | succ fuel7 ih7 =>
      intro b hm hb
      refine wk_iload (pc := 7) S_ 4 d_Md_used_7 rfl ?_
      refine wk_aload_n (pc := 9) S_ 0 d_Md_used_9 rfl rfl ?_
      refine wk_get (pc := 10) (v := .int (nI (nb))) S_ 6 24 0 in_Md rfl (by decide) rfl fl_Md_117 d_Md_used_10 rfl rfl ?_
      refine wk_icmp_geN (pc := 13) (tgt := 52) S_ d_Md_used_13 (by decide) (by omega) (by omega) (fun h13 => ?_) (fun h13 => ?_)
      · -- taken
        refine wk_iload_n (pc := 52) S_ 3 d_Md_used_52 rfl rfl ?_
        exact hQ_ (nI ((usS wy b).2)) () d_Md_used_53 rfl (congrArg nI (by rw [show b = nb by omega]))
      · -- on
        refine wk_aload_n (pc := 16) S_ 1 d_Md_used_16 rfl rfl ?_
        refine wk_iload (pc := 17) S_ 4 d_Md_used_17 rfl ?_
        refine wk_ialdY (pc := 19) (g := wy) S_ 31 0 d_Md_used_19 rfl rfl (by omega) (by decide) ?_
        have hg1 := hgv b
        have hu1 := usS_le hgv b
        refine wk_if_ltY (pc := 20) (tgt := 46) S_ d_Md_used_20 (by decide) (by omega) (fun h20 => ?_) (fun h20 => ?_)
        · -- taken
          refine wk_iincN (pc := 46) (d := 1) (lv' := [(4, .int (nI (b + 1))), (0, .ref (m 0)), (1, .ref (m 31)), (2, .int (nI ((usS wy b).1))), (3, .int (nI ((usS wy b).2)))]) S_ 4 d_Md_used_46 (by decide) rfl (by decide) rfl ?_
          refine wk_goto (pc := 49) (tgt := 7) S_ d_Md_used_49 (by decide) ?_
          refine wk_lveq (lv' := [(4, .int (nI (b + 1))), (0, .ref (m 0)), (1, .ref (m 31)), (2, .int (nI ((usS wy (b + 1)).1))), (3, .int (nI ((usS wy b).2)))]) (by rw [usS, if_neg (by omega)]) ?_
          refine wk_lveq (lv' := [(4, .int (nI (b + 1))), (0, .ref (m 0)), (1, .ref (m 31)), (2, .int (nI ((usS wy (b + 1)).1))), (3, .int (nI ((usS wy (b + 1)).2)))]) (by rw [usS, if_neg (by omega)]) ?_
          refine wk_lv [1, 2, 3, 4, 0] ?_ (ih7 (b + 1) (by omega) (by omega))
          rfl
        · -- on
          refine wk_iload_n (pc := 23) S_ 2 d_Md_used_23 rfl rfl ?_
          refine wk_aload_n (pc := 24) S_ 1 d_Md_used_24 rfl rfl ?_
          refine wk_iload (pc := 25) S_ 4 d_Md_used_25 rfl ?_
          refine wk_ialdY (pc := 27) (g := wy) S_ 31 0 d_Md_used_27 rfl rfl (by omega) (by decide) ?_
          refine wk_top (y := (nI (wy b - 1))) (zI_p h20) ?_
          refine wk_ishrN (pc := 28) S_ d_Md_used_28 (by omega) (by omega) ?_
          refine wk_iconst (pc := 29) (v := (nI (1))) S_ d_Md_used_29 (by decide) ?_
          refine wk_iandN (pc := 30) S_ d_Md_used_30 ?_
          refine wk_if_neN (pc := 31) (tgt := 46) S_ d_Md_used_31 (by decide) (Nat.lt_of_le_of_lt Nat.and_le_right (by decide)) (fun h31 => ?_) (fun h31 => ?_)
          · -- taken
            refine wk_iincN (pc := 46) (d := 1) (lv' := [(4, .int (nI (b + 1))), (0, .ref (m 0)), (1, .ref (m 31)), (2, .int (nI ((usS wy b).1))), (3, .int (nI ((usS wy b).2)))]) S_ 4 d_Md_used_46 (by decide) rfl (by decide) rfl ?_
            refine wk_goto (pc := 49) (tgt := 7) S_ d_Md_used_49 (by decide) ?_
            refine wk_lveq (lv' := [(4, .int (nI (b + 1))), (0, .ref (m 0)), (1, .ref (m 31)), (2, .int (nI ((usS wy (b + 1)).1))), (3, .int (nI ((usS wy b).2)))]) (by rw [usS, if_neg (by omega)]) ?_
            refine wk_lveq (lv' := [(4, .int (nI (b + 1))), (0, .ref (m 0)), (1, .ref (m 31)), (2, .int (nI ((usS wy (b + 1)).1))), (3, .int (nI ((usS wy (b + 1)).2)))]) (by rw [usS, if_neg (by omega)]) ?_
            refine wk_lv [1, 2, 3, 4, 0] ?_ (ih7 (b + 1) (by omega) (by omega))
            rfl
          · -- on
            refine wk_iload_n (pc := 34) S_ 2 d_Md_used_34 rfl rfl ?_
            refine wk_iconst (pc := 35) (v := (nI (1))) S_ d_Md_used_35 (by decide) ?_
            refine wk_aload_n (pc := 36) S_ 1 d_Md_used_36 rfl rfl ?_
            refine wk_iload (pc := 37) S_ 4 d_Md_used_37 rfl ?_
            refine wk_ialdY (pc := 39) (g := wy) S_ 31 0 d_Md_used_39 rfl rfl (by omega) (by decide) ?_
            refine wk_top (y := (nI (wy b - 1))) (zI_p h20) ?_
            refine wk_ishlN (pc := 40) S_ d_Md_used_40 (by omega) ?_
            refine wk_iorN (pc := 41) S_ d_Md_used_41 ?_
            refine wk_istore_n (pc := 42) (lv' := [(2, .int (nI (((usS wy b).1) ||| (2 ^ (wy b - 1))))), (0, .ref (m 0)), (1, .ref (m 31)), (3, .int (nI ((usS wy b).2))), (4, .int (nI (b)))]) S_ d_Md_used_42 rfl (by decide) rfl ?_
            refine wk_iincN (pc := 43) (d := 1) (lv' := [(3, .int (nI ((usS wy b).2 + 1))), (2, .int (nI (((usS wy b).1) ||| (2 ^ (wy b - 1))))), (0, .ref (m 0)), (1, .ref (m 31)), (4, .int (nI (b)))]) S_ 3 d_Md_used_43 (by decide) rfl (by decide) rfl ?_
            refine wk_iincN (pc := 46) (d := 1) (lv' := [(4, .int (nI (b + 1))), (3, .int (nI ((usS wy b).2 + 1))), (2, .int (nI (((usS wy b).1) ||| (2 ^ (wy b - 1))))), (0, .ref (m 0)), (1, .ref (m 31))]) S_ 4 d_Md_used_46 (by decide) rfl (by decide) rfl ?_
            refine wk_goto (pc := 49) (tgt := 7) S_ d_Md_used_49 (by decide) ?_
            refine wk_lveq (lv' := [(4, .int (nI (b + 1))), (3, .int (nI ((usS wy b).2 + 1))), (2, .int (nI ((usS wy (b + 1)).1))), (0, .ref (m 0)), (1, .ref (m 31))]) (by rw [usS, if_pos ⟨h20, h31⟩]) ?_
            refine wk_lveq (lv' := [(4, .int (nI (b + 1))), (3, .int (nI ((usS wy (b + 1)).2))), (2, .int (nI ((usS wy (b + 1)).1))), (0, .ref (m 0)), (1, .ref (m 31))]) (by rw [usS, if_pos ⟨h20, h31⟩]) ?_
            refine wk_lv [3, 4, 2, 1, 0] ?_ (ih7 (b + 1) (by omega) (by omega))
            rfl
  refine wk_lv [3, 4, 2, 1, 0] ?_ (hL7 _ (0) (Nat.lt_succ_self _) (by omega))
  rfl
set_option maxHeartbeats 4000000 in
set_option maxRecDepth 100000 in
theorem c_Md_turn (l : Launch) (D : va_G) (cI : CiT) (z : GzT) (m : Nat → Nat) (tx : (Nat → Nat)) (sz : Nat) (ap : (Nat → Bool)) (pt : (Nat → Nat)) (rk : (Nat → Nat)) (cd : (Nat → Nat)) (fr : Nat) (mc : (Nat → Nat)) (mg : (Nat → Nat)) (mz : (Nat → Nat)) (nc : (Nat → Nat)) (nt : (Nat → Nat)) (ld : (Nat → Nat)) (qap : (Nat → Bool)) (qpt : (Nat → Nat)) (qrk : (Nat → Nat)) (qcd : (Nat → Nat)) (qfr : Nat) (qmc : (Nat → Nat)) (qmg : (Nat → Nat)) (qmz : (Nat → Nat)) (qnc : (Nat → Nat)) (qnt : (Nat → Nat)) (qld : (Nat → Nat)) (nb : Nat) (cl : (Nat → Nat)) (gr : (Nat → Nat)) (sp : (Nat → Nat)) (ot : (Nat → Bool)) (na : Nat) (aw : (Nat → Nat)) (nx : Nat) (bg : (Nat → Nat)) (bb : (Nat → Nat)) (ab : (Nat → Nat)) (fd : Bool) (pv : Bool) (bx : (Nat → Nat)) (wy : (Nat → Nat)) (li : (Nat → Nat)) (fm : Nat) (en : Nat) (nu : Nat) (td : (Nat → Nat)) (lf : Int32) (lk : Int32) (n : Nat) (hn : n ≤ 8) (hnx : (n = 0 ∨ 0 < nx) ∧ nx ≤ 5) (hli : ∀ k, li k < 8) (hwy : ∀ b, wy b ≤ 5) (hw0 : ∀ k, k < n → wy (li k) ≠ 0) : wk_C l D (tyK cI) (gX z) y_Md_turn b_Md_turn 3 (some .boolean) 0 0 0 0 [.ref (m 0), .int (nI (n))] (wMd m cI tx sz ap pt rk cd fr mc mg mz nc nt ld qap qpt qrk qcd qfr qmc qmg qmz qnc qnt qld nb cl gr sp ot na aw nx bg bb ab fd pv bx wy li fm en nu td lf lk) wk_i (fun (r : Int32) (_ : Unit) => r = (bI ((trS li nx n wy).2))) (fun _ => (wMd m cI tx sz ap pt rk cd fr mc mg mz nc nt ld qap qpt qrk qcd qfr qmc qmg qmz qnc qnt qld nb cl gr sp ot na aw nx bg bb ab fd pv bx ((trS li nx n wy).1) li fm en nu td lf lk)) := by
  refine wk_methZ (own := R_Md) [(0, .ref (m 0)), (1, .int (nI (n)))] (by decide) rfl (Nat.le_of_ble_eq_true rfl) rfl (gX_ok z) (fun p_ e_ R_ s_ m_ ar_ be_ me_ co_ Q_ A_ hR_ S_ hnm_ hQ_ => ?_)
  refine wk_iload_n (pc := 0) S_ 1 d_Md_turn_0 rfl rfl ?_
  refine wk_iconst (pc := 1) (v := (nI (1))) S_ d_Md_turn_1 (by decide) ?_
  refine wk_isub (pc := 2) S_ d_Md_turn_2 ?_
  refine wk_top (y := (zI (n))) rfl ?_
  refine wk_istore_n (pc := 3) (lv' := [(2, .int (zI (n))), (0, .ref (m 0)), (1, .int (nI (n)))]) S_ d_Md_turn_3 rfl (by decide) rfl ?_
  have hL4 : ∀ (fuel4 : Nat), ∀ (k : Nat) (w : Nat → Nat), k < fuel4 → (k ≤ n) → (∀ b, w b ≤ 5) → (∀ j, j < n → w (li j) ≠ 0) → (trS li nx k w = trS li nx n wy) → wk_G p_ l e_ R_ s_ m_ ar_ be_ me_ co_ Q_ D A_ 3 0 0 (wMd m cI tx sz ap pt rk cd fr mc mg mz nc nt ld qap qpt qrk qcd qfr qmc qmg qmz qnc qnt qld nb cl gr sp ot na aw nx bg bb ab fd pv bx w li fm en nu td lf lk) 4 [(0, .ref (m 0)), (1, .int (nI (n))), (2, .int (zI (k)))] [] := by
    intro fuel4
    induction fuel4 with
    | zero => intro k w hm; exact absurd hm (Nat.not_lt_zero _)
    | succ fuel4 ih4 =>
      intro k w hm hk hw hw1 hE
      refine wk_iload_n (pc := 4) S_ 2 d_Md_turn_4 rfl rfl ?_
      refine wk_if_ltY (pc := 5) (tgt := 46) S_ d_Md_turn_5 (by decide) (by omega) (fun h5 => ?_) (fun h5 => ?_)
      · -- taken
        refine wk_iload_n (pc := 46) S_ 2 d_Md_turn_46 rfl rfl ?_
        refine wk_if_ltY (pc := 47) (tgt := 65) S_ d_Md_turn_47 (by decide) (by omega) (fun h47 => ?_) (fun h47 => absurd h5 h47)
        refine wk_iload_n (pc := 65) S_ 2 d_Md_turn_65 rfl rfl ?_
        refine wk_if_ltY (pc := 66) (tgt := 73) S_ d_Md_turn_66 (by decide) (by omega) (fun h66 => ?_) (fun h66 => absurd h5 h66)
        refine wk_iconst (pc := 73) (v := (nI (0))) S_ d_Md_turn_73 (by decide) ?_
        exact hQ_ (nI (0)) () d_Md_turn_74 rfl (by rw [← hE, h5]; rfl) (bI_f (by rw [← hE, h5]; rfl))
      · -- on
        obtain ⟨r, rfl⟩ : ∃ r, k = r + 1 := ⟨k - 1, by omega⟩
        have hl1 := hli r
        have hw2 := hw (li r)
        have hw3 := hw1 r (by omega)
        refine wk_aload_n (pc := 8) S_ 0 d_Md_turn_8 rfl rfl ?_
        refine wk_get (pc := 9) (v := .ref (m 31)) S_ 6 38 0 in_Md rfl (by decide) rfl fl_Md_102 d_Md_turn_9 rfl rfl ?_
        refine wk_aload_n (pc := 12) S_ 0 d_Md_turn_12 rfl rfl ?_
        refine wk_get (pc := 13) (v := .ref (m 32)) S_ 6 39 0 in_Md rfl (by decide) rfl fl_Md_105 d_Md_turn_13 rfl rfl ?_
        refine wk_iload_n (pc := 16) S_ 2 d_Md_turn_16 rfl rfl ?_
        refine wk_top (y := (nI (r))) (zI_s r) ?_
        refine wk_ialdN (pc := 17) (g := li) S_ 32 0 d_Md_turn_17 rfl rfl (by omega) (by decide) ?_
        refine wk_ialdY (pc := 18) (g := w) S_ 31 0 d_Md_turn_18 rfl rfl (by omega) (by decide) ?_
        refine wk_aload_n (pc := 19) S_ 0 d_Md_turn_19 rfl rfl ?_
        refine wk_get (pc := 20) (v := .int (nI (nx))) S_ 6 31 0 in_Md rfl (by decide) rfl fl_Md_213 d_Md_turn_20 rfl rfl ?_
        refine wk_iconst (pc := 23) (v := (nI (1))) S_ d_Md_turn_23 (by decide) ?_
        refine wk_isubN (pc := 24) S_ d_Md_turn_24 (by omega) ?_
        refine wk_icmp_neYN (pc := 25) (tgt := 46) S_ d_Md_turn_25 (by decide) (by omega) (by omega) (fun h25 => ?_) (fun h25 => ?_)
        · -- taken
          refine wk_iload_n (pc := 46) S_ 2 d_Md_turn_46 rfl rfl ?_
          refine wk_if_ltY (pc := 47) (tgt := 65) S_ d_Md_turn_47 (by decide) (by omega) (fun h47 => absurd h47 (by omega)) (fun h47 => ?_)
          refine wk_aload_n (pc := 50) S_ 0 d_Md_turn_50 rfl rfl ?_
          refine wk_get (pc := 51) (v := .ref (m 31)) S_ 6 38 0 in_Md rfl (by decide) rfl fl_Md_102 d_Md_turn_51 rfl rfl ?_
          refine wk_aload_n (pc := 54) S_ 0 d_Md_turn_54 rfl rfl ?_
          refine wk_get (pc := 55) (v := .ref (m 32)) S_ 6 39 0 in_Md rfl (by decide) rfl fl_Md_105 d_Md_turn_55 rfl rfl ?_
          refine wk_iload_n (pc := 58) S_ 2 d_Md_turn_58 rfl rfl ?_
          refine wk_top (y := (nI (r))) (zI_s r) ?_
          refine wk_ialdN (pc := 59) (g := li) S_ 32 0 d_Md_turn_59 rfl rfl (by omega) (by decide) ?_
          refine wk_dup2 (pc := 60) S_ d_Md_turn_60 rfl rfl ?_
          refine wk_ialdY (pc := 61) (g := w) S_ 31 0 d_Md_turn_61 rfl rfl (by omega) (by decide) ?_
          refine wk_top (y := (nI (w (li r) - 1))) (zI_p hw3) ?_
          refine wk_iconst (pc := 62) (v := (nI (1))) S_ d_Md_turn_62 (by decide) ?_
          refine wk_iaddN (pc := 63) S_ d_Md_turn_63 ?_
          refine wk_iastYN (pc := 64) (g := w) (ws' := (wMd m cI tx sz ap pt rk cd fr mc mg mz nc nt ld qap qpt qrk qcd qfr qmc qmg qmz qnc qnt qld nb cl gr sp ot na aw nx bg bb ab fd pv bx (va_up (w) ((li) (r)) (((w (li r) - 1) + (1)) + 1)) li fm en nu td lf lk)) S_ 31 0 d_Md_turn_64 rfl rfl (by omega) (by decide) rfl ?_
          refine wk_weq (ws' := (wMd m cI tx sz ap pt rk cd fr mc mg mz nc nt ld qap qpt qrk qcd qfr qmc qmg qmz qnc qnt qld nb cl gr sp ot na aw nx bg bb ab fd pv bx (va_up w (li r) (w (li r) + 1)) li fm en nu td lf lk)) (by rw [show w (li r) - 1 + 1 + 1 = w (li r) + 1 by omega]) ?_
          refine wk_iload_n (pc := 65) S_ 2 d_Md_turn_65 rfl rfl ?_
          refine wk_if_ltY (pc := 66) (tgt := 73) S_ d_Md_turn_66 (by decide) (by omega) (fun h66 => absurd h66 (by omega)) (fun h66 => ?_)
          refine wk_iconst (pc := 69) (v := (nI (1))) S_ d_Md_turn_69 (by decide) ?_
          refine wk_goto (pc := 70) (tgt := 74) S_ d_Md_turn_70 (by decide) ?_
          exact hQ_ (nI (1)) () d_Md_turn_74 rfl (by rw [← hE, trS, if_neg (by omega)]) (bI_t (by rw [← hE, trS, if_neg (by omega)]))
        · -- on
          refine wk_aload_n (pc := 28) S_ 0 d_Md_turn_28 rfl rfl ?_
          refine wk_get (pc := 29) (v := .ref (m 31)) S_ 6 38 0 in_Md rfl (by decide) rfl fl_Md_102 d_Md_turn_29 rfl rfl ?_
          refine wk_aload_n (pc := 32) S_ 0 d_Md_turn_32 rfl rfl ?_
          refine wk_get (pc := 33) (v := .ref (m 32)) S_ 6 39 0 in_Md rfl (by decide) rfl fl_Md_105 d_Md_turn_33 rfl rfl ?_
          refine wk_iload_n (pc := 36) S_ 2 d_Md_turn_36 rfl rfl ?_
          refine wk_top (y := (nI (r))) (zI_s r) ?_
          refine wk_ialdN (pc := 37) (g := li) S_ 32 0 d_Md_turn_37 rfl rfl (by omega) (by decide) ?_
          refine wk_iconst (pc := 38) (v := (nI (0))) S_ d_Md_turn_38 (by decide) ?_
          refine wk_iastYN (pc := 39) (g := w) (ws' := (wMd m cI tx sz ap pt rk cd fr mc mg mz nc nt ld qap qpt qrk qcd qfr qmc qmg qmz qnc qnt qld nb cl gr sp ot na aw nx bg bb ab fd pv bx (va_up (w) ((li) (r)) ((0) + 1)) li fm en nu td lf lk)) S_ 31 0 d_Md_turn_39 rfl rfl (by omega) (by decide) rfl ?_
          refine wk_iincZ (pc := 40) (lv' := [(2, .int (zI (r + 1 - 1))), (0, .ref (m 0)), (1, .int (nI (n)))]) S_ 2 d_Md_turn_40 (by decide) (by omega) rfl (by decide) rfl ?_
          refine wk_goto (pc := 43) (tgt := 4) S_ d_Md_turn_43 (by decide) ?_
          refine wk_lv [1, 2, 0] ?_ (ih4 (r + 1 - 1) (va_up (w) ((li) (r)) ((0) + 1)) (by omega) (by omega) (fun b => by unfold va_up; split; omega; exact hw b) (fun j hj => by unfold va_up; split; omega; exact hw1 j hj) (by rw [← hE, trS, if_pos (by omega)]; rfl))
          rfl
  refine wk_lv [1, 2, 0] ?_ (hL4 _ (n) (wy) (Nat.lt_succ_self _) (by omega) hwy hw0 rfl)
  rfl
set_option maxHeartbeats 4000000 in
set_option maxRecDepth 100000 in
theorem c_Md_kept (l : Launch) (D : va_G) (cI : CiT) (z : GzT) (m : Nat → Nat) (tx : (Nat → Nat)) (sz : Nat) (ap : (Nat → Bool)) (pt : (Nat → Nat)) (rk : (Nat → Nat)) (cd : (Nat → Nat)) (fr : Nat) (mc : (Nat → Nat)) (mg : (Nat → Nat)) (mz : (Nat → Nat)) (nc : (Nat → Nat)) (nt : (Nat → Nat)) (ld : (Nat → Nat)) (qap : (Nat → Bool)) (qpt : (Nat → Nat)) (qrk : (Nat → Nat)) (qcd : (Nat → Nat)) (qfr : Nat) (qmc : (Nat → Nat)) (qmg : (Nat → Nat)) (qmz : (Nat → Nat)) (qnc : (Nat → Nat)) (qnt : (Nat → Nat)) (qld : (Nat → Nat)) (nb : Nat) (cl : (Nat → Nat)) (gr : (Nat → Nat)) (sp : (Nat → Nat)) (ot : (Nat → Bool)) (na : Nat) (aw : (Nat → Nat)) (nx : Nat) (bg : (Nat → Nat)) (bb : (Nat → Nat)) (ab : (Nat → Nat)) (fd : Bool) (pv : Bool) (bx : (Nat → Nat)) (wy : (Nat → Nat)) (li : (Nat → Nat)) (fm : Nat) (en : Nat) (nu : Nat) (td : (Nat → Nat)) (lf : Int32) (lk : Int32) (hnb : nb ≤ 8) (hnx : nx ≤ 5) (hgr : ∀ b, gr b ≤ 100000) (hcl : ∀ b, cl b ≤ 9) (hgv : ∀ b, bx b ≤ 5) (hcv : ∀ b, b < nb → bx b ≠ 0 → cl b ≠ 0) (hbg : ∀ x, bg x ≤ 1000000) (hbb : ∀ x, bb x ≤ 8) (hab : ∀ x, ab x ≤ 1000000) : wk_C l D (tyK cI) (gX z) y_Md_kept b_Md_kept 3 (some .boolean) 1 27 0 0 [.ref (m 0)] (wMd m cI tx sz ap pt rk cd fr mc mg mz nc nt ld qap qpt qrk qcd qfr qmc qmg qmz qnc qnt qld nb cl gr sp ot na aw nx bg bb ab fd pv bx wy li fm en nu td lf lk) wk_i (fun (r : Int32) (_ : Unit) => r = (bI (smB ot cl bx fd nb && kpB ap cl gr bx bg bb ab nb nx))) (fun _ => (wMd m cI tx sz ap pt rk cd fr mc mg mz nc nt ld qap qpt qrk qcd qfr qmc qmg qmz qnc qnt qld nb cl gr sp ot na aw nx bg bb ab fd pv bx wy li fm en nu td lf lk)) := by
  refine wk_methZ (own := R_Md) [(0, .ref (m 0))] (by decide) rfl (Nat.le_of_ble_eq_true rfl) rfl (gX_ok z) (fun p_ e_ R_ s_ m_ ar_ be_ me_ co_ Q_ A_ hR_ S_ hnm_ hQ_ => ?_)
  refine wk_aload_n (pc := 0) S_ 0 d_Md_kept_0 rfl rfl ?_
  refine wk_get (pc := 1) (v := .int (bI (fd))) S_ 6 35 0 in_Md rfl (by decide) rfl fl_Md_239 d_Md_kept_1 rfl rfl ?_
  refine wk_istore_n (pc := 4) (lv' := [(1, .int (bI (fd))), (0, .ref (m 0))]) S_ d_Md_kept_4 rfl (by decide) rfl ?_
  refine wk_iconst (pc := 5) (v := (nI (0))) S_ d_Md_kept_5 (by decide) ?_
  refine wk_istore_n (pc := 6) (lv' := [(2, .int (nI (0))), (1, .int (bI (fd))), (0, .ref (m 0))]) S_ d_Md_kept_6 rfl (by decide) rfl ?_
  have hL7 : ∀ (fuel7 : Nat), ∀ (b : Nat), nb - b < fuel7 → (b ≤ nb) → wk_G p_ l e_ R_ s_ m_ ar_ be_ me_ co_ Q_ D A_ 3 0 0 (wMd m cI tx sz ap pt rk cd fr mc mg mz nc nt ld qap qpt qrk qcd qfr qmc qmg qmz qnc qnt qld nb cl gr sp ot na aw nx bg bb ab fd pv bx wy li fm en nu td lf lk) 7 [(0, .ref (m 0)), (1, .int (bI (smB ot cl bx fd b))), (2, .int (nI (b)))] [] := by
    intro fuel7
    induction fuel7 with
    | zero => intro b hm; exact absurd hm (Nat.not_lt_zero _)
    | succ fuel7 ih7 =>
      intro b hm hb
      refine wk_iload_n (pc := 7) S_ 2 d_Md_kept_7 rfl rfl ?_
      refine wk_aload_n (pc := 8) S_ 0 d_Md_kept_8 rfl rfl ?_
      refine wk_get (pc := 9) (v := .int (nI (nb))) S_ 6 24 0 in_Md rfl (by decide) rfl fl_Md_117 d_Md_kept_9 rfl rfl ?_
      refine wk_icmp_geN (pc := 12) (tgt := 53) S_ d_Md_kept_12 (by decide) (by omega) (by omega) (fun h12 => ?_) (fun h12 => ?_)
      · -- taken
        refine wk_iload_n (pc := 53) S_ 1 d_Md_kept_53 rfl rfl ?_
        refine wk_if_eqB (pc := 54) (tgt := 72) S_ d_Md_kept_54 (by decide) (fun h54 => ?_) (fun h54 => ?_)
        · -- taken
          refine wk_iconst (pc := 72) (v := (nI (0))) S_ d_Md_kept_72 (by decide) ?_
          exact hQ_ (nI (0)) () d_Md_kept_73 rfl rfl (bI_f (by rw [show nb = b by omega, h54]; rfl))
        · -- on
          refine wk_aload_n (pc := 57) S_ 0 d_Md_kept_57 rfl rfl ?_
          refine wk_aload_n (pc := 58) S_ 0 d_Md_kept_58 rfl rfl ?_
          refine wk_get (pc := 59) (v := .ref (m 30)) S_ 6 37 0 in_Md rfl (by decide) rfl fl_Md_99 d_Md_kept_59 rfl rfl ?_
          refine wk_run (pc := 62) (rest := []) (wr := []) (wN := fun _ => (wMd m cI tx sz ap pt rk cd fr mc mg mz nc nt ld qap qpt qrk qcd qfr qmc qmg qmz qnc qnt qld nb cl gr sp ot na aw nx bg bb ab fd pv bx wy li fm en nu td lf lk)) S_ (wk_rV S_ (c_Md_keeps_bx l D cI z (m) (tx) (sz) (ap) (pt) (rk) (cd) (fr) (mc) (mg) (mz) (nc) (nt) (ld) (qap) (qpt) (qrk) (qcd) (qfr) (qmc) (qmg) (qmz) (qnc) (qnt) (qld) (nb) (cl) (gr) (sp) (ot) (na) (aw) (nx) (bg) (bb) (ab) (fd) (pv) (bx) (wy) (li) (fm) (en) (nu) (td) (lf) (lk) (by omega) (by omega) hgr hcl hgv hcv hbg hbb hab) mv_Md_235 (wk_rcv S_ 0 6 rfl rfl rfl) rfl rfl (Nat.le_of_ble_eq_true rfl) (by rw [hR_]; decide) (by rw [hR_]; decide) d_Md_kept_62) [0, 1, 2, 3, 4, 5, 6, 7, 8, 9, 10, 11, 12, 13, 14, 15, 16, 17, 18, 19, 20, 21, 22, 23, 24, 25, 26, 27, 28, 29, 30, 31, 32, 33] [] [0, 1, 2, 3, 4, 5, 6, 7, 8, 9, 10, 11, 12, 13, 14, 15, 16, 17, 18, 19, 20, 21, 22, 23, 24, 25, 26, 27, 28, 29, 30, 31, 32, 33] rfl rfl rfl (by decide) (by decide) (by decide) (by decide) (fun _ => rfl) (fun _ => rfl) (fun r62 _ hw62 => ?_)
          refine wk_st (st' := [.int (r62)]) rfl ?_
          refine wk_top (y := (bI (kpB (ap) (cl) (gr) (bx) (bg) (bb) (ab) (nb) (nx)))) hw62 ?_
          refine wk_if_eqB (pc := 65) (tgt := 72) S_ d_Md_kept_65 (by decide) (fun h65 => ?_) (fun h65 => ?_)
          · -- taken
            refine wk_iconst (pc := 72) (v := (nI (0))) S_ d_Md_kept_72 (by decide) ?_
            exact hQ_ (nI (0)) () d_Md_kept_73 rfl rfl (bI_f (by rw [h65, Bool.and_false]))
          · -- on
            refine wk_iconst (pc := 68) (v := (nI (1))) S_ d_Md_kept_68 (by decide) ?_
            refine wk_goto (pc := 69) (tgt := 73) S_ d_Md_kept_69 (by decide) ?_
            exact hQ_ (nI (1)) () d_Md_kept_73 rfl rfl (bI_t (by rw [h65, show smB ot cl bx fd nb = true by rw [show nb = b by omega]; exact h54]; rfl))
      · -- on
        refine wk_iload_n (pc := 15) S_ 1 d_Md_kept_15 rfl rfl ?_
        refine wk_if_eqB (pc := 16) (tgt := 45) S_ d_Md_kept_16 (by decide) (fun h16 => ?_) (fun h16 => ?_)
        · -- taken
          refine wk_iconst (pc := 45) (v := (nI (0))) S_ d_Md_kept_45 (by decide) ?_
          refine wk_top (y := (bI (smB ot cl bx fd (b + 1)))) (bI_f (by simp [smB, h16])) ?_
          refine wk_istore_n (pc := 46) (lv' := [(1, .int (bI (smB ot cl bx fd (b + 1)))), (0, .ref (m 0)), (2, .int (nI (b)))]) S_ d_Md_kept_46 rfl (by decide) rfl ?_
          refine wk_iincN (pc := 47) (d := 1) (lv' := [(2, .int (nI (b + 1))), (1, .int (bI (smB ot cl bx fd (b + 1)))), (0, .ref (m 0))]) S_ 2 d_Md_kept_47 (by decide) rfl (by decide) rfl ?_
          refine wk_goto (pc := 50) (tgt := 7) S_ d_Md_kept_50 (by decide) ?_
          refine wk_lv [2, 1, 0] ?_ (ih7 (b + 1) (by omega) (by omega))
          rfl
        · -- on
          refine wk_aload_n (pc := 19) S_ 0 d_Md_kept_19 rfl rfl ?_
          refine wk_iload_n (pc := 20) S_ 2 d_Md_kept_20 rfl rfl ?_
          refine wk_run (pc := 21) (rest := []) (wr := []) (wN := fun _ => (wMd m cI tx sz ap pt rk cd fr mc mg mz nc nt ld qap qpt qrk qcd qfr qmc qmg qmz qnc qnt qld nb cl gr sp ot na aw nx bg bb ab fd pv bx wy li fm en nu td lf lk)) S_ (wk_rV S_ (c_Md_isToBePacked l D cI z (m) (tx) (sz) (ap) (pt) (rk) (cd) (fr) (mc) (mg) (mz) (nc) (nt) (ld) (qap) (qpt) (qrk) (qcd) (qfr) (qmc) (qmg) (qmz) (qnc) (qnt) (qld) (nb) (cl) (gr) (sp) (ot) (na) (aw) (nx) (bg) (bb) (ab) (fd) (pv) (bx) (wy) (li) (fm) (en) (nu) (td) (lf) (lk) (b) (by omega) (by have := hcl b; omega)) mv_Md_228 (wk_rcv S_ 0 6 rfl rfl rfl) rfl rfl (Nat.le_of_ble_eq_true rfl) (by rw [hR_]; decide) (by rw [hR_]; decide) d_Md_kept_21) [0, 1, 2, 3, 4, 5, 6, 7, 8, 9, 10, 11, 12, 13, 14, 15, 16, 17, 18, 19, 20, 21, 22, 23, 24, 25, 26, 27, 28, 29, 30, 31, 32, 33] [] [0, 1, 2, 3, 4, 5, 6, 7, 8, 9, 10, 11, 12, 13, 14, 15, 16, 17, 18, 19, 20, 21, 22, 23, 24, 25, 26, 27, 28, 29, 30, 31, 32, 33] rfl rfl rfl (by decide) (by decide) (by decide) (by decide) (fun _ => rfl) (fun _ => rfl) (fun r21 _ hw21 => ?_)
          refine wk_st (st' := [.int (r21)]) rfl ?_
          refine wk_top (y := (bI (decide ((ot) (b) = false ∧ (cl) (b) ≠ 0)))) hw21 ?_
          refine wk_aload_n (pc := 24) S_ 0 d_Md_kept_24 rfl rfl ?_
          refine wk_get (pc := 25) (v := .ref (m 30)) S_ 6 37 0 in_Md rfl (by decide) rfl fl_Md_99 d_Md_kept_25 rfl rfl ?_
          refine wk_iload_n (pc := 28) S_ 2 d_Md_kept_28 rfl rfl ?_
          refine wk_ialdY (pc := 29) (g := bx) S_ 30 0 d_Md_kept_29 rfl rfl (by omega) (by decide) ?_
          have hg1 := hgv b
          refine wk_if_ltY (pc := 30) (tgt := 37) S_ d_Md_kept_30 (by decide) (by omega) (fun h30 => ?_) (fun h30 => ?_)
          · -- taken
            refine wk_iconst (pc := 37) (v := (nI (0))) S_ d_Md_kept_37 (by decide) ?_
            refine wk_top (y := (bI (decide (bx b ≠ 0)))) (bI_f (by simp; omega)) ?_
            refine wk_icmp_ne (pc := 38) (tgt := 45) S_ d_Md_kept_38 (by decide) (fun h38 => ?_) (fun h38 => ?_)
            · -- taken
              refine wk_iconst (pc := 45) (v := (nI (0))) S_ d_Md_kept_45 (by decide) ?_
              refine wk_top (y := (bI (smB ot cl bx fd (b + 1)))) (bI_f (by rw [smB, Bool.and_eq_false_iff]; right; simp only [decide_eq_false_iff_not]; intro z; exact h38 (congrArg bI (by simp only [decide_eq_decide]; exact z)))) ?_
              refine wk_istore_n (pc := 46) (lv' := [(1, .int (bI (smB ot cl bx fd (b + 1)))), (0, .ref (m 0)), (2, .int (nI (b)))]) S_ d_Md_kept_46 rfl (by decide) rfl ?_
              refine wk_iincN (pc := 47) (d := 1) (lv' := [(2, .int (nI (b + 1))), (1, .int (bI (smB ot cl bx fd (b + 1)))), (0, .ref (m 0))]) S_ 2 d_Md_kept_47 (by decide) rfl (by decide) rfl ?_
              refine wk_goto (pc := 50) (tgt := 7) S_ d_Md_kept_50 (by decide) ?_
              refine wk_lv [2, 1, 0] ?_ (ih7 (b + 1) (by omega) (by omega))
              rfl
            · -- on
              refine wk_iconst (pc := 41) (v := (nI (1))) S_ d_Md_kept_41 (by decide) ?_
              refine wk_goto (pc := 42) (tgt := 46) S_ d_Md_kept_42 (by decide) ?_
              refine wk_top (y := (bI (smB ot cl bx fd (b + 1)))) (bI_t (by rw [smB, Bool.and_eq_true]; refine ⟨h16, ?_⟩; simp only [decide_eq_true_eq]; exact decide_eq_decide.mp (bI_inj h38))) ?_
              refine wk_istore_n (pc := 46) (lv' := [(1, .int (bI (smB ot cl bx fd (b + 1)))), (0, .ref (m 0)), (2, .int (nI (b)))]) S_ d_Md_kept_46 rfl (by decide) rfl ?_
              refine wk_iincN (pc := 47) (d := 1) (lv' := [(2, .int (nI (b + 1))), (1, .int (bI (smB ot cl bx fd (b + 1)))), (0, .ref (m 0))]) S_ 2 d_Md_kept_47 (by decide) rfl (by decide) rfl ?_
              refine wk_goto (pc := 50) (tgt := 7) S_ d_Md_kept_50 (by decide) ?_
              refine wk_lv [2, 1, 0] ?_ (ih7 (b + 1) (by omega) (by omega))
              rfl
          · -- on
            refine wk_iconst (pc := 33) (v := (nI (1))) S_ d_Md_kept_33 (by decide) ?_
            refine wk_goto (pc := 34) (tgt := 38) S_ d_Md_kept_34 (by decide) ?_
            refine wk_top (y := (bI (decide (bx b ≠ 0)))) (bI_t (by simp; omega)) ?_
            refine wk_icmp_ne (pc := 38) (tgt := 45) S_ d_Md_kept_38 (by decide) (fun h38 => ?_) (fun h38 => ?_)
            · -- taken
              refine wk_iconst (pc := 45) (v := (nI (0))) S_ d_Md_kept_45 (by decide) ?_
              refine wk_top (y := (bI (smB ot cl bx fd (b + 1)))) (bI_f (by rw [smB, Bool.and_eq_false_iff]; right; simp only [decide_eq_false_iff_not]; intro z; exact h38 (congrArg bI (by simp only [decide_eq_decide]; exact z)))) ?_
              refine wk_istore_n (pc := 46) (lv' := [(1, .int (bI (smB ot cl bx fd (b + 1)))), (0, .ref (m 0)), (2, .int (nI (b)))]) S_ d_Md_kept_46 rfl (by decide) rfl ?_
              refine wk_iincN (pc := 47) (d := 1) (lv' := [(2, .int (nI (b + 1))), (1, .int (bI (smB ot cl bx fd (b + 1)))), (0, .ref (m 0))]) S_ 2 d_Md_kept_47 (by decide) rfl (by decide) rfl ?_
              refine wk_goto (pc := 50) (tgt := 7) S_ d_Md_kept_50 (by decide) ?_
              refine wk_lv [2, 1, 0] ?_ (ih7 (b + 1) (by omega) (by omega))
              rfl
            · -- on
              refine wk_iconst (pc := 41) (v := (nI (1))) S_ d_Md_kept_41 (by decide) ?_
              refine wk_goto (pc := 42) (tgt := 46) S_ d_Md_kept_42 (by decide) ?_
              refine wk_top (y := (bI (smB ot cl bx fd (b + 1)))) (bI_t (by rw [smB, Bool.and_eq_true]; refine ⟨h16, ?_⟩; simp only [decide_eq_true_eq]; exact decide_eq_decide.mp (bI_inj h38))) ?_
              refine wk_istore_n (pc := 46) (lv' := [(1, .int (bI (smB ot cl bx fd (b + 1)))), (0, .ref (m 0)), (2, .int (nI (b)))]) S_ d_Md_kept_46 rfl (by decide) rfl ?_
              refine wk_iincN (pc := 47) (d := 1) (lv' := [(2, .int (nI (b + 1))), (1, .int (bI (smB ot cl bx fd (b + 1)))), (0, .ref (m 0))]) S_ 2 d_Md_kept_47 (by decide) rfl (by decide) rfl ?_
              refine wk_goto (pc := 50) (tgt := 7) S_ d_Md_kept_50 (by decide) ?_
              refine wk_lv [2, 1, 0] ?_ (ih7 (b + 1) (by omega) (by omega))
              rfl
  refine wk_lv [2, 1, 0] ?_ (hL7 _ (0) (Nat.lt_succ_self _) (by omega))
  rfl
