def blk (u : Nat) : Bool := decide (u = 32 ∨ u = 10)
/-- the first place from i on (r places are left) that is no blank; that is one -/
def skB (tx : Nat → Nat) : Nat → Nat → Nat
  | 0, i => i
  | r + 1, i => if blk (tx i) = true then skB tx r (i + 1) else i
def skW (tx : Nat → Nat) : Nat → Nat → Nat
  | 0, i => i
  | r + 1, i => if blk (tx i) = true then i else skW tx r (i + 1)
theorem skB_le {tx : Nat → Nat} : ∀ r i, i ≤ skB tx r i ∧ skB tx r i ≤ i + r
  | 0, i => ⟨Nat.le_refl _, Nat.le_refl _⟩
  | r + 1, i => by
    have h := skB_le (tx := tx) r (i + 1)
    rw [skB]
    split <;> omega
theorem skW_le {tx : Nat → Nat} : ∀ r i, i ≤ skW tx r i ∧ skW tx r i ≤ i + r
  | 0, i => ⟨Nat.le_refl _, Nat.le_refl _⟩
  | r + 1, i => by
    have h := skW_le (tx := tx) r (i + 1)
    rw [skW]
    split <;> omega
/-- n bytes from s on, as one number -/
def tbN (c : Nat → Nat) (s : Nat) : Nat → Nat
  | 0 => 0
  | n + 1 => tbN c s n * 256 + c (s + n)
theorem tb_eq {c d : Nat → Nat} {s t : Nat} (hc : ∀ i, c i < 256) (hd : ∀ i, d i < 256) : ∀ n, tbN c s n = tbN d t n ↔ ∀ i, i < n → c (s + i) = d (t + i)
  | 0 => ⟨fun _ _ h => absurd h (Nat.not_lt_zero _), fun _ => rfl⟩
  | n + 1 => by
    have h1 := hc (s + n)
    have h2 := hd (t + n)
    have ih := tb_eq (c := c) (d := d) (s := s) (t := t) hc hd n
    constructor
    · intro h i hi
      rw [tbN, tbN] at h
      have e1 : tbN c s n = tbN d t n := by omega
      by_cases e : i = n
      · subst e; omega
      · exact ih.mp e1 i (by omega)
    · intro h
      have e1 := ih.mpr (fun i hi => h i (by omega))
      have e2 := h n (by omega)
      rw [tbN, tbN, e1, e2]
theorem tb_le {c : Nat → Nat} {s : Nat} (hc : ∀ i, c i < 256) : ∀ n, tbN c s n < 256 ^ n
  | 0 => Nat.zero_lt_one
  | n + 1 => by
    have h1 := hc (s + n)
    have ih := tb_le (s := s) hc n
    rw [tbN, Nat.pow_succ]
    omega
theorem tb_pos {c : Nat → Nat} {s : Nat} (h : 0 < c s) : ∀ n, 0 < n → 0 < tbN c s n
  | 0, h0 => absurd h0 (Nat.lt_irrefl _)
  | n + 1, _ => by
    rw [tbN]
    by_cases e : n = 0
    · subst e; have h1 : c (s + 0) = c s := rfl; omega
    · have := tb_pos (c := c) (s := s) h n (by omega)
      omega
def ch (L : List Nat) : Nat → Nat := fun i => L.getD i 0
def wIs (tx : Nat → Nat) (s e : Nat) (c : Nat → Nat) (n : Nat) : Bool := decide (e - s = n ∧ ∀ i, i < n → tx (s + i) = c i)
def kwd : Nat → List Nat
  | 0 => [97, 112, 97, 114, 116]
  | 1 => [112, 111, 105, 110, 116, 115]
  | 2 => [114, 97, 110, 107]
  | 3 => [102, 114, 101, 101]
  | 4 => [109, 97, 114, 107]
  | 5 => [116, 117, 110, 110, 101, 108]
  | 6 => [110, 111, 116, 101]
  | 7 => [115, 116, 101, 112]
  | _ => [99, 108, 97, 115, 115]
def kwI (tx : Nat → Nat) (s e k : Nat) : Bool := wIs tx s e (ch (kwd k)) (kwd k).length
/-- the kind of a word, sought from k on in r steps (0: none, else one more) -/
def kdS (tx : Nat → Nat) (s e : Nat) : Nat → Nat → Nat
  | 0, _ => 0
  | r + 1, k => if kwI tx s e k = true then k + 1 else kdS tx s e r (k + 1)
/-- a number's digits, from k on (v: 0 none, else one more) -/
def nuS (tx : Nat → Nat) : Nat → Nat → Nat → Nat
  | 0, _, v => v
  | r + 1, k, v => if v = 0 then 0 else if 48 ≤ tx k ∧ tx k ≤ 57 then nuS tx r (k + 1) (10 * (v - 1) + (tx k - 48) + 1) else 0
theorem nuS_0 (tx : Nat → Nat) : ∀ r k, nuS tx r k 0 = 0
  | 0, _ => rfl
  | r + 1, k => by rw [nuS, if_pos rfl]
def nuN (tx : Nat → Nat) (s e : Nat) : Nat := if 1 ≤ e - s ∧ e - s ≤ 6 then nuS tx (e - s) s 1 else 0
theorem nuS_le {tx : Nat → Nat} : ∀ r k v, v ≤ 10 ^ (6 - r) → r ≤ 6 → nuS tx r k v ≤ 1000000
  | 0, _, v, h, _ => h
  | r + 1, k, v, h, hr => by
    rw [nuS]
    split
    · omega
    · split
      · refine nuS_le r (k + 1) _ ?_ (by omega)
        have e : 10 ^ (6 - r) = 10 ^ (6 - (r + 1)) * 10 := by
          rw [← Nat.pow_succ]
          congr 1
          omega
        rw [e]
        omega
      · omega
def ptsK (s : Nat) : Nat := if s = 3 then 1 else if s = 4 ∨ 6 < s then 3 else 2
def lsK (s p : Nat) : Nat := if (s = 4 ∧ p = 2) ∨ (s = 5 ∧ p = 1) then 1 else 0
def grK : Nat → Nat → Nat
  | 0, _ => 8
  | 1, p => if p = 0 then 8 else 1000
  | 2, p => if p = 0 then 8 else 99
  | 3, _ => 999999
  | 4, p => if p = 0 then 8 else if p = 1 then 999999 else 9
  | 5, p => if p = 0 then 8 else 5
  | 6, p => if p = 0 then 3 else 999999
  | 7, p => if p = 0 then 9 else if p = 1 then 3 else 9
  | _, p => if p = 0 then 9 else if p = 1 then 3 else 8
/-- the place of a mark, sought from i on in r steps -/
def mpS (mg : Nat → Nat) (c g : Nat) : Nat → Nat → Nat
  | 0, i => i
  | r + 1, i => if mg (6 * c + i) = g then i else mpS mg c g r (i + 1)
theorem mpS_le {mg : Nat → Nat} {c g : Nat} : ∀ r i, i ≤ mpS mg c g r i ∧ mpS mg c g r i ≤ i + r
  | 0, i => ⟨Nat.le_refl _, Nat.le_refl _⟩
  | r + 1, i => by
    have h := mpS_le (mg := mg) (c := c) (g := g) r (i + 1)
    rw [mpS]
    split <;> omega
def hrS (nc : Nat → Nat) : Nat → Bool
  | 0 => false
  | n + 1 => hrS nc n || decide (nc n < 8)
theorem d_Md_isBlank_0 : decode b_Md_isBlank 0 = .ok (.iload_n 0, 1) := by decide +kernel
theorem d_Md_isBlank_1 : decode b_Md_isBlank 1 = .ok (.bipush 32, 2) := by decide +kernel
theorem d_Md_isBlank_3 : decode b_Md_isBlank 3 = .ok (.if_icmp .eq 9, 3) := by decide +kernel
theorem d_Md_isBlank_6 : decode b_Md_isBlank 6 = .ok (.iload_n 0, 1) := by decide +kernel
theorem d_Md_isBlank_7 : decode b_Md_isBlank 7 = .ok (.bipush 10, 2) := by decide +kernel
theorem d_Md_isBlank_9 : decode b_Md_isBlank 9 = .ok (.if_icmp .ne 7, 3) := by decide +kernel
theorem d_Md_isBlank_12 : decode b_Md_isBlank 12 = .ok (.iconst 1, 1) := by decide +kernel
theorem d_Md_isBlank_13 : decode b_Md_isBlank 13 = .ok (.goto 4, 3) := by decide +kernel
theorem d_Md_isBlank_16 : decode b_Md_isBlank 16 = .ok (.iconst 0, 1) := by decide +kernel
theorem d_Md_isBlank_17 : decode b_Md_isBlank 17 = .ok (.ireturn, 1) := by decide +kernel
theorem fl_Md_140 : Cond.fieldLink R_Md 140 R_Md "end" "I" ∈ lw_gd := (gd _ (tb2 _ (List.mem_of_getElem? (i := 193) rfl)) rfl)
theorem fl_Md_143 : Cond.fieldLink R_Md 143 R_Md "from" "I" ∈ lw_gd := (gd _ (tb2 _ (List.mem_of_getElem? (i := 192) rfl)) rfl)
theorem mv_Md_146 : wk_T R_Md 146 y_Md_isBlank b_Md_isBlank 1 (some .boolean) 1 := ⟨(gd _ (tb3 _ (List.mem_of_getElem? (i := 70) rfl)) rfl), (gd _ (tb0 _ (List.mem_of_getElem? (i := 8) rfl)) rfl), (gd _ (tb3 _ (List.mem_of_getElem? (i := 68) rfl)) rfl), (by decide +kernel), (gd _ (tb3 _ (List.mem_of_getElem? (i := 69) rfl)) rfl)⟩
theorem d_Md_next_0 : decode b_Md_next 0 = .ok (.aload_n 0, 1) := by decide +kernel
theorem d_Md_next_1 : decode b_Md_next 1 = .ok (.aload_n 0, 1) := by decide +kernel
theorem d_Md_next_2 : decode b_Md_next 2 = .ok (.getfield 140, 3) := by decide +kernel
theorem d_Md_next_5 : decode b_Md_next 5 = .ok (.putfield 143, 3) := by decide +kernel
theorem d_Md_next_8 : decode b_Md_next 8 = .ok (.aload_n 0, 1) := by decide +kernel
theorem d_Md_next_9 : decode b_Md_next 9 = .ok (.getfield 143, 3) := by decide +kernel
theorem d_Md_next_12 : decode b_Md_next 12 = .ok (.aload_n 0, 1) := by decide +kernel
theorem d_Md_next_13 : decode b_Md_next 13 = .ok (.getfield 127, 3) := by decide +kernel
theorem d_Md_next_16 : decode b_Md_next 16 = .ok (.if_icmp .ge 31, 3) := by decide +kernel
theorem d_Md_next_19 : decode b_Md_next 19 = .ok (.aload_n 0, 1) := by decide +kernel
theorem d_Md_next_20 : decode b_Md_next 20 = .ok (.getfield 7, 3) := by decide +kernel
theorem d_Md_next_23 : decode b_Md_next 23 = .ok (.aload_n 0, 1) := by decide +kernel
theorem d_Md_next_24 : decode b_Md_next 24 = .ok (.getfield 143, 3) := by decide +kernel
theorem d_Md_next_27 : decode b_Md_next 27 = .ok (.iaload, 1) := by decide +kernel
theorem d_Md_next_28 : decode b_Md_next 28 = .ok (.invokestatic 146, 3) := by decide +kernel
theorem d_Md_next_31 : decode b_Md_next 31 = .ok (.ifCond .eq 16, 3) := by decide +kernel
theorem d_Md_next_34 : decode b_Md_next 34 = .ok (.aload_n 0, 1) := by decide +kernel
theorem d_Md_next_35 : decode b_Md_next 35 = .ok (.dup, 1) := by decide +kernel
theorem d_Md_next_36 : decode b_Md_next 36 = .ok (.getfield 143, 3) := by decide +kernel
theorem d_Md_next_39 : decode b_Md_next 39 = .ok (.iconst 1, 1) := by decide +kernel
theorem d_Md_next_40 : decode b_Md_next 40 = .ok (.iadd, 1) := by decide +kernel
theorem d_Md_next_41 : decode b_Md_next 41 = .ok (.putfield 143, 3) := by decide +kernel
theorem d_Md_next_44 : decode b_Md_next 44 = .ok (.goto (-36), 3) := by decide +kernel
theorem d_Md_next_47 : decode b_Md_next 47 = .ok (.aload_n 0, 1) := by decide +kernel
theorem d_Md_next_48 : decode b_Md_next 48 = .ok (.aload_n 0, 1) := by decide +kernel
theorem d_Md_next_49 : decode b_Md_next 49 = .ok (.getfield 143, 3) := by decide +kernel
theorem d_Md_next_52 : decode b_Md_next 52 = .ok (.putfield 140, 3) := by decide +kernel
theorem d_Md_next_55 : decode b_Md_next 55 = .ok (.aload_n 0, 1) := by decide +kernel
theorem d_Md_next_56 : decode b_Md_next 56 = .ok (.getfield 140, 3) := by decide +kernel
theorem d_Md_next_59 : decode b_Md_next 59 = .ok (.aload_n 0, 1) := by decide +kernel
theorem d_Md_next_60 : decode b_Md_next 60 = .ok (.getfield 127, 3) := by decide +kernel
theorem d_Md_next_63 : decode b_Md_next 63 = .ok (.if_icmp .ge 31, 3) := by decide +kernel
theorem d_Md_next_66 : decode b_Md_next 66 = .ok (.aload_n 0, 1) := by decide +kernel
theorem d_Md_next_67 : decode b_Md_next 67 = .ok (.getfield 7, 3) := by decide +kernel
theorem d_Md_next_70 : decode b_Md_next 70 = .ok (.aload_n 0, 1) := by decide +kernel
theorem d_Md_next_71 : decode b_Md_next 71 = .ok (.getfield 140, 3) := by decide +kernel
theorem d_Md_next_74 : decode b_Md_next 74 = .ok (.iaload, 1) := by decide +kernel
theorem d_Md_next_75 : decode b_Md_next 75 = .ok (.invokestatic 146, 3) := by decide +kernel
theorem d_Md_next_78 : decode b_Md_next 78 = .ok (.ifCond .ne 16, 3) := by decide +kernel
theorem d_Md_next_81 : decode b_Md_next 81 = .ok (.aload_n 0, 1) := by decide +kernel
theorem d_Md_next_82 : decode b_Md_next 82 = .ok (.dup, 1) := by decide +kernel
theorem d_Md_next_83 : decode b_Md_next 83 = .ok (.getfield 140, 3) := by decide +kernel
theorem d_Md_next_86 : decode b_Md_next 86 = .ok (.iconst 1, 1) := by decide +kernel
theorem d_Md_next_87 : decode b_Md_next 87 = .ok (.iadd, 1) := by decide +kernel
theorem d_Md_next_88 : decode b_Md_next 88 = .ok (.putfield 140, 3) := by decide +kernel
theorem d_Md_next_91 : decode b_Md_next 91 = .ok (.goto (-36), 3) := by decide +kernel
theorem d_Md_next_94 : decode b_Md_next 94 = .ok (.aload_n 0, 1) := by decide +kernel
theorem d_Md_next_95 : decode b_Md_next 95 = .ok (.getfield 143, 3) := by decide +kernel
theorem d_Md_next_98 : decode b_Md_next 98 = .ok (.aload_n 0, 1) := by decide +kernel
theorem d_Md_next_99 : decode b_Md_next 99 = .ok (.getfield 127, 3) := by decide +kernel
theorem d_Md_next_102 : decode b_Md_next 102 = .ok (.if_icmp .ge 7, 3) := by decide +kernel
theorem d_Md_next_105 : decode b_Md_next 105 = .ok (.iconst 1, 1) := by decide +kernel
theorem d_Md_next_106 : decode b_Md_next 106 = .ok (.goto 4, 3) := by decide +kernel
theorem d_Md_next_109 : decode b_Md_next 109 = .ok (.iconst 0, 1) := by decide +kernel
theorem d_Md_next_110 : decode b_Md_next 110 = .ok (.ireturn, 1) := by decide +kernel
theorem kc_Md_150 : Cond.constantLong R_Md 150 (lN 256) ∈ lw_gd := (gd _ (tb3 _ (List.mem_of_getElem? (i := 80) rfl)) rfl)
theorem d_Md_is_0 : decode b_Md_is 0 = .ok (.iconst 0, 1) := by decide +kernel
theorem d_Md_is_1 : decode b_Md_is 1 = .ok (.istore_n 3, 1) := by decide +kernel
theorem d_Md_is_2 : decode b_Md_is 2 = .ok (.lload_n 1, 1) := by decide +kernel
theorem d_Md_is_3 : decode b_Md_is 3 = .ok (.lstore 4, 2) := by decide +kernel
theorem d_Md_is_5 : decode b_Md_is 5 = .ok (.lload 4, 2) := by decide +kernel
theorem d_Md_is_7 : decode b_Md_is 7 = .ok (.lconst 0, 1) := by decide +kernel
theorem d_Md_is_8 : decode b_Md_is 8 = .ok (.lcmp, 1) := by decide +kernel
theorem d_Md_is_9 : decode b_Md_is 9 = .ok (.ifCond .le 17, 3) := by decide +kernel
theorem d_Md_is_12 : decode b_Md_is 12 = .ok (.iinc 3 1, 3) := by decide +kernel
theorem d_Md_is_15 : decode b_Md_is 15 = .ok (.lload 4, 2) := by decide +kernel
theorem d_Md_is_17 : decode b_Md_is 17 = .ok (.ldc2_w 150, 3) := by decide +kernel
theorem d_Md_is_20 : decode b_Md_is 20 = .ok (.ldiv, 1) := by decide +kernel
theorem d_Md_is_21 : decode b_Md_is 21 = .ok (.lstore 4, 2) := by decide +kernel
theorem d_Md_is_23 : decode b_Md_is 23 = .ok (.goto (-18), 3) := by decide +kernel
theorem d_Md_is_26 : decode b_Md_is 26 = .ok (.lconst 0, 1) := by decide +kernel
theorem d_Md_is_27 : decode b_Md_is 27 = .ok (.lstore 4, 2) := by decide +kernel
theorem d_Md_is_29 : decode b_Md_is 29 = .ok (.aload_n 0, 1) := by decide +kernel
theorem d_Md_is_30 : decode b_Md_is 30 = .ok (.getfield 143, 3) := by decide +kernel
theorem d_Md_is_33 : decode b_Md_is 33 = .ok (.istore 6, 2) := by decide +kernel
theorem d_Md_is_35 : decode b_Md_is 35 = .ok (.iload 6, 2) := by decide +kernel
theorem d_Md_is_37 : decode b_Md_is 37 = .ok (.aload_n 0, 1) := by decide +kernel
theorem d_Md_is_38 : decode b_Md_is 38 = .ok (.getfield 140, 3) := by decide +kernel
theorem d_Md_is_41 : decode b_Md_is 41 = .ok (.if_icmp .ge 39, 3) := by decide +kernel
theorem d_Md_is_44 : decode b_Md_is 44 = .ok (.aload_n 0, 1) := by decide +kernel
theorem d_Md_is_45 : decode b_Md_is 45 = .ok (.getfield 140, 3) := by decide +kernel
theorem d_Md_is_48 : decode b_Md_is 48 = .ok (.aload_n 0, 1) := by decide +kernel
theorem d_Md_is_49 : decode b_Md_is 49 = .ok (.getfield 143, 3) := by decide +kernel
theorem d_Md_is_52 : decode b_Md_is 52 = .ok (.isub, 1) := by decide +kernel
theorem d_Md_is_53 : decode b_Md_is 53 = .ok (.iload_n 3, 1) := by decide +kernel
theorem d_Md_is_54 : decode b_Md_is 54 = .ok (.if_icmp .ne 26, 3) := by decide +kernel
theorem d_Md_is_57 : decode b_Md_is 57 = .ok (.lload 4, 2) := by decide +kernel
theorem d_Md_is_59 : decode b_Md_is 59 = .ok (.ldc2_w 150, 3) := by decide +kernel
theorem d_Md_is_62 : decode b_Md_is 62 = .ok (.lmul, 1) := by decide +kernel
theorem d_Md_is_63 : decode b_Md_is 63 = .ok (.aload_n 0, 1) := by decide +kernel
theorem d_Md_is_64 : decode b_Md_is 64 = .ok (.getfield 7, 3) := by decide +kernel
theorem d_Md_is_67 : decode b_Md_is 67 = .ok (.iload 6, 2) := by decide +kernel
theorem d_Md_is_69 : decode b_Md_is 69 = .ok (.iaload, 1) := by decide +kernel
theorem d_Md_is_70 : decode b_Md_is 70 = .ok (.i2l, 1) := by decide +kernel
theorem d_Md_is_71 : decode b_Md_is 71 = .ok (.ladd, 1) := by decide +kernel
theorem d_Md_is_72 : decode b_Md_is 72 = .ok (.lstore 4, 2) := by decide +kernel
theorem d_Md_is_74 : decode b_Md_is 74 = .ok (.iinc 6 1, 3) := by decide +kernel
theorem d_Md_is_77 : decode b_Md_is 77 = .ok (.goto (-42), 3) := by decide +kernel
theorem d_Md_is_80 : decode b_Md_is 80 = .ok (.aload_n 0, 1) := by decide +kernel
theorem d_Md_is_81 : decode b_Md_is 81 = .ok (.getfield 140, 3) := by decide +kernel
theorem d_Md_is_84 : decode b_Md_is 84 = .ok (.aload_n 0, 1) := by decide +kernel
theorem d_Md_is_85 : decode b_Md_is 85 = .ok (.getfield 143, 3) := by decide +kernel
theorem d_Md_is_88 : decode b_Md_is 88 = .ok (.isub, 1) := by decide +kernel
theorem d_Md_is_89 : decode b_Md_is 89 = .ok (.iload_n 3, 1) := by decide +kernel
theorem d_Md_is_90 : decode b_Md_is 90 = .ok (.if_icmp .ne 14, 3) := by decide +kernel
theorem d_Md_is_93 : decode b_Md_is 93 = .ok (.lload 4, 2) := by decide +kernel
theorem d_Md_is_95 : decode b_Md_is 95 = .ok (.lload_n 1, 1) := by decide +kernel
theorem d_Md_is_96 : decode b_Md_is 96 = .ok (.lcmp, 1) := by decide +kernel
theorem d_Md_is_97 : decode b_Md_is 97 = .ok (.ifCond .ne 7, 3) := by decide +kernel
theorem d_Md_is_100 : decode b_Md_is 100 = .ok (.iconst 1, 1) := by decide +kernel
theorem d_Md_is_101 : decode b_Md_is 101 = .ok (.goto 4, 3) := by decide +kernel
theorem d_Md_is_104 : decode b_Md_is 104 = .ok (.iconst 0, 1) := by decide +kernel
theorem d_Md_is_105 : decode b_Md_is 105 = .ok (.ireturn, 1) := by decide +kernel
set_option maxHeartbeats 4000000 in
set_option maxRecDepth 100000 in
theorem c_Md_isBlank (l : Launch) (D : va_G) (cI : CiT) (z : GzT) (x : Nat) (hx : x < 256) : wk_C l D (tyK cI) (gX z) y_Md_isBlank b_Md_isBlank 1 (some .boolean) 0 0 0 0 [.int (nI (x))] [] wk_i (fun (r : Int32) (_ : Unit) => r = (bI (blk x))) (fun _ => []) := by
  refine wk_methZ (own := R_Md) [(0, .int (nI (x)))] (by decide) rfl (Nat.le_of_ble_eq_true rfl) rfl (gX_ok z) (fun p_ e_ R_ s_ m_ ar_ be_ me_ co_ Q_ A_ hR_ S_ hnm_ hQ_ => ?_)
  refine wk_iload_n (pc := 0) S_ 0 d_Md_isBlank_0 rfl rfl ?_
  refine wk_bipush (pc := 1) (v := (nI (32))) S_ d_Md_isBlank_1 (by decide) ?_
  refine wk_icmp_eqN (pc := 3) (tgt := 12) S_ d_Md_isBlank_3 (by decide) (by omega) (by omega) (fun h3 => ?_) (fun h3 => ?_)
  · -- taken
    refine wk_iconst (pc := 12) (v := (nI (1))) S_ d_Md_isBlank_12 (by decide) ?_
    refine wk_goto (pc := 13) (tgt := 17) S_ d_Md_isBlank_13 (by decide) ?_
    exact hQ_ (nI (1)) () d_Md_isBlank_17 rfl rfl (bI_t (by (try simp at h3); simp [blk, h3]))
  · -- on
    refine wk_iload_n (pc := 6) S_ 0 d_Md_isBlank_6 rfl rfl ?_
    refine wk_bipush (pc := 7) (v := (nI (10))) S_ d_Md_isBlank_7 (by decide) ?_
    refine wk_icmp_neN (pc := 9) (tgt := 16) S_ d_Md_isBlank_9 (by decide) (by omega) (by omega) (fun h9 => ?_) (fun h9 => ?_)
    · -- taken
      refine wk_iconst (pc := 16) (v := (nI (0))) S_ d_Md_isBlank_16 (by decide) ?_
      exact hQ_ (nI (0)) () d_Md_isBlank_17 rfl rfl (bI_f (by (try simp at h3); (try simp at h9); simp [blk, h3, h9]))
    · -- on
      refine wk_iconst (pc := 12) (v := (nI (1))) S_ d_Md_isBlank_12 (by decide) ?_
      refine wk_goto (pc := 13) (tgt := 17) S_ d_Md_isBlank_13 (by decide) ?_
      exact hQ_ (nI (1)) () d_Md_isBlank_17 rfl rfl (bI_t (by (try simp at h3); (try simp at h9); simp [blk, h3, h9]))
set_option maxHeartbeats 4000000 in
set_option maxRecDepth 100000 in
theorem c_Md_next (l : Launch) (D : va_G) (cI : CiT) (z : GzT) (m : Nat → Nat) (tx : (Nat → Nat)) (sz : Nat) (ap : (Nat → Bool)) (pt : (Nat → Nat)) (rk : (Nat → Nat)) (cd : (Nat → Nat)) (fr : Nat) (mc : (Nat → Nat)) (mg : (Nat → Nat)) (mz : (Nat → Nat)) (nc : (Nat → Nat)) (nt : (Nat → Nat)) (ld : (Nat → Nat)) (qap : (Nat → Bool)) (qpt : (Nat → Nat)) (qrk : (Nat → Nat)) (qcd : (Nat → Nat)) (qfr : Nat) (qmc : (Nat → Nat)) (qmg : (Nat → Nat)) (qmz : (Nat → Nat)) (qnc : (Nat → Nat)) (qnt : (Nat → Nat)) (qld : (Nat → Nat)) (nb : Nat) (cl : (Nat → Nat)) (gr : (Nat → Nat)) (sp : (Nat → Nat)) (ot : (Nat → Bool)) (na : Nat) (aw : (Nat → Nat)) (nx : Nat) (bg : (Nat → Nat)) (bb : (Nat → Nat)) (ab : (Nat → Nat)) (fd : Bool) (pv : Bool) (bx : (Nat → Nat)) (wy : (Nat → Nat)) (li : (Nat → Nat)) (fm : Nat) (en : Nat) (nu : Nat) (td : (Nat → Nat)) (lf : Int32) (lk : Int32) (hsz : sz ≤ 1500) (hen : en ≤ sz) (htx : ∀ i, tx i < 256) : wk_C l D (tyK cI) (gX z) y_Md_next b_Md_next 1 (some .boolean) 1 20 0 0 [.ref (m 0)] (wMd m cI tx sz ap pt rk cd fr mc mg mz nc nt ld qap qpt qrk qcd qfr qmc qmg qmz qnc qnt qld nb cl gr sp ot na aw nx bg bb ab fd pv bx wy li fm en nu td lf lk) wk_i (fun (r : Int32) (_ : Unit) => r = (bI (decide (skB tx (sz - en) en < sz)))) (fun _ => (wMd m cI tx sz ap pt rk cd fr mc mg mz nc nt ld qap qpt qrk qcd qfr qmc qmg qmz qnc qnt qld nb cl gr sp ot na aw nx bg bb ab fd pv bx wy li (skB tx (sz - en) en) (skW tx (sz - skB tx (sz - en) en) (skB tx (sz - en) en)) nu td lf lk)) := by
  refine wk_methZ (own := R_Md) [(0, .ref (m 0))] (by decide) rfl (Nat.le_of_ble_eq_true rfl) rfl (gX_ok z) (fun p_ e_ R_ s_ m_ ar_ be_ me_ co_ Q_ A_ hR_ S_ hnm_ hQ_ => ?_)
  refine wk_aload_n (pc := 0) S_ 0 d_Md_next_0 rfl rfl ?_
  refine wk_aload_n (pc := 1) S_ 0 d_Md_next_1 rfl rfl ?_
  refine wk_get (pc := 2) (v := .int (nI (en))) S_ 6 41 0 in_Md rfl (by decide) rfl fl_Md_140 d_Md_next_2 rfl rfl ?_
  refine wk_put (pc := 5) (ty := .int) (ws' := (wMd m cI tx sz ap pt rk cd fr mc mg mz nc nt ld qap qpt qrk qcd qfr qmc qmg qmz qnc qnt qld nb cl gr sp ot na aw nx bg bb ab fd pv bx wy li en en nu td lf lk)) S_ 6 40 0 in_Md t_Md t_Md_ok n_Md rfl (by decide) rfl fl_Md_143 (by decide +kernel) d_Md_next_5 rfl rfl rfl (Nat.le_of_ble_eq_true rfl) rfl ?_
  have hL8 : ∀ (fuel8 : Nat), ∀ (i : Nat), sz - i < fuel8 → (en ≤ i ∧ i ≤ sz) → (skB tx (sz - i) i = skB tx (sz - en) en) → wk_G p_ l e_ R_ s_ m_ ar_ be_ me_ co_ Q_ D A_ 1 0 0 (wMd m cI tx sz ap pt rk cd fr mc mg mz nc nt ld qap qpt qrk qcd qfr qmc qmg qmz qnc qnt qld nb cl gr sp ot na aw nx bg bb ab fd pv bx wy li i en nu td lf lk) 8 [(0, .ref (m 0))] [] := by
    intro fuel8
    induction fuel8 with
    | zero => intro i hm; exact absurd hm (Nat.not_lt_zero _)
    | succ fuel8 ih8 =>
      intro i hm hi hE
      refine wk_aload_n (pc := 8) S_ 0 d_Md_next_8 rfl rfl ?_
      refine wk_get (pc := 9) (v := .int (nI (i))) S_ 6 40 0 in_Md rfl (by decide) rfl fl_Md_143 d_Md_next_9 rfl rfl ?_
      refine wk_aload_n (pc := 12) S_ 0 d_Md_next_12 rfl rfl ?_
      refine wk_get (pc := 13) (v := .int (nI (sz))) S_ 6 1 0 in_Md rfl (by decide) rfl fl_Md_127 d_Md_next_13 rfl rfl ?_
      refine wk_icmp_geN (pc := 16) (tgt := 47) S_ d_Md_next_16 (by decide) (by omega) (by omega) (fun h16 => ?_) (fun h16 => ?_)
      · -- taken
        have hB : i = skB tx (sz - en) en := by rw [← hE]; rw [show sz - i = 0 by omega]; rfl
        refine wk_aload_n (pc := 47) S_ 0 d_Md_next_47 rfl rfl ?_
        refine wk_aload_n (pc := 48) S_ 0 d_Md_next_48 rfl rfl ?_
        refine wk_get (pc := 49) (v := .int (nI (i))) S_ 6 40 0 in_Md rfl (by decide) rfl fl_Md_143 d_Md_next_49 rfl rfl ?_
        refine wk_put (pc := 52) (ty := .int) (ws' := (wMd m cI tx sz ap pt rk cd fr mc mg mz nc nt ld qap qpt qrk qcd qfr qmc qmg qmz qnc qnt qld nb cl gr sp ot na aw nx bg bb ab fd pv bx wy li i i nu td lf lk)) S_ 6 41 0 in_Md t_Md t_Md_ok n_Md rfl (by decide) rfl fl_Md_140 (by decide +kernel) d_Md_next_52 rfl rfl rfl (Nat.le_of_ble_eq_true rfl) rfl ?_
        have hL55 : ∀ (fuel55 : Nat), ∀ (j : Nat), sz - j < fuel55 → (i ≤ j ∧ j ≤ sz) → (skW tx (sz - j) j = skW tx (sz - i) i) → wk_G p_ l e_ R_ s_ m_ ar_ be_ me_ co_ Q_ D A_ 1 0 0 (wMd m cI tx sz ap pt rk cd fr mc mg mz nc nt ld qap qpt qrk qcd qfr qmc qmg qmz qnc qnt qld nb cl gr sp ot na aw nx bg bb ab fd pv bx wy li i j nu td lf lk) 55 [(0, .ref (m 0))] [] := by
          intro fuel55
          induction fuel55 with
          | zero => intro j hm; exact absurd hm (Nat.not_lt_zero _)
          | succ fuel55 ih55 =>
            intro j hm hj hE2
            refine wk_aload_n (pc := 55) S_ 0 d_Md_next_55 rfl rfl ?_
            refine wk_get (pc := 56) (v := .int (nI (j))) S_ 6 41 0 in_Md rfl (by decide) rfl fl_Md_140 d_Md_next_56 rfl rfl ?_
            refine wk_aload_n (pc := 59) S_ 0 d_Md_next_59 rfl rfl ?_
            refine wk_get (pc := 60) (v := .int (nI (sz))) S_ 6 1 0 in_Md rfl (by decide) rfl fl_Md_127 d_Md_next_60 rfl rfl ?_
            refine wk_icmp_geN (pc := 63) (tgt := 94) S_ d_Md_next_63 (by decide) (by omega) (by omega) (fun h63 => ?_) (fun h63 => ?_)
            · -- taken
              have hW : j = skW tx (sz - i) i := by rw [← hE2]; rw [show sz - j = 0 by omega]; rfl
              refine wk_aload_n (pc := 94) S_ 0 d_Md_next_94 rfl rfl ?_
              refine wk_get (pc := 95) (v := .int (nI (i))) S_ 6 40 0 in_Md rfl (by decide) rfl fl_Md_143 d_Md_next_95 rfl rfl ?_
              refine wk_aload_n (pc := 98) S_ 0 d_Md_next_98 rfl rfl ?_
              refine wk_get (pc := 99) (v := .int (nI (sz))) S_ 6 1 0 in_Md rfl (by decide) rfl fl_Md_127 d_Md_next_99 rfl rfl ?_
              refine wk_icmp_geN (pc := 102) (tgt := 109) S_ d_Md_next_102 (by decide) (by omega) (by omega) (fun h102 => ?_) (fun h102 => ?_)
              · -- taken
                refine wk_iconst (pc := 109) (v := (nI (0))) S_ d_Md_next_109 (by decide) ?_
                exact hQ_ (nI (0)) () d_Md_next_110 rfl (by rw [← hB, ← hW]) (bI_f (by rw [← hB]; simp; omega))
              · -- on
                refine wk_iconst (pc := 105) (v := (nI (1))) S_ d_Md_next_105 (by decide) ?_
                refine wk_goto (pc := 106) (tgt := 110) S_ d_Md_next_106 (by decide) ?_
                exact hQ_ (nI (1)) () d_Md_next_110 rfl (by rw [← hB, ← hW]) (bI_t (by rw [← hB]; simp; omega))
            · -- on
              refine wk_aload_n (pc := 66) S_ 0 d_Md_next_66 rfl rfl ?_
              refine wk_get (pc := 67) (v := .ref (m 1)) S_ 6 0 0 in_Md rfl (by decide) rfl fl_Md_7 d_Md_next_67 rfl rfl ?_
              refine wk_aload_n (pc := 70) S_ 0 d_Md_next_70 rfl rfl ?_
              refine wk_get (pc := 71) (v := .int (nI (j))) S_ 6 41 0 in_Md rfl (by decide) rfl fl_Md_140 d_Md_next_71 rfl rfl ?_
              refine wk_ialdN (pc := 74) (g := tx) S_ 1 0 d_Md_next_74 rfl rfl (by omega) (by decide) ?_
              refine wk_run (pc := 75) (rest := []) (wr := (wMd m cI tx sz ap pt rk cd fr mc mg mz nc nt ld qap qpt qrk qcd qfr qmc qmg qmz qnc qnt qld nb cl gr sp ot na aw nx bg bb ab fd pv bx wy li i j nu td lf lk)) (wN := fun _ => (wMd m cI tx sz ap pt rk cd fr mc mg mz nc nt ld qap qpt qrk qcd qfr qmc qmg qmz qnc qnt qld nb cl gr sp ot na aw nx bg bb ab fd pv bx wy li i j nu td lf lk)) S_ (wk_rS S_ (c_Md_isBlank l D cI z ((tx) (j)) (htx j)) mv_Md_146 rfl rfl (Nat.le_of_ble_eq_true rfl) (by rw [hR_]; decide) (by rw [hR_]; decide) d_Md_next_75) [] [0, 1, 2, 3, 4, 5, 6, 7, 8, 9, 10, 11, 12, 13, 14, 15, 16, 17, 18, 19, 20, 21, 22, 23, 24, 25, 26, 27, 28, 29, 30, 31, 32, 33] [0, 1, 2, 3, 4, 5, 6, 7, 8, 9, 10, 11, 12, 13, 14, 15, 16, 17, 18, 19, 20, 21, 22, 23, 24, 25, 26, 27, 28, 29, 30, 31, 32, 33] rfl rfl rfl (by decide) (by decide) (by decide) (by decide) (fun _ => rfl) (fun _ => rfl) (fun r75 _ hw75 => ?_)
              refine wk_st (st' := [.int (r75)]) rfl ?_
              refine wk_top (y := (bI (blk ((tx) (j))))) hw75 ?_
              refine wk_if_neB (pc := 78) (tgt := 94) S_ d_Md_next_78 (by decide) (fun h78 => ?_) (fun h78 => ?_)
              · -- taken
                have hW : j = skW tx (sz - i) i := by rw [← hE2]; rw [show sz - j = (sz - (j + 1)) + 1 by omega, skW, if_pos h78]
                refine wk_aload_n (pc := 94) S_ 0 d_Md_next_94 rfl rfl ?_
                refine wk_get (pc := 95) (v := .int (nI (i))) S_ 6 40 0 in_Md rfl (by decide) rfl fl_Md_143 d_Md_next_95 rfl rfl ?_
                refine wk_aload_n (pc := 98) S_ 0 d_Md_next_98 rfl rfl ?_
                refine wk_get (pc := 99) (v := .int (nI (sz))) S_ 6 1 0 in_Md rfl (by decide) rfl fl_Md_127 d_Md_next_99 rfl rfl ?_
                refine wk_icmp_geN (pc := 102) (tgt := 109) S_ d_Md_next_102 (by decide) (by omega) (by omega) (fun h102 => ?_) (fun h102 => ?_)
                · -- taken
                  refine wk_iconst (pc := 109) (v := (nI (0))) S_ d_Md_next_109 (by decide) ?_
                  exact hQ_ (nI (0)) () d_Md_next_110 rfl (by rw [← hB, ← hW]) (bI_f (by rw [← hB]; simp; omega))
                · -- on
                  refine wk_iconst (pc := 105) (v := (nI (1))) S_ d_Md_next_105 (by decide) ?_
                  refine wk_goto (pc := 106) (tgt := 110) S_ d_Md_next_106 (by decide) ?_
                  exact hQ_ (nI (1)) () d_Md_next_110 rfl (by rw [← hB, ← hW]) (bI_t (by rw [← hB]; simp; omega))
              · -- on
                refine wk_aload_n (pc := 81) S_ 0 d_Md_next_81 rfl rfl ?_
                refine wk_dup (pc := 82) S_ d_Md_next_82 rfl ?_
                refine wk_get (pc := 83) (v := .int (nI (j))) S_ 6 41 0 in_Md rfl (by decide) rfl fl_Md_140 d_Md_next_83 rfl rfl ?_
                refine wk_iconst (pc := 86) (v := (nI (1))) S_ d_Md_next_86 (by decide) ?_
                refine wk_iaddN (pc := 87) S_ d_Md_next_87 ?_
                refine wk_put (pc := 88) (ty := .int) (ws' := (wMd m cI tx sz ap pt rk cd fr mc mg mz nc nt ld qap qpt qrk qcd qfr qmc qmg qmz qnc qnt qld nb cl gr sp ot na aw nx bg bb ab fd pv bx wy li i ((j) + (1)) nu td lf lk)) S_ 6 41 0 in_Md t_Md t_Md_ok n_Md rfl (by decide) rfl fl_Md_140 (by decide +kernel) d_Md_next_88 rfl rfl rfl (Nat.le_of_ble_eq_true rfl) rfl ?_
                refine wk_goto (pc := 91) (tgt := 55) S_ d_Md_next_91 (by decide) ?_
                refine wk_lv [0] ?_ (ih55 ((j) + (1)) (by omega) (by omega) (by rw [← hE2, show sz - j = (sz - (j + 1)) + 1 by omega, skW, if_neg (by rw [h78]; decide)]))
                rfl
        refine wk_lv [0] ?_ (hL55 _ (i) (Nat.lt_succ_self _) (by omega) rfl)
        rfl
      · -- on
        refine wk_aload_n (pc := 19) S_ 0 d_Md_next_19 rfl rfl ?_
        refine wk_get (pc := 20) (v := .ref (m 1)) S_ 6 0 0 in_Md rfl (by decide) rfl fl_Md_7 d_Md_next_20 rfl rfl ?_
        refine wk_aload_n (pc := 23) S_ 0 d_Md_next_23 rfl rfl ?_
        refine wk_get (pc := 24) (v := .int (nI (i))) S_ 6 40 0 in_Md rfl (by decide) rfl fl_Md_143 d_Md_next_24 rfl rfl ?_
        refine wk_ialdN (pc := 27) (g := tx) S_ 1 0 d_Md_next_27 rfl rfl (by omega) (by decide) ?_
        refine wk_run (pc := 28) (rest := []) (wr := (wMd m cI tx sz ap pt rk cd fr mc mg mz nc nt ld qap qpt qrk qcd qfr qmc qmg qmz qnc qnt qld nb cl gr sp ot na aw nx bg bb ab fd pv bx wy li i en nu td lf lk)) (wN := fun _ => (wMd m cI tx sz ap pt rk cd fr mc mg mz nc nt ld qap qpt qrk qcd qfr qmc qmg qmz qnc qnt qld nb cl gr sp ot na aw nx bg bb ab fd pv bx wy li i en nu td lf lk)) S_ (wk_rS S_ (c_Md_isBlank l D cI z ((tx) (i)) (htx i)) mv_Md_146 rfl rfl (Nat.le_of_ble_eq_true rfl) (by rw [hR_]; decide) (by rw [hR_]; decide) d_Md_next_28) [] [0, 1, 2, 3, 4, 5, 6, 7, 8, 9, 10, 11, 12, 13, 14, 15, 16, 17, 18, 19, 20, 21, 22, 23, 24, 25, 26, 27, 28, 29, 30, 31, 32, 33] [0, 1, 2, 3, 4, 5, 6, 7, 8, 9, 10, 11, 12, 13, 14, 15, 16, 17, 18, 19, 20, 21, 22, 23, 24, 25, 26, 27, 28, 29, 30, 31, 32, 33] rfl rfl rfl (by decide) (by decide) (by decide) (by decide) (fun _ => rfl) (fun _ => rfl) (fun r28 _ hw28 => ?_)
        refine wk_st (st' := [.int (r28)]) rfl ?_
        refine wk_top (y := (bI (blk ((tx) (i))))) hw28 ?_
        refine wk_if_eqB (pc := 31) (tgt := 47) S_ d_Md_next_31 (by decide) (fun h31 => ?_) (fun h31 => ?_)
        · -- taken
          have hB : i = skB tx (sz - en) en := by rw [← hE]; rw [show sz - i = (sz - (i + 1)) + 1 by omega, skB, if_neg (by rw [h31]; decide)]
          refine wk_aload_n (pc := 47) S_ 0 d_Md_next_47 rfl rfl ?_
          refine wk_aload_n (pc := 48) S_ 0 d_Md_next_48 rfl rfl ?_
          refine wk_get (pc := 49) (v := .int (nI (i))) S_ 6 40 0 in_Md rfl (by decide) rfl fl_Md_143 d_Md_next_49 rfl rfl ?_
          refine wk_put (pc := 52) (ty := .int) (ws' := (wMd m cI tx sz ap pt rk cd fr mc mg mz nc nt ld qap qpt qrk qcd qfr qmc qmg qmz qnc qnt qld nb cl gr sp ot na aw nx bg bb ab fd pv bx wy li i i nu td lf lk)) S_ 6 41 0 in_Md t_Md t_Md_ok n_Md rfl (by decide) rfl fl_Md_140 (by decide +kernel) d_Md_next_52 rfl rfl rfl (Nat.le_of_ble_eq_true rfl) rfl ?_
          have hL55 : ∀ (fuel55 : Nat), ∀ (j : Nat), sz - j < fuel55 → (i ≤ j ∧ j ≤ sz) → (skW tx (sz - j) j = skW tx (sz - i) i) → wk_G p_ l e_ R_ s_ m_ ar_ be_ me_ co_ Q_ D A_ 1 0 0 (wMd m cI tx sz ap pt rk cd fr mc mg mz nc nt ld qap qpt qrk qcd qfr qmc qmg qmz qnc qnt qld nb cl gr sp ot na aw nx bg bb ab fd pv bx wy li i j nu td lf lk) 55 [(0, .ref (m 0))] [] := by
            intro fuel55
            induction fuel55 with
            | zero => intro j hm; exact absurd hm (Nat.not_lt_zero _)
            | succ fuel55 ih55 =>
              intro j hm hj hE2
              refine wk_aload_n (pc := 55) S_ 0 d_Md_next_55 rfl rfl ?_
              refine wk_get (pc := 56) (v := .int (nI (j))) S_ 6 41 0 in_Md rfl (by decide) rfl fl_Md_140 d_Md_next_56 rfl rfl ?_
              refine wk_aload_n (pc := 59) S_ 0 d_Md_next_59 rfl rfl ?_
              refine wk_get (pc := 60) (v := .int (nI (sz))) S_ 6 1 0 in_Md rfl (by decide) rfl fl_Md_127 d_Md_next_60 rfl rfl ?_
              refine wk_icmp_geN (pc := 63) (tgt := 94) S_ d_Md_next_63 (by decide) (by omega) (by omega) (fun h63 => ?_) (fun h63 => ?_)
              · -- taken
                have hW : j = skW tx (sz - i) i := by rw [← hE2]; rw [show sz - j = 0 by omega]; rfl
                refine wk_aload_n (pc := 94) S_ 0 d_Md_next_94 rfl rfl ?_
                refine wk_get (pc := 95) (v := .int (nI (i))) S_ 6 40 0 in_Md rfl (by decide) rfl fl_Md_143 d_Md_next_95 rfl rfl ?_
                refine wk_aload_n (pc := 98) S_ 0 d_Md_next_98 rfl rfl ?_
                refine wk_get (pc := 99) (v := .int (nI (sz))) S_ 6 1 0 in_Md rfl (by decide) rfl fl_Md_127 d_Md_next_99 rfl rfl ?_
                refine wk_icmp_geN (pc := 102) (tgt := 109) S_ d_Md_next_102 (by decide) (by omega) (by omega) (fun h102 => ?_) (fun h102 => ?_)
                · -- taken
                  refine wk_iconst (pc := 109) (v := (nI (0))) S_ d_Md_next_109 (by decide) ?_
                  exact hQ_ (nI (0)) () d_Md_next_110 rfl (by rw [← hB, ← hW]) (bI_f (by rw [← hB]; simp; omega))
                · -- on
                  refine wk_iconst (pc := 105) (v := (nI (1))) S_ d_Md_next_105 (by decide) ?_
                  refine wk_goto (pc := 106) (tgt := 110) S_ d_Md_next_106 (by decide) ?_
                  exact hQ_ (nI (1)) () d_Md_next_110 rfl (by rw [← hB, ← hW]) (bI_t (by rw [← hB]; simp; omega))
              · -- on
                refine wk_aload_n (pc := 66) S_ 0 d_Md_next_66 rfl rfl ?_
                refine wk_get (pc := 67) (v := .ref (m 1)) S_ 6 0 0 in_Md rfl (by decide) rfl fl_Md_7 d_Md_next_67 rfl rfl ?_
                refine wk_aload_n (pc := 70) S_ 0 d_Md_next_70 rfl rfl ?_
                refine wk_get (pc := 71) (v := .int (nI (j))) S_ 6 41 0 in_Md rfl (by decide) rfl fl_Md_140 d_Md_next_71 rfl rfl ?_
                refine wk_ialdN (pc := 74) (g := tx) S_ 1 0 d_Md_next_74 rfl rfl (by omega) (by decide) ?_
                refine wk_run (pc := 75) (rest := []) (wr := (wMd m cI tx sz ap pt rk cd fr mc mg mz nc nt ld qap qpt qrk qcd qfr qmc qmg qmz qnc qnt qld nb cl gr sp ot na aw nx bg bb ab fd pv bx wy li i j nu td lf lk)) (wN := fun _ => (wMd m cI tx sz ap pt rk cd fr mc mg mz nc nt ld qap qpt qrk qcd qfr qmc qmg qmz qnc qnt qld nb cl gr sp ot na aw nx bg bb ab fd pv bx wy li i j nu td lf lk)) S_ (wk_rS S_ (c_Md_isBlank l D cI z ((tx) (j)) (htx j)) mv_Md_146 rfl rfl (Nat.le_of_ble_eq_true rfl) (by rw [hR_]; decide) (by rw [hR_]; decide) d_Md_next_75) [] [0, 1, 2, 3, 4, 5, 6, 7, 8, 9, 10, 11, 12, 13, 14, 15, 16, 17, 18, 19, 20, 21, 22, 23, 24, 25, 26, 27, 28, 29, 30, 31, 32, 33] [0, 1, 2, 3, 4, 5, 6, 7, 8, 9, 10, 11, 12, 13, 14, 15, 16, 17, 18, 19, 20, 21, 22, 23, 24, 25, 26, 27, 28, 29, 30, 31, 32, 33] rfl rfl rfl (by decide) (by decide) (by decide) (by decide) (fun _ => rfl) (fun _ => rfl) (fun r75 _ hw75 => ?_)
                refine wk_st (st' := [.int (r75)]) rfl ?_
                refine wk_top (y := (bI (blk ((tx) (j))))) hw75 ?_
                refine wk_if_neB (pc := 78) (tgt := 94) S_ d_Md_next_78 (by decide) (fun h78 => ?_) (fun h78 => ?_)
                · -- taken
                  have hW : j = skW tx (sz - i) i := by rw [← hE2]; rw [show sz - j = (sz - (j + 1)) + 1 by omega, skW, if_pos h78]
                  refine wk_aload_n (pc := 94) S_ 0 d_Md_next_94 rfl rfl ?_
                  refine wk_get (pc := 95) (v := .int (nI (i))) S_ 6 40 0 in_Md rfl (by decide) rfl fl_Md_143 d_Md_next_95 rfl rfl ?_
                  refine wk_aload_n (pc := 98) S_ 0 d_Md_next_98 rfl rfl ?_
                  refine wk_get (pc := 99) (v := .int (nI (sz))) S_ 6 1 0 in_Md rfl (by decide) rfl fl_Md_127 d_Md_next_99 rfl rfl ?_
                  refine wk_icmp_geN (pc := 102) (tgt := 109) S_ d_Md_next_102 (by decide) (by omega) (by omega) (fun h102 => ?_) (fun h102 => ?_)
                  · -- taken
                    refine wk_iconst (pc := 109) (v := (nI (0))) S_ d_Md_next_109 (by decide) ?_
                    exact hQ_ (nI (0)) () d_Md_next_110 rfl (by rw [← hB, ← hW]) (bI_f (by rw [← hB]; simp; omega))
                  · -- on
                    refine wk_iconst (pc := 105) (v := (nI (1))) S_ d_Md_next_105 (by decide) ?_
                    refine wk_goto (pc := 106) (tgt := 110) S_ d_Md_next_106 (by decide) ?_
                    exact hQ_ (nI (1)) () d_Md_next_110 rfl (by rw [← hB, ← hW]) (bI_t (by rw [← hB]; simp; omega))
                · -- on
                  refine wk_aload_n (pc := 81) S_ 0 d_Md_next_81 rfl rfl ?_
                  refine wk_dup (pc := 82) S_ d_Md_next_82 rfl ?_
                  refine wk_get (pc := 83) (v := .int (nI (j))) S_ 6 41 0 in_Md rfl (by decide) rfl fl_Md_140 d_Md_next_83 rfl rfl ?_
                  refine wk_iconst (pc := 86) (v := (nI (1))) S_ d_Md_next_86 (by decide) ?_
                  refine wk_iaddN (pc := 87) S_ d_Md_next_87 ?_
                  refine wk_put (pc := 88) (ty := .int) (ws' := (wMd m cI tx sz ap pt rk cd fr mc mg mz nc nt ld qap qpt qrk qcd qfr qmc qmg qmz qnc qnt qld nb cl gr sp ot na aw nx bg bb ab fd pv bx wy li i ((j) + (1)) nu td lf lk)) S_ 6 41 0 in_Md t_Md t_Md_ok n_Md rfl (by decide) rfl fl_Md_140 (by decide +kernel) d_Md_next_88 rfl rfl rfl (Nat.le_of_ble_eq_true rfl) rfl ?_
                  refine wk_goto (pc := 91) (tgt := 55) S_ d_Md_next_91 (by decide) ?_
                  refine wk_lv [0] ?_ (ih55 ((j) + (1)) (by omega) (by omega) (by rw [← hE2, show sz - j = (sz - (j + 1)) + 1 by omega, skW, if_neg (by rw [h78]; decide)]))
                  rfl
          refine wk_lv [0] ?_ (hL55 _ (i) (Nat.lt_succ_self _) (by omega) rfl)
          rfl
        · -- on
          refine wk_aload_n (pc := 34) S_ 0 d_Md_next_34 rfl rfl ?_
          refine wk_dup (pc := 35) S_ d_Md_next_35 rfl ?_
          refine wk_get (pc := 36) (v := .int (nI (i))) S_ 6 40 0 in_Md rfl (by decide) rfl fl_Md_143 d_Md_next_36 rfl rfl ?_
          refine wk_iconst (pc := 39) (v := (nI (1))) S_ d_Md_next_39 (by decide) ?_
          refine wk_iaddN (pc := 40) S_ d_Md_next_40 ?_
          refine wk_put (pc := 41) (ty := .int) (ws' := (wMd m cI tx sz ap pt rk cd fr mc mg mz nc nt ld qap qpt qrk qcd qfr qmc qmg qmz qnc qnt qld nb cl gr sp ot na aw nx bg bb ab fd pv bx wy li ((i) + (1)) en nu td lf lk)) S_ 6 40 0 in_Md t_Md t_Md_ok n_Md rfl (by decide) rfl fl_Md_143 (by decide +kernel) d_Md_next_41 rfl rfl rfl (Nat.le_of_ble_eq_true rfl) rfl ?_
          refine wk_goto (pc := 44) (tgt := 8) S_ d_Md_next_44 (by decide) ?_
          refine wk_lv [0] ?_ (ih8 ((i) + (1)) (by omega) (by omega) (by rw [← hE, show sz - i = (sz - (i + 1)) + 1 by omega, skB, if_pos h31]))
          rfl
  refine wk_lv [0] ?_ (hL8 _ (en) (Nat.lt_succ_self _) (by omega) rfl)
  rfl
set_option maxHeartbeats 4000000 in
set_option maxRecDepth 100000 in
theorem c_Md_is (l : Launch) (D : va_G) (cI : CiT) (z : GzT) (m : Nat → Nat) (tx : (Nat → Nat)) (sz : Nat) (ap : (Nat → Bool)) (pt : (Nat → Nat)) (rk : (Nat → Nat)) (cd : (Nat → Nat)) (fr : Nat) (mc : (Nat → Nat)) (mg : (Nat → Nat)) (mz : (Nat → Nat)) (nc : (Nat → Nat)) (nt : (Nat → Nat)) (ld : (Nat → Nat)) (qap : (Nat → Bool)) (qpt : (Nat → Nat)) (qrk : (Nat → Nat)) (qcd : (Nat → Nat)) (qfr : Nat) (qmc : (Nat → Nat)) (qmg : (Nat → Nat)) (qmz : (Nat → Nat)) (qnc : (Nat → Nat)) (qnt : (Nat → Nat)) (qld : (Nat → Nat)) (nb : Nat) (cl : (Nat → Nat)) (gr : (Nat → Nat)) (sp : (Nat → Nat)) (ot : (Nat → Bool)) (na : Nat) (aw : (Nat → Nat)) (nx : Nat) (bg : (Nat → Nat)) (bb : (Nat → Nat)) (ab : (Nat → Nat)) (fd : Bool) (pv : Bool) (bx : (Nat → Nat)) (wy : (Nat → Nat)) (li : (Nat → Nat)) (fm : Nat) (en : Nat) (nu : Nat) (td : (Nat → Nat)) (lf : Int32) (lk : Int32) (c : Nat → Nat) (n : Nat) (hc : ∀ i, c i < 256) (hc0 : 0 < c 0) (hn : 0 < n ∧ n ≤ 6) (htx : ∀ i, tx i < 256) (hfe : fm ≤ en ∧ en ≤ 1500) : wk_C l D (tyK cI) (gX z) y_Md_is b_Md_is 7 (some .boolean) 0 0 0 0 [.ref (m 0), .long (lN (tbN c 0 n))] (wMd m cI tx sz ap pt rk cd fr mc mg mz nc nt ld qap qpt qrk qcd qfr qmc qmg qmz qnc qnt qld nb cl gr sp ot na aw nx bg bb ab fd pv bx wy li fm en nu td lf lk) wk_i (fun (r : Int32) (_ : Unit) => r = (bI (wIs tx fm en c n))) (fun _ => (wMd m cI tx sz ap pt rk cd fr mc mg mz nc nt ld qap qpt qrk qcd qfr qmc qmg qmz qnc qnt qld nb cl gr sp ot na aw nx bg bb ab fd pv bx wy li fm en nu td lf lk)) := by
  refine wk_methZ (own := R_Md) [(0, .ref (m 0)), (1, .long (lN (tbN c 0 n)))] (by decide) rfl (Nat.le_of_ble_eq_true rfl) rfl (gX_ok z) (fun p_ e_ R_ s_ m_ ar_ be_ me_ co_ Q_ A_ hR_ S_ hnm_ hQ_ => ?_)
  refine wk_iconst (pc := 0) (v := (nI (0))) S_ d_Md_is_0 (by decide) ?_
  refine wk_istore_n (pc := 1) (lv' := [(3, .int (nI (0))), (0, .ref (m 0)), (1, .long (lN (tbN c 0 n)))]) S_ d_Md_is_1 rfl (by decide) rfl ?_
  refine wk_lload_n (pc := 2) S_ 2 d_Md_is_2 rfl rfl ?_
  refine wk_lstore (pc := 3) (lv' := [(4, .long (lN (tbN c 0 n))), (3, .int (nI (0))), (0, .ref (m 0)), (1, .long (lN (tbN c 0 n)))]) S_ d_Md_is_3 (by decide) rfl ?_
  have hL5 : ∀ (fuel5 : Nat), ∀ (j : Nat), n - j < fuel5 → (j ≤ n) → wk_G p_ l e_ R_ s_ m_ ar_ be_ me_ co_ Q_ D A_ 7 0 0 (wMd m cI tx sz ap pt rk cd fr mc mg mz nc nt ld qap qpt qrk qcd qfr qmc qmg qmz qnc qnt qld nb cl gr sp ot na aw nx bg bb ab fd pv bx wy li fm en nu td lf lk) 5 [(0, .ref (m 0)), (1, .long (lN (tbN c 0 n))), (3, .int (nI (j))), (4, .long (lN (tbN c 0 (n - j))))] [] := by
    intro fuel5
    induction fuel5 with
    | zero => intro j hm; exact absurd hm (Nat.not_lt_zero _)
    | succ fuel5 ih5 =>
      intro j hm hj
      refine wk_lload (pc := 5) S_ 3 d_Md_is_5 rfl ?_
      refine wk_lconst (pc := 7) (v := (lN (0))) S_ d_Md_is_7 (by decide) ?_
      refine wk_lcmp (pc := 8) S_ d_Md_is_8 ?_
      have hb1 := tb_le (s := 0) hc (n - j)
      have hb2 : 256 ^ (n - j) ≤ 256 ^ 6 := Nat.pow_le_pow_right (by decide) (by omega)
      refine wk_cmp_leN (pc := 9) (tgt := 26) S_ d_Md_is_9 (by decide) (by omega) (by omega) (fun h9 => ?_) (fun h9 => ?_)
      · -- taken
        have hjn : j = n := by rcases Nat.lt_or_ge j n with z | z; have h7 := tb_pos hc0 (n - j) (by omega); omega; omega
        refine wk_lconst (pc := 26) (v := (lN (0))) S_ d_Md_is_26 (by decide) ?_
        refine wk_lstore (pc := 27) (lv' := [(4, .long (lN (0))), (0, .ref (m 0)), (1, .long (lN (tbN c 0 n))), (3, .int (nI (j)))]) S_ d_Md_is_27 (by decide) rfl ?_
        refine wk_aload_n (pc := 29) S_ 1 d_Md_is_29 rfl rfl ?_
        refine wk_get (pc := 30) (v := .int (nI (fm))) S_ 6 40 0 in_Md rfl (by decide) rfl fl_Md_143 d_Md_is_30 rfl rfl ?_
        refine wk_istore (pc := 33) (lv' := [(6, .int (nI (fm))), (4, .long (lN (0))), (0, .ref (m 0)), (1, .long (lN (tbN c 0 n))), (3, .int (nI (j)))]) S_ d_Md_is_33 (by decide) rfl ?_
        have hL35 : ∀ (fuel35 : Nat), ∀ (k : Nat) (o : Nat), en - k < fuel35 → (fm ≤ k ∧ k ≤ en) → (en - fm = n → o = tbN tx fm (k - fm)) → (o ≤ 256 ^ 6) → wk_G p_ l e_ R_ s_ m_ ar_ be_ me_ co_ Q_ D A_ 7 0 0 (wMd m cI tx sz ap pt rk cd fr mc mg mz nc nt ld qap qpt qrk qcd qfr qmc qmg qmz qnc qnt qld nb cl gr sp ot na aw nx bg bb ab fd pv bx wy li fm en nu td lf lk) 35 [(0, .ref (m 0)), (1, .long (lN (tbN c 0 n))), (3, .int (nI (j))), (4, .long (lN (o))), (6, .int (nI (k)))] [] := by
          intro fuel35
          induction fuel35 with
          | zero => intro k o hm; exact absurd hm (Nat.not_lt_zero _)
          | succ fuel35 ih35 =>
            intro k o hm hk hO ho
            refine wk_iload (pc := 35) S_ 4 d_Md_is_35 rfl ?_
            refine wk_aload_n (pc := 37) S_ 0 d_Md_is_37 rfl rfl ?_
            refine wk_get (pc := 38) (v := .int (nI (en))) S_ 6 41 0 in_Md rfl (by decide) rfl fl_Md_140 d_Md_is_38 rfl rfl ?_
            refine wk_icmp_geN (pc := 41) (tgt := 80) S_ d_Md_is_41 (by decide) (by omega) (by omega) (fun h41 => ?_) (fun h41 => ?_)
            · -- taken
              refine wk_aload_n (pc := 80) S_ 0 d_Md_is_80 rfl rfl ?_
              refine wk_get (pc := 81) (v := .int (nI (en))) S_ 6 41 0 in_Md rfl (by decide) rfl fl_Md_140 d_Md_is_81 rfl rfl ?_
              refine wk_aload_n (pc := 84) S_ 0 d_Md_is_84 rfl rfl ?_
              refine wk_get (pc := 85) (v := .int (nI (fm))) S_ 6 40 0 in_Md rfl (by decide) rfl fl_Md_143 d_Md_is_85 rfl rfl ?_
              refine wk_isubN (pc := 88) S_ d_Md_is_88 (by omega) ?_
              refine wk_iload_n (pc := 89) S_ 2 d_Md_is_89 rfl rfl ?_
              refine wk_icmp_neN (pc := 90) (tgt := 104) S_ d_Md_is_90 (by decide) (by omega) (by omega) (fun h90 => ?_) (fun h90 => ?_)
              · -- taken
                refine wk_iconst (pc := 104) (v := (nI (0))) S_ d_Md_is_104 (by decide) ?_
                exact hQ_ (nI (0)) () d_Md_is_105 rfl rfl (bI_f (by simp [wIs]; omega))
              · -- on
                refine wk_lload (pc := 93) S_ 3 d_Md_is_93 rfl ?_
                refine wk_lload_n (pc := 95) S_ 1 d_Md_is_95 rfl rfl ?_
                refine wk_lcmp (pc := 96) S_ d_Md_is_96 ?_
                have hb3 := tb_le (s := 0) hc n
                have hb4 : 256 ^ n ≤ 256 ^ 6 := Nat.pow_le_pow_right (by decide) (by omega)
                refine wk_cmp_neN (pc := 97) (tgt := 104) S_ d_Md_is_97 (by decide) (by omega) (by omega) (fun h97 => ?_) (fun h97 => ?_)
                · -- taken
                  refine wk_iconst (pc := 104) (v := (nI (0))) S_ d_Md_is_104 (by decide) ?_
                  exact hQ_ (nI (0)) () d_Md_is_105 rfl rfl (bI_f (by rw [wIs, decide_eq_false_iff_not]; intro z; apply h97; rw [hO (by omega), show k - fm = n by omega]; exact (tb_eq htx hc n).mpr (fun i hi => by rw [Nat.zero_add]; exact z.2 i hi)))
                · -- on
                  refine wk_iconst (pc := 100) (v := (nI (1))) S_ d_Md_is_100 (by decide) ?_
                  refine wk_goto (pc := 101) (tgt := 105) S_ d_Md_is_101 (by decide) ?_
                  exact hQ_ (nI (1)) () d_Md_is_105 rfl rfl (bI_t (by rw [wIs, decide_eq_true_eq]; refine ⟨by omega, fun i hi => ?_⟩; have h7 := (tb_eq htx hc n).mp (by rw [← h97, hO (by omega), show k - fm = n by omega]) i hi; rwa [Nat.zero_add] at h7))
            · -- on
              refine wk_aload_n (pc := 44) S_ 0 d_Md_is_44 rfl rfl ?_
              refine wk_get (pc := 45) (v := .int (nI (en))) S_ 6 41 0 in_Md rfl (by decide) rfl fl_Md_140 d_Md_is_45 rfl rfl ?_
              refine wk_aload_n (pc := 48) S_ 0 d_Md_is_48 rfl rfl ?_
              refine wk_get (pc := 49) (v := .int (nI (fm))) S_ 6 40 0 in_Md rfl (by decide) rfl fl_Md_143 d_Md_is_49 rfl rfl ?_
              refine wk_isubN (pc := 52) S_ d_Md_is_52 (by omega) ?_
              refine wk_iload_n (pc := 53) S_ 2 d_Md_is_53 rfl rfl ?_
              refine wk_icmp_neN (pc := 54) (tgt := 80) S_ d_Md_is_54 (by decide) (by omega) (by omega) (fun h54 => ?_) (fun h54 => ?_)
              · -- taken
                refine wk_aload_n (pc := 80) S_ 0 d_Md_is_80 rfl rfl ?_
                refine wk_get (pc := 81) (v := .int (nI (en))) S_ 6 41 0 in_Md rfl (by decide) rfl fl_Md_140 d_Md_is_81 rfl rfl ?_
                refine wk_aload_n (pc := 84) S_ 0 d_Md_is_84 rfl rfl ?_
                refine wk_get (pc := 85) (v := .int (nI (fm))) S_ 6 40 0 in_Md rfl (by decide) rfl fl_Md_143 d_Md_is_85 rfl rfl ?_
                refine wk_isubN (pc := 88) S_ d_Md_is_88 (by omega) ?_
                refine wk_iload_n (pc := 89) S_ 2 d_Md_is_89 rfl rfl ?_
                refine wk_icmp_neN (pc := 90) (tgt := 104) S_ d_Md_is_90 (by decide) (by omega) (by omega) (fun h90 => ?_) (fun h90 => ?_)
                · -- taken
                  refine wk_iconst (pc := 104) (v := (nI (0))) S_ d_Md_is_104 (by decide) ?_
                  exact hQ_ (nI (0)) () d_Md_is_105 rfl rfl (bI_f (by simp [wIs]; omega))
                · -- on
                  refine wk_lload (pc := 93) S_ 3 d_Md_is_93 rfl ?_
                  refine wk_lload_n (pc := 95) S_ 1 d_Md_is_95 rfl rfl ?_
                  refine wk_lcmp (pc := 96) S_ d_Md_is_96 ?_
                  have hb3 := tb_le (s := 0) hc n
                  have hb4 : 256 ^ n ≤ 256 ^ 6 := Nat.pow_le_pow_right (by decide) (by omega)
                  refine wk_cmp_neN (pc := 97) (tgt := 104) S_ d_Md_is_97 (by decide) (by omega) (by omega) (fun h97 => ?_) (fun h97 => ?_)
                  · -- taken
                    refine wk_iconst (pc := 104) (v := (nI (0))) S_ d_Md_is_104 (by decide) ?_
                    exact hQ_ (nI (0)) () d_Md_is_105 rfl rfl (bI_f (by rw [wIs, decide_eq_false_iff_not]; intro z; apply h97; rw [hO (by omega), show k - fm = n by omega]; exact (tb_eq htx hc n).mpr (fun i hi => by rw [Nat.zero_add]; exact z.2 i hi)))
                  · -- on
                    refine wk_iconst (pc := 100) (v := (nI (1))) S_ d_Md_is_100 (by decide) ?_
                    refine wk_goto (pc := 101) (tgt := 105) S_ d_Md_is_101 (by decide) ?_
                    exact hQ_ (nI (1)) () d_Md_is_105 rfl rfl (bI_t (by rw [wIs, decide_eq_true_eq]; refine ⟨by omega, fun i hi => ?_⟩; have h7 := (tb_eq htx hc n).mp (by rw [← h97, hO (by omega), show k - fm = n by omega]) i hi; rwa [Nat.zero_add] at h7))
              · -- on
                refine wk_lload (pc := 57) S_ 3 d_Md_is_57 rfl ?_
                refine wk_ldc2 (pc := 59) (v := (lN (256))) S_ kc_Md_150 d_Md_is_59 ?_
                have ht1 := htx k
                refine wk_lmulN (pc := 62) S_ d_Md_is_62 ?_
                refine wk_aload_n (pc := 63) S_ 0 d_Md_is_63 rfl rfl ?_
                refine wk_get (pc := 64) (v := .ref (m 1)) S_ 6 0 0 in_Md rfl (by decide) rfl fl_Md_7 d_Md_is_64 rfl rfl ?_
                refine wk_iload (pc := 67) S_ 4 d_Md_is_67 rfl ?_
                refine wk_ialdN (pc := 69) (g := tx) S_ 1 0 d_Md_is_69 rfl rfl (by omega) (by decide) ?_
                have ht2 := htx k
                refine wk_i2lN (pc := 70) S_ d_Md_is_70 (by omega) ?_
                refine wk_laddN (pc := 71) S_ d_Md_is_71 ?_
                refine wk_lstore (pc := 72) (lv' := [(4, .long (lN (((o) * (256)) + ((tx) (k))))), (0, .ref (m 0)), (1, .long (lN (tbN c 0 n))), (3, .int (nI (j))), (6, .int (nI (k)))]) S_ d_Md_is_72 (by decide) rfl ?_
                refine wk_iincN (pc := 74) (d := 1) (lv' := [(6, .int (nI (k + 1))), (4, .long (lN (((o) * (256)) + ((tx) (k))))), (0, .ref (m 0)), (1, .long (lN (tbN c 0 n))), (3, .int (nI (j)))]) S_ 4 d_Md_is_74 (by decide) rfl (by decide) rfl ?_
                refine wk_goto (pc := 77) (tgt := 35) S_ d_Md_is_77 (by decide) ?_
                refine wk_lv [2, 3, 4, 1, 0] ?_ (ih35 (k + 1) (((o) * (256)) + ((tx) (k))) (by omega) (by omega) (fun z => by rw [show k + 1 - fm = (k - fm) + 1 by omega, tbN, ← hO z, show fm + (k - fm) = k by omega]) (by have h7 := hO (by omega); have h8 := tb_le (s := fm) htx (k - fm); have h9 := htx k; have h6 : 256 ^ (k - fm) ≤ 256 ^ 5 := Nat.pow_le_pow_right (by decide) (by omega); omega))
                rfl
        refine wk_lv [2, 3, 4, 1, 0] ?_ (hL35 _ (fm) (0) (Nat.lt_succ_self _) (by omega) (fun _ => by rw [Nat.sub_self]; rfl) (Nat.zero_le _))
        rfl
      · -- on
        have hjn : j < n := by rcases Nat.lt_or_ge j n with z | z; exact z; rw [show n - j = 0 by omega] at h9; exact absurd h9 (Nat.lt_irrefl 0)
        refine wk_iincN (pc := 12) (d := 1) (lv' := [(3, .int (nI (j + 1))), (0, .ref (m 0)), (1, .long (lN (tbN c 0 n))), (4, .long (lN (tbN c 0 (n - j))))]) S_ 2 d_Md_is_12 (by decide) rfl (by decide) rfl ?_
        refine wk_lload (pc := 15) S_ 3 d_Md_is_15 rfl ?_
        refine wk_ldc2 (pc := 17) (v := (lN (256))) S_ kc_Md_150 d_Md_is_17 ?_
        refine wk_ldivN (pc := 20) S_ d_Md_is_20 (by omega) (by omega) (by omega) ?_
        refine wk_topl (y := (lN (tbN c 0 (n - (j + 1))))) (congrArg lN (by have h7 := hc (n - (j + 1)); rw [show n - j = (n - (j + 1)) + 1 by omega, tbN, Nat.zero_add]; omega)) ?_
        refine wk_lstore (pc := 21) (lv' := [(4, .long (lN (tbN c 0 (n - (j + 1))))), (3, .int (nI (j + 1))), (0, .ref (m 0)), (1, .long (lN (tbN c 0 n)))]) S_ d_Md_is_21 (by decide) rfl ?_
        refine wk_goto (pc := 23) (tgt := 5) S_ d_Md_is_23 (by decide) ?_
        refine wk_lv [2, 3, 1, 0] ?_ (ih5 (j + 1) (by omega) (by omega))
        rfl
  refine wk_lv [2, 3, 1, 0] ?_ (hL5 _ (0) (Nat.lt_succ_self _) (by omega))
  rfl
