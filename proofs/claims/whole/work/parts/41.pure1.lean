/-- the bottle i may join those before it in its box -/
def fkP (ap : Nat → Bool) (cl gr gv bg bb ab : Nat → Nat) (i : Nat) : Prop :=
  cnN gv (gv i) i < bb (gv i - 1) ∧ ab (gv i - 1) + smN gr gv (gv i) i + gr i ≤ bg (gv i - 1) ∧ ∀ d, d < i → gv d = gv i → ap (9 * (cl i - 1) + (cl d - 1)) = false
theorem cnN_mono {gv : Nat → Nat} {x : Nat} : ∀ {n m}, n ≤ m → cnN gv x n ≤ cnN gv x m := by
  intro n m h
  induction m with
  | zero => rw [Nat.le_zero.mp h]; exact Nat.le_refl _
  | succ m ih =>
    by_cases e : n = m + 1
    · rw [e]; exact Nat.le_refl _
    · have := ih (by omega)
      rw [cnN]
      omega
theorem smN_mono {gr gv : Nat → Nat} {x : Nat} : ∀ {n m}, n ≤ m → smN gr gv x n ≤ smN gr gv x m := by
  intro n m h
  induction m with
  | zero => rw [Nat.le_zero.mp h]; exact Nat.le_refl _
  | succ m ih =>
    by_cases e : n = m + 1
    · rw [e]; exact Nat.le_refl _
    · have := ih (by omega)
      rw [smN]
      omega
theorem fk_bx {ap : Nat → Bool} {cl gr gv bg bb ab : Nat → Nat} {x : Nat} : ∀ n, (∀ i, i < n → gv i = x + 1 → fkP ap cl gr gv bg bb ab i) → bxP ap cl gr gv bg bb ab n x
  | 0, _ => ⟨fun b hb => absurd hb (Nat.not_lt_zero _), Nat.zero_le _, Or.inl rfl⟩
  | n + 1, h => by
    have ih := fk_bx n (fun i hi => h i (by omega))
    by_cases e : gv n = x + 1
    · have h1 := h n (Nat.lt_succ_self n) e
      rw [fkP, e, Nat.add_sub_cancel] at h1
      refine ⟨fun b hb hb1 d hd hd1 => ?_, ?_, Or.inr ?_⟩
      · by_cases e2 : b = n
        · subst e2; exact h1.2.2 d hd hd1
        · exact ih.1 b (by omega) hb1 d hd hd1
      · rw [cnN, if_pos e]; omega
      · rw [smN, if_pos e]; omega
    · refine ⟨fun b hb hb1 d hd hd1 => ?_, ?_, ?_⟩
      · by_cases e2 : b = n
        · subst e2; exact absurd hb1 e
        · exact ih.1 b (by omega) hb1 d hd hd1
      · rw [cnN, if_neg e]; exact ih.2.1
      · rw [cnN, smN, if_neg e, if_neg e]; exact ih.2.2
theorem bx_fk {ap : Nat → Bool} {cl gr gv bg bb ab : Nat → Nat} {x n : Nat} (h : bxP ap cl gr gv bg bb ab n x) {i : Nat} (hi : i < n) (e : gv i = x + 1) : fkP ap cl gr gv bg bb ab i := by
  have h1 := cnN_mono (gv := gv) (x := x + 1) (n := i + 1) (m := n) hi
  have h2 := smN_mono (gr := gr) (gv := gv) (x := x + 1) (n := i + 1) (m := n) hi
  have h3 := h.2.1
  have h4 := h.2.2
  rw [cnN, if_pos e] at h1
  rw [smN, if_pos e] at h2
  rw [fkP, e, Nat.add_sub_cancel]
  refine ⟨by omega, by omega, fun d hd hd1 => h.1 i hi e d hd hd1⟩
theorem kp_fk {ap : Nat → Bool} {cl gr gv bg bb ab : Nat → Nat} {nb nx : Nat} (hg : ∀ b, b < nb → gv b ≤ nx) : kpP ap cl gr gv bg bb ab nb nx ↔ ∀ i, i < nb → gv i ≠ 0 → fkP ap cl gr gv bg bb ab i := by
  constructor
  · intro h i hi h0
    have h1 := hg i hi
    exact bx_fk (h (gv i - 1) (by omega)) hi (by omega)
  · intro h x hx
    exact fk_bx nb (fun i hi e => h i hi (by omega))
/-- what the boxes hold of the first i bottles -/
def nsR (cl gr gv : Nat → Nat) (i : Nat) (gi bi ki : Nat → Nat) : Prop :=
  ∀ x, gi x = smN gr gv (x + 1) i ∧ bi x = cnN gv (x + 1) i ∧ ki x < 512 ∧ ∀ c, (ki x).testBit c = true ↔ ∃ d, d < i ∧ gv d = x + 1 ∧ cl d - 1 = c
theorem ns_0 (cl gr gv : Nat → Nat) : nsR cl gr gv 0 (fun _ => 0) (fun _ => 0) (fun _ => 0) := fun x =>
  ⟨rfl, rfl, show (0 : Nat) < 512 by decide, fun c => by show (Nat.testBit 0 c = true) ↔ _; rw [Nat.zero_testBit]; exact ⟨fun h => absurd h (by decide), fun ⟨d, hd, _⟩ => absurd hd (Nat.not_lt_zero _)⟩⟩
theorem ns_skip {cl gr gv gi bi ki : Nat → Nat} {i : Nat} (h : nsR cl gr gv i gi bi ki) (h0 : gv i = 0) : nsR cl gr gv (i + 1) gi bi ki := fun x => by
  have h1 := h x
  have e : ¬ gv i = x + 1 := by omega
  refine ⟨by rw [smN, if_neg e]; exact h1.1, by rw [cnN, if_neg e]; exact h1.2.1, h1.2.2.1, fun c => ?_⟩
  rw [h1.2.2.2 c]
  constructor
  · rintro ⟨d, hd, hd1⟩; exact ⟨d, by omega, hd1⟩
  · rintro ⟨d, hd, hd1, hd2⟩
    by_cases e2 : d = i
    · subst e2; exact absurd hd1 e
    · exact ⟨d, by omega, hd1, hd2⟩
theorem ns_put {cl gr gv gi bi ki : Nat → Nat} {i y : Nat} (h : nsR cl gr gv i gi bi ki) (h0 : gv i = y + 1) (hc : cl i ≠ 0) (hc9 : cl i ≤ 9) : nsR cl gr gv (i + 1) (va_up gi y (gi y + gr i)) (va_up bi y (bi y + 1)) (va_up ki y (ki y ||| 2 ^ (cl i - 1))) := fun x => by
  have h1 := h x
  by_cases e : x = y
  · subst e
    rw [up_s, up_s, up_s]
    refine ⟨by rw [smN, if_pos h0, h1.1], by rw [cnN, if_pos h0, h1.2.1], or512 h1.2.2.1 hc9 hc, fun c => ?_⟩
    rw [Nat.testBit_or, Bool.or_eq_true, h1.2.2.2 c, Nat.testBit_two_pow, decide_eq_true_eq]
    constructor
    · rintro (⟨d, hd, hd1⟩ | h2)
      · exact ⟨d, by omega, hd1⟩
      · exact ⟨i, by omega, h0, h2⟩
    · rintro ⟨d, hd, hd1, hd2⟩
      by_cases e2 : d = i
      · subst e2; exact Or.inr hd2
      · exact Or.inl ⟨d, by omega, hd1, hd2⟩
  · rw [up_n e, up_n e, up_n e]
    have e3 : ¬ gv i = x + 1 := by omega
    refine ⟨by rw [smN, if_neg e3]; exact h1.1, by rw [cnN, if_neg e3]; exact h1.2.1, h1.2.2.1, fun c => ?_⟩
    rw [h1.2.2.2 c]
    constructor
    · rintro ⟨d, hd, hd1⟩; exact ⟨d, by omega, hd1⟩
    · rintro ⟨d, hd, hd1, hd2⟩
      by_cases e2 : d = i
      · subst e2; exact absurd hd1 e3
      · exact ⟨d, by omega, hd1, hd2⟩
theorem and_0 {a b : Nat} : a &&& b = 0 ↔ ∀ c, a.testBit c = true → b.testBit c = false := by
  constructor
  · intro h c hc
    have h1 : (a &&& b).testBit c = false := by rw [h]; exact Nat.zero_testBit c
    rw [Nat.testBit_and, hc, Bool.true_and] at h1
    exact h1
  · intro h
    apply Nat.eq_of_testBit_eq
    intro c
    rw [Nat.testBit_and, Nat.zero_testBit]
    cases e : a.testBit c
    · rfl
    · rw [h c e]; rfl
/-- the rows of bits say what the 81 truths say -/
def apR (apc : Nat → Nat) (ap : Nat → Bool) : Prop := ∀ a b, a < 9 → b < 9 → (apc a).testBit b = ap (9 * a + b)
theorem fit_fk {apc : Nat → Nat} {ap : Nat → Bool} {cl gr gv bg bb ab gi bi ki : Nat → Nat} {i x : Nat} (hap : apR apc ap) (h : nsR cl gr gv i gi bi ki) (h0 : gv i = x + 1) (hc : ∀ d, d ≤ i → gv d ≠ 0 → cl d ≠ 0) (hc9 : ∀ d, cl d ≤ 9) : fitB apc cl gr bg bb ab gi bi ki i x = true ↔ fkP ap cl gr gv bg bb ab i := by
  have h1 := h x
  have hi := hc i (Nat.le_refl _) (by omega)
  have hi9 := hc9 i
  rw [fitB, decide_eq_true_eq, fkP, h0, Nat.add_sub_cancel, h1.1, h1.2.1, and_0]
  refine and_congr Iff.rfl (and_congr Iff.rfl ?_)
  constructor
  · intro h2 d hd hd1
    have h3 := hc d (by omega) (by omega)
    have h4 := hc9 d
    rw [← hap (cl i - 1) (cl d - 1) (by omega) (by omega)]
    exact h2 _ ((h1.2.2.2 _).mpr ⟨d, hd, hd1, rfl⟩)
  · intro h2 c hcb
    obtain ⟨d, hd, hd1, rfl⟩ := (h1.2.2.2 c).mp hcb
    have h3 := hc d (by omega) (by omega)
    have h4 := hc9 d
    rw [hap (cl i - 1) (cl d - 1) (by omega) (by omega)]
    exact h2 d hd hd1
theorem st_fk {apc : Nat → Nat} {ap : Nat → Bool} {cl gr bx bg bb ab rs : Nat → Nat} (hap : apR apc ap) (hc9 : ∀ d, cl d ≤ 9) : ∀ r b gi bi ki, nsR cl gr bx b gi bi ki → (∀ i, i < b → bx i ≠ 0 → cl i ≠ 0) → (stS apc cl gr bg bb ab rs bx r b gi bi ki = true ↔ ((∀ i, b ≤ i → i < b + r → ((rs i = 0 ∧ cl i ≠ 0) ↔ bx i ≠ 0)) ∧ ∀ i, b ≤ i → i < b + r → bx i ≠ 0 → fkP ap cl gr bx bg bb ab i))
  | 0, b, _, _, _, _, _ => ⟨fun _ => ⟨fun i h1 h2 => by omega, fun i h1 h2 => by omega⟩, fun _ => rfl⟩
  | r + 1, b, gi, bi, ki, h, hb => by
    rw [stS]
    by_cases e : decide (rs b = 0 ∧ cl b ≠ 0) = decide (bx b ≠ 0)
    · rw [if_pos e]
      have e' : (rs b = 0 ∧ cl b ≠ 0) ↔ bx b ≠ 0 := decide_eq_decide.mp e
      by_cases e0 : bx b = 0
      · rw [if_pos e0, st_fk hap hc9 r (b + 1) gi bi ki (ns_skip h e0) (fun i hi h2 => by
          by_cases e2 : i = b
          · subst e2; exact absurd e0 h2
          · exact hb i (by omega) h2)]
        refine and_congr ⟨fun h1 i h2 h3 => ?_, fun h1 i h2 h3 => h1 i (by omega) (by omega)⟩ ⟨fun h1 i h2 h3 h4 => ?_, fun h1 i h2 h3 => h1 i (by omega) (by omega)⟩
        · by_cases e2 : i = b
          · rw [e2]; exact e'
          · exact h1 i (by omega) (by omega)
        · by_cases e2 : i = b
          · rw [e2] at h4; exact absurd e0 h4
          · exact h1 i (by omega) (by omega) h4
      · have hcb := (e'.mpr e0).2
        have hcc : ∀ d, d ≤ b → bx d ≠ 0 → cl d ≠ 0 := fun d hd h2 => by
          by_cases e2 : d = b
          · rw [e2]; exact hcb
          · exact hb d (by omega) h2
        have hx : bx b = (bx b - 1) + 1 := by omega
        have hf := fit_fk (bg := bg) (bb := bb) (ab := ab) hap h hx hcc hc9
        rw [if_neg e0]
        by_cases e3 : fitB apc cl gr bg bb ab gi bi ki b (bx b - 1) = true
        · rw [if_pos e3, st_fk hap hc9 r (b + 1) _ _ _ (ns_put h hx hcb (hc9 b)) (fun i hi h2 => hcc i (by omega) h2)]
          refine and_congr ⟨fun h1 i h2 h3 => ?_, fun h1 i h2 h3 => h1 i (by omega) (by omega)⟩ ⟨fun h1 i h2 h3 h4 => ?_, fun h1 i h2 h3 => h1 i (by omega) (by omega)⟩
          · by_cases e2 : i = b
            · rw [e2]; exact e'
            · exact h1 i (by omega) (by omega)
          · by_cases e2 : i = b
            · rw [e2]; exact hf.mp e3
            · exact h1 i (by omega) (by omega) h4
        · rw [if_neg e3]
          exact ⟨fun h1 => absurd h1 (by decide), fun h1 => absurd (hf.mpr (h1.2 b (by omega) (by omega) e0)) e3⟩
    · rw [if_neg e]
      exact ⟨fun h1 => absurd h1 (by decide), fun h1 => absurd (decide_eq_decide.mpr (h1.1 b (by omega) (by omega))) e⟩
theorem smB_iff {ot : Nat → Bool} {cl bx : Nat → Nat} {fd : Bool} : ∀ n, smB ot cl bx fd n = true ↔ (fd = true ∧ ∀ i, i < n → ((ot i = false ∧ cl i ≠ 0) ↔ bx i ≠ 0))
  | 0 => ⟨fun h => ⟨h, fun i hi => absurd hi (Nat.not_lt_zero _)⟩, fun h => h.1⟩
  | n + 1 => by
    rw [smB, Bool.and_eq_true, smB_iff n, decide_eq_true_eq]
    constructor
    · rintro ⟨⟨h1, h2⟩, h3⟩
      refine ⟨h1, fun i hi => ?_⟩
      by_cases e : i = n
      · rw [e]; exact h3
      · exact h2 i (by omega)
    · rintro ⟨h1, h2⟩
      exact ⟨⟨h1, fun i hi => h2 i (by omega)⟩, h2 n (by omega)⟩
theorem kpB_iff {ap : Nat → Bool} {cl gr gv bg bb ab : Nat → Nat} {nb nx : Nat} : kpB ap cl gr gv bg bb ab nb nx = true ↔ kpP ap cl gr gv bg bb ab nb nx := by
  by_cases h : kpP ap cl gr gv bg bb ab nb nx
  · exact ⟨fun _ => h, kpB_t⟩
  · rw [kpB_f h]; exact ⟨fun z => absurd z (by decide), fun z => absurd z h⟩
/-- both sides' kept is the same -/
theorem kept_eq {apc : Nat → Nat} {ap : Nat → Bool} {cl gr bx bg bb ab rs : Nat → Nat} {ot : Nat → Bool} {fd : Bool} {nb nx : Nat} (hap : apR apc ap) (hc9 : ∀ d, cl d ≤ 9) (hot : ∀ b, b < nb → ot b = decide (rs b ≠ 0)) (hg : ∀ b, b < nb → bx b ≤ nx) : (fd && stS apc cl gr bg bb ab rs bx nb 0 (fun _ => 0) (fun _ => 0) (fun _ => 0)) = (smB ot cl bx fd nb && kpB ap cl gr bx bg bb ab nb nx) := by
  rw [Bool.eq_iff_iff, Bool.and_eq_true, Bool.and_eq_true, smB_iff, kpB_iff, kp_fk hg, st_fk hap hc9 nb 0 _ _ _ (ns_0 cl gr bx) (fun i hi => absurd hi (Nat.not_lt_zero _)), and_assoc]
  refine and_congr Iff.rfl (and_congr ⟨fun h i hi => ?_, fun h i _ hi => ?_⟩ ⟨fun h i hi => h i (Nat.zero_le _) (by omega), fun h i _ hi => h i (by omega)⟩)
  · rw [← h i (Nat.zero_le _) (by omega), hot i hi]; simp
  · rw [← h i (by omega), hot i (by omega)]; simp
