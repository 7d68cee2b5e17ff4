/-- how many of the first m are true -/
def usN (f : Nat → Bool) : Nat → Nat
  | 0 => 0
  | m + 1 => usN f m + (if f m = true then 1 else 0)
theorem usN_le (f : Nat → Bool) : ∀ m, usN f m ≤ m
  | 0 => Nat.le_refl _
  | m + 1 => by
    have := usN_le f m
    rw [usN]
    split <;> omega
theorem usN_mono {f g : Nat → Bool} (h : ∀ y, f y = true → g y = true) : ∀ m, usN f m ≤ usN g m
  | 0 => Nat.le_refl _
  | m + 1 => by
    have ih := usN_mono h m
    rw [usN, usN]
    by_cases e : f m = true
    · rw [if_pos e, if_pos (h m e)]; omega
    · rw [if_neg e]; omega
theorem usN_congr {f g : Nat → Bool} : ∀ m, (∀ y, y < m → f y = g y) → usN f m = usN g m
  | 0, _ => rfl
  | m + 1, h => by rw [usN, usN, usN_congr m (fun y hy => h y (by omega)), h m (by omega)]
theorem usN_one {f g : Nat → Bool} {y0 : Nat} (h1 : f y0 = false) (h2 : g y0 = true) (h : ∀ y, y ≠ y0 → g y = f y) : ∀ m, y0 < m → usN g m = usN f m + 1
  | 0, h0 => absurd h0 (Nat.not_lt_zero _)
  | m + 1, h0 => by
    rw [usN, usN]
    by_cases e : m = y0
    · subst e
      rw [usN_congr m (fun y hy => h y (by omega)), h1, h2, if_pos rfl, if_neg (by decide)]
    · rw [usN_one h1 h2 h m (by omega), h m e]
      omega
def inB (gv : Nat → Nat) (n : Nat) : Nat → Bool := fun y => decide (cnN gv (y + 1) n ≠ 0)
theorem inB_put {gv : Nat → Nat} {n y : Nat} (h : gv n = y + 1) : inB gv (n + 1) y = true ∧ ∀ x, x ≠ y → inB gv (n + 1) x = inB gv n x := by
  refine ⟨?_, fun x hx => ?_⟩
  · rw [inB, decide_eq_true_eq, cnN, if_pos h]; omega
  · rw [inB, inB, cnN, if_neg (by omega), Nat.add_zero]
theorem us_in {gv : Nat → Nat} {nx : Nat} (hg : ∀ b, gv b ≤ nx) : ∀ n, (∀ y, (usS gv n).1.testBit y = inB gv n y) ∧ (usS gv n).2 = usN (inB gv n) nx
  | 0 => by
    refine ⟨fun y => by show Nat.testBit 0 y = _; rw [Nat.zero_testBit]; rfl, ?_⟩
    show 0 = usN (inB gv 0) nx
    have h : ∀ m, usN (inB gv 0) m = 0 := fun m => by
      induction m with
      | zero => rfl
      | succ m ih => rw [usN, ih]; rfl
    rw [h]
  | n + 1 => by
    have ih := us_in hg n
    by_cases e0 : gv n = 0
    · have e1 : usS gv (n + 1) = usS gv n := by rw [usS, if_neg (fun z => z.1 e0)]
      have e2 : inB gv (n + 1) = inB gv n := by funext y; rw [inB, inB, cnN, if_neg (by omega), Nat.add_zero]
      rw [e1, e2]; exact ih
    · have hb : (usS gv n).1 / 2 ^ (gv n - 1) &&& 1 = 0 ↔ inB gv n (gv n - 1) = false := by
        rw [← ih.1, Nat.testBit_eq_decide_div_mod_eq, decide_eq_false_iff_not, Nat.and_one_is_mod]
        omega
      have hy : gv n = (gv n - 1) + 1 := by omega
      have hp := inB_put hy
      have hn := hg n
      by_cases e : inB gv n (gv n - 1) = false
      · have e1 : usS gv (n + 1) = ((usS gv n).1 ||| 2 ^ (gv n - 1), (usS gv n).2 + 1) := by rw [usS, if_pos ⟨e0, hb.mpr e⟩]
        rw [e1]
        refine ⟨fun y => ?_, ?_⟩
        · show ((usS gv n).1 ||| 2 ^ (gv n - 1)).testBit y = _
          rw [Nat.testBit_or, ih.1, Nat.testBit_two_pow]
          by_cases e3 : y = gv n - 1
          · rw [e3, hp.1]; simp
          · rw [hp.2 y e3, decide_eq_false (fun z => e3 z.symm), Bool.or_false]
        · show (usS gv n).2 + 1 = _
          rw [ih.2, usN_one e hp.1 hp.2 nx (by omega)]
      · have e1 : usS gv (n + 1) = usS gv n := by rw [usS, if_neg (fun z => e (hb.mp z.2))]
        have e2 : inB gv (n + 1) = inB gv n := by
          funext y
          by_cases e3 : y = gv n - 1
          · rw [e3, hp.1]; cases z : inB gv n (gv n - 1)
            · exact absurd z e
            · rfl
          · exact hp.2 y e3
        rw [e1, e2]; exact ih
theorem us_le {gv : Nat → Nat} {nx : Nat} (hg : ∀ b, gv b ≤ nx) (n : Nat) : (usS gv n).2 ≤ nx := by
  rw [(us_in hg n).2]; exact usN_le _ _
theorem us_mono {gv : Nat → Nat} {nx : Nat} (hg : ∀ b, gv b ≤ nx) {n m : Nat} (h : n ≤ m) : (usS gv n).2 ≤ (usS gv m).2 := by
  rw [(us_in hg n).2, (us_in hg m).2]
  refine usN_mono (fun y hy => ?_) nx
  rw [inB, decide_eq_true_eq] at hy ⊢
  have := cnN_mono (gv := gv) (x := y + 1) h
  omega
theorem us_put {gv : Nat → Nat} {nx n y : Nat} (hg : ∀ b, gv b ≤ nx) (h : gv n = y + 1) {bi : Nat → Nat} (hb : bi y = cnN gv (y + 1) n) : (usS gv (n + 1)).2 = ndF bi (usS gv n).2 y := by
  have hp := inB_put h
  have hn := hg n
  rw [(us_in hg n).2, (us_in hg (n + 1)).2, ndF, hb]
  by_cases e : cnN gv (y + 1) n = 0
  · rw [if_pos e, usN_one (by rw [inB, decide_eq_false_iff_not]; omega) hp.1 hp.2 nx (by omega)]
  · rw [if_neg e]
    refine usN_congr nx (fun x _ => ?_)
    by_cases e3 : x = y
    · rw [e3, hp.1, inB, eq_comm, decide_eq_true_eq]; exact e
    · exact hp.2 x e3
/-- only the first n count -/
theorem cn_congr {f g : Nat → Nat} {x : Nat} : ∀ n, (∀ i, i < n → f i = g i) → cnN f x n = cnN g x n
  | 0, _ => rfl
  | n + 1, h => by rw [cnN, cnN, cn_congr n (fun i hi => h i (by omega)), h n (by omega)]
theorem sm_congr {gr f g : Nat → Nat} {x : Nat} : ∀ n, (∀ i, i < n → f i = g i) → smN gr f x n = smN gr g x n
  | 0, _ => rfl
  | n + 1, h => by rw [smN, smN, sm_congr n (fun i hi => h i (by omega)), h n (by omega)]
theorem us_congr {f g : Nat → Nat} : ∀ n, (∀ i, i < n → f i = g i) → usS f n = usS g n
  | 0, _ => rfl
  | n + 1, h => by rw [usS, usS, us_congr n (fun i hi => h i (by omega)), h n (by omega)]
theorem ns_congr {cl gr f g gi bi ki : Nat → Nat} {n : Nat} (h : ∀ i, i < n → f i = g i) (hn : nsR cl gr f n gi bi ki) : nsR cl gr g n gi bi ki := fun x => by
  have h1 := hn x
  refine ⟨by rw [← sm_congr n h]; exact h1.1, by rw [← cn_congr n h]; exact h1.2.1, h1.2.2.1, fun c => ?_⟩
  rw [h1.2.2.2 c]
  constructor
  · rintro ⟨d, hd, hd1⟩; exact ⟨d, hd, by rw [← h d hd]; exact hd1⟩
  · rintro ⟨d, hd, hd1⟩; exact ⟨d, hd, by rw [h d hd]; exact hd1⟩
theorem fk_congr {ap : Nat → Bool} {cl gr f g bg bb ab : Nat → Nat} {i : Nat} (h : ∀ j, j ≤ i → f j = g j) (hf : fkP ap cl gr f bg bb ab i) : fkP ap cl gr g bg bb ab i := by
  rw [fkP, ← h i (Nat.le_refl _), ← cn_congr i (fun j hj => h j (by omega)), ← sm_congr i (fun j hj => h j (by omega))]
  exact ⟨hf.1, hf.2.1, fun d hd hd1 => hf.2.2 d hd (by rw [h d (by omega)]; exact hd1)⟩
theorem ns_skips {cl gr gv gi bi ki : Nat → Nat} {i : Nat} (h : nsR cl gr gv i gi bi ki) : ∀ k, (∀ j, i ≤ j → j < i + k → gv j = 0) → nsR cl gr gv (i + k) gi bi ki
  | 0, _ => h
  | k + 1, h0 => ns_skip (ns_skips h k (fun j h1 h2 => h0 j h1 (by omega))) (h0 (i + k) (by omega) (by omega))
theorem us_skips {gv : Nat → Nat} {i : Nat} : ∀ k, (∀ j, i ≤ j → j < i + k → gv j = 0) → usS gv (i + k) = usS gv i
  | 0, _ => rfl
  | k + 1, h0 => by
    rw [← Nat.add_assoc, usS, if_neg (fun z => z.1 (h0 (i + k) (by omega) (by omega))), us_skips k (fun j h1 h2 => h0 j h1 (by omega))]
/-- where nothing comes of any way, nothing comes of all -/
theorem en_cut {α : Type} {T : (Nat → Nat) → α → α} {li : Nat → Nat} {nx n : Nat} {q : α} : ∀ r d w, d + r = n → (∀ b, w b ≤ nx) → (∀ W, (∀ b, W b ≤ nx) → (∀ b, (∀ j, d ≤ j → j < n → b ≠ li j) → W b = w b) → T W q = q) → enS T li nx r d w q = q
  | 0, d, w, _, hw, h => h w hw (fun _ _ => rfl)
  | r + 1, d, w, hd, hw, h => by
    rw [enS]
    have h1 : ∀ x, x ≤ nx → enS T li nx r (d + 1) (va_up w (li d) x) q = q := fun x hx => en_cut (n := n) r (d + 1) (va_up w (li d) x) (by omega) (up_le hw hx) (fun W h0 hW => h W h0 (fun b hb => by
      rw [hW b (fun j h1 h2 => hb j (by omega) h2), up_n (hb d (Nat.le_refl _) (by omega))]))
    have h2 : ∀ m x, x + m ≤ nx + 1 → enX (enS T li nx r (d + 1)) (li d) w m x q = q := fun m => by
      induction m with
      | zero => intro x _; rfl
      | succ m ih => intro x hx; rw [enX_s, h1 x (by omega), ih (x + 1) (by omega)]
    exact h2 nx 1 (by omega)
