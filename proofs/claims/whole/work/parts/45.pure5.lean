theorem en_cut2 {α : Type} {T : (Nat → Nat) → α → α} {li : Nat → Nat} {nx n : Nat} {q : α} : ∀ r d w, d + r = n → (∀ b, w b ≤ nx) → (∀ j, j < d → w (li j) ≠ 0) → (∀ W, (∀ b, W b ≤ nx) → (∀ j, j < n → W (li j) ≠ 0) → T W q = q) → enS T li nx r d w q = q
  | 0, d, w, hd, hw, h0, h => h w hw (fun j hj => h0 j (by omega))
  | r + 1, d, w, hd, hw, h0, h => by
    rw [enS]
    have h1 : ∀ x, 1 ≤ x → x ≤ nx → enS T li nx r (d + 1) (va_up w (li d) x) q = q := fun x hx1 hx => en_cut2 (n := n) r (d + 1) (va_up w (li d) x) (by omega) (up_le hw hx) (fun j hj => by
      by_cases e : li j = li d
      · rw [e, up_s]; omega
      · rw [up_n e]
        by_cases e2 : j = d
        · rw [e2] at e; exact absurd rfl e
        · exact h0 j (by omega)) h
    have h2 : ∀ m x, 1 ≤ x → x + m ≤ nx + 1 → enX (enS T li nx r (d + 1)) (li d) w m x q = q := fun m => by
      induction m with
      | zero => intro x _ _; rfl
      | succ m ih => intro x hx1 hx; rw [enX_s, h1 x hx1 (by omega), ih (x + 1) (by omega) (by omega)]
    exact h2 nx 1 (by omega) (by omega)
theorem en_li {α : Type} {T : (Nat → Nat) → α → α} {li qu : Nat → Nat} {nx n : Nat} (h : ∀ j, j < n → li j = qu j) : ∀ r d, d + r = n → enS T li nx r d = enS T qu nx r d
  | 0, _, _ => rfl
  | r + 1, d, hd => by
    funext w q
    rw [enS, enS, en_li h r (d + 1) (by omega), h d (by omega)]
theorem pkL_congr {ot ot2 : Nat → Bool} {cl li qu : Nat → Nat} {nb : Nat} (ho : ∀ b, b < nb → ot b = ot2 b) : ∀ k, (pkL ot cl nb li k).2 = (pkL ot2 cl nb qu k).2 ∧ ∀ j, j < (pkL ot cl nb li k).2 → (pkL ot cl nb li k).1 j = (pkL ot2 cl nb qu k).1 j
  | 0 => ⟨rfl, fun j hj => absurd hj (Nat.not_lt_zero _)⟩
  | k + 1 => by
    have ih := pkL_congr (li := li) (qu := qu) (cl := cl) ho k
    by_cases e : k < nb ∧ ot k = false ∧ cl k ≠ 0
    · have e1 : pkL ot cl nb li (k + 1) = (va_up (pkL ot cl nb li k).1 (pkL ot cl nb li k).2 k, (pkL ot cl nb li k).2 + 1) := if_pos e
      have e2 : pkL ot2 cl nb qu (k + 1) = (va_up (pkL ot2 cl nb qu k).1 (pkL ot2 cl nb qu k).2 k, (pkL ot2 cl nb qu k).2 + 1) := if_pos (by rw [← ho k e.1]; exact e)
      rw [e1, e2]
      refine ⟨by show _ + 1 = _ + 1; rw [ih.1], fun j hj => ?_⟩
      show va_up _ _ _ j = va_up _ _ _ j
      have hj' : j < (pkL ot cl nb li k).2 + 1 := hj
      rw [← ih.1]
      by_cases e3 : j = (pkL ot cl nb li k).2
      · rw [e3, up_s, up_s]
      · rw [up_n e3, up_n e3]; exact ih.2 j (by omega)
    · have e1 : pkL ot cl nb li (k + 1) = pkL ot cl nb li k := if_neg e
      have e2 : pkL ot2 cl nb qu (k + 1) = pkL ot2 cl nb qu k := if_neg (fun z => e (by rw [ho k z.1]; exact z))
      rw [e1, e2]; exact ih
theorem pkL_all {ot : Nat → Bool} {cl li : Nat → Nat} {nb : Nat} : ∀ k b, b < k → wyI ot cl nb b ≠ 0 → ∃ j, j < (pkL ot cl nb li k).2 ∧ b = (pkL ot cl nb li k).1 j
  | 0, b, h, _ => absurd h (Nat.not_lt_zero _)
  | k + 1, b, h, hb => by
    by_cases e : k < nb ∧ ot k = false ∧ cl k ≠ 0
    · have e1 : pkL ot cl nb li (k + 1) = (va_up (pkL ot cl nb li k).1 (pkL ot cl nb li k).2 k, (pkL ot cl nb li k).2 + 1) := if_pos e
      rw [e1]
      by_cases e2 : b = k
      · exact ⟨(pkL ot cl nb li k).2, Nat.lt_succ_self _, by show b = va_up _ _ _ _; rw [up_s]; exact e2⟩
      · obtain ⟨j, hj, hj2⟩ := pkL_all (li := li) k b (by omega) hb
        exact ⟨j, Nat.lt_succ_of_lt hj, by show b = va_up _ _ _ _; rw [up_n (by omega)]; exact hj2⟩
    · have e1 : pkL ot cl nb li (k + 1) = pkL ot cl nb li k := if_neg e
      rw [e1]
      by_cases e2 : b = k
      · rw [e2] at hb; exact absurd (if_neg e) hb
      · exact pkL_all k b (by omega) hb
theorem exF_f {fit : Nat → Bool} : ∀ n, exF fit n = false → ∀ x, x < n → fit x = false
  | 0, _, x, h => absurd h (Nat.not_lt_zero _)
  | n + 1, h, x, hx => by
    rw [exF, Bool.or_eq_false_iff] at h
    by_cases e : x = n
    · rw [e]; exact h.2
    · exact exF_f n h.1 x (by omega)
theorem efS_ex {fit : Nat → Nat → Bool} {qu : Nat → Nat} {nx : Nat} : ∀ n, efS fit qu nx n = false → ∃ i, i < n ∧ exF (fit (qu i)) nx = false
  | 0, h => absurd (show true = false from h) (by decide)
  | n + 1, h => by
    rw [efS, Bool.and_eq_false_iff] at h
    rcases h with h | h
    · obtain ⟨i, hi, h2⟩ := efS_ex n h; exact ⟨i, by omega, h2⟩
    · exact ⟨n, by omega, h⟩
