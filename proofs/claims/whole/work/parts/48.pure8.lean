/-- what the numbers of a sentence, p of them, are -/
def tdP (x : Nat) (nc mc mg : Nat → Nat) (p : Nat) (td : Nat → Nat) : Prop := (∀ i, i < p → td i ≠ 0 ∧ td i - 1 ≤ grK x i) ∧ (x = 6 → 0 < p → nc (td 0 - 1) < 8) ∧ (x = 4 → 1 < p → mpS mg (td 0 - 1) (td 1 - 1) (mc (td 0 - 1)) 0 < 6)
theorem in_ok {tx : Nat → Nat} {sz x : Nat} {nc mc mg : Nat → Nat} (hnc : ∀ c, nc c ≤ 8) (hmc : ∀ c, mc c ≤ 6) : ∀ r p c en td, tdP x nc mc mg p td → (inS tx sz x nc mc mg r p c en td).1 = true → tdP x nc mc mg (p + r) (inS tx sz x nc mc mg r p c en td).2.2.2
  | 0, _, _, _, _, h, _ => h
  | r + 1, p, c, en, td, h, h1 => by
    rw [inS_s] at h1 ⊢
    by_cases e : gdN x p (nmV tx sz en) td nc mc mg = true
    · rw [if_pos e] at h1 ⊢
      rw [gdN, decide_eq_true_eq] at e
      rw [show p + (r + 1) = (p + 1) + r by omega]
      refine in_ok hnc hmc r (p + 1) _ _ _ ⟨fun i hi => ?_, fun h6 _ => ?_, fun h4 h0 => ?_⟩ h1
      · by_cases e2 : i = p
        · rw [e2, up_s]; exact ⟨by omega, by omega⟩
        · rw [up_n e2]; exact h.1 i (by omega)
      · by_cases e2 : p = 0
        · subst e2
          rw [up_s]
          have := hnc (nmV tx sz en - 1)
          omega
        · rw [up_n (fun z => e2 z.symm)]; exact h.2.1 h6 (by omega)
      · by_cases e2 : p = 1
        · subst e2
          rw [up_s, up_n (by decide)]
          have h5 := hmc (td 0 - 1)
          have h7 := (mpS_le (mg := mg) (c := td 0 - 1) (g := nmV tx sz en - 1) (mc (td 0 - 1)) 0).2
          omega
        · rw [up_n (fun z => by omega), up_n (fun z => e2 z.symm)]; exact h.2.2 h4 (by omega)
    · rw [if_neg e] at h1
      cases h1
/-- the bounds that rules keep -/
def rtB (q : RT) : Prop := rtOk q ∧ (∀ c, q.2.1 c ≤ 1000) ∧ (∀ c, q.2.2.1 c ≤ 99) ∧ (∀ c, q.2.2.2.1 c ≤ 5) ∧ q.2.2.2.2.1 ≤ 999999 ∧ ∀ c, q.2.2.2.2.2.2.2.2.2.2 c ≤ 19
theorem tell_B {x a b c : Nat} {q : RT} (hx : x < 9) (h : rtB q) (ha : x = 3 → a ≤ 999999) (hb1 : x = 1 → b ≤ 1000) (hb2 : x = 2 → b ≤ 99) (hb4 : x = 4 → b ≤ 999999) (hb5 : x = 5 → b ≤ 5) (hc7 : x = 7 → c ≤ 9) (hc8 : x = 8 → c ≤ 8) (hm : x = 4 → mpS (qMg q) a b (qMc q a) 0 < 6) (hn : x = 6 → qNc q a < 8) : rtB (tellS x a b c q) := by
  have hk := tell_ok (x := x) (a := a) (b := b) (c := c) h.1 hb4 hm hn
  obtain ⟨ap, pt, rk, cd, fr, mc, mg, mz, nc, nt, ld⟩ := q
  obtain ⟨_, h1, h2, h3, h4, h5⟩ := h
  rcases (show x = 0 ∨ x = 1 ∨ x = 2 ∨ x = 3 ∨ x = 4 ∨ x = 5 ∨ x = 6 ∨ x = 7 ∨ x = 8 by omega) with rfl | rfl | rfl | rfl | rfl | rfl | rfl | rfl | rfl
  · exact ⟨hk, h1, h2, h3, h4, h5⟩
  · exact ⟨hk, up_le h1 (hb1 rfl), h2, h3, h4, h5⟩
  · exact ⟨hk, h1, up_le h2 (hb2 rfl), h3, h4, h5⟩
  · exact ⟨hk, h1, h2, h3, ha rfl, h5⟩
  · exact ⟨hk, h1, h2, h3, h4, h5⟩
  · exact ⟨hk, h1, h2, up_le h3 (hb5 rfl), h4, h5⟩
  · exact ⟨hk, h1, h2, h3, h4, h5⟩
  · exact ⟨hk, h1, h2, h3, h4, up_le h5 (by have := hc7 rfl; omega)⟩
  · exact ⟨hk, h1, h2, h3, h4, up_le h5 (by have := hc8 rfl; omega)⟩
theorem rd_B {tx : Nat → Nat} {sz : Nat} : ∀ f en c n q td, rtB q → rtB (rdS tx sz f en c n q td).2.2
  | 0, _, _, _, _, _, h => h
  | f + 1, en, c, n, q, td, h => by
    by_cases c1 : wdB tx sz en < sz
    · by_cases c2 : kdS tx (wdB tx sz en) (wdE tx sz en) 9 0 = 0 ∨ (kdS tx (wdB tx sz en) (wdE tx sz en) 9 0 = 7 ∧ hrS (qNc q) 4 = false)
      · rw [rdS_b c1 c2]; exact h
      · have hk9 := kdS_le (tx := tx) (s := wdB tx sz en) (e := wdE tx sz en) 9 0
        obtain ⟨x, hx⟩ : ∃ x, x + 1 = kdS tx (wdB tx sz en) (wdE tx sz en) 9 0 := ⟨kdS tx (wdB tx sz en) (wdE tx sz en) 9 0 - 1, by omega⟩
        have hnx : ¬ (x = 6 ∧ hrS (qNc q) 4 = false) := fun z => c2 (Or.inr ⟨by omega, z.2⟩)
        obtain ⟨o, ho⟩ : ∃ o, o = inS tx sz x (qNc q) (qMc q) (qMg q) (ptsK x) 0 (c + 1) (wdE tx sz en) td := ⟨_, rfl⟩
        cases c3 : o.1
        · rw [rdS_bad c1 hx hnx ho c3]; exact h
        · rw [rdS_good c1 hx hnx ho c3]
          have ht := in_ok (tx := tx) (sz := sz) (x := x) (mg := qMg q) h.1.2.2 h.1.1 (ptsK x) 0 (c + 1) (wdE tx sz en) td ⟨fun i hi => absurd hi (Nat.not_lt_zero _), fun _ z => absurd z (Nat.lt_irrefl _), fun _ z => absurd z (by decide)⟩ (by rw [← ho]; exact c3)
          rw [← ho, Nat.zero_add] at ht
          refine rd_B f _ _ _ _ _ (tell_B (by omega) h (fun e => ?_) (fun e => ?_) (fun e => ?_) (fun e => ?_) (fun e => ?_) (fun e => ?_) (fun e => ?_) (fun e => ?_) (fun e => ?_))
          all_goals subst e
          · exact (ht.1 0 (by decide)).2
          · exact (ht.1 1 (by decide)).2
          · exact (ht.1 1 (by decide)).2
          · exact (ht.1 1 (by decide)).2
          · exact (ht.1 1 (by decide)).2
          · exact (ht.1 2 (by decide)).2
          · exact (ht.1 2 (by decide)).2
          · exact ht.2.2 rfl (by decide)
          · exact ht.2.1 rfl (by decide)
    · rw [rdS_e c1]; exact h
