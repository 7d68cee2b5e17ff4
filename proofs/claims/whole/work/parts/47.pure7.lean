/-- who is refused, on both sides -/
def outR (ot : Nat → Bool) (rs aw awc : Nat → Nat) (nb na : Nat) : Prop := (∀ b, b < nb → ot b = decide (rs b ≠ 0)) ∧ ∀ k, k < na → rs (awc k) ≠ 0 ∧ awc k < nb ∧ aw k = 10 * awc k + rs (awc k)
theorem nI_cl {n : Nat} (h : n < 2 ^ 31) : (nI n).toNatClampNeg = n := by
  show (nI n).toInt.toNat = n
  rw [nI_toInt h]
  rfl
/-- both sides' refuse is the same -/
theorem re_eq {ot : Nat → Bool} {rs aw awc : Nat → Nat} {nb na : Nat} {pv : Bool} {b q : Int32} (hnb : nb ≤ 8) (h : outR ot rs aw awc nb na) :
    (reS ot aw na pv nb b q).1 = (reC rs awc na pv nb b q).1 ∧ (reS ot aw na pv nb b q).2.2.2 = (reC rs awc na pv nb b q).2.2.2 ∧ outR (reS ot aw na pv nb b q).2.1 (reC rs awc na pv nb b q).2.1 (reS ot aw na pv nb b q).2.2.1 (reC rs awc na pv nb b q).2.2.1 nb (reS ot aw na pv nb b q).2.2.2.1 := by
  unfold reS reC
  by_cases c1 : ixI nb b = true
  · obtain ⟨j, hj, rfl⟩ := ixI_of c1 (by omega)
    rw [nI_cl (by omega)]
    by_cases c2 : rsOk q = true
    · obtain ⟨k, hk, rfl⟩ := rsOk_of c2
      rw [nI_cl (show k < 2 ^ 31 by omega)]
      have hoj := h.1 j hj
      by_cases c3 : rs j = 0
      · have c4 : ot j = false := by rw [hoj, c3]; rfl
        rw [if_pos ⟨c1, c2, c4⟩, if_pos ⟨c1, c2, c3⟩]
        refine ⟨rfl, rfl, fun i hi => ?_, fun i hi => ?_⟩
        · show va_up ot j true i = decide (va_up rs j k i ≠ 0)
          by_cases e : i = j
          · rw [e, up_s, up_s, eq_comm, decide_eq_true_eq]; omega
          · rw [up_n e, up_n e]; exact h.1 i hi
        · show va_up rs j k (va_up awc na j i) ≠ 0 ∧ va_up awc na j i < nb ∧ va_up aw na (10 * j + k) i = 10 * va_up awc na j i + va_up rs j k (va_up awc na j i)
          have hi' : i < na + 1 := hi
          by_cases e : i = na
          · rw [e, up_s, up_s, up_s]; exact ⟨by omega, hj, rfl⟩
          · have h1 := h.2 i (by omega)
            rw [up_n e, up_n e, up_n (fun z => h1.1 (by rw [z]; exact c3))]
            exact h1
      · have c4 : ¬ ot j = false := by rw [hoj, decide_eq_true c3]; decide
        rw [if_neg (fun z => c4 z.2.2), if_neg (fun z => c3 z.2.2)]
        exact ⟨rfl, rfl, h⟩
    · rw [if_neg (fun z => c2 z.2.1), if_neg (fun z => c2 z.2.1)]
      exact ⟨rfl, rfl, h⟩
  · rw [if_neg (fun z => c1 z.1), if_neg (fun z => c1 z.1)]
    exact ⟨rfl, rfl, h⟩
