/-! what the worlds hold: statics (by now none), classes of arrays, index tests -/
abbrev GzT : Type := Unit
def gX (_ : GzT) : (Nat → Prop) → State → Heap → Prop := fun _ _ _ => True
theorem gX_ok (z : GzT) : wk_ok (gX z) := ⟨⟨fun _ _ _ _ _ h => h, fun _ _ _ _ _ h => h⟩, fun _ _ _ _ h _ => h, fun _ _ _ _ h _ => h⟩
abbrev CiT : Type := ClassId × ClassId × ClassId
abbrev tyK (cI : CiT) : List (ClassId × FieldType) := [(cI.1, .int), (cI.2.1, .boolean), (cI.2.2, .long)]
/-- whether b is a place below n -/
def ixI (n : Nat) (b : Int32) : Bool := decide (¬ b < 0) && decide (¬ nI n ≤ b)
theorem ixI_a {n : Nat} {b : Int32} (h : b < 0) : ixI n b = false := by simp [ixI, h]
theorem ixI_b {n : Nat} {b : Int32} (h : nI n ≤ b) : ixI n b = false := by simp [ixI, h]
theorem ixI_c {n : Nat} {b : Int32} (h1 : ¬ b < 0) (h2 : ¬ nI n ≤ b) : ixI n b = true := by simp [ixI, h1, h2]
theorem ix_of {n : Nat} {b : Int32} (h1 : ¬ b < 0) (h2 : ¬ nI n ≤ b) (hn : n < 2 ^ 31) : ∃ j, j < n ∧ b = nI j := by
  rcases pk_ix b hn with h | h | h
  · exact absurd h h1
  · exact absurd h h2
  · exact h
theorem ixI_of {n : Nat} {b : Int32} (h : ixI n b = true) (hn : n < 2 ^ 31) : ∃ j, j < n ∧ b = nI j := by
  by_cases h1 : b < 0
  · rw [ixI_a h1] at h; cases h
  · by_cases h2 : nI n ≤ b
    · rw [ixI_b h2] at h; cases h
    · exact ix_of h1 h2 hn
theorem ixI_nI {n j : Nat} (hn : n < 2 ^ 31) (hj : j < 2 ^ 31) : ixI n (nI j) = decide (j < n) := by
  by_cases h : j < n
  · rw [ixI_c (nI_pos hj) (nI_ge h hn)]; simp [h]
  · rw [ixI_b (nI_le (by omega) hj)]; simp [h]
theorem bI_f {b : Bool} (h : b = false) : nI 0 = bI b := by rw [h]; rfl
theorem bI_t {b : Bool} (h : b = true) : nI 1 = bI b := by rw [h]; rfl
abbrev StT : Type := (Nat → Nat) × (Nat → Nat) × (Nat → Nat) × (Nat → Nat) × (Nat → Nat) × Nat × Nat × (Nat → Nat) × (Nat → Nat) × (Nat → Nat) × Nat
abbrev wSt (a : Nat → Nat) (cI : CiT) (X : StT) : va_W := [(a 0, .inr (2, [.ref (a 1), .ref (a 2), .ref (a 3), .ref (a 4), .ref (a 5), .int (nI (X.2.2.2.2.2.1)), .int (nI (X.2.2.2.2.2.2.1)), .ref (a 6), .ref (a 7), .ref (a 8), .int (nI (X.2.2.2.2.2.2.2.2.2.2))])), (a 1, .inl (cI.1, 8, .inl (zF (X.1)))), (a 2, .inl (cI.1, 8, .inl (nF (X.2.1)))), (a 3, .inl (cI.1, 8, .inl (nF (X.2.2.1)))), (a 4, .inl (cI.1, 8, .inl (nF (X.2.2.2.1)))), (a 5, .inl (cI.1, 8, .inl (nF (X.2.2.2.2.1)))), (a 6, .inl (cI.1, 5, .inl (nF (X.2.2.2.2.2.2.2.1)))), (a 7, .inl (cI.1, 5, .inl (nF (X.2.2.2.2.2.2.2.2.1)))), (a 8, .inl (cI.1, 5, .inl (nF (X.2.2.2.2.2.2.2.2.2.1))))]
abbrev RlT : Type := (Nat → Nat) × (Nat → Nat) × (Nat → Nat) × (Nat → Nat) × (Nat → Nat) × (Nat → Nat) × (Nat → Nat) × (Nat → Nat) × (Nat → Nat) × (Nat → Nat) × Nat
abbrev wRl (a : Nat → Nat) (cI : CiT) (X : RlT) : va_W := [(a 0, .inr (5, [.ref (a 1), .ref (a 2), .ref (a 3), .ref (a 4), .ref (a 5), .ref (a 6), .ref (a 7), .ref (a 8), .ref (a 9), .ref (a 10), .int (nI (X.2.2.2.2.2.2.2.2.2.2))])), (a 1, .inl (cI.1, 9, .inl (nF (X.1)))), (a 2, .inl (cI.1, 9, .inl (nF (X.2.1)))), (a 3, .inl (cI.1, 9, .inl (nF (X.2.2.1)))), (a 4, .inl (cI.1, 9, .inl (nF (X.2.2.2.1)))), (a 5, .inl (cI.1, 9, .inl (nF (X.2.2.2.2.1)))), (a 6, .inl (cI.1, 54, .inl (nF (X.2.2.2.2.2.1)))), (a 7, .inl (cI.1, 54, .inl (nF (X.2.2.2.2.2.2.1)))), (a 8, .inl (cI.1, 4, .inl (nF (X.2.2.2.2.2.2.2.1)))), (a 9, .inl (cI.1, 32, .inl (nF (X.2.2.2.2.2.2.2.2.1)))), (a 10, .inl (cI.1, 40, .inl (zF (X.2.2.2.2.2.2.2.2.2.1))))]
abbrev BxT : Type := (Nat → Nat)
abbrev wBx (a : Nat → Nat) (cI : CiT) (X : BxT) : va_W := [(a 0, .inl (cI.1, 8, .inl (zF (X))))]
abbrev PkT : Type := (Nat → Nat) × (Nat → Nat) × (Nat → Nat) × (Nat → Nat) × Nat × (Nat → Nat) × (Nat → Nat) × Nat × Bool
abbrev wPk (a : Nat → Nat) (cI : CiT) (x0 : Nat) (X : PkT) : va_W := [(a 0, .inr (3, [.ref (a 1), .ref (a 2), .ref (a 3), .ref (a 4), .int (nI (X.2.2.2.2.1)), .ref (a 5), .ref (a 6), .int (nI (X.2.2.2.2.2.2.2.1)), .ref (x0), .int (bI (X.2.2.2.2.2.2.2.2))])), (a 1, .inl (cI.1, 5, .inl (nF (X.1)))), (a 2, .inl (cI.1, 5, .inl (nF (X.2.1)))), (a 3, .inl (cI.1, 5, .inl (nF (X.2.2.1)))), (a 4, .inl (cI.1, 8, .inl (nF (X.2.2.2.1)))), (a 5, .inl (cI.1, 8, .inl (zF (X.2.2.2.2.2.1)))), (a 6, .inl (cI.1, 8, .inl (zF (X.2.2.2.2.2.2.1))))]
abbrev LdT : Type := (Nat → Nat) × (Nat → Nat) × Nat × (Nat → Nat) × Nat
abbrev wLd (a : Nat → Nat) (cI : CiT) (X : LdT) : va_W := [(a 0, .inr (4, [.ref (a 1), .ref (a 2), .int (nI (X.2.2.1)), .ref (a 3), .int (nI (X.2.2.2.2))])), (a 1, .inl (cI.1, 9, .inl (nF (X.1)))), (a 2, .inl (cI.1, 9, .inl (nF (X.2.1)))), (a 3, .inl (cI.1, 162, .inl (nF (X.2.2.2.1))))]
