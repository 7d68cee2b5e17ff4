/-- all ways from the depth d on, r bottles are left: box by box -/
def enX {α : Type} (F : (Nat → Nat) → α → α) (a : Nat) (w : Nat → Nat) : Nat → Nat → α → α
  | 0, _, q => q
  | m + 1, x, q => enX F a w m (x + 1) (F (va_up w a x) q)
def enS {α : Type} (T : (Nat → Nat) → α → α) (li : Nat → Nat) (nx : Nat) : Nat → Nat → (Nat → Nat) → α → α
  | 0, _, w, q => T w q
  | r + 1, d, w, q => enX (enS T li nx r (d + 1)) (li d) w nx 1 q
theorem enX_s {α : Type} (F : (Nat → Nat) → α → α) (a : Nat) (w : Nat → Nat) (m x : Nat) (q : α) : enX F a w (m + 1) x q = enX F a w m (x + 1) (F (va_up w a x) q) := rfl
theorem up_up {α : Type} (w : Nat → α) (a : Nat) (x y : α) : va_up (va_up w a x) a y = va_up w a y := by
  funext k
  by_cases e : k = a
  · rw [e, up_s, up_s]
  · rw [up_n e, up_n e, up_n e]
theorem up_id {α : Type} {w : Nat → α} {a : Nat} {x : α} (h : w a = x) : va_up w a x = w := by
  funext k
  by_cases e : k = a
  · rw [e, up_s, h]
  · rw [up_n e]
theorem enX_up {α : Type} {F : (Nat → Nat) → α → α} {a : Nat} {w : Nat → Nat} {y : Nat} : ∀ m x q, enX F a (va_up w a y) m x q = enX F a w m x q
  | 0, _, _ => rfl
  | m + 1, x, q => by rw [enX, enX, up_up, enX_up m (x + 1)]
abbrev stQ (K : (Nat → Nat) → Bool) (nb : Nat) : (Nat → Nat) → Nat × (Nat → Nat) → Nat × (Nat → Nat) := fun w q => stB K nb w q.1 q.2
theorem pkR_1 (K : (Nat → Nat) → Bool) (nb : Nat) (li : Nat → Nat) (nx n f : Nat) (w : Nat → Nat) (q : Nat × (Nat → Nat)) : pkR K nb li nx n (f + 1) w q = if (trS li nx n w).2 = true then pkR K nb li nx n f (trS li nx n w).1 (stQ K nb w q) else stQ K nb w q := rfl
/-- the values of one bottle, from x on, when the rest of the ways is known -/
theorem en_in {K : (Nat → Nat) → Bool} {nb : Nat} {li : Nat → Nat} {nx n r d : Nat} (hli : ∀ j i, j < i → i < n → li j ≠ li i) (hd : d + (r + 1) = n)
    (ih : ∀ w q f, (∀ j, d + 1 ≤ j → j < n → w (li j) = 1) → pkR K nb li nx n (f + nx ^ r) w q = if (trS li nx (d + 1) w).2 = true then pkR K nb li nx n f (trS li nx (d + 1) w).1 (enS (stQ K nb) li nx r (d + 1) w q) else enS (stQ K nb) li nx r (d + 1) w q) :
    ∀ m w x q f, w (li d) = x → x + m = nx → (∀ j, d + 1 ≤ j → j < n → w (li j) = 1) → pkR K nb li nx n (f + (m + 1) * nx ^ r) w q = if (trS li nx d (va_up w (li d) 1)).2 = true then pkR K nb li nx n f (trS li nx d (va_up w (li d) 1)).1 (enX (enS (stQ K nb) li nx r (d + 1)) (li d) w (m + 1) x q) else enX (enS (stQ K nb) li nx r (d + 1)) (li d) w (m + 1) x q
  | 0, w, x, q, f, hx, hm, hw => by
    have ht : trS li nx (d + 1) w = trS li nx d (va_up w (li d) 1) := by rw [trS, if_pos (show w (li d) = nx by omega)]
    rw [Nat.zero_add, Nat.one_mul, ih w q f hw, ht, enX, enX, up_id hx]
  | m + 1, w, x, q, f, hx, hm, hw => by
    have hne : ∀ j, d + 1 ≤ j → j < n → li j ≠ li d := fun j h1 h2 e => hli d j (by omega) h2 e.symm
    have ht : trS li nx (d + 1) w = (va_up w (li d) (w (li d) + 1), true) := by rw [trS, if_neg (show ¬ w (li d) = nx by omega)]
    rw [show f + (m + 1 + 1) * nx ^ r = (f + (m + 1) * nx ^ r) + nx ^ r by rw [Nat.succ_mul (m + 1)]; omega, ih w q _ hw, ht, if_pos rfl]
    rw [en_in hli hd ih m (va_up w (li d) (w (li d) + 1)) (x + 1) _ f (by rw [up_s, hx]) (by omega) (fun j h1 h2 => by rw [up_n (hne j h1 h2)]; exact hw j h1 h2)]
    rw [up_up, enX_up, enX_s _ _ w (m + 1) x q, up_id hx]
theorem en_pk {K : (Nat → Nat) → Bool} {nb : Nat} {li : Nat → Nat} {nx n : Nat} (hli : ∀ j i, j < i → i < n → li j ≠ li i) (hnx : 0 < nx) : ∀ r d w q f, d + r = n → (∀ j, d ≤ j → j < n → w (li j) = 1) → pkR K nb li nx n (f + nx ^ r) w q = if (trS li nx d w).2 = true then pkR K nb li nx n f (trS li nx d w).1 (enS (stQ K nb) li nx r d w q) else enS (stQ K nb) li nx r d w q
  | 0, d, w, q, f, hd, hw => by
    rw [Nat.pow_zero, pkR_1, show n = d by omega, enS]
  | r + 1, d, w, q, f, hd, hw => by
    have h1 := hw d (Nat.le_refl _) (by omega)
    have h := en_in (K := K) (nb := nb) hli hd (fun w q f h => en_pk hli hnx r (d + 1) w q f (by omega) h) (nx - 1) w 1 q f h1 (by omega) (fun j h2 h3 => hw j (by omega) h3)
    rw [show nx - 1 + 1 = nx by omega, up_id h1] at h
    rw [Nat.pow_succ, Nat.mul_comm (nx ^ r) nx, h, enS]
/-- the odometer goes through all ways -/
theorem en_all {K : (Nat → Nat) → Bool} {nb : Nat} {li : Nat → Nat} {nx n : Nat} {w : Nat → Nat} {q : Nat × (Nat → Nat)} (hli : ∀ j i, j < i → i < n → li j ≠ li i) (hnx : n = 0 ∨ 0 < nx) (hw : ∀ j, j < n → w (li j) = 1) : pkR K nb li nx n (nx ^ n) w q = enS (stQ K nb) li nx n 0 w q := by
  rcases hnx with h | h
  · subst h
    rfl
  · have h1 := en_pk (K := K) (nb := nb) hli h n 0 w q 0 (by omega) (fun j _ hj => hw j hj)
    rw [Nat.zero_add] at h1
    rw [h1]
    rfl
