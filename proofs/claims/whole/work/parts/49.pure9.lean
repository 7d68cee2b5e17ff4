/-! the class's reading of a text, word by word, and that it is the reference's -/
abbrev CT : Type := (Nat → Nat) × (Nat → Nat) × (Nat → Nat) × (Nat → Nat) × Nat × (Nat → Nat) × (Nat → Nat) × (Nat → Nat) × (Nat → Nat) × (Nat → Nat) × (Nat → Nat)
abbrev cMc (q : CT) : Nat → Nat := q.2.2.2.2.2.1
abbrev cMg (q : CT) : Nat → Nat := q.2.2.2.2.2.2.1
abbrev cNc (q : CT) : Nat → Nat := q.2.2.2.2.2.2.2.2.1
abbrev ctOk (q : CT) : Prop := (∀ c, cMc q c ≤ 6) ∧ (∀ c, cMg q c ≤ 999999) ∧ (∀ c, cNc q c ≤ 8)
/-- what a sentence tells the class's rules -/
def lnS (x a b c : Nat) (q : CT) : CT :=
  match q with
  | (ap, pt, rk, cd, fr, mc, mg, mz, nc, nt, oc) =>
    match x with
    | 0 => (va_up (va_up ap a (ap a ||| 2 ^ b)) b (va_up ap a (ap a ||| 2 ^ b) b ||| 2 ^ a), pt, rk, cd, fr, mc, mg, mz, nc, nt, oc)
    | 1 => (ap, va_up pt a b, rk, cd, fr, mc, mg, mz, nc, nt, oc)
    | 2 => (ap, pt, va_up rk a b, cd, fr, mc, mg, mz, nc, nt, oc)
    | 3 => (ap, pt, rk, cd, a, mc, mg, mz, nc, nt, oc)
    | 4 => (ap, pt, rk, cd, fr, va_up mc a (mc a + (if mpS mg a b (mc a) 0 = mc a then 1 else 0)), va_up mg (6 * a + mpS mg a b (mc a) 0) b, va_up mz (6 * a + mpS mg a b (mc a) 0) c, nc, nt, oc)
    | 5 => (ap, pt, rk, va_up cd a b, fr, mc, mg, mz, nc, nt, oc)
    | 6 => (ap, pt, rk, cd, fr, mc, mg, mz, va_up nc a (nc a + 1), va_up nt (8 * a + nc a) b, oc)
    | 7 => (ap, pt, rk, cd, fr, mc, mg, mz, nc, nt, va_up oc (4 * a + b) (c + 1))
    | _ => (ap, pt, rk, cd, fr, mc, mg, mz, nc, nt, va_up oc (4 * a + b) (c + 11))
/-- the class's rules and the reference's say the same -/
def rlQ (q : CT) (p : RT) : Prop := apR q.1 p.1 ∧ q.2.1 = p.2.1 ∧ q.2.2.1 = p.2.2.1 ∧ q.2.2.2.1 = p.2.2.2.1 ∧ q.2.2.2.2.1 = p.2.2.2.2.1 ∧ cMc q = qMc p ∧ (∀ c, c < 9 → ∀ i, i < qMc p c → cMg q (6 * c + i) = qMg p (6 * c + i) ∧ q.2.2.2.2.2.2.2.1 (6 * c + i) = p.2.2.2.2.2.2.2.1 (6 * c + i)) ∧ cNc q = qNc p ∧ (∀ c, c < 4 → ∀ i, i < qNc p c → q.2.2.2.2.2.2.2.2.2.1 (8 * c + i) = p.2.2.2.2.2.2.2.2.2.1 (8 * c + i)) ∧ q.2.2.2.2.2.2.2.2.2.2 = p.2.2.2.2.2.2.2.2.2.2
theorem mpS_congr {mg mg' : Nat → Nat} {c g : Nat} : ∀ r i, (∀ j, i ≤ j → j < i + r → mg (6 * c + j) = mg' (6 * c + j)) → mpS mg c g r i = mpS mg' c g r i
  | 0, _, _ => rfl
  | r + 1, i, h => by
    rw [mpS, mpS, h i (Nat.le_refl _) (by omega), mpS_congr r (i + 1) (fun j h1 h2 => h j (by omega) (by omega))]
theorem apR_up {apc : Nat → Nat} {ap : Nat → Bool} {a b : Nat} (h : apR apc ap) (ha : a < 9) (hb : b < 9) : apR (va_up (va_up apc a (apc a ||| 2 ^ b)) b (va_up apc a (apc a ||| 2 ^ b) b ||| 2 ^ a)) (va_up (va_up ap (9 * a + b) true) (9 * b + a) true) := by
  intro i j hi hj
  have h0 := h i j hi hj
  by_cases e1 : i = b
  · subst e1
    rw [up_s]
    by_cases e2 : i = a
    · subst e2
      rw [up_s, Nat.testBit_or, Nat.testBit_or, Nat.testBit_two_pow, h0]
      by_cases e3 : j = i
      · subst e3; rw [up_s]; simp
      · rw [up_n (show 9 * i + j ≠ 9 * i + i by omega), up_n (show 9 * i + j ≠ 9 * i + i by omega)]
        have : ¬ i = j := fun z => e3 z.symm
        simp [this]
    · rw [up_n e2, Nat.testBit_or, Nat.testBit_two_pow, h0]
      by_cases e3 : j = a
      · subst e3; rw [up_s]; simp
      · rw [up_n (show 9 * i + j ≠ 9 * i + a by omega), up_n (show 9 * i + j ≠ 9 * a + i by omega)]
        have : ¬ a = j := fun z => e3 z.symm
        simp [this]
  · rw [up_n e1]
    by_cases e2 : i = a
    · subst e2
      rw [up_s, Nat.testBit_or, Nat.testBit_two_pow, h0]
      by_cases e3 : j = b
      · subst e3; rw [up_n (show 9 * i + j ≠ 9 * j + i by omega), up_s]; simp
      · rw [up_n (show 9 * i + j ≠ 9 * b + i by omega), up_n (show 9 * i + j ≠ 9 * i + b by omega)]
        have : ¬ b = j := fun z => e3 z.symm
        simp [this]
    · rw [up_n e2, up_n (show 9 * i + j ≠ 9 * b + a by omega), up_n (show 9 * i + j ≠ 9 * a + b by omega)]
      exact h0
theorem tell_rl {x a b c : Nat} {q : CT} {p : RT} (hx : x < 9) (h : rlQ q p) (hp : rtOk p) (h0 : x = 0 → a < 9 ∧ b < 9) (h4 : x = 4 → a < 9 ∧ mpS (qMg p) a b (qMc p a) 0 < 6) (h6 : x = 6 → a < 4 ∧ qNc p a < 8) : rlQ (lnS x a b c q) (tellS x a b c p) := by
  obtain ⟨ap, pt, rk, cd, fr, mc, mg, mz, nc, nt, oc⟩ := q
  obtain ⟨ap', pt', rk', cd', fr', mc', mg', mz', nc', nt', oc'⟩ := p
  obtain ⟨g1, g2, g3, g4, g5, g6, g7, g8, g9, g10⟩ := h
  simp only at g1 g2 g3 g4 g5 g6 g7 g8 g9 g10
  subst g2 g3 g4 g5 g6 g8 g10
  rcases (show x = 0 ∨ x = 1 ∨ x = 2 ∨ x = 3 ∨ x = 4 ∨ x = 5 ∨ x = 6 ∨ x = 7 ∨ x = 8 by omega) with rfl | rfl | rfl | rfl | rfl | rfl | rfl | rfl | rfl
  · exact ⟨apR_up g1 (h0 rfl).1 (h0 rfl).2, rfl, rfl, rfl, rfl, rfl, g7, rfl, g9, rfl⟩
  · exact ⟨g1, rfl, rfl, rfl, rfl, rfl, g7, rfl, g9, rfl⟩
  · exact ⟨g1, rfl, rfl, rfl, rfl, rfl, g7, rfl, g9, rfl⟩
  · exact ⟨g1, rfl, rfl, rfl, rfl, rfl, g7, rfl, g9, rfl⟩
  · obtain ⟨ha, hm⟩ := h4 rfl
    have hm' : mpS mg' a b (mc a) 0 < 6 := hm
    have e : mpS mg a b (mc a) 0 = mpS mg' a b (mc a) 0 := mpS_congr _ _ (fun j _ hj => (g7 a ha j (show j < mc a by omega)).1)
    have hm6 : ∀ c, mc c ≤ 6 := hp.1
    have hle := (mpS_le (mg := mg') (c := a) (g := b) (mc a) 0).2
    refine ⟨g1, rfl, rfl, rfl, rfl, ?_, ?_, rfl, g9, rfl⟩
    · show va_up mc a (mc a + (if mpS mg a b (mc a) 0 = mc a then 1 else 0)) = va_up mc a (mc a + (if mpS mg' a b (mc a) 0 = mc a then 1 else 0))
      rw [e]
    · intro k hk i hi
      have hi' : i < va_up mc a (mc a + (if mpS mg' a b (mc a) 0 = mc a then 1 else 0)) k := hi
      show va_up mg (6 * a + mpS mg a b (mc a) 0) b (6 * k + i) = va_up mg' (6 * a + mpS mg' a b (mc a) 0) b (6 * k + i) ∧ va_up mz (6 * a + mpS mg a b (mc a) 0) c (6 * k + i) = va_up mz' (6 * a + mpS mg' a b (mc a) 0) c (6 * k + i)
      rw [e]
      by_cases e1 : 6 * k + i = 6 * a + mpS mg' a b (mc a) 0
      · rw [e1, up_s, up_s, up_s, up_s]; exact ⟨rfl, rfl⟩
      · rw [up_n e1, up_n e1, up_n e1, up_n e1]
        refine g7 k hk i ?_
        show i < mc k
        by_cases e2 : k = a
        · subst e2
          rw [up_s] at hi'
          split at hi' <;> omega
        · rw [up_n e2] at hi'; exact hi'
  · exact ⟨g1, rfl, rfl, rfl, rfl, rfl, g7, rfl, g9, rfl⟩
  · obtain ⟨ha, hn⟩ := h6 rfl
    have hn' : nc a < 8 := hn
    have hn8 : ∀ c, nc c ≤ 8 := hp.2.2
    refine ⟨g1, rfl, rfl, rfl, rfl, rfl, g7, rfl, ?_, rfl⟩
    intro k hk i hi
    have hi' : i < va_up nc a (nc a + 1) k := hi
    show va_up nt (8 * a + nc a) b (8 * k + i) = va_up nt' (8 * a + nc a) b (8 * k + i)
    have h8 := hn8 k
    by_cases e1 : 8 * k + i = 8 * a + nc a
    · rw [e1, up_s, up_s]
    · rw [up_n e1, up_n e1]
      refine g9 k hk i ?_
      show i < nc k
      by_cases e2 : k = a
      · subst e2; rw [up_s] at hi'; omega
      · rw [up_n e2] at hi'; exact hi'
  · exact ⟨g1, rfl, rfl, rfl, rfl, rfl, g7, rfl, g9, rfl⟩
  · exact ⟨g1, rfl, rfl, rfl, rfl, rfl, g7, rfl, g9, rfl⟩
/-- the state of the class's reading: the open kind (0: none), how many numbers, sentences, numbers, rules -/
abbrev CS : Type := Nat × Nat × Nat × (Nat → Nat) × CT
/-- a number that comes to an open sentence of kind x -/
def tnW (x v : Nat) (gt sn : Nat) (nu : Nat → Nat) (q : CT) : Bool × CS :=
  if gt < 3 ∧ gdN x gt v (fun i => nu i + 1) (cNc q) (cMc q) (cMg q) = true then
    if ptsK x ≤ gt + 1 then (true, 0, gt + 1, sn + 1, va_up nu gt (v - 1), lnS x (va_up nu gt (v - 1) 0) (va_up nu gt (v - 1) 1) (va_up nu gt (v - 1) 2) q)
    else (true, x + 1, gt + 1, sn, va_up nu gt (v - 1), q)
  else (false, x + 1, gt, sn, nu, q)
/-- a word that comes -/
def twS (tx : Nat → Nat) (s e : Nat) (ok gt sn : Nat) (nu : Nat → Nat) (q : CT) : Bool × CS :=
  if ok = 0 then (decide (kdS tx s e 9 0 ≠ 0 ∧ ¬ (kdS tx s e 9 0 = 7 ∧ hrS (cNc q) 4 = false)), kdS tx s e 9 0, 0, sn, nu, q)
  else tnW (ok - 1) (nuN tx s e) gt sn nu q
def endC (w : Nat) (cs : CS) : Bool × Nat × CS := (decide (cs.1 = 0), if cs.1 = 0 then cs.2.2.1 else w, cs)
/-- the reading, byte by byte -/
def rdC (tx : Nat → Nat) (sz : Nat) : Nat → Nat → Nat → Nat → CS → Bool × Nat × CS
  | 0, _, w, _, cs => endC w cs
  | r + 1, i, w, st, cs =>
    if i < sz ∧ blk (tx i) = false then rdC tx sz r (i + 1) w (if st = 0 then i + 1 else st) cs
    else if st = 0 then rdC tx sz r (i + 1) w 0 cs
    else if (twS tx (st - 1) i cs.1 cs.2.1 cs.2.2.1 cs.2.2.2.1 cs.2.2.2.2).1 = true then rdC tx sz r (i + 1) (w + 1) 0 (twS tx (st - 1) i cs.1 cs.2.1 cs.2.2.1 cs.2.2.2.1 cs.2.2.2.2).2
    else (false, w, (twS tx (st - 1) i cs.1 cs.2.1 cs.2.2.1 cs.2.2.2.1 cs.2.2.2.2).2)
abbrev twC (tx : Nat → Nat) (s e : Nat) (cs : CS) : Bool × CS := twS tx s e cs.1 cs.2.1 cs.2.2.1 cs.2.2.2.1 cs.2.2.2.2
/-- behind a word's begin -/
theorem rdC_in {tx : Nat → Nat} {sz w : Nat} {cs : CS} {b : Nat} : ∀ r i, i + r = sz → rdC tx sz (r + 1) i w (b + 1) cs = if (twC tx b (skW tx r i) cs).1 = true then rdC tx sz (sz + 1 - skW tx r i) (skW tx r i) (w + 1) 0 (twC tx b (skW tx r i) cs).2 else (false, w, (twC tx b (skW tx r i) cs).2)
  | 0, i, h => by
    have hi : ¬ (i < sz ∧ blk (tx i) = false) := fun z => by omega
    rw [rdC, if_neg hi, if_neg (Nat.succ_ne_zero b), skW, Nat.add_sub_cancel]
    rw [show sz + 1 - i = 0 + 1 by omega]
    conv => rhs; rw [rdC, if_neg hi, if_pos rfl]
  | r + 1, i, h => by
    rw [rdC]
    by_cases e : blk (tx i) = true
    · have hi : ¬ (i < sz ∧ blk (tx i) = false) := fun z => by rw [e] at z; exact absurd z.2 (by decide)
      rw [if_neg hi, if_neg (Nat.succ_ne_zero b), skW, if_pos e, Nat.add_sub_cancel]
      rw [show sz + 1 - i = (r + 1) + 1 by omega]
      conv => rhs; rw [rdC, if_neg hi, if_pos rfl]
    · have e' : blk (tx i) = false := by cases z : blk (tx i); rfl; exact absurd z e
      rw [if_pos ⟨by omega, e'⟩, if_neg (Nat.succ_ne_zero b), skW, if_neg e]
      exact rdC_in r (i + 1) (by omega)
/-- from a place between words on -/
theorem rdC_sk {tx : Nat → Nat} {sz w : Nat} {cs : CS} : ∀ r i, i + r = sz → rdC tx sz (r + 1) i w 0 cs = if skB tx r i < sz then (if (twC tx (skB tx r i) (skW tx (sz - skB tx r i) (skB tx r i)) cs).1 = true then rdC tx sz (sz + 1 - skW tx (sz - skB tx r i) (skB tx r i)) (skW tx (sz - skB tx r i) (skB tx r i)) (w + 1) 0 (twC tx (skB tx r i) (skW tx (sz - skB tx r i) (skB tx r i)) cs).2 else (false, w, (twC tx (skB tx r i) (skW tx (sz - skB tx r i) (skB tx r i)) cs).2)) else endC w cs
  | 0, i, h => by
    rw [rdC, if_neg (fun z => by omega), if_pos rfl, rdC, skB, if_neg (by omega)]
  | r + 1, i, h => by
    rw [rdC]
    by_cases e : blk (tx i) = true
    · rw [if_neg (fun z => by rw [e] at z; exact absurd z.2 (by decide)), if_pos rfl, skB, if_pos e]
      exact rdC_sk r (i + 1) (by omega)
    · have e' : blk (tx i) = false := by cases z : blk (tx i); rfl; exact absurd z e
      rw [if_pos ⟨by omega, e'⟩, if_pos rfl, skB, if_neg e, if_pos (by omega), rdC_in r (i + 1) (by omega)]
      have e2 : skW tx (sz - i) i = skW tx r (i + 1) := by rw [show sz - i = r + 1 by omega, skW, if_neg e]
      rw [e2]
theorem rdC_w {tx : Nat → Nat} {sz i w : Nat} {cs : CS} (h : i ≤ sz) : rdC tx sz (sz + 1 - i) i w 0 cs = if wdB tx sz i < sz then (if (twC tx (wdB tx sz i) (wdE tx sz i) cs).1 = true then rdC tx sz (sz + 1 - wdE tx sz i) (wdE tx sz i) (w + 1) 0 (twC tx (wdB tx sz i) (wdE tx sz i) cs).2 else (false, w, (twC tx (wdB tx sz i) (wdE tx sz i) cs).2)) else endC w cs := by
  have h1 := rdC_sk (tx := tx) (sz := sz) (w := w) (cs := cs) (sz - i) i (by omega)
  rw [show sz - i + 1 = sz + 1 - i by omega] at h1
  exact h1
theorem gdN_congr {x p v : Nat} {td td' nc mc mg mg' : Nat → Nat} (h0 : x = 4 → p = 1 → td 0 = td' 0) (hm : x = 4 → p = 1 → mpS mg (td' 0 - 1) (v - 1) (mc (td' 0 - 1)) 0 = mpS mg' (td' 0 - 1) (v - 1) (mc (td' 0 - 1)) 0) : gdN x p v td nc mc mg = gdN x p v td' nc mc mg' := by
  unfold gdN
  by_cases e : x = 4 ∧ p = 1
  · rw [h0 e.1 e.2, hm e.1 e.2]
  · have e1 : ∀ A : Prop, ¬ (x = 4 ∧ p = 1 ∧ A) := fun A z => e ⟨z.1, z.2.1⟩
    simp [e1]
/-- what the answers of both readings have in common -/
def rdR (o : Bool × Nat × CS) (o' : Bool × Nat × RT) : Prop := o.1 = o'.1 ∧ o.2.1 = o'.2.1 ∧ (o'.1 = true → rlQ o.2.2.2.2.2.2 o'.2.2)
theorem ptsK_pos (x : Nat) : 1 ≤ ptsK x := by unfold ptsK; (repeat' split) <;> omega
theorem lnS_congr {x a b c b' c' : Nat} {q : CT} (hx : x < 9) (hb : 1 < ptsK x → b = b') (hc : 2 < ptsK x → c = c') : lnS x a b c q = lnS x a b' c' q := by
  obtain ⟨ap, pt, rk, cd, fr, mc, mg, mz, nc, nt, oc⟩ := q
  by_cases h3 : x = 3
  · subst h3; simp only [lnS]
  · have e1 : b = b' := hb (by unfold ptsK; (repeat' split) <;> omega)
    subst e1
    by_cases h4 : x = 4 ∨ 6 < x
    · have e2 : c = c' := hc (by unfold ptsK; (repeat' split) <;> omega)
      rw [e2]
    · rcases (show x = 0 ∨ x = 1 ∨ x = 2 ∨ x = 5 ∨ x = 6 by omega) with rfl | rfl | rfl | rfl | rfl
      all_goals simp only [lnS]
theorem tdP_s {x p v : Nat} {td nc mc mg : Nat → Nat} (hnc : ∀ c, nc c ≤ 8) (hmc : ∀ c, mc c ≤ 6) (h : tdP x nc mc mg p td) (e : gdN x p v td nc mc mg = true) : tdP x nc mc mg (p + 1) (va_up td p v) := by
  rw [gdN, decide_eq_true_eq] at e
  refine ⟨fun i hi => ?_, fun h6 _ => ?_, fun h4 h0 => ?_⟩
  · by_cases e2 : i = p
    · rw [e2, up_s]; exact ⟨by omega, by omega⟩
    · rw [up_n e2]; exact h.1 i (by omega)
  · by_cases e2 : p = 0
    · subst e2
      rw [up_s]
      have := hnc (v - 1)
      omega
    · rw [up_n (fun z => e2 z.symm)]; exact h.2.1 h6 (by omega)
  · by_cases e2 : p = 1
    · subst e2
      rw [up_s, up_n (by decide)]
      have h5 := hmc (td 0 - 1)
      have h7 := (mpS_le (mg := mg) (c := td 0 - 1) (g := v - 1) (mc (td 0 - 1)) 0).2
      omega
    · rw [up_n (fun z => by omega), up_n (fun z => e2 z.symm)]; exact h.2.2 h4 (by omega)
/-- a number, on both sides -/
theorem gd_rl {x p v : Nat} {td nu : Nat → Nat} {q : CT} {p0 : RT} (hq : rlQ q p0) (ht : ∀ i, i < p → td i = nu i + 1) (hP : tdP x (qNc p0) (qMc p0) (qMg p0) p td) : gdN x p v (fun i => nu i + 1) (cNc q) (cMc q) (cMg q) = gdN x p v td (qNc p0) (qMc p0) (qMg p0) := by
  have e6 : cMc q = qMc p0 := hq.2.2.2.2.2.1
  have e8 : cNc q = qNc p0 := hq.2.2.2.2.2.2.2.1
  have e7 := hq.2.2.2.2.2.2.1
  rw [e6, e8]
  refine gdN_congr (fun _ h => (ht 0 (by omega)).symm) (fun h4 h1 => ?_)
  subst h4 h1
  have h8 : td 0 - 1 ≤ 8 := (hP.1 0 (by decide)).2
  exact mpS_congr _ _ (fun j _ hj => (e7 _ (by omega) j (by omega)).1)
theorem nmV_nu {tx : Nat → Nat} {sz en : Nat} (h : wdB tx sz en < sz) : nuN tx (wdB tx sz en) (wdE tx sz en) = nmV tx sz en := by
  rw [nmV, if_pos h]
/-- the numbers of an open sentence, then the rest -/
theorem rd_in {tx : Nat → Nat} {sz f x : Nat} {p0 : RT} {q : CT} (hx : x < 9) (hp : rtOk p0) (hq : rlQ q p0)
    (K : ∀ en c sn q p nu td gt, en ≤ sz → sz - en < f → rtOk p → rlQ q p → rdR (rdC tx sz (sz + 1 - en) en c 0 (0, gt, sn, nu, q)) (rdS tx sz f en c sn p td)) :
    ∀ r p c en td nu sn o, p + (r + 1) = ptsK x → en ≤ sz → sz - en ≤ f → (∀ i, i < p → td i = nu i + 1) → tdP x (qNc p0) (qMc p0) (qMg p0) p td → o = inS tx sz x (qNc p0) (qMc p0) (qMg p0) (r + 1) p c en td →
      rdR (rdC tx sz (sz + 1 - en) en c 0 (x + 1, p, sn, nu, q)) (if o.1 = true then rdS tx sz f o.2.2.1 o.2.1 (sn + 1) (tellS x (o.2.2.2 0 - 1) (o.2.2.2 1 - 1) (o.2.2.2 2 - 1) p0) o.2.2.2 else (false, o.2.1, p0)) := by
  intro r
  have h3 := ptsK_le x
  induction r with
  | zero =>
    intro p c en td nu sn o hr hen hf ht hP ho
    rw [inS_s] at ho
    have hg := gd_rl (v := nmV tx sz en) hq ht hP
    rw [rdC_w hen]
    by_cases c1 : gdN x p (nmV tx sz en) td (qNc p0) (qMc p0) (qMg p0) = true
    · rw [if_pos c1] at ho
      have ho' : o = (true, c + 1, wdE tx sz en, va_up td p (nmV tx sz en)) := ho
      have hv : nmV tx sz en ≠ 0 := by
        have c2 := c1
        rw [gdN, decide_eq_true_eq] at c2
        omega
      have hb := nmV_lt hv
      have hw := wd_le (tx := tx) (sz := sz) (en := en) hen
      have hwe := hw.2.2.2.2 hb
      have hP2 := tdP_s hp.2.2 hp.1 hP c1
      have e1 : twC tx (wdB tx sz en) (wdE tx sz en) (x + 1, p, sn, nu, q) = (true, 0, p + 1, sn + 1, va_up nu p (nmV tx sz en - 1), lnS x (va_up nu p (nmV tx sz en - 1) 0) (va_up nu p (nmV tx sz en - 1) 1) (va_up nu p (nmV tx sz en - 1) 2) q) := by
        show twS tx (wdB tx sz en) (wdE tx sz en) (x + 1) p sn nu q = _
        rw [twS, if_neg (Nat.succ_ne_zero x), Nat.add_sub_cancel, nmV_nu hb, tnW, if_pos ⟨by omega, hg.trans c1⟩, if_pos (by omega)]
      have ht2 : ∀ i, i < p + 1 → va_up td p (nmV tx sz en) i - 1 = va_up nu p (nmV tx sz en - 1) i := by
        intro i hi
        by_cases e : i = p
        · rw [e, up_s, up_s]
        · rw [up_n e, up_n e, ht i (by omega)]; rfl
      rw [if_pos hb, e1, if_pos rfl, ho', if_pos rfl]
      have e2 : lnS x (va_up nu p (nmV tx sz en - 1) 0) (va_up nu p (nmV tx sz en - 1) 1) (va_up nu p (nmV tx sz en - 1) 2) q = lnS x (va_up td p (nmV tx sz en) 0 - 1) (va_up td p (nmV tx sz en) 1 - 1) (va_up td p (nmV tx sz en) 2 - 1) q := by
        rw [← ht2 0 (by omega)]
        exact lnS_congr hx (fun h => (ht2 1 (by omega)).symm) (fun h => (ht2 2 (by omega)).symm)
      rw [e2]
      have hb4 : x = 4 → va_up td p (nmV tx sz en) 1 - 1 ≤ 999999 := fun e => by
        subst e
        exact (hP2.1 1 (by have : ptsK 4 = 3 := rfl; omega)).2
      have hm4 : x = 4 → mpS (qMg p0) (va_up td p (nmV tx sz en) 0 - 1) (va_up td p (nmV tx sz en) 1 - 1) (qMc p0 (va_up td p (nmV tx sz en) 0 - 1)) 0 < 6 := fun e => hP2.2.2 e (by subst e; have : ptsK 4 = 3 := rfl; omega)
      have hn6 : x = 6 → qNc p0 (va_up td p (nmV tx sz en) 0 - 1) < 8 := fun e => hP2.2.1 e (by omega)
      have ha : va_up td p (nmV tx sz en) 0 - 1 ≤ grK x 0 := (hP2.1 0 (by omega)).2
      refine K _ _ _ _ _ _ _ _ hw.2.2.2.1 (by omega) (tell_ok hp hb4 hm4 hn6) (tell_rl hx hq hp (fun e => ?_) (fun e => ⟨?_, hm4 e⟩) (fun e => ⟨?_, hn6 e⟩))
      · subst e
        exact ⟨Nat.lt_succ_of_le ha, Nat.lt_succ_of_le (hP2.1 1 (by have : ptsK 0 = 2 := rfl; omega)).2⟩
      · subst e; exact Nat.lt_succ_of_le ha
      · subst e; exact Nat.lt_succ_of_le ha
    · rw [if_neg c1] at ho
      have ho' : o = (false, c, 0, fun _ => 0) := ho
      subst ho'
      show rdR _ (false, c, p0)
      have hgf : ¬ gdN x p (nmV tx sz en) (fun i => nu i + 1) (cNc q) (cMc q) (cMg q) = true := fun z => c1 (hg.symm.trans z)
      by_cases hb : wdB tx sz en < sz
      · have e1 : twC tx (wdB tx sz en) (wdE tx sz en) (x + 1, p, sn, nu, q) = (false, x + 1, p, sn, nu, q) := by
          show twS tx (wdB tx sz en) (wdE tx sz en) (x + 1) p sn nu q = _
          rw [twS, if_neg (Nat.succ_ne_zero x), Nat.add_sub_cancel, nmV_nu hb, tnW, if_neg (fun z => hgf z.2)]
        rw [if_pos hb, e1, if_neg Bool.false_ne_true]
        exact ⟨rfl, rfl, fun z => absurd z Bool.false_ne_true⟩
      · rw [if_neg hb, endC]
        exact ⟨rfl, rfl, fun z => absurd z Bool.false_ne_true⟩
  | succ r ih =>
    intro p c en td nu sn o hr hen hf ht hP ho
    rw [inS_s] at ho
    have hg := gd_rl (v := nmV tx sz en) hq ht hP
    rw [rdC_w hen]
    by_cases c1 : gdN x p (nmV tx sz en) td (qNc p0) (qMc p0) (qMg p0) = true
    · rw [if_pos c1] at ho
      have hv : nmV tx sz en ≠ 0 := by
        have c2 := c1
        rw [gdN, decide_eq_true_eq] at c2
        omega
      have hb := nmV_lt hv
      have hw := wd_le (tx := tx) (sz := sz) (en := en) hen
      have hwe := hw.2.2.2.2 hb
      have e1 : twC tx (wdB tx sz en) (wdE tx sz en) (x + 1, p, sn, nu, q) = (true, x + 1, p + 1, sn, va_up nu p (nmV tx sz en - 1), q) := by
        show twS tx (wdB tx sz en) (wdE tx sz en) (x + 1) p sn nu q = _
        rw [twS, if_neg (Nat.succ_ne_zero x), Nat.add_sub_cancel, nmV_nu hb, tnW, if_pos ⟨by omega, hg.trans c1⟩, if_neg (by omega)]
      rw [if_pos hb, e1, if_pos rfl]
      refine ih (p + 1) (c + 1) (wdE tx sz en) (va_up td p (nmV tx sz en)) _ sn o (by omega) hw.2.2.2.1 (by omega) (fun i hi => ?_) (tdP_s hp.2.2 hp.1 hP c1) ho
      by_cases e : i = p
      · rw [e, up_s, up_s]; omega
      · rw [up_n e, up_n e, ht i (by omega)]
    · rw [if_neg c1] at ho
      have ho' : o = (false, c, 0, fun _ => 0) := ho
      subst ho'
      show rdR _ (false, c, p0)
      have hgf : ¬ gdN x p (nmV tx sz en) (fun i => nu i + 1) (cNc q) (cMc q) (cMg q) = true := fun z => c1 (hg.symm.trans z)
      by_cases hb : wdB tx sz en < sz
      · have e1 : twC tx (wdB tx sz en) (wdE tx sz en) (x + 1, p, sn, nu, q) = (false, x + 1, p, sn, nu, q) := by
          show twS tx (wdB tx sz en) (wdE tx sz en) (x + 1) p sn nu q = _
          rw [twS, if_neg (Nat.succ_ne_zero x), Nat.add_sub_cancel, nmV_nu hb, tnW, if_neg (fun z => hgf z.2)]
        rw [if_pos hb, e1, if_neg Bool.false_ne_true]
        exact ⟨rfl, rfl, fun z => absurd z Bool.false_ne_true⟩
      · rw [if_neg hb, endC]
        exact ⟨rfl, rfl, fun z => absurd z Bool.false_ne_true⟩
/-- both readings say the same -/
theorem rd_eq {tx : Nat → Nat} {sz : Nat} : ∀ f en c sn q p nu td gt, en ≤ sz → sz - en < f → rtOk p → rlQ q p → rdR (rdC tx sz (sz + 1 - en) en c 0 (0, gt, sn, nu, q)) (rdS tx sz f en c sn p td) := by
  intro f
  induction f with
  | zero => intro en c sn q p nu td gt h1 h2; exact absurd h2 (Nat.not_lt_zero _)
  | succ f ih =>
    intro en c sn q p nu td gt hen hf hp hq
    rw [rdC_w hen]
    by_cases hb : wdB tx sz en < sz
    · have hw := wd_le (tx := tx) (sz := sz) (en := en) hen
      have hwe := hw.2.2.2.2 hb
      have e8 : cNc q = qNc p := hq.2.2.2.2.2.2.2.1
      have e1 : twC tx (wdB tx sz en) (wdE tx sz en) (0, gt, sn, nu, q) = (decide (kdS tx (wdB tx sz en) (wdE tx sz en) 9 0 ≠ 0 ∧ ¬ (kdS tx (wdB tx sz en) (wdE tx sz en) 9 0 = 7 ∧ hrS (qNc p) 4 = false)), kdS tx (wdB tx sz en) (wdE tx sz en) 9 0, 0, sn, nu, q) := by
        show twS tx (wdB tx sz en) (wdE tx sz en) 0 gt sn nu q = _
        rw [twS, if_pos rfl, e8]
      rw [if_pos hb, e1]
      by_cases c2 : kdS tx (wdB tx sz en) (wdE tx sz en) 9 0 = 0 ∨ (kdS tx (wdB tx sz en) (wdE tx sz en) 9 0 = 7 ∧ hrS (qNc p) 4 = false)
      · rw [rdS_b hb c2, if_neg (by rw [decide_eq_true_eq]; intro z; rcases c2 with y | y; exact z.1 y; exact z.2 y)]
        exact ⟨rfl, rfl, fun z => absurd z Bool.false_ne_true⟩
      · rw [if_pos (by rw [decide_eq_true_eq]; exact ⟨fun z => c2 (Or.inl z), fun z => c2 (Or.inr z)⟩)]
        have hk9 := kdS_le (tx := tx) (s := wdB tx sz en) (e := wdE tx sz en) 9 0
        obtain ⟨x, hx⟩ : ∃ x, x + 1 = kdS tx (wdB tx sz en) (wdE tx sz en) 9 0 := ⟨kdS tx (wdB tx sz en) (wdE tx sz en) 9 0 - 1, by omega⟩
        have hnx : ¬ (x = 6 ∧ hrS (qNc p) 4 = false) := fun z => c2 (Or.inr ⟨by omega, z.2⟩)
        obtain ⟨o, ho⟩ : ∃ o, o = inS tx sz x (qNc p) (qMc p) (qMg p) (ptsK x) 0 (c + 1) (wdE tx sz en) td := ⟨_, rfl⟩
        have h1 := ptsK_pos x
        have h9 := rd_in (f := f) (x := x) (by omega) hp hq (fun en c sn q p nu td gt a b d e => ih en c sn q p nu td gt a b d e) (ptsK x - 1) 0 (c + 1) (wdE tx sz en) td nu sn o (by omega) hw.2.2.2.1 (by omega) (fun i hi => absurd hi (Nat.not_lt_zero i)) ⟨fun i hi => absurd hi (Nat.not_lt_zero i), fun _ z => absurd z (Nat.lt_irrefl _), fun _ z => absurd z (by decide)⟩ (by rw [ho, show ptsK x - 1 + 1 = ptsK x by omega])
        rw [← hx]
        show rdR (rdC tx sz (sz + 1 - wdE tx sz en) (wdE tx sz en) (c + 1) 0 (x + 1, 0, sn, nu, q)) _
        cases c3 : o.1
        · rw [rdS_bad hb hx hnx ho c3]
          rw [if_neg (by rw [c3]; decide)] at h9
          exact h9
        · rw [rdS_good hb hx hnx ho c3]
          rw [if_pos c3] at h9
          exact h9
    · rw [if_neg hb, rdS_e hb]
      exact ⟨rfl, rfl, fun _ => hq⟩
