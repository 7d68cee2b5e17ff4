/-! what holds between the class's state and the reference's, and that every call keeps it -/
def cnR (rs : Nat → Nat) : Nat → Nat
  | 0 => 0
  | n + 1 => cnR rs n + (if rs n = 0 then 0 else 1)
def iT (ty : Nat → Nat) (ln : Nat) : Prop := ln ≤ 1500 ∧ ∀ i, ty i < 256
def iS (cl gr sp : Nat → Nat) (nb : Nat) : Prop := nb ≤ 8 ∧ (∀ b, gr b ≤ 100000) ∧ (∀ b, cl b ≤ 9) ∧ ∀ b, sp b ≤ 9
def iX (bg bb ab : Nat → Nat) (nx : Nat) : Prop := nx ≤ 5 ∧ (∀ x, bg x ≤ 1000000) ∧ (∀ x, bb x ≤ 8) ∧ ∀ x, ab x ≤ 1000000
def iR (rs aw : Nat → Nat) (na nb : Nat) (ot : Nat → Bool) (awm : Nat → Nat) : Prop := (∀ b, rs b ≤ 9) ∧ (∀ k, aw k < 8) ∧ outR ot rs awm aw nb na ∧ (∀ b, nb ≤ b → rs b = 0 ∧ ot b = false) ∧ cnR rs nb = na
def iB (cl : Nat → Nat) (nb nx : Nat) (fd : Bool) (bx : Nat → Nat) : Prop := (∀ b, bx b ≤ nx) ∧ (∀ b, bx b ≠ 0 → b < nb ∧ cl b ≠ 0) ∧ (fd = false → ∀ b, bx b = 0)
def iQ (qc qd : CT) (p : RT) (qmg : Nat → Nat) : Prop := rlQ qc p ∧ rtB p ∧ ctOk qc ∧ (∀ c, cMg qd c ≤ 999999) ∧ ∀ c, qmg c ≤ 999999
def iL (qu li : Nat → Nat) : Prop := (∀ k, qu k < 8) ∧ ∀ k, li k < 8
theorem up_lt {f : Nat → Nat} {i v n : Nat} (h : ∀ b, f b < n) (hv : v < n) : ∀ b, va_up f i v b < n := fun b => by
  by_cases e : b = i
  · rw [e, up_s]; exact hv
  · rw [up_n e]; exact h b
theorem up_l2 {f : Nat → Nat} {i v n : Nat} (h : ∀ b, f b ≤ n) (hv : v ≤ n) : ∀ b, va_up f i v b ≤ n := fun b => by
  by_cases e : b = i
  · rw [e, up_s]; exact hv
  · rw [up_n e]; exact h b
theorem unS_st {ty : Nat → Nat} {ln : Nat} {ut pv fd : Bool} {x : Int32} (hA : iT ty ln) (hP : pv = (fd && ut)) : (unS ty ln pv x).1 = (unS ty ln ut x).1 ∧ (unS ty ln pv x).2.1 = (unS ty ln ut x).2.1 ∧ (unS ty ln pv x).2.2.1 = (unS ty ln ut x).2.2.1 ∧ (unS ty ln pv x).2.2.2 = (fd && (unS ty ln ut x).2.2.2) ∧ iT (unS ty ln ut x).2.1 (unS ty ln ut x).2.2.1 := by
  unfold unS
  by_cases c : ixI 256 x = true ∧ ln ≠ 1500
  · rw [if_pos c, if_pos c]
    obtain ⟨j, hj, rfl⟩ := ixI_of c.1 (by decide)
    refine ⟨rfl, rfl, rfl, (Bool.and_false _).symm, ?_, ?_⟩
    · show ln + 1 ≤ 1500
      have := hA.1
      have := c.2
      omega
    · rw [nI_clamp (by omega)]
      exact up_lt hA.2 hj
  · rw [if_neg c, if_neg c]
    exact ⟨rfl, rfl, rfl, hP, hA⟩
theorem boS_st {cl gr sp rs aw awm bx : Nat → Nat} {nb na nx : Nat} {ot : Nat → Bool} {ut pv fd : Bool} {x : Int32} {g : Int64} (hS : iS cl gr sp nb) (hR : iR rs aw na nb ot awm) (hB : iB cl nb nx fd bx) (hP : pv = (fd && ut)) :
    (boS cl gr nb pv x g).1 = (boS cl gr nb ut x g).1 ∧ (boS cl gr nb pv x g).2.1 = (boS cl gr nb ut x g).2.1 ∧ (boS cl gr nb pv x g).2.2.1 = (boS cl gr nb ut x g).2.2.1 ∧ (boS cl gr nb pv x g).2.2.2.1 = (boS cl gr nb ut x g).2.2.2.1 ∧ (boS cl gr nb pv x g).2.2.2.2 = (fd && (boS cl gr nb ut x g).2.2.2.2) ∧
    iS (boS cl gr nb ut x g).2.1 (boS cl gr nb ut x g).2.2.1 sp (boS cl gr nb ut x g).2.2.2.1 ∧ iR rs aw na (boS cl gr nb ut x g).2.2.2.1 ot awm ∧ iB (boS cl gr nb ut x g).2.1 (boS cl gr nb ut x g).2.2.2.1 nx fd bx := by
  unfold boS
  by_cases c : nb ≠ 8 ∧ clOk x = true ∧ lxI g (lN 1) (lN 100000) = true
  · rw [if_pos c, if_pos c]
    obtain ⟨n, hn, rfl⟩ := clOk_of c.2.1
    obtain ⟨v, hv1, hv2, rfl⟩ := lx_of c.2.2 (by decide) (by decide)
    obtain ⟨s1, s2, s3, s4⟩ := hS
    obtain ⟨r1, r2, r3, r4, r5⟩ := hR
    obtain ⟨b1, b2, b3⟩ := hB
    have hr := r4 nb (Nat.le_refl _)
    refine ⟨rfl, rfl, rfl, rfl, (Bool.and_false _).symm, ⟨?_, ?_, ?_, s4⟩, ⟨r1, r2, ⟨fun b hb => ?_, fun k hk => ?_⟩, fun b hb => r4 b (Nat.le_trans (Nat.le_succ nb) hb), ?_⟩, b1, fun b hb => ?_, b3⟩
    · show nb + 1 ≤ 8
      have := c.1
      omega
    · rw [gN_l (by omega)]; exact up_l2 s2 hv2
    · rw [yN_z (by omega)]; exact up_l2 s3 hn
    · by_cases e : b = nb
      · subst e; rw [hr.1, hr.2]; rfl
      · exact r3.1 b (by have : b < nb + 1 := hb; omega)
    · have h := r3.2 k hk
      exact ⟨h.1, Nat.lt_succ_of_lt h.2.1, h.2.2⟩
    · show cnR rs nb + (if rs nb = 0 then 0 else 1) = na
      rw [if_pos hr.1]; exact r5
    · have h := b2 b hb
      refine ⟨Nat.lt_succ_of_lt h.1, ?_⟩
      show va_up cl nb _ b ≠ 0
      rw [up_n (by omega)]; exact h.2
  · rw [if_neg c, if_neg c]
    exact ⟨rfl, rfl, rfl, rfl, hP, hS, hR, hB⟩
theorem bxS_st {cl bg bb ab bx : Nat → Nat} {nb nx : Nat} {ut pv fd : Bool} {x n : Int32} {g : Int64} (hX : iX bg bb ab nx) (hB : iB cl nb nx fd bx) (hP : pv = (fd && ut)) :
    (bxS bg bb nx pv x g n).1 = (bxS bg bb nx ut x g n).1 ∧ (bxS bg bb nx pv x g n).2.1 = (bxS bg bb nx ut x g n).2.1 ∧ (bxS bg bb nx pv x g n).2.2.1 = (bxS bg bb nx ut x g n).2.2.1 ∧ (bxS bg bb nx pv x g n).2.2.2.1 = (bxS bg bb nx ut x g n).2.2.2.1 ∧ (bxS bg bb nx pv x g n).2.2.2.2 = (fd && (bxS bg bb nx ut x g n).2.2.2.2) ∧
    iX (bxS bg bb nx ut x g n).2.1 (bxS bg bb nx ut x g n).2.2.1 ab (bxS bg bb nx ut x g n).2.2.2.1 ∧ iB cl nb (bxS bg bb nx ut x g n).2.2.2.1 fd bx := by
  unfold bxS
  by_cases c : nx ≠ 5 ∧ ixI 4 x = true ∧ lxI g (lN 0) (lN 1000000) = true ∧ ixI 9 n = true
  · rw [if_pos c, if_pos c]
    obtain ⟨v, hv1, hv2, rfl⟩ := lx_of c.2.2.1 (by decide) (by decide)
    obtain ⟨j, hj, rfl⟩ := ixI_of c.2.2.2 (by decide)
    obtain ⟨x1, x2, x3, x4⟩ := hX
    obtain ⟨b1, b2, b3⟩ := hB
    refine ⟨rfl, rfl, rfl, rfl, (Bool.and_false _).symm, ⟨?_, ?_, ?_, x4⟩, fun b => Nat.le_succ_of_le (b1 b), b2, b3⟩
    · show nx + 1 ≤ 5
      have := c.1
      omega
    · rw [gN_l (by omega)]; exact up_l2 x2 hv2
    · rw [nI_clamp (by omega)]; exact up_l2 x3 (by omega)
  · rw [if_neg c, if_neg c]
    exact ⟨rfl, rfl, rfl, rfl, hP, hX, hB⟩
theorem abS_st {bg bb ab : Nat → Nat} {nx : Nat} {ut pv fd : Bool} {x : Int32} {g : Int64} (hX : iX bg bb ab nx) (hP : pv = (fd && ut)) :
    (abS ab pv nx x g).1 = (abS ab ut nx x g).1 ∧ (abS ab pv nx x g).2.1 = (abS ab ut nx x g).2.1 ∧ (abS ab pv nx x g).2.2 = (fd && (abS ab ut nx x g).2.2) ∧ iX bg bb (abS ab ut nx x g).2.1 nx := by
  unfold abS
  by_cases c : ixI nx x = true ∧ lxI g (lN 0) (lN 1000000) = true
  · rw [if_pos c, if_pos c]
    obtain ⟨v, hv1, hv2, rfl⟩ := lx_of c.2 (by decide) (by decide)
    obtain ⟨x1, x2, x3, x4⟩ := hX
    refine ⟨rfl, rfl, (Bool.and_false _).symm, x1, x2, x3, ?_⟩
    rw [gN_l (by omega)]; exact up_l2 x4 hv2
  · rw [if_neg c, if_neg c]
    exact ⟨rfl, rfl, hP, hX⟩
theorem tsS_st {cl gr sp oc bx : Nat → Nat} {nb nx : Nat} {ut pv fd : Bool} {b t r : Int32} (hS : iS cl gr sp nb) (hO : ∀ c, oc c ≤ 19) (hB : iB cl nb nx fd bx) (hP : pv = (fd && ut)) :
    (tsS cl sp oc pv nb b t r).1 = (tsS cl sp oc ut nb b t r).1 ∧ (tsS cl sp oc pv nb b t r).2.1 = (tsS cl sp oc ut nb b t r).2.1 ∧ (tsS cl sp oc pv nb b t r).2.2.1 = (tsS cl sp oc ut nb b t r).2.2.1 ∧ (tsS cl sp oc pv nb b t r).2.2.2 = (fd && (tsS cl sp oc ut nb b t r).2.2.2) ∧
    iS (tsS cl sp oc ut nb b t r).2.1 gr (tsS cl sp oc ut nb b t r).2.2.1 nb ∧ iB (tsS cl sp oc ut nb b t r).2.1 nb nx fd bx := by
  unfold tsS
  by_cases c : ixI nb b = true ∧ cl b.toNatClampNeg = 0 ∧ nI (sp b.toNatClampNeg) = t ∧ ixI 4 r = true ∧ oc (4 * sp b.toNatClampNeg + r.toNatClampNeg) ≠ 0
  · rw [if_pos c, if_pos c]
    obtain ⟨s1, s2, s3, s4⟩ := hS
    obtain ⟨b1, b2, b3⟩ := hB
    have h19 := hO (4 * sp b.toNatClampNeg + r.toNatClampNeg)
    refine ⟨rfl, rfl, rfl, (Bool.and_false _).symm, ⟨s1, s2, ?_, ?_⟩, b1, fun k hk => ⟨(b2 k hk).1, ?_⟩, b3⟩
    · intro k
      show (if oc (4 * sp b.toNatClampNeg + r.toNatClampNeg) ≤ 10 then cl else va_up cl b.toNatClampNeg (oc (4 * sp b.toNatClampNeg + r.toNatClampNeg) - 10)) k ≤ 9
      split
      · exact s3 k
      · exact up_l2 s3 (by omega) k
    · intro k
      show (if oc (4 * sp b.toNatClampNeg + r.toNatClampNeg) ≤ 10 then va_up sp b.toNatClampNeg (oc (4 * sp b.toNatClampNeg + r.toNatClampNeg) - 1) else sp) k ≤ 9
      split
      · exact up_l2 s4 (by omega) k
      · exact s4 k
    · show (if oc (4 * sp b.toNatClampNeg + r.toNatClampNeg) ≤ 10 then cl else va_up cl b.toNatClampNeg (oc (4 * sp b.toNatClampNeg + r.toNatClampNeg) - 10)) k ≠ 0
      split
      · exact (b2 k hk).2
      · by_cases e : k = b.toNatClampNeg
        · exact absurd (by rw [e]; exact c.2.1) (b2 k hk).2
        · rw [up_n e]; exact (b2 k hk).2
  · rw [if_neg c, if_neg c]
    exact ⟨rfl, rfl, rfl, hP, hS, hB⟩
theorem cnR_le {rs : Nat → Nat} : ∀ n, cnR rs n ≤ n
  | 0 => Nat.le_refl _
  | n + 1 => by
    have h := cnR_le (rs := rs) n
    rw [cnR]
    split <;> omega
theorem cnR_lt {rs : Nat → Nat} {b : Nat} (h0 : rs b = 0) : ∀ n, b < n → cnR rs n < n
  | 0, h => absurd h (Nat.not_lt_zero _)
  | n + 1, h => by
    rw [cnR]
    by_cases e : b = n
    · subst e
      rw [if_pos h0]
      have := cnR_le (rs := rs) b
      omega
    · have h1 := cnR_lt h0 n (by omega)
      split <;> omega
theorem cnR_ne {rs : Nat → Nat} {b q : Nat} : ∀ n, n ≤ b → cnR (va_up rs b q) n = cnR rs n
  | 0, _ => rfl
  | n + 1, h => by
    rw [cnR, cnR, cnR_ne n (by omega), up_n (by omega)]
theorem cnR_up {rs : Nat → Nat} {b q : Nat} (h0 : rs b = 0) (hq : q ≠ 0) : ∀ n, b < n → cnR (va_up rs b q) n = cnR rs n + 1
  | 0, h => absurd h (Nat.not_lt_zero _)
  | n + 1, h => by
    rw [cnR, cnR]
    by_cases e : b = n
    · subst e
      rw [up_s, if_neg hq, if_pos h0, cnR_ne b (Nat.le_refl _)]
    · rw [up_n (fun z => e z.symm), cnR_up h0 hq n (by omega)]
      omega
/-- while a bottle is not refused there is room for it -/
theorem iR_no {rs aw awm : Nat → Nat} {na nb : Nat} {ot : Nat → Bool} (h : iR rs aw na nb ot awm) : ((∀ b, b < nb → rs b ≠ 0) ∨ na < nb) ∧ ((∀ b, b < nb → ot b = true) ∨ na < nb) ∧ na ≤ nb := by
  obtain ⟨r1, r2, r3, r4, r5⟩ := h
  have hle := cnR_le (rs := rs) nb
  by_cases c : ∀ b, b < nb → rs b ≠ 0
  · exact ⟨Or.inl c, Or.inl (fun b hb => by rw [r3.1 b hb]; exact decide_eq_true (c b hb)), by omega⟩
  · have : ∃ b, b < nb ∧ rs b = 0 := by
      refine Classical.byContradiction (fun z => c (fun b hb e => z ⟨b, hb, e⟩))
    obtain ⟨b, hb, e⟩ := this
    have hlt := cnR_lt e nb hb
    exact ⟨Or.inr (by omega), Or.inr (by omega), by omega⟩
theorem reC_st {rs aw awm : Nat → Nat} {nb na : Nat} {ot : Nat → Bool} {ut pv fd : Bool} {b q : Int32} (hnb : nb ≤ 8) (hR : iR rs aw na nb ot awm) (hP : pv = (fd && ut)) :
    (reS ot awm na pv nb b q).1 = (reC rs aw na ut nb b q).1 ∧ (reS ot awm na pv nb b q).2.2.2.1 = (reC rs aw na ut nb b q).2.2.2.1 ∧ (reS ot awm na pv nb b q).2.2.2.2 = (fd && (reC rs aw na ut nb b q).2.2.2.2) ∧
    iR (reC rs aw na ut nb b q).2.1 (reC rs aw na ut nb b q).2.2.1 (reC rs aw na ut nb b q).2.2.2.1 nb (reS ot awm na pv nb b q).2.1 (reS ot awm na pv nb b q).2.2.1 := by
  obtain ⟨r1, r2, r3, r4, r5⟩ := hR
  have h := re_eq (b := b) (q := q) (pv := pv) hnb r3
  have hnl := cnR_le (rs := rs) nb
  revert h
  unfold reS reC
  by_cases c1 : ixI nb b = true ∧ rsOk q = true ∧ rs b.toNatClampNeg = 0
  · obtain ⟨j, hj, rfl⟩ := ixI_of c1.1 (by omega)
    obtain ⟨k, hk, rfl⟩ := rsOk_of c1.2.1
    have c3 : rs j = 0 := by have := c1.2.2; rw [nI_clamp (by omega)] at this; exact this
    have c4 : ot j = false := by rw [r3.1 j hj, c3]; rfl
    rw [nI_clamp (show j < 2 ^ 31 by omega), nI_clamp (show k < 2 ^ 31 by omega)]
    rw [if_pos ⟨c1.1, c1.2.1, c4⟩, if_pos ⟨c1.1, c1.2.1, c3⟩, if_pos ⟨c1.1, c1.2.1, c3⟩]
    intro h
    refine ⟨rfl, rfl, (Bool.and_false _).symm, up_l2 r1 hk.2, up_lt r2 (by omega), h.2.2, fun i hi => ?_, ?_⟩
    · show va_up rs j k i = 0 ∧ va_up ot j true i = false
      rw [up_n (by omega), up_n (by omega)]; exact r4 i hi
    · show cnR (va_up rs j k) nb = na + 1
      rw [cnR_up c3 (by omega) nb hj]; omega
  · have c2 : ¬ (ixI nb b = true ∧ rsOk q = true ∧ ot b.toNatClampNeg = false) := fun z => by
      obtain ⟨j, hj, rfl⟩ := ixI_of z.1 (by omega)
      refine c1 ⟨z.1, z.2.1, ?_⟩
      have z3 := z.2.2
      rw [nI_clamp (by omega)] at z3 ⊢
      rw [r3.1 j hj] at z3
      exact Classical.byContradiction (fun y => absurd (decide_eq_true y) (by rw [z3]; decide))
    rw [if_neg c1, if_neg c1, if_neg c2]
    intro _
    exact ⟨rfl, rfl, hP, r1, r2, r3, r4, r5⟩
/-- what the reference's search gives -/
theorem pkR_B {K : (Nat → Nat) → Bool} {nb nx n : Nat} {li w0 : Nat → Nat} (h0 : n = 0 ∨ 0 < nx) (hl : ∀ j, j < n → w0 (li j) ≠ 0) : ∀ f w (q : Nat × (Nat → Nat)), (∀ b, w b ≤ nx ∨ n = 0) → (∀ b, w b = 0 ↔ w0 b = 0) → (q.1 ≠ 0 → (∀ b, q.2 b ≤ nx ∨ n = 0) ∧ ∀ b, q.2 b = 0 ↔ w0 b = 0) → ((pkR K nb li nx n f w q).1 ≠ 0 → (∀ b, (pkR K nb li nx n f w q).2 b ≤ nx ∨ n = 0) ∧ ∀ b, (pkR K nb li nx n f w q).2 b = 0 ↔ w0 b = 0)
  | 0, _, _, _, _, h => h
  | f + 1, w, q, h1, h2, h => by
    have hst : (stB K nb w q.1 q.2).1 ≠ 0 → (∀ b, (stB K nb w q.1 q.2).2 b ≤ nx ∨ n = 0) ∧ ∀ b, (stB K nb w q.1 q.2).2 b = 0 ↔ w0 b = 0 := by
      unfold stB
      split
      · intro _; exact ⟨h1, h2⟩
      · exact h
    rw [pkR]
    split
    · have ht := trS_ok2 (li := li) (nx := nx) (w0 := w0) n w h0 h1 h2 (fun j hj z => hl j hj ((h2 _).mp z))
      exact pkR_B h0 hl f _ _ ht.1 ht.2 hst
    · exact hst
theorem pkS_B {ap ot : Nat → Bool} {cl gr bg bb ab li bx : Nat → Nat} {nb nx : Nat} {x : Int64} {fd pv : Bool} (hnb : nb ≤ 8) (hli : ∀ k, li k < 8) (hB : iB cl nb nx fd bx) : iB cl nb nx (pkS ap cl gr bg bb ab ot nb nx li x bx fd pv).2.2.1 (pkS ap cl gr bg bb ab ot nb nx li x bx fd pv).2.1 := by
  unfold pkS
  split
  · exact hB
  · rename_i c
    split
    · exact hB
    · rename_i c2
      have hP8 := pkL_ok (ot := ot) (cl := cl) (nb := nb) hli 8 (Nat.le_refl _)
      have hnz : (pkL ot cl nb li 8).2 = 0 ∨ 0 < nx := by
        by_cases z : (pkL ot cl nb li 8).2 = 0
        · exact Or.inl z
        · right
          rcases Nat.eq_zero_or_pos nx with y | y
          · exact absurd (Or.inr (by rw [y, Nat.zero_pow (by omega)])) c
          · exact y
      have h := pkR_B (K := kpF ap cl gr bg bb ab nb nx) (nb := nb) (w0 := wyI ot cl nb) hnz (fun j hj => by rw [(hP8.2.2.1 j hj).2]; decide) (nx ^ (pkL ot cl nb li 8).2) (wyI ot cl nb) (0, bx) (fun b => by
        by_cases z : (pkL ot cl nb li 8).2 = 0
        · exact Or.inr z
        · left
          unfold wyI
          split <;> omega) (fun _ => Iff.rfl) (fun z => absurd rfl z) c2
      have hy : ∀ b, wyI ot cl nb b ≠ 0 → b < nb ∧ cl b ≠ 0 := fun b hb => by
        unfold wyI at hb
        split at hb
        · rename_i z; exact ⟨z.1, z.2.2⟩
        · exact absurd rfl hb
      refine ⟨fun b => ?_, fun b hb => hy b (fun z => hb ((h.2 b).mpr z)), fun z => by cases z⟩
      rcases h.1 b with z | z
      · exact z
      · by_cases e : (pkA ap cl gr bg bb ab ot nb nx li bx).2 b = 0
        · show (pkA ap cl gr bg bb ab ot nb nx li bx).2 b ≤ nx
          rw [e]; exact Nat.zero_le _
        · have hw : wyI ot cl nb b ≠ 0 := fun y => e ((h.2 b).mpr y)
          obtain ⟨j, hj, _⟩ := pkL_all (ot := ot) (cl := cl) (nb := nb) (li := li) 8 b (by have := (hy b hw).1; omega) hw
          rw [z] at hj
          exact absurd hj (Nat.not_lt_zero _)
theorem mkS_congr {mg mz mg' mz' : Nat → Nat} {c a : Nat} : ∀ n, (∀ i, i < n → mg (6 * c + i) = mg' (6 * c + i) ∧ mz (6 * c + i) = mz' (6 * c + i)) → mkS mg mz c a n = mkS mg' mz' c a n
  | 0, _ => rfl
  | n + 1, h => by
    have h1 := h n (Nat.lt_succ_self n)
    rw [mkS, mkS, h1.1, h1.2, mkS_congr n (fun i hi => h i (by omega))]
theorem mkN_rl {qc : CT} {p : RT} (h : rlQ qc p) (go : Nat → Nat) (x : Int32) : mkN (qc.2.2.2.2.2.1) (qc.2.2.2.2.2.2.1) (qc.2.2.2.2.2.2.2.1) go x = mkN (p.2.2.2.2.2.1) (p.2.2.2.2.2.2.1) (p.2.2.2.2.2.2.2.1) go x := by
  obtain ⟨g1, g2, g3, g4, g5, g6, g7, g8, g9, g10⟩ := h
  have g6' : qc.2.2.2.2.2.1 = p.2.2.2.2.2.1 := g6
  rw [g6', mkN, mkN, pick, pick]
  by_cases c : ixI 9 x = true
  · rw [if_pos c, if_pos c]
    obtain ⟨j, hj, rfl⟩ := ixI_of c (by decide)
    rw [nI_clamp (by omega)]
    rw [mkS_congr _ (fun i hi => g7 j hj i hi)]
  · rw [if_neg c, if_neg c]
theorem ntN_rl {qc : CT} {p : RT} (h : rlQ qc p) (hp : rtOk p) (l i : Int32) : ntN (qc.2.2.2.2.2.2.2.2.1) (qc.2.2.2.2.2.2.2.2.2.1) l i = ntN (p.2.2.2.2.2.2.2.2.1) (p.2.2.2.2.2.2.2.2.2.1) l i := by
  obtain ⟨g1, g2, g3, g4, g5, g6, g7, g8, g9, g10⟩ := h
  have g8' : qc.2.2.2.2.2.2.2.2.1 = p.2.2.2.2.2.2.2.2.1 := g8
  rw [g8', ntN, ntN]
  by_cases c : ixI 4 l = true
  · rw [if_pos c, if_pos c]
    obtain ⟨j, hj, rfl⟩ := ixI_of c (by decide)
    rw [nI_clamp (by omega), pick, pick]
    by_cases c2 : ixI (p.2.2.2.2.2.2.2.2.1 j) i = true
    · rw [if_pos c2, if_pos c2]
      have h8 : p.2.2.2.2.2.2.2.2.1 j ≤ 8 := hp.2.2 j
      obtain ⟨k, hk, rfl⟩ := ixI_of c2 (by omega)
      rw [nI_clamp (by omega)]
      have h9 : qc.2.2.2.2.2.2.2.2.2.1 (8 * j + k) = p.2.2.2.2.2.2.2.2.2.1 (8 * j + k) := g9 j hj k hk
      rw [h9]
    · rw [if_neg c2, if_neg c2]
  · rw [if_neg c, if_neg c]
/-- both readings, from empty rules on -/
theorem rl_st {ty nu td mgd mzd ntd qmg qmz qnt : Nat → Nat} {ln gt : Nat} (hg : ∀ c, qmg c ≤ 999999) : (rdC ty ln (ln + 1) 0 0 0 (0, gt, 0, nu, (fun _ => 0, fun _ => 0, fun _ => 0, fun _ => 0, 0, fun _ => 0, mgd, mzd, fun _ => 0, ntd, fun _ => 0))).1 = (rdS ty ln (ln + 1) 0 0 0 (fun _ => false, fun _ => 0, fun _ => 0, fun _ => 0, 0, fun _ => 0, qmg, qmz, fun _ => 0, qnt, fun _ => 0) td).1 ∧ (rdC ty ln (ln + 1) 0 0 0 (0, gt, 0, nu, (fun _ => 0, fun _ => 0, fun _ => 0, fun _ => 0, 0, fun _ => 0, mgd, mzd, fun _ => 0, ntd, fun _ => 0))).2.1 = (rdS ty ln (ln + 1) 0 0 0 (fun _ => false, fun _ => 0, fun _ => 0, fun _ => 0, 0, fun _ => 0, qmg, qmz, fun _ => 0, qnt, fun _ => 0) td).2.1 ∧ ((rdS ty ln (ln + 1) 0 0 0 (fun _ => false, fun _ => 0, fun _ => 0, fun _ => 0, 0, fun _ => 0, qmg, qmz, fun _ => 0, qnt, fun _ => 0) td).1 = true → rlQ (rdC ty ln (ln + 1) 0 0 0 (0, gt, 0, nu, (fun _ => 0, fun _ => 0, fun _ => 0, fun _ => 0, 0, fun _ => 0, mgd, mzd, fun _ => 0, ntd, fun _ => 0))).2.2.2.2.2.2 (rdS ty ln (ln + 1) 0 0 0 (fun _ => false, fun _ => 0, fun _ => 0, fun _ => 0, 0, fun _ => 0, qmg, qmz, fun _ => 0, qnt, fun _ => 0) td).2.2) ∧ rtB (rdS ty ln (ln + 1) 0 0 0 (fun _ => false, fun _ => 0, fun _ => 0, fun _ => 0, 0, fun _ => 0, qmg, qmz, fun _ => 0, qnt, fun _ => 0) td).2.2 := by
  have hk : rtOk (fun _ => false, fun _ => 0, fun _ => 0, fun _ => 0, 0, fun _ => 0, qmg, qmz, fun _ => 0, qnt, fun _ => 0) := ⟨fun _ => Nat.zero_le _, hg, fun _ => Nat.zero_le _⟩
  have hr : rlQ (fun _ => 0, fun _ => 0, fun _ => 0, fun _ => 0, 0, fun _ => 0, mgd, mzd, fun _ => 0, ntd, fun _ => 0) (fun _ => false, fun _ => 0, fun _ => 0, fun _ => 0, 0, fun _ => 0, qmg, qmz, fun _ => 0, qnt, fun _ => 0) := ⟨fun a b _ _ => Nat.zero_testBit b, rfl, rfl, rfl, rfl, rfl, fun c _ i hi => absurd hi (Nat.not_lt_zero i), rfl, fun c _ i hi => absurd hi (Nat.not_lt_zero i), rfl⟩
  have h := rd_eq (tx := ty) (sz := ln) (ln + 1) 0 0 0 _ _ nu td gt (Nat.zero_le _) (by omega) hk hr
  exact ⟨h.1, h.2.1, h.2.2, rd_B _ _ _ _ _ _ ⟨hk, fun _ => Nat.zero_le _, fun _ => Nat.zero_le _, fun _ => Nat.zero_le _, Nat.zero_le _, fun _ => Nat.zero_le _⟩⟩
theorem pkS_c {ap ot : Nat → Bool} {cl gr bg bb ab li bx : Nat → Nat} {nb nx : Nat} {x : Int64} {fd pv : Bool} : ((pkS ap cl gr bg bb ab ot nb nx li x bx fd pv).1 = -1 ∧ (pkS ap cl gr bg bb ab ot nb nx li x bx fd pv).2.2 = (fd, pv)) ∨ (pkS ap cl gr bg bb ab ot nb nx li x bx fd pv).2.2 = (true, true) := by
  unfold pkS
  split
  · exact Or.inl ⟨rfl, rfl⟩
  · split
    · exact Or.inl ⟨rfl, rfl⟩
    · exact Or.inr rfl
theorem pkS_P {ap ot : Nat → Bool} {cl gr bg bb ab li bx : Nat → Nat} {nb nx : Nat} {x : Int64} {fd pv ut : Bool} (hP : pv = (fd && ut)) (h4 : (pkS ap cl gr bg bb ab ot nb nx li x bx fd pv).2.2.2 = if (pkS ap cl gr bg bb ab ot nb nx li x bx fd pv).1 = -1 then pv else true) : (pkS ap cl gr bg bb ab ot nb nx li x bx fd pv).2.2.2 = ((pkS ap cl gr bg bb ab ot nb nx li x bx fd pv).2.2.1 && (if (pkS ap cl gr bg bb ab ot nb nx li x bx fd pv).1 = -1 then ut else true)) := by
  rcases pkS_c (ap := ap) (ot := ot) (cl := cl) (gr := gr) (bg := bg) (bb := bb) (ab := ab) (li := li) (bx := bx) (nb := nb) (nx := nx) (x := x) (fd := fd) (pv := pv) with ⟨h1, h2⟩ | h2
  · rw [h2, if_pos h1]; exact hP
  · rw [h2] at h4 ⊢
    by_cases c : (pkS ap cl gr bg bb ab ot nb nx li x bx fd pv).1 = -1
    · rw [if_pos c] at h4 ⊢
      have h5 : true = pv := h4
      rw [← h5] at hP
      cases fd <;> cases ut <;> first | rfl | cases hP
    · rw [if_neg c]; rfl
theorem pick_rl {rs aw awm : Nat → Nat} {na nb : Nat} {ot : Nat → Bool} {x : Int32} (hna : na ≤ 8) (hR : iR rs aw na nb ot awm) : pick na (fun k => 10 * aw k + rs (aw k)) x = pick na awm x := by
  unfold pick
  by_cases c : ixI na x = true
  · rw [if_pos c, if_pos c]
    obtain ⟨j, hj, rfl⟩ := ixI_of c (by omega)
    rw [nI_clamp (by omega), (hR.2.2.1.2 j hj).2.2]
  · rw [if_neg c, if_neg c]
