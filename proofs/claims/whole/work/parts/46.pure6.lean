theorem sc_pk {apc : Nat → Nat} {ap ot : Nat → Bool} {cl gr bg bb ab rs li qu be bx : Nat → Nat} {nb nx : Nat} (hap : apR apc ap) (hc9 : ∀ d, cl d ≤ 9) (hnb : nb ≤ 8) (hnx : nx ≤ 5) (hot : ∀ b, b < nb → ot b = otC rs b) (hli : ∀ k, li k < 8) (hqu : ∀ k, qu k < 8) (hn8 : (pkL ot cl nb li 8).2 = (pkL (otC rs) cl nb qu nb).2 ∧ ∀ j, j < (pkL ot cl nb li 8).2 → (pkL ot cl nb li 8).1 j = (pkL (otC rs) cl nb qu nb).1 j) (hz : nx ^ (pkL (otC rs) cl nb qu nb).2 ≠ 0) : rqP (scA apc cl gr bg bb ab (pkL (otC rs) cl nb qu nb).1 nx (pkL (otC rs) cl nb qu nb).2 be) (pkA ap cl gr bg bb ab ot nb nx li bx) := by
  have hL := pkL_ok (ot := ot) (cl := cl) (nb := nb) hli 8 (Nat.le_refl _)
  have hP := pkL_ok (ot := otC rs) (cl := cl) (nb := nb) hqu nb hnb
  have hin0 : ∀ b, wyI ot cl nb b ≠ 0 → ∃ j, j < (pkL ot cl nb li 8).2 ∧ b = (pkL ot cl nb li 8).1 j := fun b hb => by
    have hb8 : b < 8 := by
      by_cases e : b < nb ∧ ot b = false ∧ cl b ≠ 0
      · omega
      · exact absurd (if_neg e) hb
    exact pkL_all 8 b hb8 hb
  unfold pkA
  obtain ⟨hn7, hn9⟩ := hn8
  rw [hn7] at hL hn9 hin0 ⊢
  clear hn7
  revert hL hP hin0 hn9 hz
  generalize (pkL (otC rs) cl nb qu nb).2 = n
  generalize (pkL (otC rs) cl nb qu nb).1 = Q
  generalize (pkL ot cl nb li 8).1 = L
  intro hz hL hP hin0 hn9
  have hd : n = 0 ∨ 0 < nx := by
    rcases Nat.eq_zero_or_pos nx with y | y
    · rcases Nat.eq_zero_or_pos n with v | v
      · exact Or.inl v
      · rw [y, Nat.zero_pow v] at hz; exact absurd rfl hz
    · exact Or.inr y
  rw [en_all (fun j i h1 h2 => Nat.ne_of_lt (hL.2.2.2 j i h1 h2)) hd (fun j hj => (hL.2.2.1 j hj).2), en_li hn9 n 0 (Nat.zero_add n)]
  have hin : ∀ b, wyI ot cl nb b ≠ 0 → ∃ j, j < n ∧ b = Q j := fun b hb => by
    obtain ⟨j, hj, e⟩ := hin0 b hb
    exact ⟨j, hj, by rw [← hn9 j hj]; exact e⟩
  have hwy : wyP Q nx n (wyI ot cl nb) := by
    refine ⟨fun b => ?_, fun b hb => ?_⟩
    · by_cases e : wyI ot cl nb b = 0
      · rw [e]; exact Nat.zero_le _
      · obtain ⟨j, hj, _⟩ := hin b e
        have h1 : wyI ot cl nb b ≤ 1 := by unfold wyI; split <;> omega
        omega
    · by_cases e : wyI ot cl nb b = 0
      · exact e
      · obtain ⟨j, hj, e2⟩ := hin b e
        exact absurd e2 (hb j hj)
  have hqc : ∀ j, j < n → cl (Q j) ≠ 0 := fun j hj => by
    have h7 := (hP.2.2.1 j hj).2
    unfold wyI at h7
    split at h7
    · rename_i y; exact y.2.2
    · cases h7
  have hqb : ∀ j, j < n → Q j < nb := fun j hj => (hP.2.2.1 j hj).1
  by_cases e : efS (fun j x => fitB apc cl gr bg bb ab (fun _ => 0) (fun _ => 0) (fun _ => 0) j x) Q nx n = true
  · rw [scA, if_pos e]
    have hz0 : ∀ j, 0 ≤ j → j < 0 + ibD Q nb n 0 → wyI ot cl nb j = 0 := fun j _ hj => by
      refine hwy.2 j (fun k hk e2 => ?_)
      have h3 : ibD Q nb n 0 = Q 0 := if_pos (by omega)
      rw [h3] at hj
      by_cases e3 : k = 0
      · rw [e3] at e2; omega
      · have := hP.2.2.2 0 k (by omega) hk; omega
    have h1 := ns_skips (ns_0 cl gr (wyI ot cl nb)) (ibD Q nb n 0) hz0
    have h2 := us_skips (gv := wyI ot cl nb) (i := 0) (ibD Q nb n 0) hz0
    rw [Nat.zero_add] at h1 h2
    exact (dfs_eq hap hc9 hP.2.2.2 hqb hqc hnx n 0 (wyI ot cl nb) _ _ _ (fun _ => 0, be, 6) (0, bx) 0 (Nat.zero_add n) hwy h1 (by rw [h2]; rfl) (fun i hi h3 => absurd (hz0 i (Nat.zero_le _) (by omega)) h3) (Or.inl ⟨rfl, rfl⟩) (fun b _ hb => (hwy.2 b (fun j hj => hb j (Nat.zero_le _) hj)).symm) (by show 0 < 6; omega)).1
  · rw [scA, if_neg e]
    obtain ⟨i, hi, hex⟩ := efS_ex n (Bool.eq_false_iff.mpr e)
    rw [en_cut2 (n := n) n 0 (wyI ot cl nb) (Nat.zero_add n) hwy.1 (fun j hj => absurd hj (Nat.not_lt_zero _)) (fun W hW hW0 => by
      refine if_neg (fun y => ?_)
      have hkp : kpP ap cl gr W bg bb ab nb nx := kpB_iff.mp y.2
      have h0 := hW0 i hi
      have h1 := hW (Q i)
      have hfk := bx_fk (hkp (W (Q i) - 1) (by omega)) (hqb i hi) (by omega)
      have h2 := exF_f nx hex (W (Q i) - 1) (by omega)
      have h3 : ¬ (0 < bb (W (Q i) - 1) ∧ ab (W (Q i) - 1) + 0 + gr (Q i) ≤ bg (W (Q i) - 1) ∧ 0 &&& apc (cl (Q i) - 1) = 0) := of_decide_eq_false h2
      have h4 := hfk.1
      have h5 := hfk.2.1
      exact h3 ⟨by omega, by omega, Nat.zero_and _⟩)]
    exact Or.inl ⟨rfl, rfl⟩
/-- both sides' pack is the same -/
theorem pack_eq {apc : Nat → Nat} {ap ot : Nat → Bool} {cl gr bg bb ab rs li qu be bx bxc : Nat → Nat} {nb nx : Nat} {x : Int64} {fd pv : Bool} (hap : apR apc ap) (hc9 : ∀ d, cl d ≤ 9) (hnb : nb ≤ 8) (hnx : nx ≤ 5) (hot : ∀ b, b < nb → ot b = otC rs b) (hli : ∀ k, li k < 8) (hqu : ∀ k, qu k < 8) (hbx : ∀ b, b < 8 → bxc b = bx b) :
    (scS apc cl gr bg bb ab (pkL (otC rs) cl nb qu nb).1 nx (pkL (otC rs) cl nb qu nb).2 be x bxc fd).1 = (pkS ap cl gr bg bb ab ot nb nx li x bx fd pv).1 ∧
    (∀ b, b < 8 → (scS apc cl gr bg bb ab (pkL (otC rs) cl nb qu nb).1 nx (pkL (otC rs) cl nb qu nb).2 be x bxc fd).2.1 b = (pkS ap cl gr bg bb ab ot nb nx li x bx fd pv).2.1 b) ∧
    (scS apc cl gr bg bb ab (pkL (otC rs) cl nb qu nb).1 nx (pkL (otC rs) cl nb qu nb).2 be x bxc fd).2.2 = (pkS ap cl gr bg bb ab ot nb nx li x bx fd pv).2.2.1 ∧
    (pkS ap cl gr bg bb ab ot nb nx li x bx fd pv).2.2.2 = (if (scS apc cl gr bg bb ab (pkL (otC rs) cl nb qu nb).1 nx (pkL (otC rs) cl nb qu nb).2 be x bxc fd).1 = -1 then pv else true) := by
  have h8 : pkL (otC rs) cl nb qu 8 = pkL (otC rs) cl nb qu nb := by
    have h := pkL_nb (ot := otC rs) (cl := cl) (li := qu) (nb := nb) (8 - nb)
    rwa [show nb + (8 - nb) = 8 by omega] at h
  have hcg := pkL_congr (li := li) (qu := qu) (cl := cl) hot 8
  rw [h8] at hcg
  have hno : ((-1 : Int32), bx, fd, pv).1 = -1 := rfl
  unfold scS pkS
  rw [hcg.1]
  by_cases c1 : x < lN (nx ^ (pkL (otC rs) cl nb qu nb).2)
  · rw [if_pos c1, if_pos (Or.inl c1)]
    exact ⟨rfl, hbx, rfl, (if_pos rfl).symm⟩
  · rw [if_neg c1]
    by_cases c2 : nx ^ (pkL (otC rs) cl nb qu nb).2 = 0
    · rw [if_pos (Or.inr c2)]
      have h6 : (scA apc cl gr bg bb ab (pkL (otC rs) cl nb qu nb).1 nx (pkL (otC rs) cl nb qu nb).2 be).2.2 = 6 := by
        rw [scA, if_neg (fun z => ?_)]
        have hx0 : nx = 0 := Nat.eq_zero_of_not_pos (fun y => absurd c2 (Nat.ne_of_gt (Nat.pow_pos y)))
        have hn0 : (pkL (otC rs) cl nb qu nb).2 ≠ 0 := fun y => by rw [y] at c2; cases c2
        rw [hx0, efS_f (i := 0) rfl _ (Nat.pos_of_ne_zero hn0)] at z
        cases z
      rw [if_pos (show 5 < (scA apc cl gr bg bb ab (pkL (otC rs) cl nb qu nb).1 nx (pkL (otC rs) cl nb qu nb).2 be).2.2 by rw [h6]; decide)]
      exact ⟨rfl, hbx, rfl, (if_pos rfl).symm⟩
    · rw [if_neg (show ¬ (x < lN (nx ^ (pkL (otC rs) cl nb qu nb).2) ∨ nx ^ (pkL (otC rs) cl nb qu nb).2 = 0) from fun z => z.elim c1 c2)]
      rcases sc_pk (gr := gr) (bg := bg) (bb := bb) (ab := ab) (be := be) (bx := bx) hap hc9 hnb hnx hot hli hqu hcg c2 with h | h
      · rw [if_pos (show 5 < (scA apc cl gr bg bb ab (pkL (otC rs) cl nb qu nb).1 nx (pkL (otC rs) cl nb qu nb).2 be).2.2 by rw [h.1]; decide), if_pos h.2]
        exact ⟨rfl, hbx, rfl, (if_pos rfl).symm⟩
      · rw [if_neg (show ¬ 5 < (scA apc cl gr bg bb ab (pkL (otC rs) cl nb qu nb).1 nx (pkL (otC rs) cl nb qu nb).2 be).2.2 by omega), if_neg (show ¬ (pkA ap cl gr bg bb ab ot nb nx li bx).1 = 0 by omega)]
        refine ⟨by show nI _ = zI _; rw [h.1, zI_s], fun b hb => ?_, rfl, ?_⟩
        · show va_cpy _ bxc 0 0 8 b = _
          rw [cpy8 _ _ hb]
          exact h.2.2 b hb
        · show true = if nI _ = -1 then pv else true
          rw [if_neg (fun z => nI_pos (n := (scA apc cl gr bg bb ab (pkL (otC rs) cl nb qu nb).1 nx (pkL (otC rs) cl nb qu nb).2 be).2.2) (by omega) (by rw [z]; decide))]
