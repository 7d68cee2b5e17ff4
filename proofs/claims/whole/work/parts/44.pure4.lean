def ibD (qu : Nat → Nat) (nb n d : Nat) : Nat := if d < n then qu d else nb
def wyP (qu : Nat → Nat) (nx n : Nat) (w : Nat → Nat) : Prop := (∀ b, w b ≤ nx) ∧ ∀ b, (∀ j, j < n → b ≠ qu j) → w b = 0
def rqP (cq : PcT) (q : Nat × (Nat → Nat)) : Prop := (cq.2.2 = 6 ∧ q.1 = 0) ∨ (q.1 = cq.2.2 + 1 ∧ cq.2.2 ≤ 5 ∧ ∀ b, b < 8 → cq.2.1 b = q.2 b)
def trA (qu : Nat → Nat) (n d : Nat) (tr w : Nat → Nat) : Prop := ∀ b, b < 8 → (∀ j, d ≤ j → j < n → b ≠ qu j) → tr b = w b
theorem cpy8 (f g : Nat → Nat) {b : Nat} (hb : b < 8) : va_cpy f g 0 0 8 b = f b := by
  show (if 0 ≤ b ∧ b < 0 + 8 then f (0 + (b - 0)) else g b) = f b
  rw [if_pos (by omega), Nat.zero_add, Nat.sub_zero]
theorem wy_in {qu : Nat → Nat} {nx n b : Nat} {w : Nat → Nat} (h : wyP qu nx n w) (hb : w b ≠ 0) : ∃ j, j < n ∧ b = qu j := by
  by_cases e : ∃ j, j < n ∧ b = qu j
  · exact e
  · exact absurd (h.2 b (fun j hj z => e ⟨j, hj, z⟩)) hb
theorem dfs_eq {apc : Nat → Nat} {ap : Nat → Bool} {cl gr bg bb ab qu : Nat → Nat} {nb nx n : Nat} (hap : apR apc ap) (hc9 : ∀ d, cl d ≤ 9) (hq : ∀ j i, j < i → i < n → qu j < qu i) (hqb : ∀ j, j < n → qu j < nb) (hqc : ∀ j, j < n → cl (qu j) ≠ 0) (hnx : nx ≤ 5) : ∀ r d w gi bi ki cq q u, d + r = n → wyP qu nx n w → nsR cl gr w (ibD qu nb n d) gi bi ki → u = (usS w (ibD qu nb n d)).2 → (∀ i, i < ibD qu nb n d → w i ≠ 0 → fkP ap cl gr w bg bb ab i) → rqP cq q → trA qu n d cq.1 w → u < cq.2.2 →
    rqP (pcF apc cl gr bg bb ab qu nx r d gi bi ki cq u) (enS (stQ (kpF ap cl gr bg bb ab nb nx) nb) qu nx r d w q) ∧ trA qu n d (pcF apc cl gr bg bb ab qu nx r d gi bi ki cq u).1 w
  | 0, d, w, gi, bi, ki, cq, q, u, hd, hw, hn, hu, hf, hr, ht, hlt => by
    have hib : ibD qu nb n d = nb := if_neg (by omega)
    rw [hib] at hu hf
    have hk : kpF ap cl gr bg bb ab nb nx w = true := kpB_t ((kp_fk (fun b _ => hw.1 b)).mpr hf)
    have hs : stQ (kpF ap cl gr bg bb ab nb nx) nb w q = ((usS w nb).2 + 1, w) := if_pos ⟨by rcases hr with z | z; exact Or.inl z.2; right; rw [z.1]; omega, hk⟩
    rw [enS, pcF, hs]
    have hl := us_le hw.1 nb
    refine ⟨Or.inr ⟨by show (usS w nb).2 + 1 = u + 1; omega, by show u ≤ 5; omega, fun b hb => ?_⟩, ht⟩
    show va_cpy cq.1 cq.2.1 0 0 8 b = w b
    rw [cpy8 _ _ hb]
    exact ht b hb (fun j h1 h2 => by omega)
  | r + 1, d, w, gi, bi, ki, cq0, q0, u, hd, hw, hn, hu, hf, hr0, ht0, hlt => by
    have hib : ibD qu nb n d = qu d := if_pos (by omega)
    rw [hib] at hn hu hf
    have hdn := hqb d (by omega)
    have hk1 : qu d + 1 ≤ ibD qu nb n (d + 1) := by
      unfold ibD
      split
      · have := hq d (d + 1) (by omega) (by omega); omega
      · omega
    have hno : ∀ b, qu d + 1 ≤ b → b < ibD qu nb n (d + 1) → ∀ j, j < n → b ≠ qu j := fun b h1 h2 j hj e => by
      rcases Nat.lt_trichotomy j d with z | z | z
      · have := hq j d z (by omega); omega
      · rw [z] at e; omega
      · have h3 : ibD qu nb n (d + 1) = qu (d + 1) := if_pos (by omega)
        by_cases e2 : j = d + 1
        · rw [e2] at e; omega
        · have := hq (d + 1) j (by omega) hj; omega
    have inner : ∀ m x cq q, x + m = nx → rqP cq q → trA qu n d cq.1 w →
        rqP (pcX (pcF apc cl gr bg bb ab qu nx r (d + 1)) (fun gi bi ki x => fitB apc cl gr bg bb ab gi bi ki (qu d) x) (qu d) (gr (qu d)) (cl (qu d)) gi bi ki u m x cq) (enX (enS (stQ (kpF ap cl gr bg bb ab nb nx) nb) qu nx r (d + 1)) (qu d) w m (x + 1) q) ∧ trA qu n d (pcX (pcF apc cl gr bg bb ab qu nx r (d + 1)) (fun gi bi ki x => fitB apc cl gr bg bb ab gi bi ki (qu d) x) (qu d) (gr (qu d)) (cl (qu d)) gi bi ki u m x cq).1 w := by
      intro m
      induction m with
      | zero => intro x cq q _ h1 h2; exact ⟨h1, h2⟩
      | succ m ihm =>
        intro x cq q hx hr ht
        rw [pcX, enX_s]
        have hw1 : wyP qu nx n (va_up w (qu d) (x + 1)) := ⟨up_le hw.1 (by omega), fun b hb => by rw [up_n (hb d (by omega))]; exact hw.2 b hb⟩
        have hag : ∀ i, i < qu d → w i = va_up w (qu d) (x + 1) i := fun i hi => (up_n (by omega)).symm
        have hn1 := ns_congr hag hn
        have hcc : ∀ b, va_up w (qu d) (x + 1) b ≠ 0 → cl b ≠ 0 := fun b hb => by
          obtain ⟨j, hj, e⟩ := wy_in hw1 hb
          rw [e]; exact hqc j hj
        have hft := fit_fk (bg := bg) (bb := bb) (ab := ab) hap hn1 up_s (fun b _ hb => hcc b hb) hc9
        have hu1 : (usS (va_up w (qu d) (x + 1)) (qu d + 1)).2 = ndF bi u x := by
          rw [us_put hw1.1 up_s (hn1 x).2.1, ← us_congr (qu d) hag, ← hu]
        by_cases e : ndF bi u x < cq.2.2 ∧ fitB apc cl gr bg bb ab gi bi ki (qu d) x = true
        · rw [if_pos e]
          have hz : ∀ j, qu d + 1 ≤ j → j < qu d + 1 + (ibD qu nb n (d + 1) - (qu d + 1)) → va_up w (qu d) (x + 1) j = 0 := fun j h1 h2 => hw1.2 j (hno j h1 (by omega))
          have hn2 := ns_skips (ns_put hn1 up_s (hqc d (by omega)) (hc9 _)) _ hz
          have hu2 := us_skips _ hz
          rw [show qu d + 1 + (ibD qu nb n (d + 1) - (qu d + 1)) = ibD qu nb n (d + 1) by omega] at hn2 hu2
          have h := dfs_eq hap hc9 hq hqb hqc hnx r (d + 1) (va_up w (qu d) (x + 1)) _ _ _ (va_up cq.1 (qu d) (x + 1), cq.2.1, cq.2.2) q (ndF bi u x) (by omega) hw1 hn2 (by rw [hu2, hu1]) (fun i hi h0 => by
            rcases Nat.lt_trichotomy i (qu d) with z | z | z
            · exact fk_congr (fun j hj => hag j (by omega)) (hf i z (by rw [hag i z]; exact h0))
            · rw [z]; exact hft.mp e.2
            · exact absurd (hw1.2 i (hno i z hi)) h0) hr (fun b hb h1 => by
            show va_up cq.1 (qu d) (x + 1) b = va_up w (qu d) (x + 1) b
            by_cases e2 : b = qu d
            · rw [e2, up_s, up_s]
            · rw [up_n e2, up_n e2]
              exact ht b hb (fun j h2 h3 => by
                by_cases e3 : j = d
                · rw [e3]; exact e2
                · exact h1 j (by omega) h3)) e.1
          refine ihm (x + 1) _ _ (by omega) h.1 (fun b hb h1 => ?_)
          rw [h.2 b hb (fun j h2 h3 => h1 j (by omega) h3), up_n (h1 d (Nat.le_refl _) (by omega))]
        · rw [if_neg e]
          have hcut : enS (stQ (kpF ap cl gr bg bb ab nb nx) nb) qu nx r (d + 1) (va_up w (qu d) (x + 1)) q = q := en_cut (n := n) r (d + 1) _ (by omega) hw1.1 (fun W hW hWw => by
            have hag2 : ∀ i, i < qu d + 1 → W i = va_up w (qu d) (x + 1) i := fun i hi => hWw i (fun j h1 h2 => by have := hq d j (by omega) h2; omega)
            refine if_neg (fun z => e ?_)
            have hkp : kpP ap cl gr W bg bb ab nb nx := kpB_iff.mp z.2
            have hfk := bx_fk (hkp x (by omega)) hdn (by rw [hag2 (qu d) (by omega), up_s])
            refine ⟨?_, hft.mpr (fk_congr (fun j hj => hag2 j (by omega)) hfk)⟩
            have h1 := us_mono hW (n := qu d + 1) (m := nb) hdn
            rw [us_congr (qu d + 1) hag2, hu1] at h1
            have h2 := us_le hw1.1 (qu d + 1)
            rw [hu1] at h2
            rcases hr with y | y
            · omega
            · rcases z.1 with v | v
              · omega
              · omega)
          rw [hcut]
          exact ihm (x + 1) cq q (by omega) hr ht
    rw [pcF, enS]
    exact inner nx 0 cq0 q0 (by omega) hr0 ht0
