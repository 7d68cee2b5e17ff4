theorem up_s {α : Type} {f : Nat → α} {i : Nat} {v : α} : va_up f i v i = v := by simp [va_up]
theorem up_n {α : Type} {f : Nat → α} {i j : Nat} {v : α} (h : j ≠ i) : va_up f i v j = f j := by simp [va_up, h]
theorem zI_ltN {v k : Nat} (hv : v < 2 ^ 31) (hk : k < 2 ^ 31) : zI v < nI k ↔ v < k + 1 := by
  by_cases h : v = 0
  · subst h
    rw [zI_0]
    exact ⟨fun _ => Nat.succ_pos k, fun _ => Int32.lt_of_lt_of_le (by decide) (nI_pos' hk)⟩
  · rw [zI_p h, nI_ltI (by omega) hk]
    omega
theorem kdS_le {tx : Nat → Nat} {s e : Nat} : ∀ r k, kdS tx s e r k ≤ k + r
  | 0, _ => Nat.zero_le _
  | r + 1, k => by
    have h := kdS_le (tx := tx) (s := s) (e := e) r (k + 1)
    rw [kdS]
    split <;> omega
theorem ptsK_le (x : Nat) : ptsK x ≤ 3 := by unfold ptsK; (repeat' split) <;> omega
theorem lsK_le (x p : Nat) : lsK x p ≤ 1 := by unfold lsK; split <;> omega
theorem grK_le (x p : Nat) : grK x p ≤ 999999 := by
  unfold grK
  (repeat' split) <;> omega
theorem skB_nb {tx : Nat → Nat} : ∀ r i, skB tx r i < i + r → blk (tx (skB tx r i)) = false
  | 0, i, h => absurd h (Nat.lt_irrefl _)
  | r + 1, i, h => by
    rw [skB] at h ⊢
    split at h
    · rename_i z
      rw [if_pos z]
      exact skB_nb r (i + 1) (by omega)
    · rename_i z
      rw [if_neg z]
      cases e : blk (tx i)
      · rfl
      · exact absurd e z
/-- the next word from a place on: where it begins, where it ends, what number it is -/
def wdB (tx : Nat → Nat) (sz en : Nat) : Nat := skB tx (sz - en) en
def wdE (tx : Nat → Nat) (sz en : Nat) : Nat := skW tx (sz - skB tx (sz - en) en) (skB tx (sz - en) en)
def nmV (tx : Nat → Nat) (sz en : Nat) : Nat := if wdB tx sz en < sz then nuN tx (wdB tx sz en) (wdE tx sz en) else 0
theorem wd_le {tx : Nat → Nat} {sz en : Nat} (h : en ≤ sz) : en ≤ wdB tx sz en ∧ wdB tx sz en ≤ sz ∧ wdB tx sz en ≤ wdE tx sz en ∧ wdE tx sz en ≤ sz ∧ (wdB tx sz en < sz → wdB tx sz en < wdE tx sz en) := by
  have h1 := skB_le (tx := tx) (sz - en) en
  have h2 := skW_le (tx := tx) (sz - skB tx (sz - en) en) (skB tx (sz - en) en)
  refine ⟨h1.1, ?_, h2.1, ?_, fun h3 => ?_⟩
  · show skB tx (sz - en) en ≤ sz; omega
  · show skW tx (sz - skB tx (sz - en) en) (skB tx (sz - en) en) ≤ sz; omega
  · have h4 : skB tx (sz - en) en < sz := h3
    have h5 := skB_nb (tx := tx) (sz - en) en (by omega)
    show skB tx (sz - en) en < skW tx (sz - skB tx (sz - en) en) (skB tx (sz - en) en)
    rw [show sz - skB tx (sz - en) en = (sz - skB tx (sz - en) en - 1) + 1 by omega, skW, if_neg (by rw [h5]; decide)]
    have h6 := (skW_le (tx := tx) (sz - skB tx (sz - en) en - 1) (skB tx (sz - en) en + 1)).1
    omega
theorem nmV_le {tx : Nat → Nat} {sz en : Nat} : nmV tx sz en ≤ 1000000 := by
  unfold nmV nuN
  split
  · split
    · rename_i h
      exact nuS_le _ _ 1 (Nat.pow_pos (by decide)) h.2
    · omega
  · omega
theorem nmV_lt {tx : Nat → Nat} {sz en : Nat} (h : nmV tx sz en ≠ 0) : wdB tx sz en < sz := by
  unfold nmV at h
  split at h
  · assumption
  · exact absurd rfl h
/-- whether a number can stand -/
def gdN (x p v : Nat) (td nc mc mg : Nat → Nat) : Bool := decide (lsK x p + 1 ≤ v ∧ v ≤ grK x p + 1 ∧ ¬ (x = 6 ∧ p = 0 ∧ nc (v - 1) = 8) ∧ ¬ (x = 4 ∧ p = 1 ∧ mpS mg (td 0 - 1) (v - 1) (mc (td 0 - 1)) 0 = 6))
/-- the numbers of a sentence: whether all can stand, how many words, where it ends, what is told -/
def inS (tx : Nat → Nat) (sz x : Nat) (nc mc mg : Nat → Nat) : Nat → Nat → Nat → Nat → (Nat → Nat) → Bool × Nat × Nat × (Nat → Nat)
  | 0, _, c, en, td => (true, c, en, td)
  | r + 1, p, c, en, td => if gdN x p (nmV tx sz en) td nc mc mg = true then inS tx sz x nc mc mg r (p + 1) (c + 1) (wdE tx sz en) (va_up td p (nmV tx sz en)) else (false, c, 0, fun _ => 0)
theorem inS_s (tx : Nat → Nat) (sz x : Nat) (nc mc mg : Nat → Nat) (r p c en : Nat) (td : Nat → Nat) : inS tx sz x nc mc mg (r + 1) p c en td = if gdN x p (nmV tx sz en) td nc mc mg = true then inS tx sz x nc mc mg r (p + 1) (c + 1) (wdE tx sz en) (va_up td p (nmV tx sz en)) else (false, c, 0, fun _ => 0) := rfl
abbrev qMc (q : RT) : Nat → Nat := q.2.2.2.2.2.1
abbrev qMg (q : RT) : Nat → Nat := q.2.2.2.2.2.2.1
abbrev qNc (q : RT) : Nat → Nat := q.2.2.2.2.2.2.2.2.1
/-- the sentences from a place on: whether all can stand, how many (or the word that can't), what is told -/
def rdS (tx : Nat → Nat) (sz : Nat) : Nat → Nat → Nat → Nat → RT → (Nat → Nat) → Bool × Nat × RT
  | 0, _, _, n, q, _ => (true, n, q)
  | f + 1, en, c, n, q, td =>
    if wdB tx sz en < sz then
      if kdS tx (wdB tx sz en) (wdE tx sz en) 9 0 = 0 ∨ (kdS tx (wdB tx sz en) (wdE tx sz en) 9 0 = 7 ∧ hrS (qNc q) 4 = false) then (false, c, q)
      else
        if (inS tx sz (kdS tx (wdB tx sz en) (wdE tx sz en) 9 0 - 1) (qNc q) (qMc q) (qMg q) (ptsK (kdS tx (wdB tx sz en) (wdE tx sz en) 9 0 - 1)) 0 (c + 1) (wdE tx sz en) td).1 = true then
          rdS tx sz f (inS tx sz (kdS tx (wdB tx sz en) (wdE tx sz en) 9 0 - 1) (qNc q) (qMc q) (qMg q) (ptsK (kdS tx (wdB tx sz en) (wdE tx sz en) 9 0 - 1)) 0 (c + 1) (wdE tx sz en) td).2.2.1 (inS tx sz (kdS tx (wdB tx sz en) (wdE tx sz en) 9 0 - 1) (qNc q) (qMc q) (qMg q) (ptsK (kdS tx (wdB tx sz en) (wdE tx sz en) 9 0 - 1)) 0 (c + 1) (wdE tx sz en) td).2.1 (n + 1)
            (tellS (kdS tx (wdB tx sz en) (wdE tx sz en) 9 0 - 1) ((inS tx sz (kdS tx (wdB tx sz en) (wdE tx sz en) 9 0 - 1) (qNc q) (qMc q) (qMg q) (ptsK (kdS tx (wdB tx sz en) (wdE tx sz en) 9 0 - 1)) 0 (c + 1) (wdE tx sz en) td).2.2.2 0 - 1) ((inS tx sz (kdS tx (wdB tx sz en) (wdE tx sz en) 9 0 - 1) (qNc q) (qMc q) (qMg q) (ptsK (kdS tx (wdB tx sz en) (wdE tx sz en) 9 0 - 1)) 0 (c + 1) (wdE tx sz en) td).2.2.2 1 - 1) ((inS tx sz (kdS tx (wdB tx sz en) (wdE tx sz en) 9 0 - 1) (qNc q) (qMc q) (qMg q) (ptsK (kdS tx (wdB tx sz en) (wdE tx sz en) 9 0 - 1)) 0 (c + 1) (wdE tx sz en) td).2.2.2 2 - 1) q)
            (inS tx sz (kdS tx (wdB tx sz en) (wdE tx sz en) 9 0 - 1) (qNc q) (qMc q) (qMg q) (ptsK (kdS tx (wdB tx sz en) (wdE tx sz en) 9 0 - 1)) 0 (c + 1) (wdE tx sz en) td).2.2.2
        else (false, (inS tx sz (kdS tx (wdB tx sz en) (wdE tx sz en) 9 0 - 1) (qNc q) (qMc q) (qMg q) (ptsK (kdS tx (wdB tx sz en) (wdE tx sz en) 9 0 - 1)) 0 (c + 1) (wdE tx sz en) td).2.1, q)
    else (true, n, q)
theorem rdS_e {tx : Nat → Nat} {sz f en c n : Nat} {q : RT} {td : Nat → Nat} (h : ¬ wdB tx sz en < sz) : rdS tx sz (f + 1) en c n q td = (true, n, q) := by
  rw [rdS, if_neg h]
theorem rdS_b {tx : Nat → Nat} {sz f en c n : Nat} {q : RT} {td : Nat → Nat} (h : wdB tx sz en < sz) (h2 : kdS tx (wdB tx sz en) (wdE tx sz en) 9 0 = 0 ∨ (kdS tx (wdB tx sz en) (wdE tx sz en) 9 0 = 7 ∧ hrS (qNc q) 4 = false)) : rdS tx sz (f + 1) en c n q td = (false, c, q) := by
  rw [rdS, if_pos h, if_pos h2]
theorem rdS_bad {tx : Nat → Nat} {sz f en c n x : Nat} {q : RT} {td : Nat → Nat} {o : Bool × Nat × Nat × (Nat → Nat)} (h : wdB tx sz en < sz) (h2 : x + 1 = kdS tx (wdB tx sz en) (wdE tx sz en) 9 0) (h3 : ¬ (x = 6 ∧ hrS (qNc q) 4 = false)) (h4 : o = inS tx sz x (qNc q) (qMc q) (qMg q) (ptsK x) 0 (c + 1) (wdE tx sz en) td) (h5 : o.1 = false) : rdS tx sz (f + 1) en c n q td = (false, o.2.1, q) := by
  rw [rdS, if_pos h, ← h2, if_neg (fun z => by rcases z with z | z; omega; exact h3 ⟨by omega, z.2⟩), Nat.add_sub_cancel, ← h4, if_neg (by rw [h5]; decide)]
theorem rdS_good {tx : Nat → Nat} {sz f en c n x : Nat} {q : RT} {td : Nat → Nat} {o : Bool × Nat × Nat × (Nat → Nat)} (h : wdB tx sz en < sz) (h2 : x + 1 = kdS tx (wdB tx sz en) (wdE tx sz en) 9 0) (h3 : ¬ (x = 6 ∧ hrS (qNc q) 4 = false)) (h4 : o = inS tx sz x (qNc q) (qMc q) (qMg q) (ptsK x) 0 (c + 1) (wdE tx sz en) td) (h5 : o.1 = true) : rdS tx sz (f + 1) en c n q td = rdS tx sz f o.2.2.1 o.2.1 (n + 1) (tellS x (o.2.2.2 0 - 1) (o.2.2.2 1 - 1) (o.2.2.2 2 - 1) q) o.2.2.2 := by
  rw [rdS, if_pos h, ← h2, if_neg (fun z => by rcases z with z | z; omega; exact h3 ⟨by omega, z.2⟩), Nat.add_sub_cancel, ← h4, if_pos h5]
abbrev rtOk (q : RT) : Prop := (∀ c, qMc q c ≤ 6) ∧ (∀ c, qMg q c ≤ 999999) ∧ (∀ c, qNc q c ≤ 8)
theorem tell_ok {x a b c : Nat} {q : RT} (hq : rtOk q) (hb : x = 4 → b ≤ 999999) (hm : x = 4 → mpS (qMg q) a b (qMc q a) 0 < 6) (hn : x = 6 → qNc q a < 8) : rtOk (tellS x a b c q) := by
  obtain ⟨ap, pt, rk, cd, fr, mc, mg, mz, nc, nt, ld⟩ := q
  by_cases h4 : x = 4
  · subst h4
    have hb' := hb rfl
    have hm' : mpS mg a b (mc a) 0 < 6 := hm rfl
    refine ⟨fun j => ?_, fun j => ?_, hq.2.2⟩
    · show va_up mc a _ j ≤ 6
      have h1 : mc j ≤ 6 := hq.1 j
      have h2 := (mpS_le (mg := mg) (c := a) (g := b) (mc a) 0).2
      by_cases e : j = a
      · subst e; rw [up_s]; split <;> omega
      · rw [up_n e]; exact h1
    · show va_up mg _ b j ≤ 999999
      have h1 : mg j ≤ 999999 := hq.2.1 j
      by_cases e : j = 6 * a + mpS mg a b (mc a) 0
      · rw [e, up_s]; exact hb'
      · rw [up_n e]; exact h1
  · by_cases h6 : x = 6
    · subst h6
      have hn' : nc a < 8 := hn rfl
      refine ⟨hq.1, hq.2.1, fun j => ?_⟩
      show va_up nc a (nc a + 1) j ≤ 8
      have h1 : nc j ≤ 8 := hq.2.2 j
      by_cases e : j = a
      · subst e; rw [up_s]; omega
      · rw [up_n e]; exact h1
    · rcases x with _ | _ | _ | _ | _ | _ | _ | _ | x
      all_goals first | exact hq | omega
theorem mv_Md_111 : wk_V R_Md 111 R_Md y_Md_clearNew b_Md_clearNew 2 none 0 := ⟨(gd _ (tb2 _ (List.mem_of_getElem? (i := 147) rfl)) rfl), (gd _ (tb0 _ (List.mem_of_getElem? (i := 8) rfl)) rfl), (gd _ (tb2 _ (List.mem_of_getElem? (i := 144) rfl)) rfl), (by decide +kernel), (gd _ (tb2 _ (List.mem_of_getElem? (i := 146) rfl)) rfl), (gd _ (List.mem_append_left _ (by decide +kernel)) rfl)⟩
theorem mv_Md_179 : wk_V R_Md 179 R_Md y_Md_next b_Md_next 1 (some .boolean) 0 := ⟨(gd _ (tb3 _ (List.mem_of_getElem? (i := 67) rfl)) rfl), (gd _ (tb0 _ (List.mem_of_getElem? (i := 8) rfl)) rfl), (gd _ (tb3 _ (List.mem_of_getElem? (i := 64) rfl)) rfl), (by decide +kernel), (gd _ (tb3 _ (List.mem_of_getElem? (i := 66) rfl)) rfl), (gd _ (List.mem_append_left _ (by decide +kernel)) rfl)⟩
theorem mv_Md_183 : wk_V R_Md 183 R_Md y_Md_sentence b_Md_sentence 1 (some .int) 0 := ⟨(gd _ (tb3 _ (List.mem_of_getElem? (i := 74) rfl)) rfl), (gd _ (tb0 _ (List.mem_of_getElem? (i := 8) rfl)) rfl), (gd _ (tb3 _ (List.mem_of_getElem? (i := 71) rfl)) rfl), (by decide +kernel), (gd _ (tb3 _ (List.mem_of_getElem? (i := 73) rfl)) rfl), (gd _ (List.mem_append_left _ (by decide +kernel)) rfl)⟩
theorem mv_Md_187 : wk_V R_Md 187 R_Md y_Md_hasRoom b_Md_hasRoom 3 (some .boolean) 0 := ⟨(gd _ (tb3 _ (List.mem_of_getElem? (i := 92) rfl)) rfl), (gd _ (tb0 _ (List.mem_of_getElem? (i := 8) rfl)) rfl), (gd _ (tb3 _ (List.mem_of_getElem? (i := 89) rfl)) rfl), (by decide +kernel), (gd _ (tb3 _ (List.mem_of_getElem? (i := 91) rfl)) rfl), (gd _ (List.mem_append_left _ (by decide +kernel)) rfl)⟩
theorem mv_Md_190 : wk_T R_Md 190 y_Md_parts b_Md_parts 1 (some .int) 1 := ⟨(gd _ (tb3 _ (List.mem_of_getElem? (i := 95) rfl)) rfl), (gd _ (tb0 _ (List.mem_of_getElem? (i := 8) rfl)) rfl), (gd _ (tb3 _ (List.mem_of_getElem? (i := 93) rfl)) rfl), (by decide +kernel), (gd _ (tb3 _ (List.mem_of_getElem? (i := 94) rfl)) rfl)⟩
theorem mv_Md_194 : wk_V R_Md 194 R_Md y_Md_numberAt b_Md_numberAt 3 (some .int) 0 := ⟨(gd _ (tb3 _ (List.mem_of_getElem? (i := 99) rfl)) rfl), (gd _ (tb0 _ (List.mem_of_getElem? (i := 8) rfl)) rfl), (gd _ (tb3 _ (List.mem_of_getElem? (i := 96) rfl)) rfl), (by decide +kernel), (gd _ (tb3 _ (List.mem_of_getElem? (i := 98) rfl)) rfl), (gd _ (List.mem_append_left _ (by decide +kernel)) rfl)⟩
theorem mv_Md_197 : wk_T R_Md 197 y_Md_least b_Md_least 2 (some .int) 2 := ⟨(gd _ (tb3 _ (List.mem_of_getElem? (i := 102) rfl)) rfl), (gd _ (tb0 _ (List.mem_of_getElem? (i := 8) rfl)) rfl), (gd _ (tb3 _ (List.mem_of_getElem? (i := 100) rfl)) rfl), (by decide +kernel), (gd _ (tb3 _ (List.mem_of_getElem? (i := 101) rfl)) rfl)⟩
theorem mv_Md_200 : wk_T R_Md 200 y_Md_greatest b_Md_greatest 2 (some .int) 2 := ⟨(gd _ (tb3 _ (List.mem_of_getElem? (i := 105) rfl)) rfl), (gd _ (tb0 _ (List.mem_of_getElem? (i := 8) rfl)) rfl), (gd _ (tb3 _ (List.mem_of_getElem? (i := 103) rfl)) rfl), (by decide +kernel), (gd _ (tb3 _ (List.mem_of_getElem? (i := 104) rfl)) rfl)⟩
theorem fl_Md_108 : Cond.fieldLink R_Md 108 R_Md "told" "[I" ∈ lw_gd := (gd _ (tb2 _ (List.mem_of_getElem? (i := 194) rfl)) rfl)
theorem mv_Md_203 : wk_V R_Md 203 R_Md y_Md_tell b_Md_tell 6 none 4 := ⟨(gd _ (tb3 _ (List.mem_of_getElem? (i := 114) rfl)) rfl), (gd _ (tb0 _ (List.mem_of_getElem? (i := 8) rfl)) rfl), (gd _ (tb3 _ (List.mem_of_getElem? (i := 111) rfl)) rfl), (by decide +kernel), (gd _ (tb3 _ (List.mem_of_getElem? (i := 113) rfl)) rfl), (gd _ (List.mem_append_left _ (by decide +kernel)) rfl)⟩
theorem mv_Md_114 : wk_V R_Md 114 R_Md y_Md_take b_Md_take 2 none 0 := ⟨(gd _ (tb2 _ (List.mem_of_getElem? (i := 151) rfl)) rfl), (gd _ (tb0 _ (List.mem_of_getElem? (i := 8) rfl)) rfl), (gd _ (tb2 _ (List.mem_of_getElem? (i := 148) rfl)) rfl), (by decide +kernel), (gd _ (tb2 _ (List.mem_of_getElem? (i := 150) rfl)) rfl), (gd _ (List.mem_append_left _ (by decide +kernel)) rfl)⟩
theorem d_Md_rules_0 : decode b_Md_rules 0 = .ok (.aload_n 0, 1) := by decide +kernel
theorem d_Md_rules_1 : decode b_Md_rules 1 = .ok (.invokevirtual 111, 3) := by decide +kernel
theorem d_Md_rules_4 : decode b_Md_rules 4 = .ok (.aload_n 0, 1) := by decide +kernel
theorem d_Md_rules_5 : decode b_Md_rules 5 = .ok (.iconst 0, 1) := by decide +kernel
theorem d_Md_rules_6 : decode b_Md_rules 6 = .ok (.putfield 140, 3) := by decide +kernel
theorem d_Md_rules_9 : decode b_Md_rules 9 = .ok (.iconst 0, 1) := by decide +kernel
theorem d_Md_rules_10 : decode b_Md_rules 10 = .ok (.istore_n 1, 1) := by decide +kernel
theorem d_Md_rules_11 : decode b_Md_rules 11 = .ok (.iconst 0, 1) := by decide +kernel
theorem d_Md_rules_12 : decode b_Md_rules 12 = .ok (.istore_n 2, 1) := by decide +kernel
theorem d_Md_rules_13 : decode b_Md_rules 13 = .ok (.iconst (-1), 1) := by decide +kernel
theorem d_Md_rules_14 : decode b_Md_rules 14 = .ok (.istore_n 3, 1) := by decide +kernel
theorem d_Md_rules_15 : decode b_Md_rules 15 = .ok (.iload_n 3, 1) := by decide +kernel
theorem d_Md_rules_16 : decode b_Md_rules 16 = .ok (.ifCond .ge 258, 3) := by decide +kernel
theorem d_Md_rules_19 : decode b_Md_rules 19 = .ok (.aload_n 0, 1) := by decide +kernel
theorem d_Md_rules_20 : decode b_Md_rules 20 = .ok (.invokevirtual 179, 3) := by decide +kernel
theorem d_Md_rules_23 : decode b_Md_rules 23 = .ok (.ifCond .eq 251, 3) := by decide +kernel
theorem d_Md_rules_26 : decode b_Md_rules 26 = .ok (.aload_n 0, 1) := by decide +kernel
theorem d_Md_rules_27 : decode b_Md_rules 27 = .ok (.invokevirtual 183, 3) := by decide +kernel
theorem d_Md_rules_30 : decode b_Md_rules 30 = .ok (.istore 4, 2) := by decide +kernel
theorem d_Md_rules_32 : decode b_Md_rules 32 = .ok (.iload 4, 2) := by decide +kernel
theorem d_Md_rules_34 : decode b_Md_rules 34 = .ok (.ifCond .lt 17, 3) := by decide +kernel
theorem d_Md_rules_37 : decode b_Md_rules 37 = .ok (.iload 4, 2) := by decide +kernel
theorem d_Md_rules_39 : decode b_Md_rules 39 = .ok (.bipush 6, 2) := by decide +kernel
theorem d_Md_rules_41 : decode b_Md_rules 41 = .ok (.if_icmp .ne 15, 3) := by decide +kernel
theorem d_Md_rules_44 : decode b_Md_rules 44 = .ok (.aload_n 0, 1) := by decide +kernel
theorem d_Md_rules_45 : decode b_Md_rules 45 = .ok (.invokevirtual 187, 3) := by decide +kernel
theorem d_Md_rules_48 : decode b_Md_rules 48 = .ok (.ifCond .ne 8, 3) := by decide +kernel
theorem d_Md_rules_51 : decode b_Md_rules 51 = .ok (.iload_n 1, 1) := by decide +kernel
theorem d_Md_rules_52 : decode b_Md_rules 52 = .ok (.istore_n 3, 1) := by decide +kernel
theorem d_Md_rules_53 : decode b_Md_rules 53 = .ok (.goto 221, 3) := by decide +kernel
theorem d_Md_rules_56 : decode b_Md_rules 56 = .ok (.iinc 1 1, 3) := by decide +kernel
theorem d_Md_rules_59 : decode b_Md_rules 59 = .ok (.iconst 0, 1) := by decide +kernel
theorem d_Md_rules_60 : decode b_Md_rules 60 = .ok (.istore 5, 2) := by decide +kernel
theorem d_Md_rules_62 : decode b_Md_rules 62 = .ok (.iload 5, 2) := by decide +kernel
theorem d_Md_rules_64 : decode b_Md_rules 64 = .ok (.iload 4, 2) := by decide +kernel
theorem d_Md_rules_66 : decode b_Md_rules 66 = .ok (.invokestatic 190, 3) := by decide +kernel
theorem d_Md_rules_69 : decode b_Md_rules 69 = .ok (.if_icmp .ge 171, 3) := by decide +kernel
theorem d_Md_rules_72 : decode b_Md_rules 72 = .ok (.iload_n 3, 1) := by decide +kernel
theorem d_Md_rules_73 : decode b_Md_rules 73 = .ok (.ifCond .ge 167, 3) := by decide +kernel
theorem d_Md_rules_76 : decode b_Md_rules 76 = .ok (.aload_n 0, 1) := by decide +kernel
theorem d_Md_rules_77 : decode b_Md_rules 77 = .ok (.invokevirtual 179, 3) := by decide +kernel
theorem d_Md_rules_80 : decode b_Md_rules 80 = .ok (.ifCond .eq 10, 3) := by decide +kernel
theorem d_Md_rules_83 : decode b_Md_rules 83 = .ok (.aload_n 0, 1) := by decide +kernel
theorem d_Md_rules_84 : decode b_Md_rules 84 = .ok (.invokevirtual 194, 3) := by decide +kernel
theorem d_Md_rules_87 : decode b_Md_rules 87 = .ok (.goto 4, 3) := by decide +kernel
theorem d_Md_rules_90 : decode b_Md_rules 90 = .ok (.iconst (-1), 1) := by decide +kernel
theorem d_Md_rules_91 : decode b_Md_rules 91 = .ok (.istore 6, 2) := by decide +kernel
theorem d_Md_rules_93 : decode b_Md_rules 93 = .ok (.iload 6, 2) := by decide +kernel
theorem d_Md_rules_95 : decode b_Md_rules 95 = .ok (.iload 4, 2) := by decide +kernel
theorem d_Md_rules_97 : decode b_Md_rules 97 = .ok (.iload 5, 2) := by decide +kernel
theorem d_Md_rules_99 : decode b_Md_rules 99 = .ok (.invokestatic 197, 3) := by decide +kernel
theorem d_Md_rules_102 : decode b_Md_rules 102 = .ok (.if_icmp .lt 19, 3) := by decide +kernel
theorem d_Md_rules_105 : decode b_Md_rules 105 = .ok (.iload 6, 2) := by decide +kernel
theorem d_Md_rules_107 : decode b_Md_rules 107 = .ok (.iload 4, 2) := by decide +kernel
theorem d_Md_rules_109 : decode b_Md_rules 109 = .ok (.iload 5, 2) := by decide +kernel
theorem d_Md_rules_111 : decode b_Md_rules 111 = .ok (.invokestatic 200, 3) := by decide +kernel
theorem d_Md_rules_114 : decode b_Md_rules 114 = .ok (.if_icmp .gt 7, 3) := by decide +kernel
theorem d_Md_rules_117 : decode b_Md_rules 117 = .ok (.iconst 1, 1) := by decide +kernel
theorem d_Md_rules_118 : decode b_Md_rules 118 = .ok (.goto 4, 3) := by decide +kernel
theorem d_Md_rules_121 : decode b_Md_rules 121 = .ok (.iconst 0, 1) := by decide +kernel
theorem d_Md_rules_122 : decode b_Md_rules 122 = .ok (.istore 7, 2) := by decide +kernel
theorem d_Md_rules_124 : decode b_Md_rules 124 = .ok (.iload 7, 2) := by decide +kernel
theorem d_Md_rules_126 : decode b_Md_rules 126 = .ok (.ifCond .eq 31, 3) := by decide +kernel
theorem d_Md_rules_129 : decode b_Md_rules 129 = .ok (.iload 4, 2) := by decide +kernel
theorem d_Md_rules_131 : decode b_Md_rules 131 = .ok (.bipush 6, 2) := by decide +kernel
theorem d_Md_rules_133 : decode b_Md_rules 133 = .ok (.if_icmp .ne 20, 3) := by decide +kernel
theorem d_Md_rules_136 : decode b_Md_rules 136 = .ok (.iload 5, 2) := by decide +kernel
theorem d_Md_rules_138 : decode b_Md_rules 138 = .ok (.ifCond .ne 15, 3) := by decide +kernel
theorem d_Md_rules_141 : decode b_Md_rules 141 = .ok (.aload_n 0, 1) := by decide +kernel
theorem d_Md_rules_142 : decode b_Md_rules 142 = .ok (.getfield 65, 3) := by decide +kernel
theorem d_Md_rules_145 : decode b_Md_rules 145 = .ok (.iload 6, 2) := by decide +kernel
theorem d_Md_rules_147 : decode b_Md_rules 147 = .ok (.iaload, 1) := by decide +kernel
theorem d_Md_rules_148 : decode b_Md_rules 148 = .ok (.bipush 8, 2) := by decide +kernel
theorem d_Md_rules_150 : decode b_Md_rules 150 = .ok (.if_icmp .eq 7, 3) := by decide +kernel
theorem d_Md_rules_153 : decode b_Md_rules 153 = .ok (.iconst 1, 1) := by decide +kernel
theorem d_Md_rules_154 : decode b_Md_rules 154 = .ok (.goto 4, 3) := by decide +kernel
theorem d_Md_rules_157 : decode b_Md_rules 157 = .ok (.iconst 0, 1) := by decide +kernel
theorem d_Md_rules_158 : decode b_Md_rules 158 = .ok (.istore 7, 2) := by decide +kernel
theorem d_Md_rules_160 : decode b_Md_rules 160 = .ok (.iload 7, 2) := by decide +kernel
theorem d_Md_rules_162 : decode b_Md_rules 162 = .ok (.ifCond .eq 36, 3) := by decide +kernel
theorem d_Md_rules_165 : decode b_Md_rules 165 = .ok (.iload 4, 2) := by decide +kernel
theorem d_Md_rules_167 : decode b_Md_rules 167 = .ok (.iconst 4, 1) := by decide +kernel
theorem d_Md_rules_168 : decode b_Md_rules 168 = .ok (.if_icmp .ne 26, 3) := by decide +kernel
theorem d_Md_rules_171 : decode b_Md_rules 171 = .ok (.iload 5, 2) := by decide +kernel
theorem d_Md_rules_173 : decode b_Md_rules 173 = .ok (.iconst 1, 1) := by decide +kernel
theorem d_Md_rules_174 : decode b_Md_rules 174 = .ok (.if_icmp .ne 20, 3) := by decide +kernel
theorem d_Md_rules_177 : decode b_Md_rules 177 = .ok (.aload_n 0, 1) := by decide +kernel
theorem d_Md_rules_178 : decode b_Md_rules 178 = .ok (.aload_n 0, 1) := by decide +kernel
theorem d_Md_rules_179 : decode b_Md_rules 179 = .ok (.getfield 108, 3) := by decide +kernel
theorem d_Md_rules_182 : decode b_Md_rules 182 = .ok (.iconst 0, 1) := by decide +kernel
theorem d_Md_rules_183 : decode b_Md_rules 183 = .ok (.iaload, 1) := by decide +kernel
theorem d_Md_rules_184 : decode b_Md_rules 184 = .ok (.iload 6, 2) := by decide +kernel
theorem d_Md_rules_186 : decode b_Md_rules 186 = .ok (.invokevirtual 175, 3) := by decide +kernel
theorem d_Md_rules_189 : decode b_Md_rules 189 = .ok (.bipush 6, 2) := by decide +kernel
theorem d_Md_rules_191 : decode b_Md_rules 191 = .ok (.if_icmp .eq 7, 3) := by decide +kernel
theorem d_Md_rules_194 : decode b_Md_rules 194 = .ok (.iconst 1, 1) := by decide +kernel
theorem d_Md_rules_195 : decode b_Md_rules 195 = .ok (.goto 4, 3) := by decide +kernel
theorem d_Md_rules_198 : decode b_Md_rules 198 = .ok (.iconst 0, 1) := by decide +kernel
theorem d_Md_rules_199 : decode b_Md_rules 199 = .ok (.istore 7, 2) := by decide +kernel
theorem d_Md_rules_201 : decode b_Md_rules 201 = .ok (.iload 7, 2) := by decide +kernel
theorem d_Md_rules_203 : decode b_Md_rules 203 = .ok (.ifCond .eq 7, 3) := by decide +kernel
theorem d_Md_rules_206 : decode b_Md_rules 206 = .ok (.iconst (-1), 1) := by decide +kernel
theorem d_Md_rules_207 : decode b_Md_rules 207 = .ok (.goto 4, 3) := by decide +kernel
theorem d_Md_rules_210 : decode b_Md_rules 210 = .ok (.iload_n 1, 1) := by decide +kernel
theorem d_Md_rules_211 : decode b_Md_rules 211 = .ok (.istore_n 3, 1) := by decide +kernel
theorem d_Md_rules_212 : decode b_Md_rules 212 = .ok (.aload_n 0, 1) := by decide +kernel
theorem d_Md_rules_213 : decode b_Md_rules 213 = .ok (.getfield 108, 3) := by decide +kernel
theorem d_Md_rules_216 : decode b_Md_rules 216 = .ok (.iload 5, 2) := by decide +kernel
theorem d_Md_rules_218 : decode b_Md_rules 218 = .ok (.iload 6, 2) := by decide +kernel
theorem d_Md_rules_220 : decode b_Md_rules 220 = .ok (.iastore, 1) := by decide +kernel
theorem d_Md_rules_221 : decode b_Md_rules 221 = .ok (.iload_n 1, 1) := by decide +kernel
theorem d_Md_rules_222 : decode b_Md_rules 222 = .ok (.iload 7, 2) := by decide +kernel
theorem d_Md_rules_224 : decode b_Md_rules 224 = .ok (.ifCond .eq 7, 3) := by decide +kernel
theorem d_Md_rules_227 : decode b_Md_rules 227 = .ok (.iconst 1, 1) := by decide +kernel
theorem d_Md_rules_228 : decode b_Md_rules 228 = .ok (.goto 4, 3) := by decide +kernel
theorem d_Md_rules_231 : decode b_Md_rules 231 = .ok (.iconst 0, 1) := by decide +kernel
theorem d_Md_rules_232 : decode b_Md_rules 232 = .ok (.iadd, 1) := by decide +kernel
theorem d_Md_rules_233 : decode b_Md_rules 233 = .ok (.istore_n 1, 1) := by decide +kernel
theorem d_Md_rules_234 : decode b_Md_rules 234 = .ok (.iinc 5 1, 3) := by decide +kernel
theorem d_Md_rules_237 : decode b_Md_rules 237 = .ok (.goto (-175), 3) := by decide +kernel
theorem d_Md_rules_240 : decode b_Md_rules 240 = .ok (.iload_n 3, 1) := by decide +kernel
theorem d_Md_rules_241 : decode b_Md_rules 241 = .ok (.ifCond .ge 30, 3) := by decide +kernel
theorem d_Md_rules_244 : decode b_Md_rules 244 = .ok (.aload_n 0, 1) := by decide +kernel
theorem d_Md_rules_245 : decode b_Md_rules 245 = .ok (.iload 4, 2) := by decide +kernel
theorem d_Md_rules_247 : decode b_Md_rules 247 = .ok (.aload_n 0, 1) := by decide +kernel
theorem d_Md_rules_248 : decode b_Md_rules 248 = .ok (.getfield 108, 3) := by decide +kernel
theorem d_Md_rules_251 : decode b_Md_rules 251 = .ok (.iconst 0, 1) := by decide +kernel
theorem d_Md_rules_252 : decode b_Md_rules 252 = .ok (.iaload, 1) := by decide +kernel
theorem d_Md_rules_253 : decode b_Md_rules 253 = .ok (.aload_n 0, 1) := by decide +kernel
theorem d_Md_rules_254 : decode b_Md_rules 254 = .ok (.getfield 108, 3) := by decide +kernel
theorem d_Md_rules_257 : decode b_Md_rules 257 = .ok (.iconst 1, 1) := by decide +kernel
theorem d_Md_rules_258 : decode b_Md_rules 258 = .ok (.iaload, 1) := by decide +kernel
theorem d_Md_rules_259 : decode b_Md_rules 259 = .ok (.aload_n 0, 1) := by decide +kernel
theorem d_Md_rules_260 : decode b_Md_rules 260 = .ok (.getfield 108, 3) := by decide +kernel
theorem d_Md_rules_263 : decode b_Md_rules 263 = .ok (.iconst 2, 1) := by decide +kernel
theorem d_Md_rules_264 : decode b_Md_rules 264 = .ok (.iaload, 1) := by decide +kernel
theorem d_Md_rules_265 : decode b_Md_rules 265 = .ok (.invokevirtual 203, 3) := by decide +kernel
theorem d_Md_rules_268 : decode b_Md_rules 268 = .ok (.iinc 2 1, 3) := by decide +kernel
theorem d_Md_rules_271 : decode b_Md_rules 271 = .ok (.goto (-256), 3) := by decide +kernel
theorem d_Md_rules_274 : decode b_Md_rules 274 = .ok (.aload_n 0, 1) := by decide +kernel
theorem d_Md_rules_275 : decode b_Md_rules 275 = .ok (.iconst 0, 1) := by decide +kernel
theorem d_Md_rules_276 : decode b_Md_rules 276 = .ok (.putfield 127, 3) := by decide +kernel
theorem d_Md_rules_279 : decode b_Md_rules 279 = .ok (.aload_n 0, 1) := by decide +kernel
theorem d_Md_rules_280 : decode b_Md_rules 280 = .ok (.iconst 0, 1) := by decide +kernel
theorem d_Md_rules_281 : decode b_Md_rules 281 = .ok (.putfield 130, 3) := by decide +kernel
theorem d_Md_rules_284 : decode b_Md_rules 284 = .ok (.iload_n 3, 1) := by decide +kernel
theorem d_Md_rules_285 : decode b_Md_rules 285 = .ok (.ifCond .lt 7, 3) := by decide +kernel
theorem d_Md_rules_288 : decode b_Md_rules 288 = .ok (.iconst (-1), 1) := by decide +kernel
theorem d_Md_rules_289 : decode b_Md_rules 289 = .ok (.iload_n 3, 1) := by decide +kernel
theorem d_Md_rules_290 : decode b_Md_rules 290 = .ok (.isub, 1) := by decide +kernel
theorem d_Md_rules_291 : decode b_Md_rules 291 = .ok (.ireturn, 1) := by decide +kernel
theorem d_Md_rules_292 : decode b_Md_rules 292 = .ok (.aload_n 0, 1) := by decide +kernel
theorem d_Md_rules_293 : decode b_Md_rules 293 = .ok (.invokevirtual 114, 3) := by decide +kernel
theorem d_Md_rules_296 : decode b_Md_rules 296 = .ok (.iload_n 2, 1) := by decide +kernel
theorem d_Md_rules_297 : decode b_Md_rules 297 = .ok (.ireturn, 1) := by decide +kernel
set_option maxHeartbeats 4000000 in
set_option maxRecDepth 100000 in
theorem c_Md_rules (l : Launch) (D : va_G) (cI : CiT) (z : GzT) (m : Nat → Nat) (tx : (Nat → Nat)) (sz : Nat) (ap : (Nat → Bool)) (pt : (Nat → Nat)) (rk : (Nat → Nat)) (cd : (Nat → Nat)) (fr : Nat) (mc : (Nat → Nat)) (mg : (Nat → Nat)) (mz : (Nat → Nat)) (nc : (Nat → Nat)) (nt : (Nat → Nat)) (ld : (Nat → Nat)) (qap : (Nat → Bool)) (qpt : (Nat → Nat)) (qrk : (Nat → Nat)) (qcd : (Nat → Nat)) (qfr : Nat) (qmc : (Nat → Nat)) (qmg : (Nat → Nat)) (qmz : (Nat → Nat)) (qnc : (Nat → Nat)) (qnt : (Nat → Nat)) (qld : (Nat → Nat)) (nb : Nat) (cl : (Nat → Nat)) (gr : (Nat → Nat)) (sp : (Nat → Nat)) (ot : (Nat → Bool)) (na : Nat) (aw : (Nat → Nat)) (nx : Nat) (bg : (Nat → Nat)) (bb : (Nat → Nat)) (ab : (Nat → Nat)) (fd : Bool) (pv : Bool) (bx : (Nat → Nat)) (wy : (Nat → Nat)) (li : (Nat → Nat)) (fm : Nat) (en : Nat) (nu : Nat) (td : (Nat → Nat)) (lf : Int32) (lk : Int32) (hsz : sz ≤ 1500) (htx : ∀ i, tx i < 256) (hmg : ∀ c, qmg c ≤ 999999) : wk_C l D (tyK cI) (gX z) y_Md_rules b_Md_rules 8 (some .int) 2 48 0 0 [.ref (m 0)] (wMd m cI tx sz ap pt rk cd fr mc mg mz nc nt ld qap qpt qrk qcd qfr qmc qmg qmz qnc qnt qld nb cl gr sp ot na aw nx bg bb ab fd pv bx wy li fm en nu td lf lk) wk_i (fun (r : Int32) (u : Nat × Nat × (Nat → Nat) × (Nat → Bool) × (Nat → Nat) × (Nat → Nat) × (Nat → Nat) × Nat × (Nat → Nat) × (Nat → Nat) × (Nat → Nat) × (Nat → Nat) × (Nat → Nat) × (Nat → Nat) × (Nat → Bool) × (Nat → Nat) × (Nat → Nat) × (Nat → Nat) × Nat × (Nat → Nat) × (Nat → Nat) × (Nat → Nat) × (Nat → Nat) × (Nat → Nat) × (Nat → Nat)) => u.2.2.2.2.2.2.2.2.2.2.2.2.2.2 = (rdS tx sz (sz + 1) 0 0 0 (fun _ => false, fun _ => 0, fun _ => 0, fun _ => 0, 0, fun _ => 0, qmg, qmz, fun _ => 0, qnt, fun _ => 0) td).2.2 ∧ (((rdS tx sz (sz + 1) 0 0 0 (fun _ => false, fun _ => 0, fun _ => 0, fun _ => 0, 0, fun _ => 0, qmg, qmz, fun _ => 0, qnt, fun _ => 0) td).1 = true ∧ r = nI (rdS tx sz (sz + 1) 0 0 0 (fun _ => false, fun _ => 0, fun _ => 0, fun _ => 0, 0, fun _ => 0, qmg, qmz, fun _ => 0, qnt, fun _ => 0) td).2.1 ∧ (u.2.2.2.1, u.2.2.2.2.1, u.2.2.2.2.2.1, u.2.2.2.2.2.2.1, u.2.2.2.2.2.2.2.1, u.2.2.2.2.2.2.2.2.1, u.2.2.2.2.2.2.2.2.2.1, u.2.2.2.2.2.2.2.2.2.2.1, u.2.2.2.2.2.2.2.2.2.2.2.1, u.2.2.2.2.2.2.2.2.2.2.2.2.1, u.2.2.2.2.2.2.2.2.2.2.2.2.2.1) = (rdS tx sz (sz + 1) 0 0 0 (fun _ => false, fun _ => 0, fun _ => 0, fun _ => 0, 0, fun _ => 0, qmg, qmz, fun _ => 0, qnt, fun _ => 0) td).2.2) ∨ ((rdS tx sz (sz + 1) 0 0 0 (fun _ => false, fun _ => 0, fun _ => 0, fun _ => 0, 0, fun _ => 0, qmg, qmz, fun _ => 0, qnt, fun _ => 0) td).1 = false ∧ r = -1 - nI (rdS tx sz (sz + 1) 0 0 0 (fun _ => false, fun _ => 0, fun _ => 0, fun _ => 0, 0, fun _ => 0, qmg, qmz, fun _ => 0, qnt, fun _ => 0) td).2.1 ∧ (u.2.2.2.1, u.2.2.2.2.1, u.2.2.2.2.2.1, u.2.2.2.2.2.2.1, u.2.2.2.2.2.2.2.1, u.2.2.2.2.2.2.2.2.1, u.2.2.2.2.2.2.2.2.2.1, u.2.2.2.2.2.2.2.2.2.2.1, u.2.2.2.2.2.2.2.2.2.2.2.1, u.2.2.2.2.2.2.2.2.2.2.2.2.1, u.2.2.2.2.2.2.2.2.2.2.2.2.2.1) = (ap, pt, rk, cd, fr, mc, mg, mz, nc, nt, ld)))) (fun u => (wMd m cI tx 0 u.2.2.2.1 u.2.2.2.2.1 u.2.2.2.2.2.1 u.2.2.2.2.2.2.1 u.2.2.2.2.2.2.2.1 u.2.2.2.2.2.2.2.2.1 u.2.2.2.2.2.2.2.2.2.1 u.2.2.2.2.2.2.2.2.2.2.1 u.2.2.2.2.2.2.2.2.2.2.2.1 u.2.2.2.2.2.2.2.2.2.2.2.2.1 u.2.2.2.2.2.2.2.2.2.2.2.2.2.1 u.2.2.2.2.2.2.2.2.2.2.2.2.2.2.1 u.2.2.2.2.2.2.2.2.2.2.2.2.2.2.2.1 u.2.2.2.2.2.2.2.2.2.2.2.2.2.2.2.2.1 u.2.2.2.2.2.2.2.2.2.2.2.2.2.2.2.2.2.1 u.2.2.2.2.2.2.2.2.2.2.2.2.2.2.2.2.2.2.1 u.2.2.2.2.2.2.2.2.2.2.2.2.2.2.2.2.2.2.2.1 u.2.2.2.2.2.2.2.2.2.2.2.2.2.2.2.2.2.2.2.2.1 u.2.2.2.2.2.2.2.2.2.2.2.2.2.2.2.2.2.2.2.2.2.1 u.2.2.2.2.2.2.2.2.2.2.2.2.2.2.2.2.2.2.2.2.2.2.1 u.2.2.2.2.2.2.2.2.2.2.2.2.2.2.2.2.2.2.2.2.2.2.2.1 u.2.2.2.2.2.2.2.2.2.2.2.2.2.2.2.2.2.2.2.2.2.2.2.2 nb cl gr sp ot na aw nx bg bb ab fd false bx wy li u.1 u.2.1 nu u.2.2.1 lf lk)) := by
  refine wk_methI (own := R_Md) [(0, .ref (m 0))] (by decide) rfl (Nat.le_of_ble_eq_true rfl) rfl (gX_ok z) (fun p_ e_ R_ s_ m_ ar_ be_ me_ co_ Q_ A_ hR_ S_ hnm_ hQ_ => ?_)
  refine wk_aload_n (pc := 0) S_ 0 d_Md_rules_0 rfl rfl ?_
  refine wk_run (pc := 1) (rest := []) (wr := []) (wN := fun _ => (wMd m cI tx sz ap pt rk cd fr mc mg mz nc nt ld (fun _ => false) (fun _ => 0) (fun _ => 0) (fun _ => 0) 0 (fun _ => 0) qmg qmz (fun _ => 0) qnt (fun _ => 0) nb cl gr sp ot na aw nx bg bb ab fd pv bx wy li fm en nu td lf lk)) S_ (wk_rV S_ (c_Md_clearNew l D cI z (m) (tx) (sz) (ap) (pt) (rk) (cd) (fr) (mc) (mg) (mz) (nc) (nt) (ld) (qap) (qpt) (qrk) (qcd) (qfr) (qmc) (qmg) (qmz) (qnc) (qnt) (qld) (nb) (cl) (gr) (sp) (ot) (na) (aw) (nx) (bg) (bb) (ab) (fd) (pv) (bx) (wy) (li) (fm) (en) (nu) (td) (lf) (lk)) mv_Md_111 (wk_rcv S_ 0 6 rfl rfl rfl) rfl rfl (Nat.le_of_ble_eq_true rfl) (by rw [hR_]; decide) (by rw [hR_]; decide) d_Md_rules_1) [0, 1, 2, 3, 4, 5, 6, 7, 8, 9, 10, 11, 12, 13, 14, 15, 16, 17, 18, 19, 20, 21, 22, 23, 24, 25, 26, 27, 28, 29, 30, 31, 32, 33] [] [0, 1, 2, 3, 4, 5, 6, 7, 8, 9, 10, 11, 12, 13, 14, 15, 16, 17, 18, 19, 20, 21, 22, 23, 24, 25, 26, 27, 28, 29, 30, 31, 32, 33] rfl rfl rfl (by decide) (by decide) (by decide) (by decide) (fun _ => rfl) (fun _ => rfl) (fun r1 _ hw1 => ?_)
  refine wk_st (st' := []) rfl ?_
  refine wk_aload_n (pc := 4) S_ 0 d_Md_rules_4 rfl rfl ?_
  refine wk_iconst (pc := 5) (v := (nI (0))) S_ d_Md_rules_5 (by decide) ?_
  refine wk_put (pc := 6) (ty := .int) (ws' := (wMd m cI tx sz ap pt rk cd fr mc mg mz nc nt ld (fun _ => false) (fun _ => 0) (fun _ => 0) (fun _ => 0) 0 (fun _ => 0) qmg qmz (fun _ => 0) qnt (fun _ => 0) nb cl gr sp ot na aw nx bg bb ab fd pv bx wy li fm 0 nu td lf lk)) S_ 6 41 0 in_Md t_Md t_Md_ok n_Md rfl (by decide) rfl fl_Md_140 (by decide +kernel) d_Md_rules_6 rfl rfl rfl (Nat.le_of_ble_eq_true rfl) rfl ?_
  refine wk_iconst (pc := 9) (v := (nI (0))) S_ d_Md_rules_9 (by decide) ?_
  refine wk_istore_n (pc := 10) (lv' := [(1, .int (nI (0))), (0, .ref (m 0))]) S_ d_Md_rules_10 rfl (by decide) rfl ?_
  refine wk_iconst (pc := 11) (v := (nI (0))) S_ d_Md_rules_11 (by decide) ?_
  refine wk_istore_n (pc := 12) (lv' := [(2, .int (nI (0))), (1, .int (nI (0))), (0, .ref (m 0))]) S_ d_Md_rules_12 rfl (by decide) rfl ?_
  refine wk_iconst (pc := 13) (v := (-1)) S_ d_Md_rules_13 (by decide) ?_
  refine wk_top (y := (zI (0))) zI_0.symm ?_
  refine wk_istore_n (pc := 14) (lv' := [(3, .int (zI (0))), (2, .int (nI (0))), (1, .int (nI (0))), (0, .ref (m 0))]) S_ d_Md_rules_14 rfl (by decide) rfl ?_
  have hL15 : ∀ (fuel15 : Nat), ∀ (f : Nat) (c : Nat) (n : Nat) (bd : Nat) (q : RT) (td1 : Nat → Nat) (en1 : Nat) (fm1 : Nat), (if bd = 0 then sz - en1 + 1 else 0) < fuel15 → ((if bd = 0 then rdS tx sz f en1 c n q td1 else (false, bd - 1, q)) = rdS tx sz (sz + 1) 0 0 0 (fun _ => false, fun _ => 0, fun _ => 0, fun _ => 0, 0, fun _ => 0, qmg, qmz, fun _ => 0, qnt, fun _ => 0) td) → (bd = 0 → sz - en1 < f) → (en1 ≤ sz) → (c ≤ en1 ∧ n ≤ c ∧ bd ≤ 1501) → (rtOk q) → wk_G p_ l e_ R_ s_ m_ ar_ be_ me_ co_ Q_ D A_ 8 0 0 (wMd m cI tx sz ap pt rk cd fr mc mg mz nc nt ld q.1 q.2.1 q.2.2.1 q.2.2.2.1 q.2.2.2.2.1 q.2.2.2.2.2.1 q.2.2.2.2.2.2.1 q.2.2.2.2.2.2.2.1 q.2.2.2.2.2.2.2.2.1 q.2.2.2.2.2.2.2.2.2.1 q.2.2.2.2.2.2.2.2.2.2 nb cl gr sp ot na aw nx bg bb ab fd pv bx wy li fm1 en1 nu td1 lf lk) 15 [(0, .ref (m 0)), (1, .int (nI (c))), (2, .int (nI (n))), (3, .int (zI (bd)))] [] := by
    intro fuel15
    induction fuel15 with
    | zero => intro f c n bd q td1 en1 fm1 hm15; exact absurd hm15 (Nat.not_lt_zero _)
    | succ fuel15 ih15 =>
      intro f c n bd q td1 en1 fm1 hm15 hE hf hen hc hq
      refine wk_iload_n (pc := 15) S_ 3 d_Md_rules_15 rfl rfl ?_
      refine wk_if_geY (pc := 16) (tgt := 274) S_ d_Md_rules_16 (by decide) (by omega) (fun h16 => ?_) (fun h16 => ?_)
      · -- taken
        refine wk_aload_n (pc := 274) S_ 0 d_Md_rules_274 rfl rfl ?_
        refine wk_iconst (pc := 275) (v := (nI (0))) S_ d_Md_rules_275 (by decide) ?_
        refine wk_put (pc := 276) (ty := .int) (ws' := (wMd m cI tx 0 ap pt rk cd fr mc mg mz nc nt ld q.1 q.2.1 q.2.2.1 q.2.2.2.1 q.2.2.2.2.1 q.2.2.2.2.2.1 q.2.2.2.2.2.2.1 q.2.2.2.2.2.2.2.1 q.2.2.2.2.2.2.2.2.1 q.2.2.2.2.2.2.2.2.2.1 q.2.2.2.2.2.2.2.2.2.2 nb cl gr sp ot na aw nx bg bb ab fd pv bx wy li fm1 en1 nu td1 lf lk)) S_ 6 1 0 in_Md t_Md t_Md_ok n_Md rfl (by decide) rfl fl_Md_127 (by decide +kernel) d_Md_rules_276 rfl rfl rfl (Nat.le_of_ble_eq_true rfl) rfl ?_
        refine wk_aload_n (pc := 279) S_ 0 d_Md_rules_279 rfl rfl ?_
        refine wk_iconst (pc := 280) (v := (nI (0))) S_ d_Md_rules_280 (by decide) ?_
        refine wk_put (pc := 281) (ty := .boolean) (ws' := (wMd m cI tx 0 ap pt rk cd fr mc mg mz nc nt ld q.1 q.2.1 q.2.2.1 q.2.2.2.1 q.2.2.2.2.1 q.2.2.2.2.2.1 q.2.2.2.2.2.2.1 q.2.2.2.2.2.2.2.1 q.2.2.2.2.2.2.2.2.1 q.2.2.2.2.2.2.2.2.2.1 q.2.2.2.2.2.2.2.2.2.2 nb cl gr sp ot na aw nx bg bb ab fd false bx wy li fm1 en1 nu td1 lf lk)) S_ 6 36 0 in_Md t_Md t_Md_ok n_Md rfl (by decide) rfl fl_Md_130 (by decide +kernel) d_Md_rules_281 rfl rfl rfl (Nat.le_of_ble_eq_true rfl) rfl ?_
        refine wk_iload_n (pc := 284) S_ 3 d_Md_rules_284 rfl rfl ?_
        refine wk_if_ltY (pc := 285) (tgt := 292) S_ d_Md_rules_285 (by decide) (by omega) (fun h285 => absurd h285 h16) (fun h285 => ?_)
        refine wk_iconst (pc := 288) (v := (-1)) S_ d_Md_rules_288 (by decide) ?_
        refine wk_iload_n (pc := 289) S_ 3 d_Md_rules_289 rfl rfl ?_
        refine wk_isub (pc := 290) S_ d_Md_rules_290 ?_
        exact hQ_ ((-1) - (zI (bd))) (fm1, en1, td1, ap, pt, rk, cd, fr, mc, mg, mz, nc, nt, ld, q.1, q.2.1, q.2.2.1, q.2.2.2.1, q.2.2.2.2.1, q.2.2.2.2.2.1, q.2.2.2.2.2.2.1, q.2.2.2.2.2.2.2.1, q.2.2.2.2.2.2.2.2.1, q.2.2.2.2.2.2.2.2.2.1, q.2.2.2.2.2.2.2.2.2.2) d_Md_rules_291 rfl (by rw [← hE, if_neg h16]; exact ⟨rfl, Or.inr ⟨rfl, by show -1 - zI bd = -1 - nI (bd - 1); rw [zI_p h16], rfl⟩⟩)
      · -- on
        subst h16
        rw [if_pos rfl] at hE
        have hf' := hf rfl
        obtain ⟨f0, rfl⟩ : ∃ f0, f = f0 + 1 := ⟨f - 1, by omega⟩
        refine wk_aload_n (pc := 19) S_ 0 d_Md_rules_19 rfl rfl ?_
        refine wk_run (pc := 20) (rest := []) (wr := []) (wN := fun _ => (wMd m cI tx sz ap pt rk cd fr mc mg mz nc nt ld q.1 q.2.1 q.2.2.1 q.2.2.2.1 q.2.2.2.2.1 q.2.2.2.2.2.1 q.2.2.2.2.2.2.1 q.2.2.2.2.2.2.2.1 q.2.2.2.2.2.2.2.2.1 q.2.2.2.2.2.2.2.2.2.1 q.2.2.2.2.2.2.2.2.2.2 nb cl gr sp ot na aw nx bg bb ab fd pv bx wy li (skB (tx) ((sz) - (en1)) (en1)) (skW (tx) ((sz) - skB (tx) ((sz) - (en1)) (en1)) (skB (tx) ((sz) - (en1)) (en1))) nu td1 lf lk)) S_ (wk_rV S_ (c_Md_next l D cI z (m) (tx) (sz) (ap) (pt) (rk) (cd) (fr) (mc) (mg) (mz) (nc) (nt) (ld) (q.1) (q.2.1) (q.2.2.1) (q.2.2.2.1) (q.2.2.2.2.1) (q.2.2.2.2.2.1) (q.2.2.2.2.2.2.1) (q.2.2.2.2.2.2.2.1) (q.2.2.2.2.2.2.2.2.1) (q.2.2.2.2.2.2.2.2.2.1) (q.2.2.2.2.2.2.2.2.2.2) (nb) (cl) (gr) (sp) (ot) (na) (aw) (nx) (bg) (bb) (ab) (fd) (pv) (bx) (wy) (li) (fm1) (en1) (nu) (td1) (lf) (lk) (by omega) (by omega) htx) mv_Md_179 (wk_rcv S_ 0 6 rfl rfl rfl) rfl rfl (Nat.le_of_ble_eq_true rfl) (by rw [hR_]; decide) (by rw [hR_]; decide) d_Md_rules_20) [0, 1, 2, 3, 4, 5, 6, 7, 8, 9, 10, 11, 12, 13, 14, 15, 16, 17, 18, 19, 20, 21, 22, 23, 24, 25, 26, 27, 28, 29, 30, 31, 32, 33] [] [0, 1, 2, 3, 4, 5, 6, 7, 8, 9, 10, 11, 12, 13, 14, 15, 16, 17, 18, 19, 20, 21, 22, 23, 24, 25, 26, 27, 28, 29, 30, 31, 32, 33] rfl rfl rfl (by decide) (by decide) (by decide) (by decide) (fun _ => rfl) (fun _ => rfl) (fun r20 _ hw20 => ?_)
        refine wk_st (st' := [.int (r20)]) rfl ?_
        refine wk_top (y := (bI (decide (skB (tx) ((sz) - (en1)) (en1) < (sz))))) hw20 ?_
        refine wk_weq (ws' := (wMd m cI tx sz ap pt rk cd fr mc mg mz nc nt ld q.1 q.2.1 q.2.2.1 q.2.2.2.1 q.2.2.2.2.1 q.2.2.2.2.2.1 q.2.2.2.2.2.2.1 q.2.2.2.2.2.2.2.1 q.2.2.2.2.2.2.2.2.1 q.2.2.2.2.2.2.2.2.2.1 q.2.2.2.2.2.2.2.2.2.2 nb cl gr sp ot na aw nx bg bb ab fd pv bx wy li (wdB tx sz en1) (skW (tx) ((sz) - skB (tx) ((sz) - (en1)) (en1)) (skB (tx) ((sz) - (en1)) (en1))) nu td1 lf lk)) (by rfl) ?_
        refine wk_weq (ws' := (wMd m cI tx sz ap pt rk cd fr mc mg mz nc nt ld q.1 q.2.1 q.2.2.1 q.2.2.2.1 q.2.2.2.2.1 q.2.2.2.2.2.1 q.2.2.2.2.2.2.1 q.2.2.2.2.2.2.2.1 q.2.2.2.2.2.2.2.2.1 q.2.2.2.2.2.2.2.2.2.1 q.2.2.2.2.2.2.2.2.2.2 nb cl gr sp ot na aw nx bg bb ab fd pv bx wy li (wdB tx sz en1) (wdE tx sz en1) nu td1 lf lk)) (by rfl) ?_
        refine wk_if_eqB (pc := 23) (tgt := 274) S_ d_Md_rules_23 (by decide) (fun h23 => ?_) (fun h23 => ?_)
        · -- taken
          refine wk_aload_n (pc := 274) S_ 0 d_Md_rules_274 rfl rfl ?_
          refine wk_iconst (pc := 275) (v := (nI (0))) S_ d_Md_rules_275 (by decide) ?_
          refine wk_put (pc := 276) (ty := .int) (ws' := (wMd m cI tx 0 ap pt rk cd fr mc mg mz nc nt ld q.1 q.2.1 q.2.2.1 q.2.2.2.1 q.2.2.2.2.1 q.2.2.2.2.2.1 q.2.2.2.2.2.2.1 q.2.2.2.2.2.2.2.1 q.2.2.2.2.2.2.2.2.1 q.2.2.2.2.2.2.2.2.2.1 q.2.2.2.2.2.2.2.2.2.2 nb cl gr sp ot na aw nx bg bb ab fd pv bx wy li (wdB tx sz en1) (wdE tx sz en1) nu td1 lf lk)) S_ 6 1 0 in_Md t_Md t_Md_ok n_Md rfl (by decide) rfl fl_Md_127 (by decide +kernel) d_Md_rules_276 rfl rfl rfl (Nat.le_of_ble_eq_true rfl) rfl ?_
          refine wk_aload_n (pc := 279) S_ 0 d_Md_rules_279 rfl rfl ?_
          refine wk_iconst (pc := 280) (v := (nI (0))) S_ d_Md_rules_280 (by decide) ?_
          refine wk_put (pc := 281) (ty := .boolean) (ws' := (wMd m cI tx 0 ap pt rk cd fr mc mg mz nc nt ld q.1 q.2.1 q.2.2.1 q.2.2.2.1 q.2.2.2.2.1 q.2.2.2.2.2.1 q.2.2.2.2.2.2.1 q.2.2.2.2.2.2.2.1 q.2.2.2.2.2.2.2.2.1 q.2.2.2.2.2.2.2.2.2.1 q.2.2.2.2.2.2.2.2.2.2 nb cl gr sp ot na aw nx bg bb ab fd false bx wy li (wdB tx sz en1) (wdE tx sz en1) nu td1 lf lk)) S_ 6 36 0 in_Md t_Md t_Md_ok n_Md rfl (by decide) rfl fl_Md_130 (by decide +kernel) d_Md_rules_281 rfl rfl rfl (Nat.le_of_ble_eq_true rfl) rfl ?_
          refine wk_iload_n (pc := 284) S_ 3 d_Md_rules_284 rfl rfl ?_
          refine wk_if_ltY (pc := 285) (tgt := 292) S_ d_Md_rules_285 (by decide) (by omega) (fun h285 => ?_) (fun h285 => absurd rfl h285)
          refine wk_aload_n (pc := 292) S_ 0 d_Md_rules_292 rfl rfl ?_
          refine wk_run (pc := 293) (rest := []) (wr := []) (wN := fun _ => (wMd m cI tx 0 ((q.1)) ((q.2.1)) ((q.2.2.1)) ((q.2.2.2.1)) ((q.2.2.2.2.1)) ((q.2.2.2.2.2.1)) ((q.2.2.2.2.2.2.1)) ((q.2.2.2.2.2.2.2.1)) ((q.2.2.2.2.2.2.2.2.1)) ((q.2.2.2.2.2.2.2.2.2.1)) ((q.2.2.2.2.2.2.2.2.2.2)) q.1 q.2.1 q.2.2.1 q.2.2.2.1 q.2.2.2.2.1 q.2.2.2.2.2.1 q.2.2.2.2.2.2.1 q.2.2.2.2.2.2.2.1 q.2.2.2.2.2.2.2.2.1 q.2.2.2.2.2.2.2.2.2.1 q.2.2.2.2.2.2.2.2.2.2 nb cl gr sp ot na aw nx bg bb ab fd false bx wy li (wdB tx sz en1) (wdE tx sz en1) nu td1 lf lk)) S_ (wk_rV S_ (c_Md_take l D cI z (m) (tx) (0) (ap) (pt) (rk) (cd) (fr) (mc) (mg) (mz) (nc) (nt) (ld) (q.1) (q.2.1) (q.2.2.1) (q.2.2.2.1) (q.2.2.2.2.1) (q.2.2.2.2.2.1) (q.2.2.2.2.2.2.1) (q.2.2.2.2.2.2.2.1) (q.2.2.2.2.2.2.2.2.1) (q.2.2.2.2.2.2.2.2.2.1) (q.2.2.2.2.2.2.2.2.2.2) (nb) (cl) (gr) (sp) (ot) (na) (aw) (nx) (bg) (bb) (ab) (fd) (false) (bx) (wy) (li) (wdB tx sz en1) (wdE tx sz en1) (nu) (td1) (lf) (lk)) mv_Md_114 (wk_rcv S_ 0 6 rfl rfl rfl) rfl rfl (Nat.le_of_ble_eq_true rfl) (by rw [hR_]; decide) (by rw [hR_]; decide) d_Md_rules_293) [0, 1, 2, 3, 4, 5, 6, 7, 8, 9, 10, 11, 12, 13, 14, 15, 16, 17, 18, 19, 20, 21, 22, 23, 24, 25, 26, 27, 28, 29, 30, 31, 32, 33] [] [0, 1, 2, 3, 4, 5, 6, 7, 8, 9, 10, 11, 12, 13, 14, 15, 16, 17, 18, 19, 20, 21, 22, 23, 24, 25, 26, 27, 28, 29, 30, 31, 32, 33] rfl rfl rfl (by decide) (by decide) (by decide) (by decide) (fun _ => rfl) (fun _ => rfl) (fun r293 _ hw293 => ?_)
          refine wk_st (st' := []) rfl ?_
          refine wk_iload_n (pc := 296) S_ 2 d_Md_rules_296 rfl rfl ?_
          exact hQ_ (nI (n)) (wdB tx sz en1, wdE tx sz en1, td1, (q.1), (q.2.1), (q.2.2.1), (q.2.2.2.1), (q.2.2.2.2.1), (q.2.2.2.2.2.1), (q.2.2.2.2.2.2.1), (q.2.2.2.2.2.2.2.1), (q.2.2.2.2.2.2.2.2.1), (q.2.2.2.2.2.2.2.2.2.1), (q.2.2.2.2.2.2.2.2.2.2), q.1, q.2.1, q.2.2.1, q.2.2.2.1, q.2.2.2.2.1, q.2.2.2.2.2.1, q.2.2.2.2.2.2.1, q.2.2.2.2.2.2.2.1, q.2.2.2.2.2.2.2.2.1, q.2.2.2.2.2.2.2.2.2.1, q.2.2.2.2.2.2.2.2.2.2) d_Md_rules_297 rfl (by rw [← hE, rdS_e (of_decide_eq_false h23)]; exact ⟨rfl, Or.inl ⟨rfl, rfl, rfl⟩⟩)
        · -- on
          have h23' : wdB tx sz en1 < sz := of_decide_eq_true h23
          have hw1 := wd_le (tx := tx) (sz := sz) (en := en1) hen
          have hw1' := hw1.2.2.2.2 h23'
          obtain ⟨k1, hk1⟩ : ∃ k, k = kdS tx (wdB tx sz en1) (wdE tx sz en1) 9 0 := ⟨_, rfl⟩
          have hk9 : k1 ≤ 9 := by rw [hk1]; exact kdS_le 9 0
          refine wk_aload_n (pc := 26) S_ 0 d_Md_rules_26 rfl rfl ?_
          refine wk_run (pc := 27) (rest := []) (wr := []) (wN := fun _ => (wMd m cI tx sz ap pt rk cd fr mc mg mz nc nt ld q.1 q.2.1 q.2.2.1 q.2.2.2.1 q.2.2.2.2.1 q.2.2.2.2.2.1 q.2.2.2.2.2.2.1 q.2.2.2.2.2.2.2.1 q.2.2.2.2.2.2.2.2.1 q.2.2.2.2.2.2.2.2.2.1 q.2.2.2.2.2.2.2.2.2.2 nb cl gr sp ot na aw nx bg bb ab fd pv bx wy li (wdB tx sz en1) (wdE tx sz en1) nu td1 lf lk)) S_ (wk_rV S_ (c_Md_sentence l D cI z (m) (tx) (sz) (ap) (pt) (rk) (cd) (fr) (mc) (mg) (mz) (nc) (nt) (ld) (q.1) (q.2.1) (q.2.2.1) (q.2.2.2.1) (q.2.2.2.2.1) (q.2.2.2.2.2.1) (q.2.2.2.2.2.2.1) (q.2.2.2.2.2.2.2.1) (q.2.2.2.2.2.2.2.2.1) (q.2.2.2.2.2.2.2.2.2.1) (q.2.2.2.2.2.2.2.2.2.2) (nb) (cl) (gr) (sp) (ot) (na) (aw) (nx) (bg) (bb) (ab) (fd) (pv) (bx) (wy) (li) (wdB tx sz en1) (wdE tx sz en1) (nu) (td1) (lf) (lk) (by omega) htx) mv_Md_183 (wk_rcv S_ 0 6 rfl rfl rfl) rfl rfl (Nat.le_of_ble_eq_true rfl) (by rw [hR_]; decide) (by rw [hR_]; decide) d_Md_rules_27) [0, 1, 2, 3, 4, 5, 6, 7, 8, 9, 10, 11, 12, 13, 14, 15, 16, 17, 18, 19, 20, 21, 22, 23, 24, 25, 26, 27, 28, 29, 30, 31, 32, 33] [] [0, 1, 2, 3, 4, 5, 6, 7, 8, 9, 10, 11, 12, 13, 14, 15, 16, 17, 18, 19, 20, 21, 22, 23, 24, 25, 26, 27, 28, 29, 30, 31, 32, 33] rfl rfl rfl (by decide) (by decide) (by decide) (by decide) (fun _ => rfl) (fun _ => rfl) (fun r27 _ hw27 => ?_)
          refine wk_st (st' := [.int (r27)]) rfl ?_
          refine wk_top (y := (zI (kdS (tx) (wdB tx sz en1) (wdE tx sz en1) 9 0))) hw27 ?_
          refine wk_top (y := (zI (k1))) (congrArg zI hk1.symm) ?_
          refine wk_istore (pc := 30) (lv' := [(4, .int (zI (k1))), (0, .ref (m 0)), (1, .int (nI (c))), (2, .int (nI (n))), (3, .int (zI (0)))]) S_ d_Md_rules_30 (by decide) rfl ?_
          refine wk_iload (pc := 32) S_ 0 d_Md_rules_32 rfl ?_
          refine wk_if_ltY (pc := 34) (tgt := 51) S_ d_Md_rules_34 (by decide) (by omega) (fun h34 => ?_) (fun h34 => ?_)
          · -- taken
            refine wk_iload_n (pc := 51) S_ 2 d_Md_rules_51 rfl rfl ?_
            refine wk_istore_n (pc := 52) (lv' := [(3, .int (nI (c))), (4, .int (zI (k1))), (0, .ref (m 0)), (1, .int (nI (c))), (2, .int (nI (n)))]) S_ d_Md_rules_52 rfl (by decide) rfl ?_
            refine wk_goto (pc := 53) (tgt := 274) S_ d_Md_rules_53 (by decide) ?_
            refine wk_aload_n (pc := 274) S_ 2 d_Md_rules_274 rfl rfl ?_
            refine wk_iconst (pc := 275) (v := (nI (0))) S_ d_Md_rules_275 (by decide) ?_
            refine wk_put (pc := 276) (ty := .int) (ws' := (wMd m cI tx 0 ap pt rk cd fr mc mg mz nc nt ld q.1 q.2.1 q.2.2.1 q.2.2.2.1 q.2.2.2.2.1 q.2.2.2.2.2.1 q.2.2.2.2.2.2.1 q.2.2.2.2.2.2.2.1 q.2.2.2.2.2.2.2.2.1 q.2.2.2.2.2.2.2.2.2.1 q.2.2.2.2.2.2.2.2.2.2 nb cl gr sp ot na aw nx bg bb ab fd pv bx wy li (wdB tx sz en1) (wdE tx sz en1) nu td1 lf lk)) S_ 6 1 0 in_Md t_Md t_Md_ok n_Md rfl (by decide) rfl fl_Md_127 (by decide +kernel) d_Md_rules_276 rfl rfl rfl (Nat.le_of_ble_eq_true rfl) rfl ?_
            refine wk_aload_n (pc := 279) S_ 2 d_Md_rules_279 rfl rfl ?_
            refine wk_iconst (pc := 280) (v := (nI (0))) S_ d_Md_rules_280 (by decide) ?_
            refine wk_put (pc := 281) (ty := .boolean) (ws' := (wMd m cI tx 0 ap pt rk cd fr mc mg mz nc nt ld q.1 q.2.1 q.2.2.1 q.2.2.2.1 q.2.2.2.2.1 q.2.2.2.2.2.1 q.2.2.2.2.2.2.1 q.2.2.2.2.2.2.2.1 q.2.2.2.2.2.2.2.2.1 q.2.2.2.2.2.2.2.2.2.1 q.2.2.2.2.2.2.2.2.2.2 nb cl gr sp ot na aw nx bg bb ab fd false bx wy li (wdB tx sz en1) (wdE tx sz en1) nu td1 lf lk)) S_ 6 36 0 in_Md t_Md t_Md_ok n_Md rfl (by decide) rfl fl_Md_130 (by decide +kernel) d_Md_rules_281 rfl rfl rfl (Nat.le_of_ble_eq_true rfl) rfl ?_
            refine wk_iload_n (pc := 284) S_ 0 d_Md_rules_284 rfl rfl ?_
            refine wk_if_ltN (pc := 285) (tgt := 292) S_ d_Md_rules_285 (by decide) (by omega) ?_
            refine wk_iconst (pc := 288) (v := (-1)) S_ d_Md_rules_288 (by decide) ?_
            refine wk_iload_n (pc := 289) S_ 0 d_Md_rules_289 rfl rfl ?_
            refine wk_isub (pc := 290) S_ d_Md_rules_290 ?_
            exact hQ_ ((-1) - (nI (c))) (wdB tx sz en1, wdE tx sz en1, td1, ap, pt, rk, cd, fr, mc, mg, mz, nc, nt, ld, q.1, q.2.1, q.2.2.1, q.2.2.2.1, q.2.2.2.2.1, q.2.2.2.2.2.1, q.2.2.2.2.2.2.1, q.2.2.2.2.2.2.2.1, q.2.2.2.2.2.2.2.2.1, q.2.2.2.2.2.2.2.2.2.1, q.2.2.2.2.2.2.2.2.2.2) d_Md_rules_291 rfl (by rw [← hE, rdS_b h23' (Or.inl (hk1.symm.trans h34))]; exact ⟨rfl, Or.inr ⟨rfl, rfl, rfl⟩⟩)
          · -- on
            obtain ⟨x, rfl⟩ : ∃ x, k1 = x + 1 := ⟨k1 - 1, by omega⟩
            refine wk_lveq (lv' := [(4, .int (nI (x))), (0, .ref (m 0)), (1, .int (nI (c))), (2, .int (nI (n))), (3, .int (zI (0)))]) (by rw [zI_s]) ?_
            refine wk_iload (pc := 37) S_ 0 d_Md_rules_37 rfl ?_
            have hJ56 : (¬ (x = 6 ∧ hrS (q.2.2.2.2.2.2.2.2.1) 4 = false)) → wk_G p_ l e_ R_ s_ m_ ar_ be_ me_ co_ Q_ D A_ 8 0 0 (wMd m cI tx sz ap pt rk cd fr mc mg mz nc nt ld q.1 q.2.1 q.2.2.1 q.2.2.2.1 q.2.2.2.2.1 q.2.2.2.2.2.1 q.2.2.2.2.2.2.1 q.2.2.2.2.2.2.2.1 q.2.2.2.2.2.2.2.2.1 q.2.2.2.2.2.2.2.2.2.1 q.2.2.2.2.2.2.2.2.2.2 nb cl gr sp ot na aw nx bg bb ab fd pv bx wy li (wdB tx sz en1) (wdE tx sz en1) nu td1 lf lk) 56 [(4, .int (nI (x))), (0, .ref (m 0)), (1, .int (nI (c))), (2, .int (nI (n))), (3, .int (zI (0)))] [] := by
              intro  hnx
              refine wk_iincN (pc := 56) (d := 1) (lv' := [(1, .int (nI (c + 1))), (4, .int (nI (x))), (0, .ref (m 0)), (2, .int (nI (n))), (3, .int (zI (0)))]) S_ 2 d_Md_rules_56 (by decide) rfl (by decide) rfl ?_
              refine wk_iconst (pc := 59) (v := (nI (0))) S_ d_Md_rules_59 (by decide) ?_
              refine wk_istore (pc := 60) (lv' := [(5, .int (nI (0))), (1, .int (nI (c + 1))), (4, .int (nI (x))), (0, .ref (m 0)), (2, .int (nI (n))), (3, .int (zI (0)))]) S_ d_Md_rules_60 (by decide) rfl ?_
              have hL62 : ∀ (fuel62 : Nat), ∀ (r : Nat) (p : Nat) (c1 : Nat) (bd2 : Nat) (td2 : Nat → Nat) (en2 : Nat) (fm2 : Nat), (if bd2 = 0 then ptsK x - p + 1 else 0) < fuel62 → ((if bd2 = 0 then inS tx sz x (q.2.2.2.2.2.2.2.2.1) (q.2.2.2.2.2.1) (q.2.2.2.2.2.2.1) r p c1 en2 td2 else (false, bd2 - 1, 0, fun _ => 0)) = inS tx sz x (q.2.2.2.2.2.2.2.2.1) (q.2.2.2.2.2.1) (q.2.2.2.2.2.2.1) (ptsK x) 0 (c + 1) (wdE tx sz en1) td1) → (bd2 = 0 → p + r = ptsK x) → (p ≤ ptsK x) → (wdE tx sz en1 ≤ en2 ∧ en2 ≤ sz) → (c1 ≤ en2 ∧ n + 1 ≤ c1 ∧ bd2 ≤ 1501) → (bd2 = 0 → ∀ i, i < p → td2 i ≠ 0 ∧ td2 i - 1 ≤ grK x i) → (bd2 = 0 → x = 6 → 0 < p → (q.2.2.2.2.2.2.2.2.1) (td2 0 - 1) < 8) → (bd2 = 0 → x = 4 → 1 < p → mpS (q.2.2.2.2.2.2.1) (td2 0 - 1) (td2 1 - 1) ((q.2.2.2.2.2.1) (td2 0 - 1)) 0 < 6) → wk_G p_ l e_ R_ s_ m_ ar_ be_ me_ co_ Q_ D A_ 8 0 0 (wMd m cI tx sz ap pt rk cd fr mc mg mz nc nt ld q.1 q.2.1 q.2.2.1 q.2.2.2.1 q.2.2.2.2.1 q.2.2.2.2.2.1 q.2.2.2.2.2.2.1 q.2.2.2.2.2.2.2.1 q.2.2.2.2.2.2.2.2.1 q.2.2.2.2.2.2.2.2.2.1 q.2.2.2.2.2.2.2.2.2.2 nb cl gr sp ot na aw nx bg bb ab fd pv bx wy li fm2 en2 nu td2 lf lk) 62 [(0, .ref (m 0)), (1, .int (nI (c1))), (2, .int (nI (n))), (3, .int (zI (bd2))), (4, .int (nI (x))), (5, .int (nI (p)))] [] := by
                intro fuel62
                induction fuel62 with
                | zero => intro r p c1 bd2 td2 en2 fm2 hm62; exact absurd hm62 (Nat.not_lt_zero _)
                | succ fuel62 ih62 =>
                  intro r p c1 bd2 td2 en2 fm2 hm62 hE2 hr hp hen2 hc2 ht2 hnf hmf
                  have hpt := ptsK_le x
                  refine wk_iload (pc := 62) S_ 5 d_Md_rules_62 rfl ?_
                  refine wk_iload (pc := 64) S_ 4 d_Md_rules_64 rfl ?_
                  refine wk_run (pc := 66) (rest := [.int (nI (p))]) (wr := (wMd m cI tx sz ap pt rk cd fr mc mg mz nc nt ld q.1 q.2.1 q.2.2.1 q.2.2.2.1 q.2.2.2.2.1 q.2.2.2.2.2.1 q.2.2.2.2.2.2.1 q.2.2.2.2.2.2.2.1 q.2.2.2.2.2.2.2.2.1 q.2.2.2.2.2.2.2.2.2.1 q.2.2.2.2.2.2.2.2.2.2 nb cl gr sp ot na aw nx bg bb ab fd pv bx wy li fm2 en2 nu td2 lf lk)) (wN := fun _ => (wMd m cI tx sz ap pt rk cd fr mc mg mz nc nt ld q.1 q.2.1 q.2.2.1 q.2.2.2.1 q.2.2.2.2.1 q.2.2.2.2.2.1 q.2.2.2.2.2.2.1 q.2.2.2.2.2.2.2.1 q.2.2.2.2.2.2.2.2.1 q.2.2.2.2.2.2.2.2.2.1 q.2.2.2.2.2.2.2.2.2.2 nb cl gr sp ot na aw nx bg bb ab fd pv bx wy li fm2 en2 nu td2 lf lk)) S_ (wk_rS S_ (c_Md_parts l D cI z (x) (by omega)) mv_Md_190 rfl rfl (Nat.le_of_ble_eq_true rfl) (by rw [hR_]; decide) (by rw [hR_]; decide) d_Md_rules_66) [] [0, 1, 2, 3, 4, 5, 6, 7, 8, 9, 10, 11, 12, 13, 14, 15, 16, 17, 18, 19, 20, 21, 22, 23, 24, 25, 26, 27, 28, 29, 30, 31, 32, 33] [0, 1, 2, 3, 4, 5, 6, 7, 8, 9, 10, 11, 12, 13, 14, 15, 16, 17, 18, 19, 20, 21, 22, 23, 24, 25, 26, 27, 28, 29, 30, 31, 32, 33] rfl rfl rfl (by decide) (by decide) (by decide) (by decide) (fun _ => rfl) (fun _ => rfl) (fun r66 _ hw66 => ?_)
                  refine wk_st (st' := [.int (r66), .int (nI (p))]) rfl ?_
                  refine wk_top (y := (nI (ptsK (x)))) hw66 ?_
                  refine wk_icmp_geN (pc := 69) (tgt := 240) S_ d_Md_rules_69 (by decide) (by omega) (by omega) (fun h69 => ?_) (fun h69 => ?_)
                  · -- taken
                    refine wk_iload_n (pc := 240) S_ 3 d_Md_rules_240 rfl rfl ?_
                    refine wk_if_geY (pc := 241) (tgt := 271) S_ d_Md_rules_241 (by decide) (by omega) (fun h241 => ?_) (fun h241 => ?_)
                    · -- taken
                      refine wk_goto (pc := 271) (tgt := 15) S_ d_Md_rules_271 (by decide) ?_
                      have hO : (false, bd2 - 1, 0, fun _ => 0) = inS tx sz x (q.2.2.2.2.2.2.2.2.1) (q.2.2.2.2.2.1) (q.2.2.2.2.2.2.1) (ptsK x) 0 (c + 1) (wdE tx sz en1) td1 := by rw [← hE2, if_neg h241]
                      refine wk_lv [0, 1, 2, 3] ?_ (ih15 (f0) (c1) (n) (bd2) (q) (td2) (en2) (fm2) (by rw [if_pos rfl] at hm15; rw [if_neg h241]; omega) (by rw [if_neg h241, ← hE, rdS_bad h23' hk1 hnx hO rfl]) (fun z => absurd z h241) (by omega) (by omega) hq)
                      rfl
                    · -- on
                      subst h241
                      rw [if_pos rfl] at hE2
                      have hr' := hr rfl
                      have hp1 : 1 ≤ ptsK x := by unfold ptsK; (repeat' split) <;> omega
                      have hp2 : x = 3 ∨ 2 ≤ ptsK x := by unfold ptsK; (repeat' split) <;> omega
                      have hp3 : (x ≠ 4 ∧ x < 7) ∨ 3 ≤ ptsK x := by unfold ptsK; (repeat' split) <;> omega
                      have ha0 := ht2 rfl 0 (by omega)
                      have ha1 : x = 3 ∨ (td2 1 ≠ 0 ∧ td2 1 - 1 ≤ grK x 1) := by rcases hp2 with z | z; exact Or.inl z; exact Or.inr (ht2 rfl 1 (by omega))
                      have ha2 : (x ≠ 4 ∧ x < 7) ∨ (td2 2 ≠ 0 ∧ td2 2 - 1 ≤ grK x 2) := by rcases hp3 with z | z; exact Or.inl z; exact Or.inr (ht2 rfl 2 (by omega))
                      refine wk_aload_n (pc := 244) S_ 0 d_Md_rules_244 rfl rfl ?_
                      refine wk_iload (pc := 245) S_ 4 d_Md_rules_245 rfl ?_
                      refine wk_aload_n (pc := 247) S_ 0 d_Md_rules_247 rfl rfl ?_
                      refine wk_get (pc := 248) (v := .ref (m 33)) S_ 6 43 0 in_Md rfl (by decide) rfl fl_Md_108 d_Md_rules_248 rfl rfl ?_
                      refine wk_iconst (pc := 251) (v := (nI (0))) S_ d_Md_rules_251 (by decide) ?_
                      refine wk_ialdY (pc := 252) (g := td2) S_ 33 0 d_Md_rules_252 rfl rfl (by omega) (by decide) ?_
                      refine wk_aload_n (pc := 253) S_ 0 d_Md_rules_253 rfl rfl ?_
                      refine wk_get (pc := 254) (v := .ref (m 33)) S_ 6 43 0 in_Md rfl (by decide) rfl fl_Md_108 d_Md_rules_254 rfl rfl ?_
                      refine wk_iconst (pc := 257) (v := (nI (1))) S_ d_Md_rules_257 (by decide) ?_
                      refine wk_ialdY (pc := 258) (g := td2) S_ 33 0 d_Md_rules_258 rfl rfl (by omega) (by decide) ?_
                      refine wk_aload_n (pc := 259) S_ 0 d_Md_rules_259 rfl rfl ?_
                      refine wk_get (pc := 260) (v := .ref (m 33)) S_ 6 43 0 in_Md rfl (by decide) rfl fl_Md_108 d_Md_rules_260 rfl rfl ?_
                      refine wk_iconst (pc := 263) (v := (nI (2))) S_ d_Md_rules_263 (by decide) ?_
                      refine wk_ialdY (pc := 264) (g := td2) S_ 33 0 d_Md_rules_264 rfl rfl (by omega) (by decide) ?_
                      refine wk_run (pc := 265) (rest := []) (wr := []) (wN := fun u265 => (wMd m cI tx sz ap pt rk cd fr mc mg mz nc nt ld u265.1 u265.2.1 u265.2.2.1 u265.2.2.2.1 u265.2.2.2.2.1 u265.2.2.2.2.2.1 u265.2.2.2.2.2.2.1 u265.2.2.2.2.2.2.2.1 u265.2.2.2.2.2.2.2.2.1 u265.2.2.2.2.2.2.2.2.2.1 u265.2.2.2.2.2.2.2.2.2.2 nb cl gr sp ot na aw nx bg bb ab fd pv bx wy li fm2 en2 nu td2 lf lk)) S_ (wk_rV S_ (c_Md_tell l D cI z (m) (tx) (sz) (ap) (pt) (rk) (cd) (fr) (mc) (mg) (mz) (nc) (nt) (ld) (q.1) (q.2.1) (q.2.2.1) (q.2.2.2.1) (q.2.2.2.2.1) (q.2.2.2.2.2.1) (q.2.2.2.2.2.2.1) (q.2.2.2.2.2.2.2.1) (q.2.2.2.2.2.2.2.2.1) (q.2.2.2.2.2.2.2.2.2.1) (q.2.2.2.2.2.2.2.2.2.2) (nb) (cl) (gr) (sp) (ot) (na) (aw) (nx) (bg) (bb) (ab) (fd) (pv) (bx) (wy) (li) (fm2) (en2) (nu) (td2) (lf) (lk) (x) ((td2) (0)) ((td2) (1)) ((td2) (2)) (by omega) ha0.1 (ha1.imp_right And.left) (ha2.imp_right And.left) ha0.2 (ha1.imp_right And.right) (ha2.imp_right And.right) hq.1 hq.2.1 hq.2.2 (fun z => hnf rfl z (by omega)) (fun z => hmf rfl z (by omega))) mv_Md_203 (wk_rcv S_ 0 6 rfl rfl rfl) rfl rfl (Nat.le_of_ble_eq_true rfl) (by rw [hR_]; decide) (by rw [hR_]; decide) d_Md_rules_265) [0, 1, 2, 3, 4, 5, 6, 7, 8, 9, 10, 11, 12, 13, 14, 15, 16, 17, 18, 19, 20, 21, 22, 23, 24, 25, 26, 27, 28, 29, 30, 31, 32, 33] [] [0, 1, 2, 3, 4, 5, 6, 7, 8, 9, 10, 11, 12, 13, 14, 15, 16, 17, 18, 19, 20, 21, 22, 23, 24, 25, 26, 27, 28, 29, 30, 31, 32, 33] rfl rfl rfl (by decide) (by decide) (by decide) (by decide) (fun _ => rfl) (fun _ => rfl) (fun r265 u265 hw265 => ?_)
                      refine wk_st (st' := []) rfl ?_
                      refine wk_iincN (pc := 268) (d := 1) (lv' := [(2, .int (nI (n + 1))), (0, .ref (m 0)), (1, .int (nI (c1))), (3, .int (zI (0))), (4, .int (nI (x))), (5, .int (nI (p)))]) S_ 2 d_Md_rules_268 (by decide) rfl (by decide) rfl ?_
                      refine wk_goto (pc := 271) (tgt := 15) S_ d_Md_rules_271 (by decide) ?_
                      have hO : (true, c1, en2, td2) = inS tx sz x (q.2.2.2.2.2.2.2.2.1) (q.2.2.2.2.2.1) (q.2.2.2.2.2.2.1) (ptsK x) 0 (c + 1) (wdE tx sz en1) td1 := by rw [← hE2, show r = 0 by omega]; rfl
                      refine wk_lv [1, 2, 0, 3] ?_ (ih15 (f0) (c1) (n + 1) (0) (u265) (td2) (en2) (fm2) (by rw [if_pos rfl] at hm15; rw [if_pos rfl]; omega) (by rw [if_pos rfl, ← hE, rdS_good h23' hk1 hnx hO rfl, hw265]) (fun _ => by omega) (by omega) (by omega) (by rw [hw265]; exact tell_ok hq (fun z => by rcases ha1 with y | y; omega; have h := y.2; rw [z] at h; exact h) (fun z => hmf rfl z (by omega)) (fun z => hnf rfl z (by omega))))
                      rfl
                  · -- on
                    refine wk_iload_n (pc := 72) S_ 3 d_Md_rules_72 rfl rfl ?_
                    refine wk_if_geY (pc := 73) (tgt := 240) S_ d_Md_rules_73 (by decide) (by omega) (fun h73 => ?_) (fun h73 => ?_)
                    · -- taken
                      refine wk_iload_n (pc := 240) S_ 3 d_Md_rules_240 rfl rfl ?_
                      refine wk_if_geY (pc := 241) (tgt := 271) S_ d_Md_rules_241 (by decide) (by omega) (fun h241 => ?_) (fun h241 => absurd h241 h73)
                      refine wk_goto (pc := 271) (tgt := 15) S_ d_Md_rules_271 (by decide) ?_
                      have hO : (false, bd2 - 1, 0, fun _ => 0) = inS tx sz x (q.2.2.2.2.2.2.2.2.1) (q.2.2.2.2.2.1) (q.2.2.2.2.2.2.1) (ptsK x) 0 (c + 1) (wdE tx sz en1) td1 := by rw [← hE2, if_neg h73]
                      refine wk_lv [0, 1, 2, 3] ?_ (ih15 (f0) (c1) (n) (bd2) (q) (td2) (en2) (fm2) (by rw [if_pos rfl] at hm15; rw [if_neg h73]; omega) (by rw [if_neg h73, ← hE, rdS_bad h23' hk1 hnx hO rfl]) (fun z => absurd z h73) (by omega) (by omega) hq)
                      rfl
                    · -- on
                      subst h73
                      rw [if_pos rfl] at hE2
                      have hr' := hr rfl
                      obtain ⟨r0, rfl⟩ : ∃ r0, r = r0 + 1 := ⟨r - 1, by omega⟩
                      obtain ⟨v, hv⟩ : ∃ v, v = nmV tx sz en2 := ⟨_, rfl⟩
                      have hv6 : v ≤ 1000000 := by rw [hv]; exact nmV_le
                      have hvs : v ≠ 0 → wdB tx sz en2 < sz := by rw [hv]; exact nmV_lt
                      have hw2 := wd_le (tx := tx) (sz := sz) (en := en2) (by omega)
                      refine wk_aload_n (pc := 76) S_ 0 d_Md_rules_76 rfl rfl ?_
                      refine wk_run (pc := 77) (rest := []) (wr := []) (wN := fun _ => (wMd m cI tx sz ap pt rk cd fr mc mg mz nc nt ld q.1 q.2.1 q.2.2.1 q.2.2.2.1 q.2.2.2.2.1 q.2.2.2.2.2.1 q.2.2.2.2.2.2.1 q.2.2.2.2.2.2.2.1 q.2.2.2.2.2.2.2.2.1 q.2.2.2.2.2.2.2.2.2.1 q.2.2.2.2.2.2.2.2.2.2 nb cl gr sp ot na aw nx bg bb ab fd pv bx wy li (skB (tx) ((sz) - (en2)) (en2)) (skW (tx) ((sz) - skB (tx) ((sz) - (en2)) (en2)) (skB (tx) ((sz) - (en2)) (en2))) nu td2 lf lk)) S_ (wk_rV S_ (c_Md_next l D cI z (m) (tx) (sz) (ap) (pt) (rk) (cd) (fr) (mc) (mg) (mz) (nc) (nt) (ld) (q.1) (q.2.1) (q.2.2.1) (q.2.2.2.1) (q.2.2.2.2.1) (q.2.2.2.2.2.1) (q.2.2.2.2.2.2.1) (q.2.2.2.2.2.2.2.1) (q.2.2.2.2.2.2.2.2.1) (q.2.2.2.2.2.2.2.2.2.1) (q.2.2.2.2.2.2.2.2.2.2) (nb) (cl) (gr) (sp) (ot) (na) (aw) (nx) (bg) (bb) (ab) (fd) (pv) (bx) (wy) (li) (fm2) (en2) (nu) (td2) (lf) (lk) (by omega) (by omega) htx) mv_Md_179 (wk_rcv S_ 0 6 rfl rfl rfl) rfl rfl (Nat.le_of_ble_eq_true rfl) (by rw [hR_]; decide) (by rw [hR_]; decide) d_Md_rules_77) [0, 1, 2, 3, 4, 5, 6, 7, 8, 9, 10, 11, 12, 13, 14, 15, 16, 17, 18, 19, 20, 21, 22, 23, 24, 25, 26, 27, 28, 29, 30, 31, 32, 33] [] [0, 1, 2, 3, 4, 5, 6, 7, 8, 9, 10, 11, 12, 13, 14, 15, 16, 17, 18, 19, 20, 21, 22, 23, 24, 25, 26, 27, 28, 29, 30, 31, 32, 33] rfl rfl rfl (by decide) (by decide) (by decide) (by decide) (fun _ => rfl) (fun _ => rfl) (fun r77 _ hw77 => ?_)
                      refine wk_st (st' := [.int (r77)]) rfl ?_
                      refine wk_top (y := (bI (decide (skB (tx) ((sz) - (en2)) (en2) < (sz))))) hw77 ?_
                      have hJ93 : wk_G p_ l e_ R_ s_ m_ ar_ be_ me_ co_ Q_ D A_ 8 0 0 (wMd m cI tx sz ap pt rk cd fr mc mg mz nc nt ld q.1 q.2.1 q.2.2.1 q.2.2.2.1 q.2.2.2.2.1 q.2.2.2.2.2.1 q.2.2.2.2.2.2.1 q.2.2.2.2.2.2.2.1 q.2.2.2.2.2.2.2.2.1 q.2.2.2.2.2.2.2.2.2.1 q.2.2.2.2.2.2.2.2.2.2 nb cl gr sp ot na aw nx bg bb ab fd pv bx wy li (wdB tx sz en2) (wdE tx sz en2) nu td2 lf lk) 93 [(0, .ref (m 0)), (1, .int (nI (c1))), (2, .int (nI (n))), (3, .int (zI (0))), (4, .int (nI (x))), (5, .int (nI (p))), (6, .int (zI (v)))] [] := by
                        have hJ201 : ∀ (gd : Bool), (gd = gdN x p v td2 (q.2.2.2.2.2.2.2.2.1) (q.2.2.2.2.2.1) (q.2.2.2.2.2.2.1)) → wk_G p_ l e_ R_ s_ m_ ar_ be_ me_ co_ Q_ D A_ 8 0 0 (wMd m cI tx sz ap pt rk cd fr mc mg mz nc nt ld q.1 q.2.1 q.2.2.1 q.2.2.2.1 q.2.2.2.2.1 q.2.2.2.2.2.1 q.2.2.2.2.2.2.1 q.2.2.2.2.2.2.2.1 q.2.2.2.2.2.2.2.2.1 q.2.2.2.2.2.2.2.2.2.1 q.2.2.2.2.2.2.2.2.2.2 nb cl gr sp ot na aw nx bg bb ab fd pv bx wy li (wdB tx sz en2) (wdE tx sz en2) nu td2 lf lk) 201 [(0, .ref (m 0)), (1, .int (nI (c1))), (2, .int (nI (n))), (3, .int (zI (0))), (4, .int (nI (x))), (5, .int (nI (p))), (6, .int (zI (v))), (7, .int (bI (gd)))] [] := by
                          intro gd hg
                          refine wk_iload (pc := 201) S_ 7 d_Md_rules_201 rfl ?_
                          refine wk_if_eqB (pc := 203) (tgt := 210) S_ d_Md_rules_203 (by decide) (fun h203 => ?_) (fun h203 => ?_)
                          · -- taken
                            refine wk_iload_n (pc := 210) S_ 1 d_Md_rules_210 rfl rfl ?_
                            refine wk_top (y := (zI (c1 + 1))) (zI_s _).symm ?_
                            refine wk_istore_n (pc := 211) (lv' := [(3, .int (zI (c1 + 1))), (0, .ref (m 0)), (1, .int (nI (c1))), (2, .int (nI (n))), (4, .int (nI (x))), (5, .int (nI (p))), (6, .int (zI (v))), (7, .int (bI (gd)))]) S_ d_Md_rules_211 rfl (by decide) rfl ?_
                            refine wk_aload_n (pc := 212) S_ 1 d_Md_rules_212 rfl rfl ?_
                            refine wk_get (pc := 213) (v := .ref (m 33)) S_ 6 43 0 in_Md rfl (by decide) rfl fl_Md_108 d_Md_rules_213 rfl rfl ?_
                            refine wk_iload (pc := 216) S_ 5 d_Md_rules_216 rfl ?_
                            refine wk_iload (pc := 218) S_ 6 d_Md_rules_218 rfl ?_
                            refine wk_iastY (pc := 220) (g := td2) (ws' := (wMd m cI tx sz ap pt rk cd fr mc mg mz nc nt ld q.1 q.2.1 q.2.2.1 q.2.2.2.1 q.2.2.2.2.1 q.2.2.2.2.2.1 q.2.2.2.2.2.2.1 q.2.2.2.2.2.2.2.1 q.2.2.2.2.2.2.2.2.1 q.2.2.2.2.2.2.2.2.2.1 q.2.2.2.2.2.2.2.2.2.2 nb cl gr sp ot na aw nx bg bb ab fd pv bx wy li (wdB tx sz en2) (wdE tx sz en2) nu (va_up (td2) (p) (v)) lf lk)) S_ 33 0 d_Md_rules_220 rfl rfl (by omega) (by decide) rfl ?_
                            refine wk_iload_n (pc := 221) S_ 2 d_Md_rules_221 rfl rfl ?_
                            refine wk_iload (pc := 222) S_ 7 d_Md_rules_222 rfl ?_
                            refine wk_if_eqB (pc := 224) (tgt := 231) S_ d_Md_rules_224 (by decide) (fun h224 => ?_) (fun h224 => absurd (h203.symm.trans h224) (by decide))
                            refine wk_iconst (pc := 231) (v := (nI (0))) S_ d_Md_rules_231 (by decide) ?_
                            refine wk_iaddN (pc := 232) S_ d_Md_rules_232 ?_
                            refine wk_istore_n (pc := 233) (lv' := [(1, .int (nI ((c1) + (0)))), (3, .int (zI (c1 + 1))), (0, .ref (m 0)), (2, .int (nI (n))), (4, .int (nI (x))), (5, .int (nI (p))), (6, .int (zI (v))), (7, .int (bI (gd)))]) S_ d_Md_rules_233 rfl (by decide) rfl ?_
                            refine wk_iincN (pc := 234) (d := 1) (lv' := [(5, .int (nI (p + 1))), (1, .int (nI ((c1) + (0)))), (3, .int (zI (c1 + 1))), (0, .ref (m 0)), (2, .int (nI (n))), (4, .int (nI (x))), (6, .int (zI (v))), (7, .int (bI (gd)))]) S_ 5 d_Md_rules_234 (by decide) rfl (by decide) rfl ?_
                            refine wk_goto (pc := 237) (tgt := 62) S_ d_Md_rules_237 (by decide) ?_
                            have hgt : ¬ gdN x p v td2 (q.2.2.2.2.2.2.2.2.1) (q.2.2.2.2.2.1) (q.2.2.2.2.2.2.1) = true := fun z => absurd ((hg.trans z).symm.trans h203) (by decide)
                            refine wk_lv [3, 1, 4, 2, 5, 0] ?_ (ih62 (r0) (p + 1) ((c1) + (0)) (c1 + 1) (va_up (td2) (p) (v)) (wdE tx sz en2) (wdB tx sz en2) (by rw [if_pos rfl] at hm62; rw [if_neg (by omega)]; omega) (by rw [← hE2, if_neg (by omega), inS_s, ← hv, if_neg hgt]; rfl) (fun z => absurd z (by omega)) (by omega) (by omega) (by omega) (fun z => absurd z (by omega)) (fun z => absurd z (by omega)) (fun z => absurd z (by omega)))
                            rfl
                          · -- on
                            refine wk_iconst (pc := 206) (v := (-1)) S_ d_Md_rules_206 (by decide) ?_
                            refine wk_goto (pc := 207) (tgt := 211) S_ d_Md_rules_207 (by decide) ?_
                            refine wk_top (y := (zI (0))) zI_0.symm ?_
                            refine wk_istore_n (pc := 211) (lv' := [(3, .int (zI (0))), (0, .ref (m 0)), (1, .int (nI (c1))), (2, .int (nI (n))), (4, .int (nI (x))), (5, .int (nI (p))), (6, .int (zI (v))), (7, .int (bI (gd)))]) S_ d_Md_rules_211 rfl (by decide) rfl ?_
                            refine wk_aload_n (pc := 212) S_ 1 d_Md_rules_212 rfl rfl ?_
                            refine wk_get (pc := 213) (v := .ref (m 33)) S_ 6 43 0 in_Md rfl (by decide) rfl fl_Md_108 d_Md_rules_213 rfl rfl ?_
                            refine wk_iload (pc := 216) S_ 5 d_Md_rules_216 rfl ?_
                            refine wk_iload (pc := 218) S_ 6 d_Md_rules_218 rfl ?_
                            refine wk_iastY (pc := 220) (g := td2) (ws' := (wMd m cI tx sz ap pt rk cd fr mc mg mz nc nt ld q.1 q.2.1 q.2.2.1 q.2.2.2.1 q.2.2.2.2.1 q.2.2.2.2.2.1 q.2.2.2.2.2.2.1 q.2.2.2.2.2.2.2.1 q.2.2.2.2.2.2.2.2.1 q.2.2.2.2.2.2.2.2.2.1 q.2.2.2.2.2.2.2.2.2.2 nb cl gr sp ot na aw nx bg bb ab fd pv bx wy li (wdB tx sz en2) (wdE tx sz en2) nu (va_up (td2) (p) (v)) lf lk)) S_ 33 0 d_Md_rules_220 rfl rfl (by omega) (by decide) rfl ?_
                            refine wk_iload_n (pc := 221) S_ 2 d_Md_rules_221 rfl rfl ?_
                            refine wk_iload (pc := 222) S_ 7 d_Md_rules_222 rfl ?_
                            refine wk_if_eqB (pc := 224) (tgt := 231) S_ d_Md_rules_224 (by decide) (fun h224 => absurd (h203.symm.trans h224) (by decide)) (fun h224 => ?_)
                            refine wk_iconst (pc := 227) (v := (nI (1))) S_ d_Md_rules_227 (by decide) ?_
                            refine wk_goto (pc := 228) (tgt := 232) S_ d_Md_rules_228 (by decide) ?_
                            refine wk_iaddN (pc := 232) S_ d_Md_rules_232 ?_
                            refine wk_istore_n (pc := 233) (lv' := [(1, .int (nI ((c1) + (1)))), (3, .int (zI (0))), (0, .ref (m 0)), (2, .int (nI (n))), (4, .int (nI (x))), (5, .int (nI (p))), (6, .int (zI (v))), (7, .int (bI (gd)))]) S_ d_Md_rules_233 rfl (by decide) rfl ?_
                            refine wk_iincN (pc := 234) (d := 1) (lv' := [(5, .int (nI (p + 1))), (1, .int (nI ((c1) + (1)))), (3, .int (zI (0))), (0, .ref (m 0)), (2, .int (nI (n))), (4, .int (nI (x))), (6, .int (zI (v))), (7, .int (bI (gd)))]) S_ 5 d_Md_rules_234 (by decide) rfl (by decide) rfl ?_
                            refine wk_goto (pc := 237) (tgt := 62) S_ d_Md_rules_237 (by decide) ?_
                            have hgt : gdN x p v td2 (q.2.2.2.2.2.2.2.2.1) (q.2.2.2.2.2.1) (q.2.2.2.2.2.2.1) = true := hg.symm.trans h203
                            have hgp := hgt
                            rw [gdN, decide_eq_true_eq] at hgp
                            have hw3 := hw2.2.2.2.2 (hvs (by omega))
                            refine wk_lv [3, 1, 4, 2, 5, 0] ?_ (ih62 (r0) (p + 1) ((c1) + (1)) (0) (va_up (td2) (p) (v)) (wdE tx sz en2) (wdB tx sz en2) (by rw [if_pos rfl] at hm62; rw [if_pos rfl]; omega) (by rw [← hE2, if_pos rfl, inS_s, ← hv, if_pos hgt]) (fun z => by omega) (by omega) (by omega) (by omega) (fun _ i hi => by by_cases e : i = p; { subst e; rw [up_s]; exact ⟨by omega, by omega⟩ }; { rw [up_n e]; exact ht2 rfl i (by omega) }) (fun _ h6 _ => by by_cases e : p = 0; { subst e; rw [up_s]; have h1 : (q.2.2.2.2.2.2.2.2.1) (v - 1) ≤ 8 := hq.2.2 (v - 1); omega }; { rw [up_n (fun z => e z.symm)]; exact hnf rfl h6 (by omega) }) (fun _ h4 _ => by by_cases e : p = 1; { subst e; rw [up_s, up_n (by decide)]; have h1 : (q.2.2.2.2.2.1) (td2 0 - 1) ≤ 6 := hq.1 (td2 0 - 1); have h2 := (mpS_le (mg := q.2.2.2.2.2.2.1) (c := td2 0 - 1) (g := v - 1) ((q.2.2.2.2.2.1) (td2 0 - 1)) 0).2; omega }; { rw [up_n (fun z => by omega), up_n (fun z => e z.symm)]; exact hmf rfl h4 (by omega) }))
                            rfl
                        have hgk := grK_le x p
                        have hlk := lsK_le x p
                        refine wk_iload (pc := 93) S_ 6 d_Md_rules_93 rfl ?_
                        refine wk_iload (pc := 95) S_ 4 d_Md_rules_95 rfl ?_
                        refine wk_iload (pc := 97) S_ 5 d_Md_rules_97 rfl ?_
                        refine wk_run (pc := 99) (rest := [.int (zI (v))]) (wr := (wMd m cI tx sz ap pt rk cd fr mc mg mz nc nt ld q.1 q.2.1 q.2.2.1 q.2.2.2.1 q.2.2.2.2.1 q.2.2.2.2.2.1 q.2.2.2.2.2.2.1 q.2.2.2.2.2.2.2.1 q.2.2.2.2.2.2.2.2.1 q.2.2.2.2.2.2.2.2.2.1 q.2.2.2.2.2.2.2.2.2.2 nb cl gr sp ot na aw nx bg bb ab fd pv bx wy li (wdB tx sz en2) (wdE tx sz en2) nu td2 lf lk)) (wN := fun _ => (wMd m cI tx sz ap pt rk cd fr mc mg mz nc nt ld q.1 q.2.1 q.2.2.1 q.2.2.2.1 q.2.2.2.2.1 q.2.2.2.2.2.1 q.2.2.2.2.2.2.1 q.2.2.2.2.2.2.2.1 q.2.2.2.2.2.2.2.2.1 q.2.2.2.2.2.2.2.2.2.1 q.2.2.2.2.2.2.2.2.2.2 nb cl gr sp ot na aw nx bg bb ab fd pv bx wy li (wdB tx sz en2) (wdE tx sz en2) nu td2 lf lk)) S_ (wk_rS S_ (c_Md_least l D cI z (x) (p) (by omega) (by omega)) mv_Md_197 rfl rfl (Nat.le_of_ble_eq_true rfl) (by rw [hR_]; decide) (by rw [hR_]; decide) d_Md_rules_99) [] [0, 1, 2, 3, 4, 5, 6, 7, 8, 9, 10, 11, 12, 13, 14, 15, 16, 17, 18, 19, 20, 21, 22, 23, 24, 25, 26, 27, 28, 29, 30, 31, 32, 33] [0, 1, 2, 3, 4, 5, 6, 7, 8, 9, 10, 11, 12, 13, 14, 15, 16, 17, 18, 19, 20, 21, 22, 23, 24, 25, 26, 27, 28, 29, 30, 31, 32, 33] rfl rfl rfl (by decide) (by decide) (by decide) (by decide) (fun _ => rfl) (fun _ => rfl) (fun r99 _ hw99 => ?_)
                        refine wk_st (st' := [.int (r99), .int (zI (v))]) rfl ?_
                        refine wk_top (y := (nI (lsK (x) (p)))) hw99 ?_
                        refine wk_icmp_lt (pc := 102) (tgt := 121) S_ d_Md_rules_102 (by decide) (fun h102 => ?_) (fun h102 => ?_)
                        · -- taken
                          have hl := (zI_ltN (by omega) (by omega)).mp h102
                          refine wk_iconst (pc := 121) (v := (nI (0))) S_ d_Md_rules_121 (by decide) ?_
                          refine wk_istore (pc := 122) (lv' := [(7, .int (nI (0))), (0, .ref (m 0)), (1, .int (nI (c1))), (2, .int (nI (n))), (3, .int (zI (0))), (4, .int (nI (x))), (5, .int (nI (p))), (6, .int (zI (v)))]) S_ d_Md_rules_122 (by decide) rfl ?_
                          refine wk_iload (pc := 124) S_ 0 d_Md_rules_124 rfl ?_
                          refine wk_if_eqN (pc := 126) (tgt := 157) S_ d_Md_rules_126 (by decide) (by omega) (fun h126 => ?_) (fun h126 => absurd h126 (by decide))
                          refine wk_iconst (pc := 157) (v := (nI (0))) S_ d_Md_rules_157 (by decide) ?_
                          refine wk_istore (pc := 158) (lv' := [(7, .int (nI (0))), (0, .ref (m 0)), (1, .int (nI (c1))), (2, .int (nI (n))), (3, .int (zI (0))), (4, .int (nI (x))), (5, .int (nI (p))), (6, .int (zI (v)))]) S_ d_Md_rules_158 (by decide) rfl ?_
                          refine wk_iload (pc := 160) S_ 0 d_Md_rules_160 rfl ?_
                          refine wk_if_eqN (pc := 162) (tgt := 198) S_ d_Md_rules_162 (by decide) (by omega) (fun h162 => ?_) (fun h162 => absurd h162 (by decide))
                          refine wk_iconst (pc := 198) (v := (nI (0))) S_ d_Md_rules_198 (by decide) ?_
                          refine wk_top (y := (bI (false))) rfl ?_
                          refine wk_istore (pc := 199) (lv' := [(7, .int (bI (false))), (0, .ref (m 0)), (1, .int (nI (c1))), (2, .int (nI (n))), (3, .int (zI (0))), (4, .int (nI (x))), (5, .int (nI (p))), (6, .int (zI (v)))]) S_ d_Md_rules_199 (by decide) rfl ?_
                          refine wk_lv [1, 2, 3, 4, 5, 6, 7, 0] ?_ (hJ201 (false) (by rw [eq_comm, gdN]; simp only [decide_eq_false_iff_not]; omega))
                          rfl
                        · -- on
                          have hl : lsK x p + 1 ≤ v := Nat.le_of_not_lt (fun z => h102 ((zI_ltN (by omega) (by omega)).mpr z))
                          have hv0 : v ≠ 0 := by omega
                          refine wk_lveq (lv' := [(0, .ref (m 0)), (1, .int (nI (c1))), (2, .int (nI (n))), (3, .int (zI (0))), (4, .int (nI (x))), (5, .int (nI (p))), (6, .int (nI (v - 1)))]) (by rw [zI_p hv0]) ?_
                          refine wk_iload (pc := 105) S_ 6 d_Md_rules_105 rfl ?_
                          refine wk_iload (pc := 107) S_ 4 d_Md_rules_107 rfl ?_
                          refine wk_iload (pc := 109) S_ 5 d_Md_rules_109 rfl ?_
                          refine wk_run (pc := 111) (rest := [.int (nI (v - 1))]) (wr := (wMd m cI tx sz ap pt rk cd fr mc mg mz nc nt ld q.1 q.2.1 q.2.2.1 q.2.2.2.1 q.2.2.2.2.1 q.2.2.2.2.2.1 q.2.2.2.2.2.2.1 q.2.2.2.2.2.2.2.1 q.2.2.2.2.2.2.2.2.1 q.2.2.2.2.2.2.2.2.2.1 q.2.2.2.2.2.2.2.2.2.2 nb cl gr sp ot na aw nx bg bb ab fd pv bx wy li (wdB tx sz en2) (wdE tx sz en2) nu td2 lf lk)) (wN := fun _ => (wMd m cI tx sz ap pt rk cd fr mc mg mz nc nt ld q.1 q.2.1 q.2.2.1 q.2.2.2.1 q.2.2.2.2.1 q.2.2.2.2.2.1 q.2.2.2.2.2.2.1 q.2.2.2.2.2.2.2.1 q.2.2.2.2.2.2.2.2.1 q.2.2.2.2.2.2.2.2.2.1 q.2.2.2.2.2.2.2.2.2.2 nb cl gr sp ot na aw nx bg bb ab fd pv bx wy li (wdB tx sz en2) (wdE tx sz en2) nu td2 lf lk)) S_ (wk_rS S_ (c_Md_greatest l D cI z (x) (p) (by omega) (by omega)) mv_Md_200 rfl rfl (Nat.le_of_ble_eq_true rfl) (by rw [hR_]; decide) (by rw [hR_]; decide) d_Md_rules_111) [] [0, 1, 2, 3, 4, 5, 6, 7, 8, 9, 10, 11, 12, 13, 14, 15, 16, 17, 18, 19, 20, 21, 22, 23, 24, 25, 26, 27, 28, 29, 30, 31, 32, 33] [0, 1, 2, 3, 4, 5, 6, 7, 8, 9, 10, 11, 12, 13, 14, 15, 16, 17, 18, 19, 20, 21, 22, 23, 24, 25, 26, 27, 28, 29, 30, 31, 32, 33] rfl rfl rfl (by decide) (by decide) (by decide) (by decide) (fun _ => rfl) (fun _ => rfl) (fun r111 _ hw111 => ?_)
                          refine wk_st (st' := [.int (r111), .int (nI (v - 1))]) rfl ?_
                          refine wk_top (y := (nI (grK (x) (p)))) hw111 ?_
                          refine wk_icmp_gtN (pc := 114) (tgt := 121) S_ d_Md_rules_114 (by decide) (by omega) (by omega) (fun h114 => ?_) (fun h114 => ?_)
                          · -- taken
                            refine wk_iconst (pc := 121) (v := (nI (0))) S_ d_Md_rules_121 (by decide) ?_
                            refine wk_istore (pc := 122) (lv' := [(7, .int (nI (0))), (0, .ref (m 0)), (1, .int (nI (c1))), (2, .int (nI (n))), (3, .int (zI (0))), (4, .int (nI (x))), (5, .int (nI (p))), (6, .int (nI (v - 1)))]) S_ d_Md_rules_122 (by decide) rfl ?_
                            refine wk_iload (pc := 124) S_ 0 d_Md_rules_124 rfl ?_
                            refine wk_if_eqN (pc := 126) (tgt := 157) S_ d_Md_rules_126 (by decide) (by omega) (fun h126 => ?_) (fun h126 => absurd h126 (by decide))
                            refine wk_iconst (pc := 157) (v := (nI (0))) S_ d_Md_rules_157 (by decide) ?_
                            refine wk_istore (pc := 158) (lv' := [(7, .int (nI (0))), (0, .ref (m 0)), (1, .int (nI (c1))), (2, .int (nI (n))), (3, .int (zI (0))), (4, .int (nI (x))), (5, .int (nI (p))), (6, .int (nI (v - 1)))]) S_ d_Md_rules_158 (by decide) rfl ?_
                            refine wk_iload (pc := 160) S_ 0 d_Md_rules_160 rfl ?_
                            refine wk_if_eqN (pc := 162) (tgt := 198) S_ d_Md_rules_162 (by decide) (by omega) (fun h162 => ?_) (fun h162 => absurd h162 (by decide))
                            refine wk_iconst (pc := 198) (v := (nI (0))) S_ d_Md_rules_198 (by decide) ?_
                            refine wk_top (y := (bI (false))) rfl ?_
                            refine wk_istore (pc := 199) (lv' := [(7, .int (bI (false))), (0, .ref (m 0)), (1, .int (nI (c1))), (2, .int (nI (n))), (3, .int (zI (0))), (4, .int (nI (x))), (5, .int (nI (p))), (6, .int (nI (v - 1)))]) S_ d_Md_rules_199 (by decide) rfl ?_
                            refine wk_lveq (lv' := [(7, .int (bI (false))), (0, .ref (m 0)), (1, .int (nI (c1))), (2, .int (nI (n))), (3, .int (zI (0))), (4, .int (nI (x))), (5, .int (nI (p))), (6, .int (zI (v)))]) (by rw [zI_p hv0]) ?_
                            refine wk_lv [1, 2, 3, 4, 5, 6, 7, 0] ?_ (hJ201 (false) (by rw [eq_comm, gdN]; simp only [decide_eq_false_iff_not]; omega))
                            rfl
                          · -- on
                            refine wk_iconst (pc := 117) (v := (nI (1))) S_ d_Md_rules_117 (by decide) ?_
                            refine wk_goto (pc := 118) (tgt := 122) S_ d_Md_rules_118 (by decide) ?_
                            refine wk_istore (pc := 122) (lv' := [(7, .int (nI (1))), (0, .ref (m 0)), (1, .int (nI (c1))), (2, .int (nI (n))), (3, .int (zI (0))), (4, .int (nI (x))), (5, .int (nI (p))), (6, .int (nI (v - 1)))]) S_ d_Md_rules_122 (by decide) rfl ?_
                            refine wk_iload (pc := 124) S_ 0 d_Md_rules_124 rfl ?_
                            refine wk_if_eqN (pc := 126) (tgt := 157) S_ d_Md_rules_126 (by decide) (by omega) (fun h126 => absurd h126 (by decide)) (fun h126 => ?_)
                            refine wk_iload (pc := 129) S_ 5 d_Md_rules_129 rfl ?_
                            refine wk_bipush (pc := 131) (v := (nI (6))) S_ d_Md_rules_131 (by decide) ?_
                            refine wk_icmp_neN (pc := 133) (tgt := 153) S_ d_Md_rules_133 (by decide) (by omega) (by omega) (fun h133 => ?_) (fun h133 => ?_)
                            · -- taken
                              refine wk_iconst (pc := 153) (v := (nI (1))) S_ d_Md_rules_153 (by decide) ?_
                              refine wk_goto (pc := 154) (tgt := 158) S_ d_Md_rules_154 (by decide) ?_
                              refine wk_istore (pc := 158) (lv' := [(7, .int (nI (1))), (0, .ref (m 0)), (1, .int (nI (c1))), (2, .int (nI (n))), (3, .int (zI (0))), (4, .int (nI (x))), (5, .int (nI (p))), (6, .int (nI (v - 1)))]) S_ d_Md_rules_158 (by decide) rfl ?_
                              refine wk_iload (pc := 160) S_ 0 d_Md_rules_160 rfl ?_
                              refine wk_if_eqN (pc := 162) (tgt := 198) S_ d_Md_rules_162 (by decide) (by omega) (fun h162 => absurd h162 (by decide)) (fun h162 => ?_)
                              refine wk_iload (pc := 165) S_ 5 d_Md_rules_165 rfl ?_
                              refine wk_iconst (pc := 167) (v := (nI (4))) S_ d_Md_rules_167 (by decide) ?_
                              refine wk_icmp_neN (pc := 168) (tgt := 194) S_ d_Md_rules_168 (by decide) (by omega) (by omega) (fun h168 => ?_) (fun h168 => ?_)
                              · -- taken
                                refine wk_iconst (pc := 194) (v := (nI (1))) S_ d_Md_rules_194 (by decide) ?_
                                refine wk_goto (pc := 195) (tgt := 199) S_ d_Md_rules_195 (by decide) ?_
                                refine wk_top (y := (bI (true))) rfl ?_
                                refine wk_istore (pc := 199) (lv' := [(7, .int (bI (true))), (0, .ref (m 0)), (1, .int (nI (c1))), (2, .int (nI (n))), (3, .int (zI (0))), (4, .int (nI (x))), (5, .int (nI (p))), (6, .int (nI (v - 1)))]) S_ d_Md_rules_199 (by decide) rfl ?_
                                refine wk_lveq (lv' := [(7, .int (bI (true))), (0, .ref (m 0)), (1, .int (nI (c1))), (2, .int (nI (n))), (3, .int (zI (0))), (4, .int (nI (x))), (5, .int (nI (p))), (6, .int (zI (v)))]) (by rw [zI_p hv0]) ?_
                                refine wk_lv [1, 2, 3, 4, 5, 6, 7, 0] ?_ (hJ201 (true) (by rw [eq_comm, gdN]; simp only [decide_eq_true_eq]; omega))
                                rfl
                              · -- on
                                refine wk_iload (pc := 171) S_ 6 d_Md_rules_171 rfl ?_
                                refine wk_iconst (pc := 173) (v := (nI (1))) S_ d_Md_rules_173 (by decide) ?_
                                refine wk_icmp_neN (pc := 174) (tgt := 194) S_ d_Md_rules_174 (by decide) (by omega) (by omega) (fun h174 => ?_) (fun h174 => ?_)
                                · -- taken
                                  refine wk_iconst (pc := 194) (v := (nI (1))) S_ d_Md_rules_194 (by decide) ?_
                                  refine wk_goto (pc := 195) (tgt := 199) S_ d_Md_rules_195 (by decide) ?_
                                  refine wk_top (y := (bI (true))) rfl ?_
                                  refine wk_istore (pc := 199) (lv' := [(7, .int (bI (true))), (0, .ref (m 0)), (1, .int (nI (c1))), (2, .int (nI (n))), (3, .int (zI (0))), (4, .int (nI (x))), (5, .int (nI (p))), (6, .int (nI (v - 1)))]) S_ d_Md_rules_199 (by decide) rfl ?_
                                  refine wk_lveq (lv' := [(7, .int (bI (true))), (0, .ref (m 0)), (1, .int (nI (c1))), (2, .int (nI (n))), (3, .int (zI (0))), (4, .int (nI (x))), (5, .int (nI (p))), (6, .int (zI (v)))]) (by rw [zI_p hv0]) ?_
                                  refine wk_lv [1, 2, 3, 4, 5, 6, 7, 0] ?_ (hJ201 (true) (by rw [eq_comm, gdN]; simp only [decide_eq_true_eq]; omega))
                                  rfl
                                · -- on
                                  refine wk_aload_n (pc := 177) S_ 1 d_Md_rules_177 rfl rfl ?_
                                  refine wk_aload_n (pc := 178) S_ 1 d_Md_rules_178 rfl rfl ?_
                                  refine wk_get (pc := 179) (v := .ref (m 33)) S_ 6 43 0 in_Md rfl (by decide) rfl fl_Md_108 d_Md_rules_179 rfl rfl ?_
                                  refine wk_iconst (pc := 182) (v := (nI (0))) S_ d_Md_rules_182 (by decide) ?_
                                  have ht0 := ht2 rfl 0 (by omega)
                                  have ht8 : td2 0 - 1 ≤ 8 := by have h := ht0.2; rw [h168] at h; exact h
                                  refine wk_ialdY (pc := 183) (g := td2) S_ 33 0 d_Md_rules_183 rfl rfl (by omega) (by decide) ?_
                                  refine wk_top (y := (nI (td2 0 - 1))) (zI_p ht0.1) ?_
                                  refine wk_iload (pc := 184) S_ 7 d_Md_rules_184 rfl ?_
                                  refine wk_run (pc := 186) (rest := []) (wr := []) (wN := fun _ => (wMd m cI tx sz ap pt rk cd fr mc mg mz nc nt ld q.1 q.2.1 q.2.2.1 q.2.2.2.1 q.2.2.2.2.1 q.2.2.2.2.2.1 q.2.2.2.2.2.2.1 q.2.2.2.2.2.2.2.1 q.2.2.2.2.2.2.2.2.1 q.2.2.2.2.2.2.2.2.2.1 q.2.2.2.2.2.2.2.2.2.2 nb cl gr sp ot na aw nx bg bb ab fd pv bx wy li (wdB tx sz en2) (wdE tx sz en2) nu td2 lf lk)) S_ (wk_rV S_ (c_Md_markOf l D cI z (m) (tx) (sz) (ap) (pt) (rk) (cd) (fr) (mc) (mg) (mz) (nc) (nt) (ld) (q.1) (q.2.1) (q.2.2.1) (q.2.2.2.1) (q.2.2.2.2.1) (q.2.2.2.2.2.1) (q.2.2.2.2.2.2.1) (q.2.2.2.2.2.2.2.1) (q.2.2.2.2.2.2.2.2.1) (q.2.2.2.2.2.2.2.2.2.1) (q.2.2.2.2.2.2.2.2.2.2) (nb) (cl) (gr) (sp) (ot) (na) (aw) (nx) (bg) (bb) (ab) (fd) (pv) (bx) (wy) (li) (wdB tx sz en2) (wdE tx sz en2) (nu) (td2) (lf) (lk) (td2 0 - 1) (v - 1) (by omega) (by omega) hq.1 hq.2.1) mv_Md_175 (wk_rcv S_ 0 6 rfl rfl rfl) rfl rfl (Nat.le_of_ble_eq_true rfl) (by rw [hR_]; decide) (by rw [hR_]; decide) d_Md_rules_186) [0, 1, 2, 3, 4, 5, 6, 7, 8, 9, 10, 11, 12, 13, 14, 15, 16, 17, 18, 19, 20, 21, 22, 23, 24, 25, 26, 27, 28, 29, 30, 31, 32, 33] [] [0, 1, 2, 3, 4, 5, 6, 7, 8, 9, 10, 11, 12, 13, 14, 15, 16, 17, 18, 19, 20, 21, 22, 23, 24, 25, 26, 27, 28, 29, 30, 31, 32, 33] rfl rfl rfl (by decide) (by decide) (by decide) (by decide) (fun _ => rfl) (fun _ => rfl) (fun r186 _ hw186 => ?_)
                                  refine wk_st (st' := [.int (r186)]) rfl ?_
                                  refine wk_top (y := (nI (mpS (q.2.2.2.2.2.2.1) (td2 0 - 1) (v - 1) ((q.2.2.2.2.2.1) (td2 0 - 1)) 0))) hw186 ?_
                                  refine wk_bipush (pc := 189) (v := (nI (6))) S_ d_Md_rules_189 (by decide) ?_
                                  have hm6 := (mpS_le (mg := q.2.2.2.2.2.2.1) (c := td2 0 - 1) (g := v - 1) ((q.2.2.2.2.2.1) (td2 0 - 1)) 0).2
                                  have hm7 : (q.2.2.2.2.2.1) (td2 0 - 1) ≤ 6 := hq.1 (td2 0 - 1)
                                  refine wk_icmp_eqN (pc := 191) (tgt := 198) S_ d_Md_rules_191 (by decide) (by omega) (by omega) (fun h191 => ?_) (fun h191 => ?_)
                                  · -- taken
                                    refine wk_iconst (pc := 198) (v := (nI (0))) S_ d_Md_rules_198 (by decide) ?_
                                    refine wk_top (y := (bI (false))) rfl ?_
                                    refine wk_istore (pc := 199) (lv' := [(7, .int (bI (false))), (0, .ref (m 0)), (1, .int (nI (c1))), (2, .int (nI (n))), (3, .int (zI (0))), (4, .int (nI (x))), (5, .int (nI (p))), (6, .int (nI (v - 1)))]) S_ d_Md_rules_199 (by decide) rfl ?_
                                    refine wk_lveq (lv' := [(7, .int (bI (false))), (0, .ref (m 0)), (1, .int (nI (c1))), (2, .int (nI (n))), (3, .int (zI (0))), (4, .int (nI (x))), (5, .int (nI (p))), (6, .int (zI (v)))]) (by rw [zI_p hv0]) ?_
                                    refine wk_lv [1, 2, 3, 4, 5, 6, 7, 0] ?_ (hJ201 (false) (by rw [eq_comm, gdN]; simp only [decide_eq_false_iff_not]; omega))
                                    rfl
                                  · -- on
                                    refine wk_iconst (pc := 194) (v := (nI (1))) S_ d_Md_rules_194 (by decide) ?_
                                    refine wk_goto (pc := 195) (tgt := 199) S_ d_Md_rules_195 (by decide) ?_
                                    refine wk_top (y := (bI (true))) rfl ?_
                                    refine wk_istore (pc := 199) (lv' := [(7, .int (bI (true))), (0, .ref (m 0)), (1, .int (nI (c1))), (2, .int (nI (n))), (3, .int (zI (0))), (4, .int (nI (x))), (5, .int (nI (p))), (6, .int (nI (v - 1)))]) S_ d_Md_rules_199 (by decide) rfl ?_
                                    refine wk_lveq (lv' := [(7, .int (bI (true))), (0, .ref (m 0)), (1, .int (nI (c1))), (2, .int (nI (n))), (3, .int (zI (0))), (4, .int (nI (x))), (5, .int (nI (p))), (6, .int (zI (v)))]) (by rw [zI_p hv0]) ?_
                                    refine wk_lv [1, 2, 3, 4, 5, 6, 7, 0] ?_ (hJ201 (true) (by rw [eq_comm, gdN]; simp only [decide_eq_true_eq]; omega))
                                    rfl
                            · -- on
                              refine wk_iload (pc := 136) S_ 6 d_Md_rules_136 rfl ?_
                              refine wk_if_neN (pc := 138) (tgt := 153) S_ d_Md_rules_138 (by decide) (by omega) (fun h138 => ?_) (fun h138 => ?_)
                              · -- taken
                                refine wk_iconst (pc := 153) (v := (nI (1))) S_ d_Md_rules_153 (by decide) ?_
                                refine wk_goto (pc := 154) (tgt := 158) S_ d_Md_rules_154 (by decide) ?_
                                refine wk_istore (pc := 158) (lv' := [(7, .int (nI (1))), (0, .ref (m 0)), (1, .int (nI (c1))), (2, .int (nI (n))), (3, .int (zI (0))), (4, .int (nI (x))), (5, .int (nI (p))), (6, .int (nI (v - 1)))]) S_ d_Md_rules_158 (by decide) rfl ?_
                                refine wk_iload (pc := 160) S_ 0 d_Md_rules_160 rfl ?_
                                refine wk_if_eqN (pc := 162) (tgt := 198) S_ d_Md_rules_162 (by decide) (by omega) (fun h162 => absurd h162 (by decide)) (fun h162 => ?_)
                                refine wk_iload (pc := 165) S_ 5 d_Md_rules_165 rfl ?_
                                refine wk_iconst (pc := 167) (v := (nI (4))) S_ d_Md_rules_167 (by decide) ?_
                                refine wk_icmp_neN (pc := 168) (tgt := 194) S_ d_Md_rules_168 (by decide) (by omega) (by omega) (fun h168 => ?_) (fun h168 => ?_)
                                · -- taken
                                  refine wk_iconst (pc := 194) (v := (nI (1))) S_ d_Md_rules_194 (by decide) ?_
                                  refine wk_goto (pc := 195) (tgt := 199) S_ d_Md_rules_195 (by decide) ?_
                                  refine wk_top (y := (bI (true))) rfl ?_
                                  refine wk_istore (pc := 199) (lv' := [(7, .int (bI (true))), (0, .ref (m 0)), (1, .int (nI (c1))), (2, .int (nI (n))), (3, .int (zI (0))), (4, .int (nI (x))), (5, .int (nI (p))), (6, .int (nI (v - 1)))]) S_ d_Md_rules_199 (by decide) rfl ?_
                                  refine wk_lveq (lv' := [(7, .int (bI (true))), (0, .ref (m 0)), (1, .int (nI (c1))), (2, .int (nI (n))), (3, .int (zI (0))), (4, .int (nI (x))), (5, .int (nI (p))), (6, .int (zI (v)))]) (by rw [zI_p hv0]) ?_
                                  refine wk_lv [1, 2, 3, 4, 5, 6, 7, 0] ?_ (hJ201 (true) (by rw [eq_comm, gdN]; simp only [decide_eq_true_eq]; omega))
                                  rfl
                                · -- on
                                  refine wk_iload (pc := 171) S_ 6 d_Md_rules_171 rfl ?_
                                  refine wk_iconst (pc := 173) (v := (nI (1))) S_ d_Md_rules_173 (by decide) ?_
                                  refine wk_icmp_neN (pc := 174) (tgt := 194) S_ d_Md_rules_174 (by decide) (by omega) (by omega) (fun h174 => ?_) (fun h174 => ?_)
                                  · -- taken
                                    refine wk_iconst (pc := 194) (v := (nI (1))) S_ d_Md_rules_194 (by decide) ?_
                                    refine wk_goto (pc := 195) (tgt := 199) S_ d_Md_rules_195 (by decide) ?_
                                    refine wk_top (y := (bI (true))) rfl ?_
                                    refine wk_istore (pc := 199) (lv' := [(7, .int (bI (true))), (0, .ref (m 0)), (1, .int (nI (c1))), (2, .int (nI (n))), (3, .int (zI (0))), (4, .int (nI (x))), (5, .int (nI (p))), (6, .int (nI (v - 1)))]) S_ d_Md_rules_199 (by decide) rfl ?_
                                    refine wk_lveq (lv' := [(7, .int (bI (true))), (0, .ref (m 0)), (1, .int (nI (c1))), (2, .int (nI (n))), (3, .int (zI (0))), (4, .int (nI (x))), (5, .int (nI (p))), (6, .int (zI (v)))]) (by rw [zI_p hv0]) ?_
                                    refine wk_lv [1, 2, 3, 4, 5, 6, 7, 0] ?_ (hJ201 (true) (by rw [eq_comm, gdN]; simp only [decide_eq_true_eq]; omega))
                                    rfl
                                  · -- on
                                    refine wk_aload_n (pc := 177) S_ 1 d_Md_rules_177 rfl rfl ?_
                                    refine wk_aload_n (pc := 178) S_ 1 d_Md_rules_178 rfl rfl ?_
                                    refine wk_get (pc := 179) (v := .ref (m 33)) S_ 6 43 0 in_Md rfl (by decide) rfl fl_Md_108 d_Md_rules_179 rfl rfl ?_
                                    refine wk_iconst (pc := 182) (v := (nI (0))) S_ d_Md_rules_182 (by decide) ?_
                                    have ht0 := ht2 rfl 0 (by omega)
                                    have ht8 : td2 0 - 1 ≤ 8 := by have h := ht0.2; rw [h168] at h; exact h
                                    refine wk_ialdY (pc := 183) (g := td2) S_ 33 0 d_Md_rules_183 rfl rfl (by omega) (by decide) ?_
                                    refine wk_top (y := (nI (td2 0 - 1))) (zI_p ht0.1) ?_
                                    refine wk_iload (pc := 184) S_ 7 d_Md_rules_184 rfl ?_
                                    refine wk_run (pc := 186) (rest := []) (wr := []) (wN := fun _ => (wMd m cI tx sz ap pt rk cd fr mc mg mz nc nt ld q.1 q.2.1 q.2.2.1 q.2.2.2.1 q.2.2.2.2.1 q.2.2.2.2.2.1 q.2.2.2.2.2.2.1 q.2.2.2.2.2.2.2.1 q.2.2.2.2.2.2.2.2.1 q.2.2.2.2.2.2.2.2.2.1 q.2.2.2.2.2.2.2.2.2.2 nb cl gr sp ot na aw nx bg bb ab fd pv bx wy li (wdB tx sz en2) (wdE tx sz en2) nu td2 lf lk)) S_ (wk_rV S_ (c_Md_markOf l D cI z (m) (tx) (sz) (ap) (pt) (rk) (cd) (fr) (mc) (mg) (mz) (nc) (nt) (ld) (q.1) (q.2.1) (q.2.2.1) (q.2.2.2.1) (q.2.2.2.2.1) (q.2.2.2.2.2.1) (q.2.2.2.2.2.2.1) (q.2.2.2.2.2.2.2.1) (q.2.2.2.2.2.2.2.2.1) (q.2.2.2.2.2.2.2.2.2.1) (q.2.2.2.2.2.2.2.2.2.2) (nb) (cl) (gr) (sp) (ot) (na) (aw) (nx) (bg) (bb) (ab) (fd) (pv) (bx) (wy) (li) (wdB tx sz en2) (wdE tx sz en2) (nu) (td2) (lf) (lk) (td2 0 - 1) (v - 1) (by omega) (by omega) hq.1 hq.2.1) mv_Md_175 (wk_rcv S_ 0 6 rfl rfl rfl) rfl rfl (Nat.le_of_ble_eq_true rfl) (by rw [hR_]; decide) (by rw [hR_]; decide) d_Md_rules_186) [0, 1, 2, 3, 4, 5, 6, 7, 8, 9, 10, 11, 12, 13, 14, 15, 16, 17, 18, 19, 20, 21, 22, 23, 24, 25, 26, 27, 28, 29, 30, 31, 32, 33] [] [0, 1, 2, 3, 4, 5, 6, 7, 8, 9, 10, 11, 12, 13, 14, 15, 16, 17, 18, 19, 20, 21, 22, 23, 24, 25, 26, 27, 28, 29, 30, 31, 32, 33] rfl rfl rfl (by decide) (by decide) (by decide) (by decide) (fun _ => rfl) (fun _ => rfl) (fun r186 _ hw186 => ?_)
                                    refine wk_st (st' := [.int (r186)]) rfl ?_
                                    refine wk_top (y := (nI (mpS (q.2.2.2.2.2.2.1) (td2 0 - 1) (v - 1) ((q.2.2.2.2.2.1) (td2 0 - 1)) 0))) hw186 ?_
                                    refine wk_bipush (pc := 189) (v := (nI (6))) S_ d_Md_rules_189 (by decide) ?_
                                    have hm6 := (mpS_le (mg := q.2.2.2.2.2.2.1) (c := td2 0 - 1) (g := v - 1) ((q.2.2.2.2.2.1) (td2 0 - 1)) 0).2
                                    have hm7 : (q.2.2.2.2.2.1) (td2 0 - 1) ≤ 6 := hq.1 (td2 0 - 1)
                                    refine wk_icmp_eqN (pc := 191) (tgt := 198) S_ d_Md_rules_191 (by decide) (by omega) (by omega) (fun h191 => ?_) (fun h191 => ?_)
                                    · -- taken
                                      refine wk_iconst (pc := 198) (v := (nI (0))) S_ d_Md_rules_198 (by decide) ?_
                                      refine wk_top (y := (bI (false))) rfl ?_
                                      refine wk_istore (pc := 199) (lv' := [(7, .int (bI (false))), (0, .ref (m 0)), (1, .int (nI (c1))), (2, .int (nI (n))), (3, .int (zI (0))), (4, .int (nI (x))), (5, .int (nI (p))), (6, .int (nI (v - 1)))]) S_ d_Md_rules_199 (by decide) rfl ?_
                                      refine wk_lveq (lv' := [(7, .int (bI (false))), (0, .ref (m 0)), (1, .int (nI (c1))), (2, .int (nI (n))), (3, .int (zI (0))), (4, .int (nI (x))), (5, .int (nI (p))), (6, .int (zI (v)))]) (by rw [zI_p hv0]) ?_
                                      refine wk_lv [1, 2, 3, 4, 5, 6, 7, 0] ?_ (hJ201 (false) (by rw [eq_comm, gdN]; simp only [decide_eq_false_iff_not]; omega))
                                      rfl
                                    · -- on
                                      refine wk_iconst (pc := 194) (v := (nI (1))) S_ d_Md_rules_194 (by decide) ?_
                                      refine wk_goto (pc := 195) (tgt := 199) S_ d_Md_rules_195 (by decide) ?_
                                      refine wk_top (y := (bI (true))) rfl ?_
                                      refine wk_istore (pc := 199) (lv' := [(7, .int (bI (true))), (0, .ref (m 0)), (1, .int (nI (c1))), (2, .int (nI (n))), (3, .int (zI (0))), (4, .int (nI (x))), (5, .int (nI (p))), (6, .int (nI (v - 1)))]) S_ d_Md_rules_199 (by decide) rfl ?_
                                      refine wk_lveq (lv' := [(7, .int (bI (true))), (0, .ref (m 0)), (1, .int (nI (c1))), (2, .int (nI (n))), (3, .int (zI (0))), (4, .int (nI (x))), (5, .int (nI (p))), (6, .int (zI (v)))]) (by rw [zI_p hv0]) ?_
                                      refine wk_lv [1, 2, 3, 4, 5, 6, 7, 0] ?_ (hJ201 (true) (by rw [eq_comm, gdN]; simp only [decide_eq_true_eq]; omega))
                                      rfl
                              · -- on
                                refine wk_aload_n (pc := 141) S_ 1 d_Md_rules_141 rfl rfl ?_
                                refine wk_get (pc := 142) (v := .ref (m 19)) S_ 6 21 0 in_Md rfl (by decide) rfl fl_Md_65 d_Md_rules_142 rfl rfl ?_
                                refine wk_iload (pc := 145) S_ 7 d_Md_rules_145 rfl ?_
                                have hg3 : v - 1 ≤ 3 := by have h := h114; rw [h133, h138] at h; exact h
                                refine wk_ialdN (pc := 147) (g := q.2.2.2.2.2.2.2.2.1) S_ 19 0 d_Md_rules_147 rfl rfl (by omega) (by decide) ?_
                                refine wk_bipush (pc := 148) (v := (nI (8))) S_ d_Md_rules_148 (by decide) ?_
                                have hn1 : (q.2.2.2.2.2.2.2.2.1) (v - 1) ≤ 8 := hq.2.2 (v - 1)
                                refine wk_icmp_eqN (pc := 150) (tgt := 157) S_ d_Md_rules_150 (by decide) (by omega) (by omega) (fun h150 => ?_) (fun h150 => ?_)
                                · -- taken
                                  refine wk_iconst (pc := 157) (v := (nI (0))) S_ d_Md_rules_157 (by decide) ?_
                                  refine wk_istore (pc := 158) (lv' := [(7, .int (nI (0))), (0, .ref (m 0)), (1, .int (nI (c1))), (2, .int (nI (n))), (3, .int (zI (0))), (4, .int (nI (x))), (5, .int (nI (p))), (6, .int (nI (v - 1)))]) S_ d_Md_rules_158 (by decide) rfl ?_
                                  refine wk_iload (pc := 160) S_ 0 d_Md_rules_160 rfl ?_
                                  refine wk_if_eqN (pc := 162) (tgt := 198) S_ d_Md_rules_162 (by decide) (by omega) (fun h162 => ?_) (fun h162 => absurd h162 (by decide))
                                  refine wk_iconst (pc := 198) (v := (nI (0))) S_ d_Md_rules_198 (by decide) ?_
                                  refine wk_top (y := (bI (false))) rfl ?_
                                  refine wk_istore (pc := 199) (lv' := [(7, .int (bI (false))), (0, .ref (m 0)), (1, .int (nI (c1))), (2, .int (nI (n))), (3, .int (zI (0))), (4, .int (nI (x))), (5, .int (nI (p))), (6, .int (nI (v - 1)))]) S_ d_Md_rules_199 (by decide) rfl ?_
                                  refine wk_lveq (lv' := [(7, .int (bI (false))), (0, .ref (m 0)), (1, .int (nI (c1))), (2, .int (nI (n))), (3, .int (zI (0))), (4, .int (nI (x))), (5, .int (nI (p))), (6, .int (zI (v)))]) (by rw [zI_p hv0]) ?_
                                  refine wk_lv [1, 2, 3, 4, 5, 6, 7, 0] ?_ (hJ201 (false) (by rw [eq_comm, gdN]; simp only [decide_eq_false_iff_not]; omega))
                                  rfl
                                · -- on
                                  refine wk_iconst (pc := 153) (v := (nI (1))) S_ d_Md_rules_153 (by decide) ?_
                                  refine wk_goto (pc := 154) (tgt := 158) S_ d_Md_rules_154 (by decide) ?_
                                  refine wk_istore (pc := 158) (lv' := [(7, .int (nI (1))), (0, .ref (m 0)), (1, .int (nI (c1))), (2, .int (nI (n))), (3, .int (zI (0))), (4, .int (nI (x))), (5, .int (nI (p))), (6, .int (nI (v - 1)))]) S_ d_Md_rules_158 (by decide) rfl ?_
                                  refine wk_iload (pc := 160) S_ 0 d_Md_rules_160 rfl ?_
                                  refine wk_if_eqN (pc := 162) (tgt := 198) S_ d_Md_rules_162 (by decide) (by omega) (fun h162 => absurd h162 (by decide)) (fun h162 => ?_)
                                  refine wk_iload (pc := 165) S_ 5 d_Md_rules_165 rfl ?_
                                  refine wk_iconst (pc := 167) (v := (nI (4))) S_ d_Md_rules_167 (by decide) ?_
                                  refine wk_icmp_neN (pc := 168) (tgt := 194) S_ d_Md_rules_168 (by decide) (by omega) (by omega) (fun h168 => ?_) (fun h168 => ?_)
                                  · -- taken
                                    refine wk_iconst (pc := 194) (v := (nI (1))) S_ d_Md_rules_194 (by decide) ?_
                                    refine wk_goto (pc := 195) (tgt := 199) S_ d_Md_rules_195 (by decide) ?_
                                    refine wk_top (y := (bI (true))) rfl ?_
                                    refine wk_istore (pc := 199) (lv' := [(7, .int (bI (true))), (0, .ref (m 0)), (1, .int (nI (c1))), (2, .int (nI (n))), (3, .int (zI (0))), (4, .int (nI (x))), (5, .int (nI (p))), (6, .int (nI (v - 1)))]) S_ d_Md_rules_199 (by decide) rfl ?_
                                    refine wk_lveq (lv' := [(7, .int (bI (true))), (0, .ref (m 0)), (1, .int (nI (c1))), (2, .int (nI (n))), (3, .int (zI (0))), (4, .int (nI (x))), (5, .int (nI (p))), (6, .int (zI (v)))]) (by rw [zI_p hv0]) ?_
                                    refine wk_lv [1, 2, 3, 4, 5, 6, 7, 0] ?_ (hJ201 (true) (by rw [eq_comm, gdN]; simp only [decide_eq_true_eq]; omega))
                                    rfl
                                  · -- on
                                    refine wk_iload (pc := 171) S_ 6 d_Md_rules_171 rfl ?_
                                    refine wk_iconst (pc := 173) (v := (nI (1))) S_ d_Md_rules_173 (by decide) ?_
                                    refine wk_icmp_neN (pc := 174) (tgt := 194) S_ d_Md_rules_174 (by decide) (by omega) (by omega) (fun h174 => ?_) (fun h174 => ?_)
                                    · -- taken
                                      refine wk_iconst (pc := 194) (v := (nI (1))) S_ d_Md_rules_194 (by decide) ?_
                                      refine wk_goto (pc := 195) (tgt := 199) S_ d_Md_rules_195 (by decide) ?_
                                      refine wk_top (y := (bI (true))) rfl ?_
                                      refine wk_istore (pc := 199) (lv' := [(7, .int (bI (true))), (0, .ref (m 0)), (1, .int (nI (c1))), (2, .int (nI (n))), (3, .int (zI (0))), (4, .int (nI (x))), (5, .int (nI (p))), (6, .int (nI (v - 1)))]) S_ d_Md_rules_199 (by decide) rfl ?_
                                      refine wk_lveq (lv' := [(7, .int (bI (true))), (0, .ref (m 0)), (1, .int (nI (c1))), (2, .int (nI (n))), (3, .int (zI (0))), (4, .int (nI (x))), (5, .int (nI (p))), (6, .int (zI (v)))]) (by rw [zI_p hv0]) ?_
                                      refine wk_lv [1, 2, 3, 4, 5, 6, 7, 0] ?_ (hJ201 (true) (by rw [eq_comm, gdN]; simp only [decide_eq_true_eq]; omega))
                                      rfl
                                    · -- on
                                      refine wk_aload_n (pc := 177) S_ 1 d_Md_rules_177 rfl rfl ?_
                                      refine wk_aload_n (pc := 178) S_ 1 d_Md_rules_178 rfl rfl ?_
                                      refine wk_get (pc := 179) (v := .ref (m 33)) S_ 6 43 0 in_Md rfl (by decide) rfl fl_Md_108 d_Md_rules_179 rfl rfl ?_
                                      refine wk_iconst (pc := 182) (v := (nI (0))) S_ d_Md_rules_182 (by decide) ?_
                                      have ht0 := ht2 rfl 0 (by omega)
                                      have ht8 : td2 0 - 1 ≤ 8 := by have h := ht0.2; rw [h168] at h; exact h
                                      refine wk_ialdY (pc := 183) (g := td2) S_ 33 0 d_Md_rules_183 rfl rfl (by omega) (by decide) ?_
                                      refine wk_top (y := (nI (td2 0 - 1))) (zI_p ht0.1) ?_
                                      refine wk_iload (pc := 184) S_ 7 d_Md_rules_184 rfl ?_
                                      refine wk_run (pc := 186) (rest := []) (wr := []) (wN := fun _ => (wMd m cI tx sz ap pt rk cd fr mc mg mz nc nt ld q.1 q.2.1 q.2.2.1 q.2.2.2.1 q.2.2.2.2.1 q.2.2.2.2.2.1 q.2.2.2.2.2.2.1 q.2.2.2.2.2.2.2.1 q.2.2.2.2.2.2.2.2.1 q.2.2.2.2.2.2.2.2.2.1 q.2.2.2.2.2.2.2.2.2.2 nb cl gr sp ot na aw nx bg bb ab fd pv bx wy li (wdB tx sz en2) (wdE tx sz en2) nu td2 lf lk)) S_ (wk_rV S_ (c_Md_markOf l D cI z (m) (tx) (sz) (ap) (pt) (rk) (cd) (fr) (mc) (mg) (mz) (nc) (nt) (ld) (q.1) (q.2.1) (q.2.2.1) (q.2.2.2.1) (q.2.2.2.2.1) (q.2.2.2.2.2.1) (q.2.2.2.2.2.2.1) (q.2.2.2.2.2.2.2.1) (q.2.2.2.2.2.2.2.2.1) (q.2.2.2.2.2.2.2.2.2.1) (q.2.2.2.2.2.2.2.2.2.2) (nb) (cl) (gr) (sp) (ot) (na) (aw) (nx) (bg) (bb) (ab) (fd) (pv) (bx) (wy) (li) (wdB tx sz en2) (wdE tx sz en2) (nu) (td2) (lf) (lk) (td2 0 - 1) (v - 1) (by omega) (by omega) hq.1 hq.2.1) mv_Md_175 (wk_rcv S_ 0 6 rfl rfl rfl) rfl rfl (Nat.le_of_ble_eq_true rfl) (by rw [hR_]; decide) (by rw [hR_]; decide) d_Md_rules_186) [0, 1, 2, 3, 4, 5, 6, 7, 8, 9, 10, 11, 12, 13, 14, 15, 16, 17, 18, 19, 20, 21, 22, 23, 24, 25, 26, 27, 28, 29, 30, 31, 32, 33] [] [0, 1, 2, 3, 4, 5, 6, 7, 8, 9, 10, 11, 12, 13, 14, 15, 16, 17, 18, 19, 20, 21, 22, 23, 24, 25, 26, 27, 28, 29, 30, 31, 32, 33] rfl rfl rfl (by decide) (by decide) (by decide) (by decide) (fun _ => rfl) (fun _ => rfl) (fun r186 _ hw186 => ?_)
                                      refine wk_st (st' := [.int (r186)]) rfl ?_
                                      refine wk_top (y := (nI (mpS (q.2.2.2.2.2.2.1) (td2 0 - 1) (v - 1) ((q.2.2.2.2.2.1) (td2 0 - 1)) 0))) hw186 ?_
                                      refine wk_bipush (pc := 189) (v := (nI (6))) S_ d_Md_rules_189 (by decide) ?_
                                      have hm6 := (mpS_le (mg := q.2.2.2.2.2.2.1) (c := td2 0 - 1) (g := v - 1) ((q.2.2.2.2.2.1) (td2 0 - 1)) 0).2
                                      have hm7 : (q.2.2.2.2.2.1) (td2 0 - 1) ≤ 6 := hq.1 (td2 0 - 1)
                                      refine wk_icmp_eqN (pc := 191) (tgt := 198) S_ d_Md_rules_191 (by decide) (by omega) (by omega) (fun h191 => ?_) (fun h191 => ?_)
                                      · -- taken
                                        refine wk_iconst (pc := 198) (v := (nI (0))) S_ d_Md_rules_198 (by decide) ?_
                                        refine wk_top (y := (bI (false))) rfl ?_
                                        refine wk_istore (pc := 199) (lv' := [(7, .int (bI (false))), (0, .ref (m 0)), (1, .int (nI (c1))), (2, .int (nI (n))), (3, .int (zI (0))), (4, .int (nI (x))), (5, .int (nI (p))), (6, .int (nI (v - 1)))]) S_ d_Md_rules_199 (by decide) rfl ?_
                                        refine wk_lveq (lv' := [(7, .int (bI (false))), (0, .ref (m 0)), (1, .int (nI (c1))), (2, .int (nI (n))), (3, .int (zI (0))), (4, .int (nI (x))), (5, .int (nI (p))), (6, .int (zI (v)))]) (by rw [zI_p hv0]) ?_
                                        refine wk_lv [1, 2, 3, 4, 5, 6, 7, 0] ?_ (hJ201 (false) (by rw [eq_comm, gdN]; simp only [decide_eq_false_iff_not]; omega))
                                        rfl
                                      · -- on
                                        refine wk_iconst (pc := 194) (v := (nI (1))) S_ d_Md_rules_194 (by decide) ?_
                                        refine wk_goto (pc := 195) (tgt := 199) S_ d_Md_rules_195 (by decide) ?_
                                        refine wk_top (y := (bI (true))) rfl ?_
                                        refine wk_istore (pc := 199) (lv' := [(7, .int (bI (true))), (0, .ref (m 0)), (1, .int (nI (c1))), (2, .int (nI (n))), (3, .int (zI (0))), (4, .int (nI (x))), (5, .int (nI (p))), (6, .int (nI (v - 1)))]) S_ d_Md_rules_199 (by decide) rfl ?_
                                        refine wk_lveq (lv' := [(7, .int (bI (true))), (0, .ref (m 0)), (1, .int (nI (c1))), (2, .int (nI (n))), (3, .int (zI (0))), (4, .int (nI (x))), (5, .int (nI (p))), (6, .int (zI (v)))]) (by rw [zI_p hv0]) ?_
                                        refine wk_lv [1, 2, 3, 4, 5, 6, 7, 0] ?_ (hJ201 (true) (by rw [eq_comm, gdN]; simp only [decide_eq_true_eq]; omega))
                                        rfl
                      refine wk_weq (ws' := (wMd m cI tx sz ap pt rk cd fr mc mg mz nc nt ld q.1 q.2.1 q.2.2.1 q.2.2.2.1 q.2.2.2.2.1 q.2.2.2.2.2.1 q.2.2.2.2.2.2.1 q.2.2.2.2.2.2.2.1 q.2.2.2.2.2.2.2.2.1 q.2.2.2.2.2.2.2.2.2.1 q.2.2.2.2.2.2.2.2.2.2 nb cl gr sp ot na aw nx bg bb ab fd pv bx wy li (wdB tx sz en2) (skW (tx) ((sz) - skB (tx) ((sz) - (en2)) (en2)) (skB (tx) ((sz) - (en2)) (en2))) nu td2 lf lk)) (by rfl) ?_
                      refine wk_weq (ws' := (wMd m cI tx sz ap pt rk cd fr mc mg mz nc nt ld q.1 q.2.1 q.2.2.1 q.2.2.2.1 q.2.2.2.2.1 q.2.2.2.2.2.1 q.2.2.2.2.2.2.1 q.2.2.2.2.2.2.2.1 q.2.2.2.2.2.2.2.2.1 q.2.2.2.2.2.2.2.2.2.1 q.2.2.2.2.2.2.2.2.2.2 nb cl gr sp ot na aw nx bg bb ab fd pv bx wy li (wdB tx sz en2) (wdE tx sz en2) nu td2 lf lk)) (by rfl) ?_
                      refine wk_if_eqB (pc := 80) (tgt := 90) S_ d_Md_rules_80 (by decide) (fun h80 => ?_) (fun h80 => ?_)
                      · -- taken
                        refine wk_iconst (pc := 90) (v := (-1)) S_ d_Md_rules_90 (by decide) ?_
                        refine wk_top (y := (zI (v))) (by rw [hv, nmV, if_neg (show ¬ wdB tx sz en2 < sz from of_decide_eq_false h80), zI_0]) ?_
                        refine wk_istore (pc := 91) (lv' := [(6, .int (zI (v))), (0, .ref (m 0)), (1, .int (nI (c1))), (2, .int (nI (n))), (3, .int (zI (0))), (4, .int (nI (x))), (5, .int (nI (p)))]) S_ d_Md_rules_91 (by decide) rfl ?_
                        refine wk_lv [1, 2, 3, 4, 5, 6, 0] ?_ (hJ93  )
                        rfl
                      · -- on
                        refine wk_aload_n (pc := 83) S_ 0 d_Md_rules_83 rfl rfl ?_
                        refine wk_run (pc := 84) (rest := []) (wr := []) (wN := fun _ => (wMd m cI tx sz ap pt rk cd fr mc mg mz nc nt ld q.1 q.2.1 q.2.2.1 q.2.2.2.1 q.2.2.2.2.1 q.2.2.2.2.2.1 q.2.2.2.2.2.2.1 q.2.2.2.2.2.2.2.1 q.2.2.2.2.2.2.2.2.1 q.2.2.2.2.2.2.2.2.2.1 q.2.2.2.2.2.2.2.2.2.2 nb cl gr sp ot na aw nx bg bb ab fd pv bx wy li (wdB tx sz en2) (wdE tx sz en2) nu td2 lf lk)) S_ (wk_rV S_ (c_Md_numberAt l D cI z (m) (tx) (sz) (ap) (pt) (rk) (cd) (fr) (mc) (mg) (mz) (nc) (nt) (ld) (q.1) (q.2.1) (q.2.2.1) (q.2.2.2.1) (q.2.2.2.2.1) (q.2.2.2.2.2.1) (q.2.2.2.2.2.2.1) (q.2.2.2.2.2.2.2.1) (q.2.2.2.2.2.2.2.2.1) (q.2.2.2.2.2.2.2.2.2.1) (q.2.2.2.2.2.2.2.2.2.2) (nb) (cl) (gr) (sp) (ot) (na) (aw) (nx) (bg) (bb) (ab) (fd) (pv) (bx) (wy) (li) (wdB tx sz en2) (wdE tx sz en2) (nu) (td2) (lf) (lk) (by omega) htx) mv_Md_194 (wk_rcv S_ 0 6 rfl rfl rfl) rfl rfl (Nat.le_of_ble_eq_true rfl) (by rw [hR_]; decide) (by rw [hR_]; decide) d_Md_rules_84) [0, 1, 2, 3, 4, 5, 6, 7, 8, 9, 10, 11, 12, 13, 14, 15, 16, 17, 18, 19, 20, 21, 22, 23, 24, 25, 26, 27, 28, 29, 30, 31, 32, 33] [] [0, 1, 2, 3, 4, 5, 6, 7, 8, 9, 10, 11, 12, 13, 14, 15, 16, 17, 18, 19, 20, 21, 22, 23, 24, 25, 26, 27, 28, 29, 30, 31, 32, 33] rfl rfl rfl (by decide) (by decide) (by decide) (by decide) (fun _ => rfl) (fun _ => rfl) (fun r84 _ hw84 => ?_)
                        refine wk_st (st' := [.int (r84)]) rfl ?_
                        refine wk_top (y := (zI (nuN (tx) (wdB tx sz en2) (wdE tx sz en2)))) hw84 ?_
                        refine wk_goto (pc := 87) (tgt := 91) S_ d_Md_rules_87 (by decide) ?_
                        refine wk_top (y := (zI (v))) (by rw [hv, nmV, if_pos (show wdB tx sz en2 < sz from of_decide_eq_true h80)]) ?_
                        refine wk_istore (pc := 91) (lv' := [(6, .int (zI (v))), (0, .ref (m 0)), (1, .int (nI (c1))), (2, .int (nI (n))), (3, .int (zI (0))), (4, .int (nI (x))), (5, .int (nI (p)))]) S_ d_Md_rules_91 (by decide) rfl ?_
                        refine wk_lv [1, 2, 3, 4, 5, 6, 0] ?_ (hJ93  )
                        rfl
              refine wk_lv [3, 1, 4, 5, 2, 0] ?_ (hL62 _ (ptsK x) (0) (c + 1) (0) (td1) (wdE tx sz en1) (wdB tx sz en1) (Nat.lt_succ_self _) (if_pos rfl) (fun _ => by omega) (by omega) (by omega) (by omega) (fun _ i hi => absurd hi (Nat.not_lt_zero i)) (fun _ _ z => absurd z (by decide)) (fun _ _ z => absurd z (by decide)))
              rfl
            refine wk_bipush (pc := 39) (v := (nI (6))) S_ d_Md_rules_39 (by decide) ?_
            refine wk_icmp_neN (pc := 41) (tgt := 56) S_ d_Md_rules_41 (by decide) (by omega) (by omega) (fun h41 => ?_) (fun h41 => ?_)
            · -- taken
              refine wk_lv [0, 1, 2, 3, 4] ?_ (hJ56  (fun z => h41 z.1))
              rfl
            · -- on
              refine wk_aload_n (pc := 44) S_ 1 d_Md_rules_44 rfl rfl ?_
              refine wk_run (pc := 45) (rest := []) (wr := []) (wN := fun _ => (wMd m cI tx sz ap pt rk cd fr mc mg mz nc nt ld q.1 q.2.1 q.2.2.1 q.2.2.2.1 q.2.2.2.2.1 q.2.2.2.2.2.1 q.2.2.2.2.2.2.1 q.2.2.2.2.2.2.2.1 q.2.2.2.2.2.2.2.2.1 q.2.2.2.2.2.2.2.2.2.1 q.2.2.2.2.2.2.2.2.2.2 nb cl gr sp ot na aw nx bg bb ab fd pv bx wy li (wdB tx sz en1) (wdE tx sz en1) nu td1 lf lk)) S_ (wk_rV S_ (c_Md_hasRoom l D cI z (m) (tx) (sz) (ap) (pt) (rk) (cd) (fr) (mc) (mg) (mz) (nc) (nt) (ld) (q.1) (q.2.1) (q.2.2.1) (q.2.2.2.1) (q.2.2.2.2.1) (q.2.2.2.2.2.1) (q.2.2.2.2.2.2.1) (q.2.2.2.2.2.2.2.1) (q.2.2.2.2.2.2.2.2.1) (q.2.2.2.2.2.2.2.2.2.1) (q.2.2.2.2.2.2.2.2.2.2) (nb) (cl) (gr) (sp) (ot) (na) (aw) (nx) (bg) (bb) (ab) (fd) (pv) (bx) (wy) (li) (wdB tx sz en1) (wdE tx sz en1) (nu) (td1) (lf) (lk) hq.2.2) mv_Md_187 (wk_rcv S_ 0 6 rfl rfl rfl) rfl rfl (Nat.le_of_ble_eq_true rfl) (by rw [hR_]; decide) (by rw [hR_]; decide) d_Md_rules_45) [0, 1, 2, 3, 4, 5, 6, 7, 8, 9, 10, 11, 12, 13, 14, 15, 16, 17, 18, 19, 20, 21, 22, 23, 24, 25, 26, 27, 28, 29, 30, 31, 32, 33] [] [0, 1, 2, 3, 4, 5, 6, 7, 8, 9, 10, 11, 12, 13, 14, 15, 16, 17, 18, 19, 20, 21, 22, 23, 24, 25, 26, 27, 28, 29, 30, 31, 32, 33] rfl rfl rfl (by decide) (by decide) (by decide) (by decide) (fun _ => rfl) (fun _ => rfl) (fun r45 _ hw45 => ?_)
              refine wk_st (st' := [.int (r45)]) rfl ?_
              refine wk_top (y := (bI (hrS (q.2.2.2.2.2.2.2.2.1) 4))) hw45 ?_
              refine wk_if_neB (pc := 48) (tgt := 56) S_ d_Md_rules_48 (by decide) (fun h48 => ?_) (fun h48 => ?_)
              · -- taken
                refine wk_lv [0, 1, 2, 3, 4] ?_ (hJ56  (fun z => absurd (h48.symm.trans z.2) (by decide)))
                rfl
              · -- on
                refine wk_iload_n (pc := 51) S_ 2 d_Md_rules_51 rfl rfl ?_
                refine wk_istore_n (pc := 52) (lv' := [(3, .int (nI (c))), (4, .int (nI (x))), (0, .ref (m 0)), (1, .int (nI (c))), (2, .int (nI (n)))]) S_ d_Md_rules_52 rfl (by decide) rfl ?_
                refine wk_goto (pc := 53) (tgt := 274) S_ d_Md_rules_53 (by decide) ?_
                refine wk_aload_n (pc := 274) S_ 2 d_Md_rules_274 rfl rfl ?_
                refine wk_iconst (pc := 275) (v := (nI (0))) S_ d_Md_rules_275 (by decide) ?_
                refine wk_put (pc := 276) (ty := .int) (ws' := (wMd m cI tx 0 ap pt rk cd fr mc mg mz nc nt ld q.1 q.2.1 q.2.2.1 q.2.2.2.1 q.2.2.2.2.1 q.2.2.2.2.2.1 q.2.2.2.2.2.2.1 q.2.2.2.2.2.2.2.1 q.2.2.2.2.2.2.2.2.1 q.2.2.2.2.2.2.2.2.2.1 q.2.2.2.2.2.2.2.2.2.2 nb cl gr sp ot na aw nx bg bb ab fd pv bx wy li (wdB tx sz en1) (wdE tx sz en1) nu td1 lf lk)) S_ 6 1 0 in_Md t_Md t_Md_ok n_Md rfl (by decide) rfl fl_Md_127 (by decide +kernel) d_Md_rules_276 rfl rfl rfl (Nat.le_of_ble_eq_true rfl) rfl ?_
                refine wk_aload_n (pc := 279) S_ 2 d_Md_rules_279 rfl rfl ?_
                refine wk_iconst (pc := 280) (v := (nI (0))) S_ d_Md_rules_280 (by decide) ?_
                refine wk_put (pc := 281) (ty := .boolean) (ws' := (wMd m cI tx 0 ap pt rk cd fr mc mg mz nc nt ld q.1 q.2.1 q.2.2.1 q.2.2.2.1 q.2.2.2.2.1 q.2.2.2.2.2.1 q.2.2.2.2.2.2.1 q.2.2.2.2.2.2.2.1 q.2.2.2.2.2.2.2.2.1 q.2.2.2.2.2.2.2.2.2.1 q.2.2.2.2.2.2.2.2.2.2 nb cl gr sp ot na aw nx bg bb ab fd false bx wy li (wdB tx sz en1) (wdE tx sz en1) nu td1 lf lk)) S_ 6 36 0 in_Md t_Md t_Md_ok n_Md rfl (by decide) rfl fl_Md_130 (by decide +kernel) d_Md_rules_281 rfl rfl rfl (Nat.le_of_ble_eq_true rfl) rfl ?_
                refine wk_iload_n (pc := 284) S_ 0 d_Md_rules_284 rfl rfl ?_
                refine wk_if_ltN (pc := 285) (tgt := 292) S_ d_Md_rules_285 (by decide) (by omega) ?_
                refine wk_iconst (pc := 288) (v := (-1)) S_ d_Md_rules_288 (by decide) ?_
                refine wk_iload_n (pc := 289) S_ 0 d_Md_rules_289 rfl rfl ?_
                refine wk_isub (pc := 290) S_ d_Md_rules_290 ?_
                exact hQ_ ((-1) - (nI (c))) (wdB tx sz en1, wdE tx sz en1, td1, ap, pt, rk, cd, fr, mc, mg, mz, nc, nt, ld, q.1, q.2.1, q.2.2.1, q.2.2.2.1, q.2.2.2.2.1, q.2.2.2.2.2.1, q.2.2.2.2.2.2.1, q.2.2.2.2.2.2.2.1, q.2.2.2.2.2.2.2.2.1, q.2.2.2.2.2.2.2.2.2.1, q.2.2.2.2.2.2.2.2.2.2) d_Md_rules_291 rfl (by rw [← hE, rdS_b h23' (Or.inr ⟨hk1.symm.trans (by omega), h48⟩)]; exact ⟨rfl, Or.inr ⟨rfl, rfl, rfl⟩⟩)
  refine wk_lv [3, 2, 1, 0] ?_ (hL15 _ (sz + 1) (0) (0) (0) ((fun _ => false, fun _ => 0, fun _ => 0, fun _ => 0, 0, fun _ => 0, qmg, qmz, fun _ => 0, qnt, fun _ => 0)) (td) (0) (fm) (Nat.lt_succ_self _) (if_pos rfl) (fun _ => by omega) (by omega) (by omega) ⟨fun _ => Nat.zero_le _, hmg, fun _ => Nat.zero_le _⟩)
  rfl
