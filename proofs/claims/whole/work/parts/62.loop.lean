theorem lw_in {L i : Nat} (hL : L ≤ 2560) (hi : i ≤ L + 5) (h : ¬ nI L - nI 5 < nI i) : i + 5 ≤ L := by
  rw [Int32.lt_iff_toInt_lt] at h
  have e : (nI L - nI 5).toInt = (L : Int) - 5 := by
    rw [Int32.toInt_sub, nI_toInt (by omega), nI_toInt (by decide)]
    simp only [Int.bmod]
    omega
  rw [e, nI_toInt (by omega)] at h
  omega
set_option maxHeartbeats 4000000 in
set_option maxRecDepth 100000 in
theorem law_loop {p_ : Program} {l : Launch} {e_ : Env} {R_ : Room} {s_ : State} {m_ : MethodId} {ar_ : Array Value} {be_ : List Frame} {me_ : Method} {co_ : Code} {Q_ : State → Prop} {D : va_G} {cI : CiT} {z : GzT} {A_ : Nat → Prop} {sb L : Nat} {xs : Nat → Int32} (hR_ : R_ = room_1) (S_ : wk_S p_ s_ m_ ar_ co_ D A_ 4 b_Lw_law R_Lw (tyK cI) (gX z)) (hX_ : va_X sb L xs s_ s_.heap) (hbl_ : sb < s_.heap.size) (hbA_ : ¬ A_ sb) (hL_ : L ≤ 2560) (hF_ : ∀ {ws : va_W} {lv : List (Nat × Value)}, wk_G p_ l e_ R_ s_ m_ ar_ be_ me_ co_ Q_ D A_ 4 81 4534 ws 736 lv [.int (nI 1)]) : ∀ (n i : Nat), L + 6 ≤ i + n → i ≤ L + 5 → ∀ (o : Nat → Nat) (t : Nat → Nat) (s : Nat → Nat) (k : Nat → Nat) (b : Nat → Nat) (a : Nat → Nat) (w : Nat → Nat) (q : Nat → Nat) (m : Nat → Nat) (ut : Bool) (ty : Nat → Nat) (nu : Nat → Nat) (ln : Nat) (cl : Nat → Nat) (gr : Nat → Nat) (sp : Nat → Nat) (rs : Nat → Nat) (aw : Nat → Nat) (nb : Nat) (na : Nat) (bg : Nat → Nat) (bb : Nat → Nat) (ab : Nat → Nat) (nx : Nat) (gi : Nat → Nat) (bi : Nat → Nat) (ki : Nat → Nat) (qu : Nat → Nat) (wt : Nat) (tr : Nat → Nat) (be : Nat → Nat) (fw : Nat) (fd : Bool) (bx : Nat → Nat) (go : Nat → Nat) (io : Nat → Nat) (ct : Nat) (sh : Nat → Nat) (wr : Nat) (qc : CT) (qd : CT) (p : RT) (qap : Nat → Bool) (qpt : Nat → Nat) (qrk : Nat → Nat) (qcd : Nat → Nat) (qfr : Nat) (qmc : Nat → Nat) (qmg : Nat → Nat) (qmz : Nat → Nat) (qnc : Nat → Nat) (qnt : Nat → Nat) (qld : Nat → Nat) (ot : Nat → Bool) (awm : Nat → Nat) (pv : Bool) (wy : Nat → Nat) (li : Nat → Nat) (fm : Nat) (en : Nat) (num : Nat) (td : Nat → Nat) (lf : Int32) (lk : Int32), (iT ty ln) → (iS cl gr sp nb) → (iX bg bb ab nx) → (iR rs aw na nb ot awm) → (iB cl nb nx fd bx) → (pv = (fd && ut)) → (iQ qc qd p qmg) → (iL qu li) → wk_G p_ l e_ R_ s_ m_ ar_ be_ me_ co_ Q_ D A_ 4 81 4534 (wPL o cI (t 0) (s 0) (k 0) (a 0) (w 0) (q 0) ut ++ (wTx t cI (zA z) ty nu ln 0 0 0 ++ (wSt s cI cl gr sp rs aw nb na bg bb ab nx ++ (wPk k cI (b 0) gi bi ki qu wt tr be fw fd ++ (wBx b cI bx ++ (wLd a cI go io ct sh wr ++ (wRl w cI qc.1 qc.2.1 qc.2.2.1 qc.2.2.2.1 qc.2.2.2.2.2.1 qc.2.2.2.2.2.2.1 qc.2.2.2.2.2.2.2.1 qc.2.2.2.2.2.2.2.2.1 qc.2.2.2.2.2.2.2.2.2.1 qc.2.2.2.2.2.2.2.2.2.2 qc.2.2.2.2.1 ++ (wRl q cI qd.1 qd.2.1 qd.2.2.1 qd.2.2.2.1 qd.2.2.2.2.2.1 qd.2.2.2.2.2.2.1 qd.2.2.2.2.2.2.2.1 qd.2.2.2.2.2.2.2.2.1 qd.2.2.2.2.2.2.2.2.2.1 qd.2.2.2.2.2.2.2.2.2.2 qd.2.2.2.2.1 ++ (wMd m cI ty ln p.1 p.2.1 p.2.2.1 p.2.2.2.1 p.2.2.2.2.1 p.2.2.2.2.2.1 p.2.2.2.2.2.2.1 p.2.2.2.2.2.2.2.1 p.2.2.2.2.2.2.2.2.1 p.2.2.2.2.2.2.2.2.2.1 p.2.2.2.2.2.2.2.2.2.2 qap qpt qrk qcd qfr qmc qmg qmz qnc qnt qld nb cl gr sp ot na awm nx bg bb ab fd pv bx wy li fm en num td lf lk))))))))) 18 [(0, .ref (sb)), (1, .ref (o 0)), (2, .ref (m 0)), (3, .int (nI (i)))] [] := by
  intro n
  induction n with
  | zero => intro i h1 h2; exact absurd h1 (by omega)
  | succ n ih =>
    intro i h1_ h2_
    have hN : i + 5 ≤ L → ∀ (o : Nat → Nat) (t : Nat → Nat) (s : Nat → Nat) (k : Nat → Nat) (b : Nat → Nat) (a : Nat → Nat) (w : Nat → Nat) (q : Nat → Nat) (m : Nat → Nat) (ut : Bool) (ty : Nat → Nat) (nu : Nat → Nat) (ln : Nat) (cl : Nat → Nat) (gr : Nat → Nat) (sp : Nat → Nat) (rs : Nat → Nat) (aw : Nat → Nat) (nb : Nat) (na : Nat) (bg : Nat → Nat) (bb : Nat → Nat) (ab : Nat → Nat) (nx : Nat) (gi : Nat → Nat) (bi : Nat → Nat) (ki : Nat → Nat) (qu : Nat → Nat) (wt : Nat) (tr : Nat → Nat) (be : Nat → Nat) (fw : Nat) (fd : Bool) (bx : Nat → Nat) (go : Nat → Nat) (io : Nat → Nat) (ct : Nat) (sh : Nat → Nat) (wr : Nat) (qc : CT) (qd : CT) (p : RT) (qap : Nat → Bool) (qpt : Nat → Nat) (qrk : Nat → Nat) (qcd : Nat → Nat) (qfr : Nat) (qmc : Nat → Nat) (qmg : Nat → Nat) (qmz : Nat → Nat) (qnc : Nat → Nat) (qnt : Nat → Nat) (qld : Nat → Nat) (ot : Nat → Bool) (awm : Nat → Nat) (pv : Bool) (wy : Nat → Nat) (li : Nat → Nat) (fm : Nat) (en : Nat) (num : Nat) (td : Nat → Nat) (lf : Int32) (lk : Int32), (iT ty ln) → (iS cl gr sp nb) → (iX bg bb ab nx) → (iR rs aw na nb ot awm) → (iB cl nb nx fd bx) → (pv = (fd && ut)) → (iQ qc qd p qmg) → (iL qu li) → wk_G p_ l e_ R_ s_ m_ ar_ be_ me_ co_ Q_ D A_ 4 81 4534 (wPL o cI (t 0) (s 0) (k 0) (a 0) (w 0) (q 0) ut ++ (wTx t cI (zA z) ty nu ln 0 0 0 ++ (wSt s cI cl gr sp rs aw nb na bg bb ab nx ++ (wPk k cI (b 0) gi bi ki qu wt tr be fw fd ++ (wBx b cI bx ++ (wLd a cI go io ct sh wr ++ (wRl w cI qc.1 qc.2.1 qc.2.2.1 qc.2.2.2.1 qc.2.2.2.2.2.1 qc.2.2.2.2.2.2.1 qc.2.2.2.2.2.2.2.1 qc.2.2.2.2.2.2.2.2.1 qc.2.2.2.2.2.2.2.2.2.1 qc.2.2.2.2.2.2.2.2.2.2 qc.2.2.2.2.1 ++ (wRl q cI qd.1 qd.2.1 qd.2.2.1 qd.2.2.2.1 qd.2.2.2.2.2.1 qd.2.2.2.2.2.2.1 qd.2.2.2.2.2.2.2.1 qd.2.2.2.2.2.2.2.2.1 qd.2.2.2.2.2.2.2.2.2.1 qd.2.2.2.2.2.2.2.2.2.2 qd.2.2.2.2.1 ++ (wMd m cI ty ln p.1 p.2.1 p.2.2.1 p.2.2.2.1 p.2.2.2.2.1 p.2.2.2.2.2.1 p.2.2.2.2.2.2.1 p.2.2.2.2.2.2.2.1 p.2.2.2.2.2.2.2.2.1 p.2.2.2.2.2.2.2.2.2.1 p.2.2.2.2.2.2.2.2.2.2 qap qpt qrk qcd qfr qmc qmg qmz qnc qnt qld nb cl gr sp ot na awm nx bg bb ab fd pv bx wy li fm en num td lf lk))))))))) 729 [(0, .ref (sb)), (1, .ref (o 0)), (2, .ref (m 0)), (3, .int (nI (i)))] [] := by
      intro hi_ o t s k b a w q m ut ty nu ln cl gr sp rs aw nb na bg bb ab nx gi bi ki qu wt tr be fw fd bx go io ct sh wr qc qd p qap qpt qrk qcd qfr qmc qmg qmz qnc qnt qld ot awm pv wy li fm en num td lf lk hA hS hX0 hR0 hB hP hQ hL0
      refine wk_iincN (pc := 729) (d := 5) (lv' := [(3, .int (nI (i + 5))), (0, .ref (sb)), (1, .ref (o 0)), (2, .ref (m 0))]) S_ 3 d_Lw_law_729 (by decide) rfl (by decide) rfl ?_
      refine wk_goto (pc := 732) (tgt := 18) S_ d_Lw_law_732 (by decide) ?_
      refine wk_lv [1, 2, 3, 0] ?_ (ih (i + 5) (by omega) (by omega) o t s k b a w q m ut ty nu ln cl gr sp rs aw nb na bg bb ab nx gi bi ki qu wt tr be fw fd bx go io ct sh wr qc qd p qap qpt qrk qcd qfr qmc qmg qmz qnc qnt qld ot awm pv wy li fm en num td lf lk hA hS hX0 hR0 hB hP hQ hL0)
      rfl
    intro o t s k b a w q m ut ty nu ln cl gr sp rs aw nb na bg bb ab nx gi bi ki qu wt tr be fw fd bx go io ct sh wr qc qd p qap qpt qrk qcd qfr qmc qmg qmz qnc qnt qld ot awm pv wy li fm en num td lf lk hA hS hX0 hR0 hB hP hQ hL0
    refine wk_iload_n (pc := 18) S_ 3 d_Lw_law_18 rfl rfl ?_
    refine wk_aload_n (pc := 19) S_ 0 d_Lw_law_19 rfl rfl ?_
    refine wk_slen (pc := 20) S_ hX_ hbl_ hbA_ d_Lw_law_20 ?_
    refine wk_top (y := nI L) rfl ?_
    refine wk_iconst (pc := 21) (v := (nI (5))) S_ d_Lw_law_21 (by decide) ?_
    refine wk_isub (pc := 22) S_ d_Lw_law_22 ?_
    refine wk_icmp_gt (pc := 23) (tgt := 735) S_ d_Lw_law_23 (by decide) (fun h23 => ?_) (fun h23 => ?_)
    · -- taken
      refine wk_iconst (pc := 735) (v := (nI (1))) S_ d_Lw_law_735 (by decide) ?_
      exact hF_
    · -- on
      have hi_ : i + 5 ≤ L := lw_in hL_ h2_ h23
      refine wk_aload_n (pc := 26) S_ 0 d_Lw_law_26 rfl rfl ?_
      refine wk_iload_n (pc := 27) S_ 3 d_Lw_law_27 rfl rfl ?_
      refine wk_sld (pc := 28) S_ hX_ hbl_ hbA_ (show i < L by omega) (by omega) d_Lw_law_28 ?_
      refine wk_bipush (pc := 29) (v := (nI (31))) S_ d_Lw_law_29 (by decide) ?_
      refine wk_iand (pc := 31) S_ d_Lw_law_31 ?_
      obtain ⟨j, hj, ej⟩ := pk_andE (xs i) (m := 31) 5 (by decide)
      refine wk_top (y := nI j) ej ?_
      rcases (show j = 0 ∨ j = 1 ∨ j = 2 ∨ j = 3 ∨ j = 4 ∨ j = 5 ∨ j = 6 ∨ j = 7 ∨ j = 8 ∨ j = 9 ∨ j = 10 ∨ j = 11 ∨ j = 12 ∨ j = 13 ∨ j = 14 ∨ j = 15 ∨ j = 16 ∨ j = 17 ∨ j = 18 ∨ j = 19 ∨ 20 ≤ j by omega) with rfl | rfl | rfl | rfl | rfl | rfl | rfl | rfl | rfl | rfl | rfl | rfl | rfl | rfl | rfl | rfl | rfl | rfl | rfl | rfl | h20
      · refine wk_tblI (pc := 32) (off := 96) (tgt := 128) S_ d_Lw_law_32 (by decide) (by decide) (by decide) (by decide) ?_
        exact lc_0 hR_ S_ hX_ hbl_ hbA_ hL_ hi_ (hN hi_) o t s k b a w q m ut ty nu ln cl gr sp rs aw nb na bg bb ab nx gi bi ki qu wt tr be fw fd bx go io ct sh wr qc qd p qap qpt qrk qcd qfr qmc qmg qmz qnc qnt qld ot awm pv wy li fm en num td lf lk hA hS hX0 hR0 hB hP hQ hL0
      · refine wk_tblI (pc := 32) (off := 119) (tgt := 151) S_ d_Lw_law_32 (by decide) (by decide) (by decide) (by decide) ?_
        exact lc_1 hR_ S_ hX_ hbl_ hbA_ hL_ hi_ (hN hi_) o t s k b a w q m ut ty nu ln cl gr sp rs aw nb na bg bb ab nx gi bi ki qu wt tr be fw fd bx go io ct sh wr qc qd p qap qpt qrk qcd qfr qmc qmg qmz qnc qnt qld ot awm pv wy li fm en num td lf lk hA hS hX0 hR0 hB hP hQ hL0
      · refine wk_tblI (pc := 32) (off := 132) (tgt := 164) S_ d_Lw_law_32 (by decide) (by decide) (by decide) (by decide) ?_
        exact lc_2 hR_ S_ hX_ hbl_ hbA_ hL_ hi_ (hN hi_) o t s k b a w q m ut ty nu ln cl gr sp rs aw nb na bg bb ab nx gi bi ki qu wt tr be fw fd bx go io ct sh wr qc qd p qap qpt qrk qcd qfr qmc qmg qmz qnc qnt qld ot awm pv wy li fm en num td lf lk hA hS hX0 hR0 hB hP hQ hL0
      · refine wk_tblI (pc := 32) (off := 195) (tgt := 227) S_ d_Lw_law_32 (by decide) (by decide) (by decide) (by decide) ?_
        exact lc_3 hR_ S_ hX_ hbl_ hbA_ hL_ hi_ (hN hi_) o t s k b a w q m ut ty nu ln cl gr sp rs aw nb na bg bb ab nx gi bi ki qu wt tr be fw fd bx go io ct sh wr qc qd p qap qpt qrk qcd qfr qmc qmg qmz qnc qnt qld ot awm pv wy li fm en num td lf lk hA hS hX0 hR0 hB hP hQ hL0
      · refine wk_tblI (pc := 32) (off := 268) (tgt := 300) S_ d_Lw_law_32 (by decide) (by decide) (by decide) (by decide) ?_
        exact lc_4 hR_ S_ hX_ hbl_ hbA_ hL_ hi_ (hN hi_) o t s k b a w q m ut ty nu ln cl gr sp rs aw nb na bg bb ab nx gi bi ki qu wt tr be fw fd bx go io ct sh wr qc qd p qap qpt qrk qcd qfr qmc qmg qmz qnc qnt qld ot awm pv wy li fm en num td lf lk hA hS hX0 hR0 hB hP hQ hL0
      · refine wk_tblI (pc := 32) (off := 331) (tgt := 363) S_ d_Lw_law_32 (by decide) (by decide) (by decide) (by decide) ?_
        exact lc_5 hR_ S_ hX_ hbl_ hbA_ hL_ hi_ (hN hi_) o t s k b a w q m ut ty nu ln cl gr sp rs aw nb na bg bb ab nx gi bi ki qu wt tr be fw fd bx go io ct sh wr qc qd p qap qpt qrk qcd qfr qmc qmg qmz qnc qnt qld ot awm pv wy li fm en num td lf lk hA hS hX0 hR0 hB hP hQ hL0
      · refine wk_tblI (pc := 32) (off := 384) (tgt := 416) S_ d_Lw_law_32 (by decide) (by decide) (by decide) (by decide) ?_
        exact lc_6 hR_ S_ hX_ hbl_ hbA_ hL_ hi_ (hN hi_) o t s k b a w q m ut ty nu ln cl gr sp rs aw nb na bg bb ab nx gi bi ki qu wt tr be fw fd bx go io ct sh wr qc qd p qap qpt qrk qcd qfr qmc qmg qmz qnc qnt qld ot awm pv wy li fm en num td lf lk hA hS hX0 hR0 hB hP hQ hL0
      · refine wk_tblI (pc := 32) (off := 407) (tgt := 439) S_ d_Lw_law_32 (by decide) (by decide) (by decide) (by decide) ?_
        exact lc_7 hR_ S_ hX_ hbl_ hbA_ hL_ hi_ (hN hi_) o t s k b a w q m ut ty nu ln cl gr sp rs aw nb na bg bb ab nx gi bi ki qu wt tr be fw fd bx go io ct sh wr qc qd p qap qpt qrk qcd qfr qmc qmg qmz qnc qnt qld ot awm pv wy li fm en num td lf lk hA hS hX0 hR0 hB hP hQ hL0
      · refine wk_tblI (pc := 32) (off := 420) (tgt := 452) S_ d_Lw_law_32 (by decide) (by decide) (by decide) (by decide) ?_
        exact lc_8 hR_ S_ hX_ hbl_ hbA_ hL_ hi_ (hN hi_) o t s k b a w q m ut ty nu ln cl gr sp rs aw nb na bg bb ab nx gi bi ki qu wt tr be fw fd bx go io ct sh wr qc qd p qap qpt qrk qcd qfr qmc qmg qmz qnc qnt qld ot awm pv wy li fm en num td lf lk hA hS hX0 hR0 hB hP hQ hL0
      · refine wk_tblI (pc := 32) (off := 433) (tgt := 465) S_ d_Lw_law_32 (by decide) (by decide) (by decide) (by decide) ?_
        exact lc_9 hR_ S_ hX_ hbl_ hbA_ hL_ hi_ (hN hi_) o t s k b a w q m ut ty nu ln cl gr sp rs aw nb na bg bb ab nx gi bi ki qu wt tr be fw fd bx go io ct sh wr qc qd p qap qpt qrk qcd qfr qmc qmg qmz qnc qnt qld ot awm pv wy li fm en num td lf lk hA hS hX0 hR0 hB hP hQ hL0
      · refine wk_tblI (pc := 32) (off := 447) (tgt := 479) S_ d_Lw_law_32 (by decide) (by decide) (by decide) (by decide) ?_
        exact lc_10 hR_ S_ hX_ hbl_ hbA_ hL_ hi_ (hN hi_) o t s k b a w q m ut ty nu ln cl gr sp rs aw nb na bg bb ab nx gi bi ki qu wt tr be fw fd bx go io ct sh wr qc qd p qap qpt qrk qcd qfr qmc qmg qmz qnc qnt qld ot awm pv wy li fm en num td lf lk hA hS hX0 hR0 hB hP hQ hL0
      · refine wk_tblI (pc := 32) (off := 460) (tgt := 492) S_ d_Lw_law_32 (by decide) (by decide) (by decide) (by decide) ?_
        exact lc_11 hR_ S_ hX_ hbl_ hbA_ hL_ hi_ (hN hi_) o t s k b a w q m ut ty nu ln cl gr sp rs aw nb na bg bb ab nx gi bi ki qu wt tr be fw fd bx go io ct sh wr qc qd p qap qpt qrk qcd qfr qmc qmg qmz qnc qnt qld ot awm pv wy li fm en num td lf lk hA hS hX0 hR0 hB hP hQ hL0
      · refine wk_tblI (pc := 32) (off := 483) (tgt := 515) S_ d_Lw_law_32 (by decide) (by decide) (by decide) (by decide) ?_
        exact lc_12 hR_ S_ hX_ hbl_ hbA_ hL_ hi_ (hN hi_) o t s k b a w q m ut ty nu ln cl gr sp rs aw nb na bg bb ab nx gi bi ki qu wt tr be fw fd bx go io ct sh wr qc qd p qap qpt qrk qcd qfr qmc qmg qmz qnc qnt qld ot awm pv wy li fm en num td lf lk hA hS hX0 hR0 hB hP hQ hL0
      · refine wk_tblI (pc := 32) (off := 506) (tgt := 538) S_ d_Lw_law_32 (by decide) (by decide) (by decide) (by decide) ?_
        exact lc_13 hR_ S_ hX_ hbl_ hbA_ hL_ hi_ (hN hi_) o t s k b a w q m ut ty nu ln cl gr sp rs aw nb na bg bb ab nx gi bi ki qu wt tr be fw fd bx go io ct sh wr qc qd p qap qpt qrk qcd qfr qmc qmg qmz qnc qnt qld ot awm pv wy li fm en num td lf lk hA hS hX0 hR0 hB hP hQ hL0
      · refine wk_tblI (pc := 32) (off := 529) (tgt := 561) S_ d_Lw_law_32 (by decide) (by decide) (by decide) (by decide) ?_
        exact lc_14 hR_ S_ hX_ hbl_ hbA_ hL_ hi_ (hN hi_) o t s k b a w q m ut ty nu ln cl gr sp rs aw nb na bg bb ab nx gi bi ki qu wt tr be fw fd bx go io ct sh wr qc qd p qap qpt qrk qcd qfr qmc qmg qmz qnc qnt qld ot awm pv wy li fm en num td lf lk hA hS hX0 hR0 hB hP hQ hL0
      · refine wk_tblI (pc := 32) (off := 552) (tgt := 584) S_ d_Lw_law_32 (by decide) (by decide) (by decide) (by decide) ?_
        exact lc_15 hR_ S_ hX_ hbl_ hbA_ hL_ hi_ (hN hi_) o t s k b a w q m ut ty nu ln cl gr sp rs aw nb na bg bb ab nx gi bi ki qu wt tr be fw fd bx go io ct sh wr qc qd p qap qpt qrk qcd qfr qmc qmg qmz qnc qnt qld ot awm pv wy li fm en num td lf lk hA hS hX0 hR0 hB hP hQ hL0
      · refine wk_tblI (pc := 32) (off := 565) (tgt := 597) S_ d_Lw_law_32 (by decide) (by decide) (by decide) (by decide) ?_
        exact lc_16 hR_ S_ hX_ hbl_ hbA_ hL_ hi_ (hN hi_) o t s k b a w q m ut ty nu ln cl gr sp rs aw nb na bg bb ab nx gi bi ki qu wt tr be fw fd bx go io ct sh wr qc qd p qap qpt qrk qcd qfr qmc qmg qmz qnc qnt qld ot awm pv wy li fm en num td lf lk hA hS hX0 hR0 hB hP hQ hL0
      · refine wk_tblI (pc := 32) (off := 598) (tgt := 630) S_ d_Lw_law_32 (by decide) (by decide) (by decide) (by decide) ?_
        exact lc_17 hR_ S_ hX_ hbl_ hbA_ hL_ hi_ (hN hi_) o t s k b a w q m ut ty nu ln cl gr sp rs aw nb na bg bb ab nx gi bi ki qu wt tr be fw fd bx go io ct sh wr qc qd p qap qpt qrk qcd qfr qmc qmg qmz qnc qnt qld ot awm pv wy li fm en num td lf lk hA hS hX0 hR0 hB hP hQ hL0
      · refine wk_tblI (pc := 32) (off := 631) (tgt := 663) S_ d_Lw_law_32 (by decide) (by decide) (by decide) (by decide) ?_
        exact lc_18 hR_ S_ hX_ hbl_ hbA_ hL_ hi_ (hN hi_) o t s k b a w q m ut ty nu ln cl gr sp rs aw nb na bg bb ab nx gi bi ki qu wt tr be fw fd bx go io ct sh wr qc qd p qap qpt qrk qcd qfr qmc qmg qmz qnc qnt qld ot awm pv wy li fm en num td lf lk hA hS hX0 hR0 hB hP hQ hL0
      · refine wk_tblI (pc := 32) (off := 654) (tgt := 686) S_ d_Lw_law_32 (by decide) (by decide) (by decide) (by decide) ?_
        exact lc_19 hR_ S_ hX_ hbl_ hbA_ hL_ hi_ (hN hi_) o t s k b a w q m ut ty nu ln cl gr sp rs aw nb na bg bb ab nx gi bi ki qu wt tr be fw fd bx go io ct sh wr qc qd p qap qpt qrk qcd qfr qmc qmg qmz qnc qnt qld ot awm pv wy li fm en num td lf lk hA hS hX0 hR0 hB hP hQ hL0
      · refine wk_tblO (pc := 32) (tgt := 729) S_ d_Lw_law_32 (Or.inr (by rw [nI_toInt (by omega)]; omega)) (by decide) ?_
        exact hN hi_ o t s k b a w q m ut ty nu ln cl gr sp rs aw nb na bg bb ab nx gi bi ki qu wt tr be fw fd bx go io ct sh wr qc qd p qap qpt qrk qcd qfr qmc qmg qmz qnc qnt qld ot awm pv wy li fm en num td lf lk hA hS hX0 hR0 hB hP hQ hL0
