set_option maxHeartbeats 4000000 in
set_option maxRecDepth 100000 in
theorem lc_4 {p_ : Program} {l : Launch} {e_ : Env} {R_ : Room} {s_ : State} {m_ : MethodId} {ar_ : Array Value} {be_ : List Frame} {me_ : Method} {co_ : Code} {Q_ : State → Prop} {D : va_G} {cI : CiT} {z : GzT} {A_ : Nat → Prop} {sb L i : Nat} {xs : Nat → Int32} (hR_ : R_ = room_1) (S_ : wk_S p_ s_ m_ ar_ co_ D A_ 4 b_Lw_law R_Lw (tyK cI) (gX z)) (hX_ : va_X sb L xs s_ s_.heap) (hbl_ : sb < s_.heap.size) (hbA_ : ¬ A_ sb) (hL_ : L ≤ 2560) (hi_ : i + 5 ≤ L) (hN : ∀ (o : Nat → Nat) (t : Nat → Nat) (s : Nat → Nat) (k : Nat → Nat) (b : Nat → Nat) (a : Nat → Nat) (w : Nat → Nat) (q : Nat → Nat) (m : Nat → Nat) (ut : Bool) (ty : Nat → Nat) (nu : Nat → Nat) (ln : Nat) (cl : Nat → Nat) (gr : Nat → Nat) (sp : Nat → Nat) (rs : Nat → Nat) (aw : Nat → Nat) (nb : Nat) (na : Nat) (bg : Nat → Nat) (bb : Nat → Nat) (ab : Nat → Nat) (nx : Nat) (gi : Nat → Nat) (bi : Nat → Nat) (ki : Nat → Nat) (qu : Nat → Nat) (wt : Nat) (tr : Nat → Nat) (be : Nat → Nat) (fw : Nat) (fd : Bool) (bx : Nat → Nat) (go : Nat → Nat) (io : Nat → Nat) (ct : Nat) (sh : Nat → Nat) (wr : Nat) (qc : CT) (qd : CT) (p : RT) (qap : Nat → Bool) (qpt : Nat → Nat) (qrk : Nat → Nat) (qcd : Nat → Nat) (qfr : Nat) (qmc : Nat → Nat) (qmg : Nat → Nat) (qmz : Nat → Nat) (qnc : Nat → Nat) (qnt : Nat → Nat) (qld : Nat → Nat) (ot : Nat → Bool) (awm : Nat → Nat) (pv : Bool) (wy : Nat → Nat) (li : Nat → Nat) (fm : Nat) (en : Nat) (num : Nat) (td : Nat → Nat) (lf : Int32) (lk : Int32), (iT ty ln) → (iS cl gr sp nb) → (iX bg bb ab nx) → (iR rs aw na nb ot awm) → (iB cl nb nx fd bx) → (pv = (fd && ut)) → (iQ qc qd p qmg) → (iL qu li) → wk_G p_ l e_ R_ s_ m_ ar_ be_ me_ co_ Q_ D A_ 4 81 4534 (wPL o cI (t 0) (s 0) (k 0) (a 0) (w 0) (q 0) ut ++ (wTx t cI (zA z) ty nu ln 0 0 0 ++ (wSt s cI cl gr sp rs aw nb na bg bb ab nx ++ (wPk k cI (b 0) gi bi ki qu wt tr be fw fd ++ (wBx b cI bx ++ (wLd a cI go io ct sh wr ++ (wRl w cI qc.1 qc.2.1 qc.2.2.1 qc.2.2.2.1 qc.2.2.2.2.2.1 qc.2.2.2.2.2.2.1 qc.2.2.2.2.2.2.2.1 qc.2.2.2.2.2.2.2.2.1 qc.2.2.2.2.2.2.2.2.2.1 qc.2.2.2.2.2.2.2.2.2.2 qc.2.2.2.2.1 ++ (wRl q cI qd.1 qd.2.1 qd.2.2.1 qd.2.2.2.1 qd.2.2.2.2.2.1 qd.2.2.2.2.2.2.1 qd.2.2.2.2.2.2.2.1 qd.2.2.2.2.2.2.2.2.1 qd.2.2.2.2.2.2.2.2.2.1 qd.2.2.2.2.2.2.2.2.2.2 qd.2.2.2.2.1 ++ (wMd m cI ty ln p.1 p.2.1 p.2.2.1 p.2.2.2.1 p.2.2.2.2.1 p.2.2.2.2.2.1 p.2.2.2.2.2.2.1 p.2.2.2.2.2.2.2.1 p.2.2.2.2.2.2.2.2.1 p.2.2.2.2.2.2.2.2.2.1 p.2.2.2.2.2.2.2.2.2.2 qap qpt qrk qcd qfr qmc qmg qmz qnc qnt qld nb cl gr sp ot na awm nx bg bb ab fd pv bx wy li fm en num td lf lk))))))))) 729 [(0, .ref (sb)), (1, .ref (o 0)), (2, .ref (m 0)), (3, .int (nI (i)))] []) (o : Nat → Nat) (t : Nat → Nat) (s : Nat → Nat) (k : Nat → Nat) (b : Nat → Nat) (a : Nat → Nat) (w : Nat → Nat) (q : Nat → Nat) (m : Nat → Nat) (ut : Bool) (ty : Nat → Nat) (nu : Nat → Nat) (ln : Nat) (cl : Nat → Nat) (gr : Nat → Nat) (sp : Nat → Nat) (rs : Nat → Nat) (aw : Nat → Nat) (nb : Nat) (na : Nat) (bg : Nat → Nat) (bb : Nat → Nat) (ab : Nat → Nat) (nx : Nat) (gi : Nat → Nat) (bi : Nat → Nat) (ki : Nat → Nat) (qu : Nat → Nat) (wt : Nat) (tr : Nat → Nat) (be : Nat → Nat) (fw : Nat) (fd : Bool) (bx : Nat → Nat) (go : Nat → Nat) (io : Nat → Nat) (ct : Nat) (sh : Nat → Nat) (wr : Nat) (qc : CT) (qd : CT) (p : RT) (qap : Nat → Bool) (qpt : Nat → Nat) (qrk : Nat → Nat) (qcd : Nat → Nat) (qfr : Nat) (qmc : Nat → Nat) (qmg : Nat → Nat) (qmz : Nat → Nat) (qnc : Nat → Nat) (qnt : Nat → Nat) (qld : Nat → Nat) (ot : Nat → Bool) (awm : Nat → Nat) (pv : Bool) (wy : Nat → Nat) (li : Nat → Nat) (fm : Nat) (en : Nat) (num : Nat) (td : Nat → Nat) (lf : Int32) (lk : Int32) (hA : iT ty ln) (hS : iS cl gr sp nb) (hX0 : iX bg bb ab nx) (hR0 : iR rs aw na nb ot awm) (hB : iB cl nb nx fd bx) (hP : pv = (fd && ut)) (hQ : iQ qc qd p qmg) (hL0 : iL qu li) : wk_G p_ l e_ R_ s_ m_ ar_ be_ me_ co_ Q_ D A_ 4 81 4534 (wPL o cI (t 0) (s 0) (k 0) (a 0) (w 0) (q 0) ut ++ (wTx t cI (zA z) ty nu ln 0 0 0 ++ (wSt s cI cl gr sp rs aw nb na bg bb ab nx ++ (wPk k cI (b 0) gi bi ki qu wt tr be fw fd ++ (wBx b cI bx ++ (wLd a cI go io ct sh wr ++ (wRl w cI qc.1 qc.2.1 qc.2.2.1 qc.2.2.2.1 qc.2.2.2.2.2.1 qc.2.2.2.2.2.2.1 qc.2.2.2.2.2.2.2.1 qc.2.2.2.2.2.2.2.2.1 qc.2.2.2.2.2.2.2.2.2.1 qc.2.2.2.2.2.2.2.2.2.2 qc.2.2.2.2.1 ++ (wRl q cI qd.1 qd.2.1 qd.2.2.1 qd.2.2.2.1 qd.2.2.2.2.2.1 qd.2.2.2.2.2.2.1 qd.2.2.2.2.2.2.2.1 qd.2.2.2.2.2.2.2.2.1 qd.2.2.2.2.2.2.2.2.2.1 qd.2.2.2.2.2.2.2.2.2.2 qd.2.2.2.2.1 ++ (wMd m cI ty ln p.1 p.2.1 p.2.2.1 p.2.2.2.1 p.2.2.2.2.1 p.2.2.2.2.2.1 p.2.2.2.2.2.2.1 p.2.2.2.2.2.2.2.1 p.2.2.2.2.2.2.2.2.1 p.2.2.2.2.2.2.2.2.2.1 p.2.2.2.2.2.2.2.2.2.2 qap qpt qrk qcd qfr qmc qmg qmz qnc qnt qld nb cl gr sp ot na awm nx bg bb ab fd pv bx wy li fm en num td lf lk))))))))) 300 [(0, .ref (sb)), (1, .ref (o 0)), (2, .ref (m 0)), (3, .int (nI (i)))] [] := by
  have hln := hA.1
  have hty := hA.2
  have hnb := hS.1
  have hgr := hS.2.1
  have hcl := hS.2.2.1
  have hsp := hS.2.2.2
  have hnx := hX0.1
  have hbg := hX0.2.1
  have hbb := hX0.2.2.1
  have hab := hX0.2.2.2
  have hrs := hR0.1
  have haw := hR0.2.1
  have hno3 := iR_no hR0
  have hna : na ≤ 8 := Nat.le_trans hno3.2.2 hnb
  have hot : ∀ b, b < nb → ot b = decide (rs b ≠ 0) := hR0.2.2.1.1
  have hb5 : ∀ b, bx b ≤ 5 := fun b => Nat.le_trans (hB.1 b) hnx
  have hF := hB.2.2
  have hcv : ∀ b, b < nb → bx b ≠ 0 → cl b ≠ 0 := fun b _ h => (hB.2.1 b h).2
  have hqu := hL0.1
  have hli := hL0.2
  obtain ⟨hq1, hq2, hq3, hq4, hq5⟩ := id hQ
  have e2 : qc.2.1 = p.2.1 := hq1.2.1
  have e3 : qc.2.2.1 = p.2.2.1 := hq1.2.2.1
  have e4 : qc.2.2.2.1 = p.2.2.2.1 := hq1.2.2.2.1
  have e5 : qc.2.2.2.2.1 = p.2.2.2.2.1 := hq1.2.2.2.2.1
  have e10 : qc.2.2.2.2.2.2.2.2.2.2 = p.2.2.2.2.2.2.2.2.2.2 := hq1.2.2.2.2.2.2.2.2.2
  have hpt : ∀ c, p.2.1 c ≤ 1000 := hq2.2.1
  have hrk : ∀ c, p.2.2.1 c ≤ 99 := hq2.2.2.1
  have hcd : ∀ c, p.2.2.2.1 c ≤ 5 := hq2.2.2.2.1
  have hfr : p.2.2.2.2.1 ≤ 999999 := hq2.2.2.2.2.1
  have hld : ∀ c, p.2.2.2.2.2.2.2.2.2.2 c ≤ 19 := hq2.2.2.2.2.2
  have hpt' : ∀ c, qc.2.1 c ≤ 1000 := by rw [e2]; exact hpt
  have hrk' : ∀ c, qc.2.2.1 c ≤ 99 := by rw [e3]; exact hrk
  have hcd' : ∀ c, qc.2.2.2.1 c ≤ 5 := by rw [e4]; exact hcd
  have hfr' : qc.2.2.2.2.1 ≤ 999999 := by rw [e5]; exact hfr
  have hoc' : ∀ c, qc.2.2.2.2.2.2.2.2.2.2 c ≤ 19 := by rw [e10]; exact hld
  refine wk_aload_n (pc := 300) S_ 1 d_Lw_law_300 rfl rfl ?_
  refine wk_aload_n (pc := 301) S_ 0 d_Lw_law_301 rfl rfl ?_
  refine wk_iload_n (pc := 302) S_ 3 d_Lw_law_302 rfl rfl ?_
  refine wk_iconst (pc := 303) (v := (nI (1))) S_ d_Lw_law_303 (by decide) ?_
  refine wk_iaddN (pc := 304) S_ d_Lw_law_304 ?_
  refine wk_sld (pc := 305) S_ hX_ hbl_ hbA_ (show (i) + (1) < L by omega) (by omega) d_Lw_law_305 ?_
  refine wk_aload_n (pc := 306) S_ 0 d_Lw_law_306 rfl rfl ?_
  refine wk_iload_n (pc := 307) S_ 3 d_Lw_law_307 rfl rfl ?_
  refine wk_iconst (pc := 308) (v := (nI (2))) S_ d_Lw_law_308 (by decide) ?_
  refine wk_iaddN (pc := 309) S_ d_Lw_law_309 ?_
  refine wk_sld (pc := 310) S_ hX_ hbl_ hbA_ (show (i) + (2) < L by omega) (by omega) d_Lw_law_310 ?_
  refine wk_i2l (pc := 311) S_ d_Lw_law_311 rfl ?_
  refine wk_bipush (pc := 312) (v := (nI (32))) S_ d_Lw_law_312 (by decide) ?_
  refine wk_lshl (pc := 314) S_ d_Lw_law_314 rfl ?_
  refine wk_aload_n (pc := 315) S_ 0 d_Lw_law_315 rfl rfl ?_
  refine wk_iload_n (pc := 316) S_ 3 d_Lw_law_316 rfl rfl ?_
  refine wk_iconst (pc := 317) (v := (nI (3))) S_ d_Lw_law_317 (by decide) ?_
  refine wk_iaddN (pc := 318) S_ d_Lw_law_318 ?_
  refine wk_sld (pc := 319) S_ hX_ hbl_ hbA_ (show (i) + (3) < L by omega) (by omega) d_Lw_law_319 ?_
  refine wk_i2l (pc := 320) S_ d_Lw_law_320 rfl ?_
  refine wk_ldc2 (pc := 321) (v := (lN (4294967295))) S_ kc_Lw_23 d_Lw_law_321 ?_
  refine wk_land (pc := 324) S_ d_Lw_law_324 ?_
  refine wk_lor (pc := 325) S_ d_Lw_law_325 ?_
  refine wk_tol (fun y hy => ?_)
  refine wk_run (pc := 326) (rest := []) (wr := (wTx t cI (zA z) ty nu ln 0 0 0 ++ (wPk k cI (b 0) gi bi ki qu wt tr be fw fd ++ (wBx b cI bx ++ (wLd a cI go io ct sh wr ++ (wRl w cI qc.1 qc.2.1 qc.2.2.1 qc.2.2.2.1 qc.2.2.2.2.2.1 qc.2.2.2.2.2.2.1 qc.2.2.2.2.2.2.2.1 qc.2.2.2.2.2.2.2.2.1 qc.2.2.2.2.2.2.2.2.2.1 qc.2.2.2.2.2.2.2.2.2.2 qc.2.2.2.2.1 ++ (wRl q cI qd.1 qd.2.1 qd.2.2.1 qd.2.2.2.1 qd.2.2.2.2.2.1 qd.2.2.2.2.2.2.1 qd.2.2.2.2.2.2.2.1 qd.2.2.2.2.2.2.2.2.1 qd.2.2.2.2.2.2.2.2.2.1 qd.2.2.2.2.2.2.2.2.2.2 qd.2.2.2.2.1 ++ (wMd m cI ty ln p.1 p.2.1 p.2.2.1 p.2.2.2.1 p.2.2.2.2.1 p.2.2.2.2.2.1 p.2.2.2.2.2.2.1 p.2.2.2.2.2.2.2.1 p.2.2.2.2.2.2.2.2.1 p.2.2.2.2.2.2.2.2.2.1 p.2.2.2.2.2.2.2.2.2.2 qap qpt qrk qcd qfr qmc qmg qmz qnc qnt qld nb cl gr sp ot na awm nx bg bb ab fd pv bx wy li fm en num td lf lk)))))))) (wN := fun u326 => (wPL o cI (t 0) (s 0) (k 0) (a 0) (w 0) (q 0) u326.2 ++ (wTx t cI (zA z) ty nu ln 0 0 0 ++ (wSt s cI cl gr sp rs aw nb na bg bb u326.1 nx ++ (wPk k cI (b 0) gi bi ki qu wt tr be fw fd ++ (wBx b cI bx ++ (wLd a cI go io ct sh wr ++ (wRl w cI qc.1 qc.2.1 qc.2.2.1 qc.2.2.2.1 qc.2.2.2.2.2.1 qc.2.2.2.2.2.2.1 qc.2.2.2.2.2.2.2.1 qc.2.2.2.2.2.2.2.2.1 qc.2.2.2.2.2.2.2.2.2.1 qc.2.2.2.2.2.2.2.2.2.2 qc.2.2.2.2.1 ++ (wRl q cI qd.1 qd.2.1 qd.2.2.1 qd.2.2.2.1 qd.2.2.2.2.2.1 qd.2.2.2.2.2.2.1 qd.2.2.2.2.2.2.2.1 qd.2.2.2.2.2.2.2.2.1 qd.2.2.2.2.2.2.2.2.2.1 qd.2.2.2.2.2.2.2.2.2.2 qd.2.2.2.2.1 ++ (wMd m cI ty ln p.1 p.2.1 p.2.2.1 p.2.2.2.1 p.2.2.2.2.1 p.2.2.2.2.2.1 p.2.2.2.2.2.2.1 p.2.2.2.2.2.2.2.1 p.2.2.2.2.2.2.2.2.1 p.2.2.2.2.2.2.2.2.2.1 p.2.2.2.2.2.2.2.2.2.2 qap qpt qrk qcd qfr qmc qmg qmz qnc qnt qld nb cl gr sp ot na awm nx bg bb ab fd pv bx wy li fm en num td lf lk)))))))))) S_ (wk_rV S_ (c_PL_absorber l D cI z (o) (s) (t) (k) (a) (w) (q) (ut) (cl) (gr) (sp) (rs) (aw) (nb) (na) (bg) (bb) (ab) (nx) (xs ((i) + (1))) (y) (by omega)) mv_Lw_35 (wk_rcv S_ 0 0 rfl rfl rfl) rfl rfl (Nat.le_of_ble_eq_true rfl) (by rw [hR_]; decide) (by rw [hR_]; decide) d_Lw_law_326) [0, 4, 5, 6, 7, 8, 9, 10, 11, 12] [1, 2, 3, 13, 14, 15, 16, 17, 18, 19, 20, 21, 22, 23, 24, 25, 26, 27, 28, 29, 30, 31, 32, 33, 34, 35, 36, 37, 38, 39, 40, 41, 42, 43, 44, 45, 46, 47, 48, 49, 50, 51, 52, 53, 54, 55, 56, 57, 58, 59, 60, 61, 62, 63, 64, 65, 66, 67, 68, 69, 70, 71, 72, 73, 74, 75, 76, 77, 78, 79, 80] [71, 0, 1, 2, 72, 73, 74, 75, 76, 77, 78, 79, 80, 3, 4, 5, 6, 7, 8, 9, 10, 11, 12, 13, 14, 15, 16, 17, 18, 19, 20, 21, 22, 23, 24, 25, 26, 27, 28, 29, 30, 31, 32, 33, 34, 35, 36, 37, 38, 39, 40, 41, 42, 43, 44, 45, 46, 47, 48, 49, 50, 51, 52, 53, 54, 55, 56, 57, 58, 59, 60, 61, 62, 63, 64, 65, 66, 67, 68, 69, 70] rfl rfl rfl (by decide) (by decide) (by decide) (by decide) (fun _ => rfl) (fun _ => rfl) (fun r326 u326 hw326 => ?_)
  refine wk_st (st' := [.int (r326)]) rfl ?_
  refine wk_top (y := (bI ((abS ab pv nx (xs ((i) + (1))) y).1))) (hw326.1.trans (congrArg bI (abS_st hX0 hP).1.symm)) ?_
  refine wk_aload_n (pc := 329) S_ 2 d_Lw_law_329 rfl rfl ?_
  refine wk_aload_n (pc := 330) S_ 0 d_Lw_law_330 rfl rfl ?_
  refine wk_iload_n (pc := 331) S_ 3 d_Lw_law_331 rfl rfl ?_
  refine wk_iconst (pc := 332) (v := (nI (1))) S_ d_Lw_law_332 (by decide) ?_
  refine wk_iaddN (pc := 333) S_ d_Lw_law_333 ?_
  refine wk_sld (pc := 334) S_ hX_ hbl_ hbA_ (show (i) + (1) < L by omega) (by omega) d_Lw_law_334 ?_
  refine wk_aload_n (pc := 335) S_ 0 d_Lw_law_335 rfl rfl ?_
  refine wk_iload_n (pc := 336) S_ 3 d_Lw_law_336 rfl rfl ?_
  refine wk_iconst (pc := 337) (v := (nI (2))) S_ d_Lw_law_337 (by decide) ?_
  refine wk_iaddN (pc := 338) S_ d_Lw_law_338 ?_
  refine wk_sld (pc := 339) S_ hX_ hbl_ hbA_ (show (i) + (2) < L by omega) (by omega) d_Lw_law_339 ?_
  refine wk_i2l (pc := 340) S_ d_Lw_law_340 rfl ?_
  refine wk_bipush (pc := 341) (v := (nI (32))) S_ d_Lw_law_341 (by decide) ?_
  refine wk_lshl (pc := 343) S_ d_Lw_law_343 rfl ?_
  refine wk_aload_n (pc := 344) S_ 0 d_Lw_law_344 rfl rfl ?_
  refine wk_iload_n (pc := 345) S_ 3 d_Lw_law_345 rfl rfl ?_
  refine wk_iconst (pc := 346) (v := (nI (3))) S_ d_Lw_law_346 (by decide) ?_
  refine wk_iaddN (pc := 347) S_ d_Lw_law_347 ?_
  refine wk_sld (pc := 348) S_ hX_ hbl_ hbA_ (show (i) + (3) < L by omega) (by omega) d_Lw_law_348 ?_
  refine wk_i2l (pc := 349) S_ d_Lw_law_349 rfl ?_
  refine wk_ldc2 (pc := 350) (v := (lN (4294967295))) S_ kc_Lw_23 d_Lw_law_350 ?_
  refine wk_land (pc := 353) S_ d_Lw_law_353 ?_
  refine wk_lor (pc := 354) S_ d_Lw_law_354 ?_
  refine wk_topl (y := y) hy.symm ?_
  refine wk_run (pc := 355) (rest := [.int (bI ((abS ab pv nx (xs ((i) + (1))) y).1))]) (wr := (wPL o cI (t 0) (s 0) (k 0) (a 0) (w 0) (q 0) u326.2 ++ (wTx t cI (zA z) ty nu ln 0 0 0 ++ (wSt s cI cl gr sp rs aw nb na bg bb u326.1 nx ++ (wPk k cI (b 0) gi bi ki qu wt tr be fw fd ++ (wBx b cI bx ++ (wLd a cI go io ct sh wr ++ (wRl w cI qc.1 qc.2.1 qc.2.2.1 qc.2.2.2.1 qc.2.2.2.2.2.1 qc.2.2.2.2.2.2.1 qc.2.2.2.2.2.2.2.1 qc.2.2.2.2.2.2.2.2.1 qc.2.2.2.2.2.2.2.2.2.1 qc.2.2.2.2.2.2.2.2.2.2 qc.2.2.2.2.1 ++ (wRl q cI qd.1 qd.2.1 qd.2.2.1 qd.2.2.2.1 qd.2.2.2.2.2.1 qd.2.2.2.2.2.2.1 qd.2.2.2.2.2.2.2.1 qd.2.2.2.2.2.2.2.2.1 qd.2.2.2.2.2.2.2.2.2.1 qd.2.2.2.2.2.2.2.2.2.2 qd.2.2.2.2.1))))))))) (wN := fun u355 => (wPL o cI (t 0) (s 0) (k 0) (a 0) (w 0) (q 0) u326.2 ++ (wTx t cI (zA z) ty nu ln 0 0 0 ++ (wSt s cI cl gr sp rs aw nb na bg bb u326.1 nx ++ (wPk k cI (b 0) gi bi ki qu wt tr be fw fd ++ (wBx b cI bx ++ (wLd a cI go io ct sh wr ++ (wRl w cI qc.1 qc.2.1 qc.2.2.1 qc.2.2.2.1 qc.2.2.2.2.2.1 qc.2.2.2.2.2.2.1 qc.2.2.2.2.2.2.2.1 qc.2.2.2.2.2.2.2.2.1 qc.2.2.2.2.2.2.2.2.2.1 qc.2.2.2.2.2.2.2.2.2.2 qc.2.2.2.2.1 ++ (wRl q cI qd.1 qd.2.1 qd.2.2.1 qd.2.2.2.1 qd.2.2.2.2.2.1 qd.2.2.2.2.2.2.1 qd.2.2.2.2.2.2.2.1 qd.2.2.2.2.2.2.2.2.1 qd.2.2.2.2.2.2.2.2.2.1 qd.2.2.2.2.2.2.2.2.2.2 qd.2.2.2.2.1 ++ (wMd m cI ty ln p.1 p.2.1 p.2.2.1 p.2.2.2.1 p.2.2.2.2.1 p.2.2.2.2.2.1 p.2.2.2.2.2.2.1 p.2.2.2.2.2.2.2.1 p.2.2.2.2.2.2.2.2.1 p.2.2.2.2.2.2.2.2.2.1 p.2.2.2.2.2.2.2.2.2.2 qap qpt qrk qcd qfr qmc qmg qmz qnc qnt qld nb cl gr sp ot na awm nx bg bb u355.1 fd u355.2 bx wy li fm en num td lf lk)))))))))) S_ (wk_rV S_ (c_Md_absorber l D cI z (m) (ty) (ln) (p.1) (p.2.1) (p.2.2.1) (p.2.2.2.1) (p.2.2.2.2.1) (p.2.2.2.2.2.1) (p.2.2.2.2.2.2.1) (p.2.2.2.2.2.2.2.1) (p.2.2.2.2.2.2.2.2.1) (p.2.2.2.2.2.2.2.2.2.1) (p.2.2.2.2.2.2.2.2.2.2) (qap) (qpt) (qrk) (qcd) (qfr) (qmc) (qmg) (qmz) (qnc) (qnt) (qld) (nb) (cl) (gr) (sp) (ot) (na) (awm) (nx) (bg) (bb) (ab) (fd) (pv) (bx) (wy) (li) (fm) (en) (num) (td) (lf) (lk) (xs ((i) + (1))) (y) (by omega)) mv_Lw_39 (wk_rcv S_ 0 6 rfl rfl rfl) rfl rfl (Nat.le_of_ble_eq_true rfl) (by rw [hR_]; decide) (by rw [hR_]; decide) d_Lw_law_355) [47, 48, 49, 50, 51, 52, 53, 54, 55, 56, 57, 58, 59, 60, 61, 62, 63, 64, 65, 66, 67, 68, 69, 70, 71, 72, 73, 74, 75, 76, 77, 78, 79, 80] [0, 1, 2, 3, 4, 5, 6, 7, 8, 9, 10, 11, 12, 13, 14, 15, 16, 17, 18, 19, 20, 21, 22, 23, 24, 25, 26, 27, 28, 29, 30, 31, 32, 33, 34, 35, 36, 37, 38, 39, 40, 41, 42, 43, 44, 45, 46] [0, 1, 2, 3, 4, 5, 6, 7, 8, 9, 10, 11, 12, 13, 14, 15, 16, 17, 18, 19, 20, 21, 22, 23, 24, 25, 26, 27, 28, 29, 30, 31, 32, 33, 34, 35, 36, 37, 38, 39, 40, 41, 42, 43, 44, 45, 46, 47, 48, 49, 50, 51, 52, 53, 54, 55, 56, 57, 58, 59, 60, 61, 62, 63, 64, 65, 66, 67, 68, 69, 70, 71, 72, 73, 74, 75, 76, 77, 78, 79, 80] rfl rfl rfl (by decide) (by decide) (by decide) (by decide) (fun _ => rfl) (fun _ => rfl) (fun r355 u355 hw355 => ?_)
  refine wk_st (st' := [.int (r355), .int (bI ((abS ab pv nx (xs ((i) + (1))) y).1))]) rfl ?_
  refine wk_top (y := (bI ((abS ab pv nx (xs ((i) + (1))) y).1))) hw355.1 ?_
  refine wk_icmp_eq (pc := 358) (tgt := 729) S_ d_Lw_law_358 (by decide) (fun h358 => ?_) (fun h358 => absurd rfl h358)
  refine wk_weq (ws' := (wPL o cI (t 0) (s 0) (k 0) (a 0) (w 0) (q 0) u326.2 ++ (wTx t cI (zA z) ty nu ln 0 0 0 ++ (wSt s cI cl gr sp rs aw nb na bg bb u326.1 nx ++ (wPk k cI (b 0) gi bi ki qu wt tr be fw fd ++ (wBx b cI bx ++ (wLd a cI go io ct sh wr ++ (wRl w cI qc.1 qc.2.1 qc.2.2.1 qc.2.2.2.1 qc.2.2.2.2.2.1 qc.2.2.2.2.2.2.1 qc.2.2.2.2.2.2.2.1 qc.2.2.2.2.2.2.2.2.1 qc.2.2.2.2.2.2.2.2.2.1 qc.2.2.2.2.2.2.2.2.2.2 qc.2.2.2.2.1 ++ (wRl q cI qd.1 qd.2.1 qd.2.2.1 qd.2.2.2.1 qd.2.2.2.2.2.1 qd.2.2.2.2.2.2.1 qd.2.2.2.2.2.2.2.1 qd.2.2.2.2.2.2.2.2.1 qd.2.2.2.2.2.2.2.2.2.1 qd.2.2.2.2.2.2.2.2.2.2 qd.2.2.2.2.1 ++ (wMd m cI ty ln p.1 p.2.1 p.2.2.1 p.2.2.2.1 p.2.2.2.2.1 p.2.2.2.2.2.1 p.2.2.2.2.2.2.1 p.2.2.2.2.2.2.2.1 p.2.2.2.2.2.2.2.2.1 p.2.2.2.2.2.2.2.2.2.1 p.2.2.2.2.2.2.2.2.2.2 qap qpt qrk qcd qfr qmc qmg qmz qnc qnt qld nb cl gr sp ot na awm nx bg bb u326.1 fd u355.2 bx wy li fm en num td lf lk)))))))))) (by rw [show u355.1 = u326.1 by rw [hw355.2, hw326.2]; exact (abS_st hX0 hP).2.1]) ?_
  refine wk_lv [0, 1, 2, 3] ?_ (hN (o) (t) (s) (k) (b) (a) (w) (q) (m) (u326.2) (ty) (nu) (ln) (cl) (gr) (sp) (rs) (aw) (nb) (na) (bg) (bb) (u326.1) (nx) (gi) (bi) (ki) (qu) (wt) (tr) (be) (fw) (fd) (bx) (go) (io) (ct) (sh) (wr) (qc) (qd) (p) (qap) (qpt) (qrk) (qcd) (qfr) (qmc) (qmg) (qmz) (qnc) (qnt) (qld) (ot) (awm) (u355.2) (wy) (li) (fm) (en) (num) (td) (lf) (lk) hA hS (by rw [hw326.2]; exact (abS_st hX0 hP).2.2.2) hR0 hB (by rw [hw355.2, hw326.2]; exact (abS_st hX0 hP).2.2.1) hQ hL0)
  rfl
