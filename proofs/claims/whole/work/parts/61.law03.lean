set_option maxHeartbeats 4000000 in
set_option maxRecDepth 100000 in
theorem lc_3 {p_ : Program} {l : Launch} {e_ : Env} {R_ : Room} {s_ : State} {m_ : MethodId} {ar_ : Array Value} {be_ : List Frame} {me_ : Method} {co_ : Code} {Q_ : State → Prop} {D : va_G} {cI : CiT} {z : GzT} {A_ : Nat → Prop} {sb L i : Nat} {xs : Nat → Int32} (hR_ : R_ = room_1) (S_ : wk_S p_ s_ m_ ar_ co_ D A_ 4 b_Lw_law R_Lw (tyK cI) (gX z)) (hX_ : va_X sb L xs s_ s_.heap) (hbl_ : sb < s_.heap.size) (hbA_ : ¬ A_ sb) (hL_ : L ≤ 2560) (hi_ : i + 5 ≤ L) (hN : ∀ (o : Nat → Nat) (t : Nat → Nat) (s : Nat → Nat) (k : Nat → Nat) (b : Nat → Nat) (a : Nat → Nat) (w : Nat → Nat) (q : Nat → Nat) (m : Nat → Nat) (ut : Bool) (ty : Nat → Nat) (nu : Nat → Nat) (ln : Nat) (cl : Nat → Nat) (gr : Nat → Nat) (sp : Nat → Nat) (rs : Nat → Nat) (aw : Nat → Nat) (nb : Nat) (na : Nat) (bg : Nat → Nat) (bb : Nat → Nat) (ab : Nat → Nat) (nx : Nat) (gi : Nat → Nat) (bi : Nat → Nat) (ki : Nat → Nat) (qu : Nat → Nat) (wt : Nat) (tr : Nat → Nat) (be : Nat → Nat) (fw : Nat) (fd : Bool) (bx : Nat → Nat) (go : Nat → Nat) (io : Nat → Nat) (ct : Nat) (sh : Nat → Nat) (wr : Nat) (qc : CT) (qd : CT) (p : RT) (qap : Nat → Bool) (qpt : Nat → Nat) (qrk : Nat → Nat) (qcd : Nat → Nat) (qfr : Nat) (qmc : Nat → Nat) (qmg : Nat → Nat) (qmz : Nat → Nat) (qnc : Nat → Nat) (qnt : Nat → Nat) (qld : Nat → Nat) (ot : Nat → Bool) (awm : Nat → Nat) (pv : Bool) (wy : Nat → Nat) (li : Nat → Nat) (fm : Nat) (en : Nat) (num : Nat) (td : Nat → Nat) (lf : Int32) (lk : Int32), (iT ty ln) → (iS cl gr sp nb) → (iX bg bb ab nx) → (iR rs aw na nb ot awm) → (iB cl nb nx fd bx) → (pv = (fd && ut)) → (iQ qc qd p qmg) → (iL qu li) → wk_G p_ l e_ R_ s_ m_ ar_ be_ me_ co_ Q_ D A_ 4 81 4534 (wPL o cI (t 0) (s 0) (k 0) (a 0) (w 0) (q 0) ut ++ (wTx t cI (zA z) ty nu ln 0 0 0 ++ (wSt s cI cl gr sp rs aw nb na bg bb ab nx ++ (wPk k cI (b 0) gi bi ki qu wt tr be fw fd ++ (wBx b cI bx ++ (wLd a cI go io ct sh wr ++ (wRl w cI qc.1 qc.2.1 qc.2.2.1 qc.2.2.2.1 qc.2.2.2.2.2.1 qc.2.2.2.2.2.2.1 qc.2.2.2.2.2.2.2.1 qc.2.2.2.2.2.2.2.2.1 qc.2.2.2.2.2.2.2.2.2.1 qc.2.2.2.2.2.2.2.2.2.2 qc.2.2.2.2.1 ++ (wRl q cI qd.1 qd.2.1 qd.2.2.1 qd.2.2.2.1 qd.2.2.2.2.2.1 qd.2.2.2.2.2.2.1 qd.2.2.2.2.2.2.2.1 qd.2.2.2.2.2.2.2.2.1 qd.2.2.2.2.2.2.2.2.2.1 qd.2.2.2.2.2.2.2.2.2.2 qd.2.2.2.2.1 ++ (wMd m cI ty ln p.1 p.2.1 p.2.2.1 p.2.2.2.1 p.2.2.2.2.1 p.2.2.2.2.2.1 p.2.2.2.2.2.2.1 p.2.2.2.2.2.2.2.1 p.2.2.2.2.2.2.2.2.1 p.2.2.2.2.2.2.2.2.2.1 p.2.2.2.2.2.2.2.2.2.2 qap qpt qrk qcd qfr qmc qmg qmz qnc qnt qld nb cl gr sp ot na awm nx bg bb ab fd pv bx wy li fm en num td lf lk))))))))) 729 [(0, .ref (sb)), (1, .ref (o 0)), (2, .ref (m 0)), (3, .int (nI (i)))] []) (o : Nat → Nat) (t : Nat → Nat) (s : Nat → Nat) (k : Nat → Nat) (b : Nat → Nat) (a : Nat → Nat) (w : Nat → Nat) (q : Nat → Nat) (m : Nat → Nat) (ut : Bool) (ty : Nat → Nat) (nu : Nat → Nat) (ln : Nat) (cl : Nat → Nat) (gr : Nat → Nat) (sp : Nat → Nat) (rs : Nat → Nat) (aw : Nat → Nat) (nb : Nat) (na : Nat) (bg : Nat → Nat) (bb : Nat → Nat) (ab : Nat → Nat) (nx : Nat) (gi : Nat → Nat) (bi : Nat → Nat) (ki : Nat → Nat) (qu : Nat → Nat) (wt : Nat) (tr : Nat → Nat) (be : Nat → Nat) (fw : Nat) (fd : Bool) (bx : Nat → Nat) (go : Nat → Nat) (io : Nat → Nat) (ct : Nat) (sh : Nat → Nat) (wr : Nat) (qc : CT) (qd : CT) (p : RT) (qap : Nat → Bool) (qpt : Nat → Nat) (qrk : Nat → Nat) (qcd : Nat → Nat) (qfr : Nat) (qmc : Nat → Nat) (qmg : Nat → Nat) (qmz : Nat → Nat) (qnc : Nat → Nat) (qnt : Nat → Nat) (qld : Nat → Nat) (ot : Nat → Bool) (awm : Nat → Nat) (pv : Bool) (wy : Nat → Nat) (li : Nat → Nat) (fm : Nat) (en : Nat) (num : Nat) (td : Nat → Nat) (lf : Int32) (lk : Int32) (hA : iT ty ln) (hS : iS cl gr sp nb) (hX0 : iX bg bb ab nx) (hR0 : iR rs aw na nb ot awm) (hB : iB cl nb nx fd bx) (hP : pv = (fd && ut)) (hQ : iQ qc qd p qmg) (hL0 : iL qu li) : wk_G p_ l e_ R_ s_ m_ ar_ be_ me_ co_ Q_ D A_ 4 81 4534 (wPL o cI (t 0) (s 0) (k 0) (a 0) (w 0) (q 0) ut ++ (wTx t cI (zA z) ty nu ln 0 0 0 ++ (wSt s cI cl gr sp rs aw nb na bg bb ab nx ++ (wPk k cI (b 0) gi bi ki qu wt tr be fw fd ++ (wBx b cI bx ++ (wLd a cI go io ct sh wr ++ (wRl w cI qc.1 qc.2.1 qc.2.2.1 qc.2.2.2.1 qc.2.2.2.2.2.1 qc.2.2.2.2.2.2.1 qc.2.2.2.2.2.2.2.1 qc.2.2.2.2.2.2.2.2.1 qc.2.2.2.2.2.2.2.2.2.1 qc.2.2.2.2.2.2.2.2.2.2 qc.2.2.2.2.1 ++ (wRl q cI qd.1 qd.2.1 qd.2.2.1 qd.2.2.2.1 qd.2.2.2.2.2.1 qd.2.2.2.2.2.2.1 qd.2.2.2.2.2.2.2.1 qd.2.2.2.2.2.2.2.2.1 qd.2.2.2.2.2.2.2.2.2.1 qd.2.2.2.2.2.2.2.2.2.2 qd.2.2.2.2.1 ++ (wMd m cI ty ln p.1 p.2.1 p.2.2.1 p.2.2.2.1 p.2.2.2.2.1 p.2.2.2.2.2.1 p.2.2.2.2.2.2.1 p.2.2.2.2.2.2.2.1 p.2.2.2.2.2.2.2.2.1 p.2.2.2.2.2.2.2.2.2.1 p.2.2.2.2.2.2.2.2.2.2 qap qpt qrk qcd qfr qmc qmg qmz qnc qnt qld nb cl gr sp ot na awm nx bg bb ab fd pv bx wy li fm en num td lf lk))))))))) 227 [(0, .ref (sb)), (1, .ref (o 0)), (2, .ref (m 0)), (3, .int (nI (i)))] [] := by
  have hln := hA.1
  have hty := hA.2
  have hnb := hS.1
  have hgr := hS.2.1
  have hcl := hS.2.2.1
  have hsp := hS.2.2.2
  have hnx := hX0.1
  have hbg := hX0.2.1
  have hbb := hX0.2.2.1
  have hab := hX0.2.2.2
  have hrs := hR0.1
  have haw := hR0.2.1
  have hno3 := iR_no hR0
  have hna : na ≤ 8 := Nat.le_trans hno3.2.2 hnb
  have hot : ∀ b, b < nb → ot b = decide (rs b ≠ 0) := hR0.2.2.1.1
  have hb5 : ∀ b, bx b ≤ 5 := fun b => Nat.le_trans (hB.1 b) hnx
  have hF := hB.2.2
  have hcv : ∀ b, b < nb → bx b ≠ 0 → cl b ≠ 0 := fun b _ h => (hB.2.1 b h).2
  have hqu := hL0.1
  have hli := hL0.2
  obtain ⟨hq1, hq2, hq3, hq4, hq5⟩ := id hQ
  have e2 : qc.2.1 = p.2.1 := hq1.2.1
  have e3 : qc.2.2.1 = p.2.2.1 := hq1.2.2.1
  have e4 : qc.2.2.2.1 = p.2.2.2.1 := hq1.2.2.2.1
  have e5 : qc.2.2.2.2.1 = p.2.2.2.2.1 := hq1.2.2.2.2.1
  have e10 : qc.2.2.2.2.2.2.2.2.2.2 = p.2.2.2.2.2.2.2.2.2.2 := hq1.2.2.2.2.2.2.2.2.2
  have hpt : ∀ c, p.2.1 c ≤ 1000 := hq2.2.1
  have hrk : ∀ c, p.2.2.1 c ≤ 99 := hq2.2.2.1
  have hcd : ∀ c, p.2.2.2.1 c ≤ 5 := hq2.2.2.2.1
  have hfr : p.2.2.2.2.1 ≤ 999999 := hq2.2.2.2.2.1
  have hld : ∀ c, p.2.2.2.2.2.2.2.2.2.2 c ≤ 19 := hq2.2.2.2.2.2
  have hpt' : ∀ c, qc.2.1 c ≤ 1000 := by rw [e2]; exact hpt
  have hrk' : ∀ c, qc.2.2.1 c ≤ 99 := by rw [e3]; exact hrk
  have hcd' : ∀ c, qc.2.2.2.1 c ≤ 5 := by rw [e4]; exact hcd
  have hfr' : qc.2.2.2.2.1 ≤ 999999 := by rw [e5]; exact hfr
  have hoc' : ∀ c, qc.2.2.2.2.2.2.2.2.2.2 c ≤ 19 := by rw [e10]; exact hld
  refine wk_aload_n (pc := 227) S_ 1 d_Lw_law_227 rfl rfl ?_
  refine wk_aload_n (pc := 228) S_ 0 d_Lw_law_228 rfl rfl ?_
  refine wk_iload_n (pc := 229) S_ 3 d_Lw_law_229 rfl rfl ?_
  refine wk_iconst (pc := 230) (v := (nI (1))) S_ d_Lw_law_230 (by decide) ?_
  refine wk_iaddN (pc := 231) S_ d_Lw_law_231 ?_
  refine wk_sld (pc := 232) S_ hX_ hbl_ hbA_ (show (i) + (1) < L by omega) (by omega) d_Lw_law_232 ?_
  refine wk_aload_n (pc := 233) S_ 0 d_Lw_law_233 rfl rfl ?_
  refine wk_iload_n (pc := 234) S_ 3 d_Lw_law_234 rfl rfl ?_
  refine wk_iconst (pc := 235) (v := (nI (2))) S_ d_Lw_law_235 (by decide) ?_
  refine wk_iaddN (pc := 236) S_ d_Lw_law_236 ?_
  refine wk_sld (pc := 237) S_ hX_ hbl_ hbA_ (show (i) + (2) < L by omega) (by omega) d_Lw_law_237 ?_
  refine wk_i2l (pc := 238) S_ d_Lw_law_238 rfl ?_
  refine wk_bipush (pc := 239) (v := (nI (32))) S_ d_Lw_law_239 (by decide) ?_
  refine wk_lshl (pc := 241) S_ d_Lw_law_241 rfl ?_
  refine wk_aload_n (pc := 242) S_ 0 d_Lw_law_242 rfl rfl ?_
  refine wk_iload_n (pc := 243) S_ 3 d_Lw_law_243 rfl rfl ?_
  refine wk_iconst (pc := 244) (v := (nI (3))) S_ d_Lw_law_244 (by decide) ?_
  refine wk_iaddN (pc := 245) S_ d_Lw_law_245 ?_
  refine wk_sld (pc := 246) S_ hX_ hbl_ hbA_ (show (i) + (3) < L by omega) (by omega) d_Lw_law_246 ?_
  refine wk_i2l (pc := 247) S_ d_Lw_law_247 rfl ?_
  refine wk_ldc2 (pc := 248) (v := (lN (4294967295))) S_ kc_Lw_23 d_Lw_law_248 ?_
  refine wk_land (pc := 251) S_ d_Lw_law_251 ?_
  refine wk_lor (pc := 252) S_ d_Lw_law_252 ?_
  refine wk_tol (fun y hy => ?_)
  refine wk_aload_n (pc := 253) S_ 0 d_Lw_law_253 rfl rfl ?_
  refine wk_iload_n (pc := 254) S_ 3 d_Lw_law_254 rfl rfl ?_
  refine wk_iconst (pc := 255) (v := (nI (4))) S_ d_Lw_law_255 (by decide) ?_
  refine wk_iaddN (pc := 256) S_ d_Lw_law_256 ?_
  refine wk_sld (pc := 257) S_ hX_ hbl_ hbA_ (show (i) + (4) < L by omega) (by omega) d_Lw_law_257 ?_
  refine wk_run (pc := 258) (rest := []) (wr := (wTx t cI (zA z) ty nu ln 0 0 0 ++ (wPk k cI (b 0) gi bi ki qu wt tr be fw fd ++ (wBx b cI bx ++ (wLd a cI go io ct sh wr ++ (wRl w cI qc.1 qc.2.1 qc.2.2.1 qc.2.2.2.1 qc.2.2.2.2.2.1 qc.2.2.2.2.2.2.1 qc.2.2.2.2.2.2.2.1 qc.2.2.2.2.2.2.2.2.1 qc.2.2.2.2.2.2.2.2.2.1 qc.2.2.2.2.2.2.2.2.2.2 qc.2.2.2.2.1 ++ (wRl q cI qd.1 qd.2.1 qd.2.2.1 qd.2.2.2.1 qd.2.2.2.2.2.1 qd.2.2.2.2.2.2.1 qd.2.2.2.2.2.2.2.1 qd.2.2.2.2.2.2.2.2.1 qd.2.2.2.2.2.2.2.2.2.1 qd.2.2.2.2.2.2.2.2.2.2 qd.2.2.2.2.1 ++ (wMd m cI ty ln p.1 p.2.1 p.2.2.1 p.2.2.2.1 p.2.2.2.2.1 p.2.2.2.2.2.1 p.2.2.2.2.2.2.1 p.2.2.2.2.2.2.2.1 p.2.2.2.2.2.2.2.2.1 p.2.2.2.2.2.2.2.2.2.1 p.2.2.2.2.2.2.2.2.2.2 qap qpt qrk qcd qfr qmc qmg qmz qnc qnt qld nb cl gr sp ot na awm nx bg bb ab fd pv bx wy li fm en num td lf lk)))))))) (wN := fun u258 => (wPL o cI (t 0) (s 0) (k 0) (a 0) (w 0) (q 0) u258.2.2.2 ++ (wTx t cI (zA z) ty nu ln 0 0 0 ++ (wSt s cI cl gr sp rs aw nb na u258.1 u258.2.1 ab u258.2.2.1 ++ (wPk k cI (b 0) gi bi ki qu wt tr be fw fd ++ (wBx b cI bx ++ (wLd a cI go io ct sh wr ++ (wRl w cI qc.1 qc.2.1 qc.2.2.1 qc.2.2.2.1 qc.2.2.2.2.2.1 qc.2.2.2.2.2.2.1 qc.2.2.2.2.2.2.2.1 qc.2.2.2.2.2.2.2.2.1 qc.2.2.2.2.2.2.2.2.2.1 qc.2.2.2.2.2.2.2.2.2.2 qc.2.2.2.2.1 ++ (wRl q cI qd.1 qd.2.1 qd.2.2.1 qd.2.2.2.1 qd.2.2.2.2.2.1 qd.2.2.2.2.2.2.1 qd.2.2.2.2.2.2.2.1 qd.2.2.2.2.2.2.2.2.1 qd.2.2.2.2.2.2.2.2.2.1 qd.2.2.2.2.2.2.2.2.2.2 qd.2.2.2.2.1 ++ (wMd m cI ty ln p.1 p.2.1 p.2.2.1 p.2.2.2.1 p.2.2.2.2.1 p.2.2.2.2.2.1 p.2.2.2.2.2.2.1 p.2.2.2.2.2.2.2.1 p.2.2.2.2.2.2.2.2.1 p.2.2.2.2.2.2.2.2.2.1 p.2.2.2.2.2.2.2.2.2.2 qap qpt qrk qcd qfr qmc qmg qmz qnc qnt qld nb cl gr sp ot na awm nx bg bb ab fd pv bx wy li fm en num td lf lk)))))))))) S_ (wk_rV S_ (c_PL_box l D cI z (o) (s) (t) (k) (a) (w) (q) (ut) (cl) (gr) (sp) (rs) (aw) (nb) (na) (bg) (bb) (ab) (nx) (xs ((i) + (1))) (y) (xs ((i) + (4))) (by omega)) mv_Lw_30 (wk_rcv S_ 0 0 rfl rfl rfl) rfl rfl (Nat.le_of_ble_eq_true rfl) (by rw [hR_]; decide) (by rw [hR_]; decide) d_Lw_law_258) [0, 4, 5, 6, 7, 8, 9, 10, 11, 12] [1, 2, 3, 13, 14, 15, 16, 17, 18, 19, 20, 21, 22, 23, 24, 25, 26, 27, 28, 29, 30, 31, 32, 33, 34, 35, 36, 37, 38, 39, 40, 41, 42, 43, 44, 45, 46, 47, 48, 49, 50, 51, 52, 53, 54, 55, 56, 57, 58, 59, 60, 61, 62, 63, 64, 65, 66, 67, 68, 69, 70, 71, 72, 73, 74, 75, 76, 77, 78, 79, 80] [71, 0, 1, 2, 72, 73, 74, 75, 76, 77, 78, 79, 80, 3, 4, 5, 6, 7, 8, 9, 10, 11, 12, 13, 14, 15, 16, 17, 18, 19, 20, 21, 22, 23, 24, 25, 26, 27, 28, 29, 30, 31, 32, 33, 34, 35, 36, 37, 38, 39, 40, 41, 42, 43, 44, 45, 46, 47, 48, 49, 50, 51, 52, 53, 54, 55, 56, 57, 58, 59, 60, 61, 62, 63, 64, 65, 66, 67, 68, 69, 70] rfl rfl rfl (by decide) (by decide) (by decide) (by decide) (fun _ => rfl) (fun _ => rfl) (fun r258 u258 hw258 => ?_)
  refine wk_st (st' := [.int (r258)]) rfl ?_
  refine wk_top (y := (zI ((bxS bg bb nx pv (xs ((i) + (1))) y (xs ((i) + (4)))).1))) (hw258.1.trans (congrArg zI (bxS_st hX0 hB hP).1.symm)) ?_
  refine wk_aload_n (pc := 261) S_ 2 d_Lw_law_261 rfl rfl ?_
  refine wk_aload_n (pc := 262) S_ 0 d_Lw_law_262 rfl rfl ?_
  refine wk_iload_n (pc := 263) S_ 3 d_Lw_law_263 rfl rfl ?_
  refine wk_iconst (pc := 264) (v := (nI (1))) S_ d_Lw_law_264 (by decide) ?_
  refine wk_iaddN (pc := 265) S_ d_Lw_law_265 ?_
  refine wk_sld (pc := 266) S_ hX_ hbl_ hbA_ (show (i) + (1) < L by omega) (by omega) d_Lw_law_266 ?_
  refine wk_aload_n (pc := 267) S_ 0 d_Lw_law_267 rfl rfl ?_
  refine wk_iload_n (pc := 268) S_ 3 d_Lw_law_268 rfl rfl ?_
  refine wk_iconst (pc := 269) (v := (nI (2))) S_ d_Lw_law_269 (by decide) ?_
  refine wk_iaddN (pc := 270) S_ d_Lw_law_270 ?_
  refine wk_sld (pc := 271) S_ hX_ hbl_ hbA_ (show (i) + (2) < L by omega) (by omega) d_Lw_law_271 ?_
  refine wk_i2l (pc := 272) S_ d_Lw_law_272 rfl ?_
  refine wk_bipush (pc := 273) (v := (nI (32))) S_ d_Lw_law_273 (by decide) ?_
  refine wk_lshl (pc := 275) S_ d_Lw_law_275 rfl ?_
  refine wk_aload_n (pc := 276) S_ 0 d_Lw_law_276 rfl rfl ?_
  refine wk_iload_n (pc := 277) S_ 3 d_Lw_law_277 rfl rfl ?_
  refine wk_iconst (pc := 278) (v := (nI (3))) S_ d_Lw_law_278 (by decide) ?_
  refine wk_iaddN (pc := 279) S_ d_Lw_law_279 ?_
  refine wk_sld (pc := 280) S_ hX_ hbl_ hbA_ (show (i) + (3) < L by omega) (by omega) d_Lw_law_280 ?_
  refine wk_i2l (pc := 281) S_ d_Lw_law_281 rfl ?_
  refine wk_ldc2 (pc := 282) (v := (lN (4294967295))) S_ kc_Lw_23 d_Lw_law_282 ?_
  refine wk_land (pc := 285) S_ d_Lw_law_285 ?_
  refine wk_lor (pc := 286) S_ d_Lw_law_286 ?_
  refine wk_topl (y := y) hy.symm ?_
  refine wk_aload_n (pc := 287) S_ 0 d_Lw_law_287 rfl rfl ?_
  refine wk_iload_n (pc := 288) S_ 3 d_Lw_law_288 rfl rfl ?_
  refine wk_iconst (pc := 289) (v := (nI (4))) S_ d_Lw_law_289 (by decide) ?_
  refine wk_iaddN (pc := 290) S_ d_Lw_law_290 ?_
  refine wk_sld (pc := 291) S_ hX_ hbl_ hbA_ (show (i) + (4) < L by omega) (by omega) d_Lw_law_291 ?_
  refine wk_run (pc := 292) (rest := [.int (zI ((bxS bg bb nx pv (xs ((i) + (1))) y (xs ((i) + (4)))).1))]) (wr := (wPL o cI (t 0) (s 0) (k 0) (a 0) (w 0) (q 0) u258.2.2.2 ++ (wTx t cI (zA z) ty nu ln 0 0 0 ++ (wSt s cI cl gr sp rs aw nb na u258.1 u258.2.1 ab u258.2.2.1 ++ (wPk k cI (b 0) gi bi ki qu wt tr be fw fd ++ (wBx b cI bx ++ (wLd a cI go io ct sh wr ++ (wRl w cI qc.1 qc.2.1 qc.2.2.1 qc.2.2.2.1 qc.2.2.2.2.2.1 qc.2.2.2.2.2.2.1 qc.2.2.2.2.2.2.2.1 qc.2.2.2.2.2.2.2.2.1 qc.2.2.2.2.2.2.2.2.2.1 qc.2.2.2.2.2.2.2.2.2.2 qc.2.2.2.2.1 ++ (wRl q cI qd.1 qd.2.1 qd.2.2.1 qd.2.2.2.1 qd.2.2.2.2.2.1 qd.2.2.2.2.2.2.1 qd.2.2.2.2.2.2.2.1 qd.2.2.2.2.2.2.2.2.1 qd.2.2.2.2.2.2.2.2.2.1 qd.2.2.2.2.2.2.2.2.2.2 qd.2.2.2.2.1))))))))) (wN := fun u292 => (wPL o cI (t 0) (s 0) (k 0) (a 0) (w 0) (q 0) u258.2.2.2 ++ (wTx t cI (zA z) ty nu ln 0 0 0 ++ (wSt s cI cl gr sp rs aw nb na u258.1 u258.2.1 ab u258.2.2.1 ++ (wPk k cI (b 0) gi bi ki qu wt tr be fw fd ++ (wBx b cI bx ++ (wLd a cI go io ct sh wr ++ (wRl w cI qc.1 qc.2.1 qc.2.2.1 qc.2.2.2.1 qc.2.2.2.2.2.1 qc.2.2.2.2.2.2.1 qc.2.2.2.2.2.2.2.1 qc.2.2.2.2.2.2.2.2.1 qc.2.2.2.2.2.2.2.2.2.1 qc.2.2.2.2.2.2.2.2.2.2 qc.2.2.2.2.1 ++ (wRl q cI qd.1 qd.2.1 qd.2.2.1 qd.2.2.2.1 qd.2.2.2.2.2.1 qd.2.2.2.2.2.2.1 qd.2.2.2.2.2.2.2.1 qd.2.2.2.2.2.2.2.2.1 qd.2.2.2.2.2.2.2.2.2.1 qd.2.2.2.2.2.2.2.2.2.2 qd.2.2.2.2.1 ++ (wMd m cI ty ln p.1 p.2.1 p.2.2.1 p.2.2.2.1 p.2.2.2.2.1 p.2.2.2.2.2.1 p.2.2.2.2.2.2.1 p.2.2.2.2.2.2.2.1 p.2.2.2.2.2.2.2.2.1 p.2.2.2.2.2.2.2.2.2.1 p.2.2.2.2.2.2.2.2.2.2 qap qpt qrk qcd qfr qmc qmg qmz qnc qnt qld nb cl gr sp ot na awm u292.2.2.1 u292.1 u292.2.1 ab fd u292.2.2.2 bx wy li fm en num td lf lk)))))))))) S_ (wk_rV S_ (c_Md_box l D cI z (m) (ty) (ln) (p.1) (p.2.1) (p.2.2.1) (p.2.2.2.1) (p.2.2.2.2.1) (p.2.2.2.2.2.1) (p.2.2.2.2.2.2.1) (p.2.2.2.2.2.2.2.1) (p.2.2.2.2.2.2.2.2.1) (p.2.2.2.2.2.2.2.2.2.1) (p.2.2.2.2.2.2.2.2.2.2) (qap) (qpt) (qrk) (qcd) (qfr) (qmc) (qmg) (qmz) (qnc) (qnt) (qld) (nb) (cl) (gr) (sp) (ot) (na) (awm) (nx) (bg) (bb) (ab) (fd) (pv) (bx) (wy) (li) (fm) (en) (num) (td) (lf) (lk) (xs ((i) + (1))) (y) (xs ((i) + (4))) (by omega)) mv_Lw_34 (wk_rcv S_ 0 6 rfl rfl rfl) rfl rfl (Nat.le_of_ble_eq_true rfl) (by rw [hR_]; decide) (by rw [hR_]; decide) d_Lw_law_292) [47, 48, 49, 50, 51, 52, 53, 54, 55, 56, 57, 58, 59, 60, 61, 62, 63, 64, 65, 66, 67, 68, 69, 70, 71, 72, 73, 74, 75, 76, 77, 78, 79, 80] [0, 1, 2, 3, 4, 5, 6, 7, 8, 9, 10, 11, 12, 13, 14, 15, 16, 17, 18, 19, 20, 21, 22, 23, 24, 25, 26, 27, 28, 29, 30, 31, 32, 33, 34, 35, 36, 37, 38, 39, 40, 41, 42, 43, 44, 45, 46] [0, 1, 2, 3, 4, 5, 6, 7, 8, 9, 10, 11, 12, 13, 14, 15, 16, 17, 18, 19, 20, 21, 22, 23, 24, 25, 26, 27, 28, 29, 30, 31, 32, 33, 34, 35, 36, 37, 38, 39, 40, 41, 42, 43, 44, 45, 46, 47, 48, 49, 50, 51, 52, 53, 54, 55, 56, 57, 58, 59, 60, 61, 62, 63, 64, 65, 66, 67, 68, 69, 70, 71, 72, 73, 74, 75, 76, 77, 78, 79, 80] rfl rfl rfl (by decide) (by decide) (by decide) (by decide) (fun _ => rfl) (fun _ => rfl) (fun r292 u292 hw292 => ?_)
  refine wk_st (st' := [.int (r292), .int (zI ((bxS bg bb nx pv (xs ((i) + (1))) y (xs ((i) + (4)))).1))]) rfl ?_
  refine wk_top (y := (zI ((bxS bg bb nx pv (xs ((i) + (1))) y (xs ((i) + (4)))).1))) hw292.1 ?_
  refine wk_icmp_eq (pc := 295) (tgt := 729) S_ d_Lw_law_295 (by decide) (fun h295 => ?_) (fun h295 => absurd rfl h295)
  refine wk_weq (ws' := (wPL o cI (t 0) (s 0) (k 0) (a 0) (w 0) (q 0) u258.2.2.2 ++ (wTx t cI (zA z) ty nu ln 0 0 0 ++ (wSt s cI cl gr sp rs aw nb na u258.1 u258.2.1 ab u258.2.2.1 ++ (wPk k cI (b 0) gi bi ki qu wt tr be fw fd ++ (wBx b cI bx ++ (wLd a cI go io ct sh wr ++ (wRl w cI qc.1 qc.2.1 qc.2.2.1 qc.2.2.2.1 qc.2.2.2.2.2.1 qc.2.2.2.2.2.2.1 qc.2.2.2.2.2.2.2.1 qc.2.2.2.2.2.2.2.2.1 qc.2.2.2.2.2.2.2.2.2.1 qc.2.2.2.2.2.2.2.2.2.2 qc.2.2.2.2.1 ++ (wRl q cI qd.1 qd.2.1 qd.2.2.1 qd.2.2.2.1 qd.2.2.2.2.2.1 qd.2.2.2.2.2.2.1 qd.2.2.2.2.2.2.2.1 qd.2.2.2.2.2.2.2.2.1 qd.2.2.2.2.2.2.2.2.2.1 qd.2.2.2.2.2.2.2.2.2.2 qd.2.2.2.2.1 ++ (wMd m cI ty ln p.1 p.2.1 p.2.2.1 p.2.2.2.1 p.2.2.2.2.1 p.2.2.2.2.2.1 p.2.2.2.2.2.2.1 p.2.2.2.2.2.2.2.1 p.2.2.2.2.2.2.2.2.1 p.2.2.2.2.2.2.2.2.2.1 p.2.2.2.2.2.2.2.2.2.2 qap qpt qrk qcd qfr qmc qmg qmz qnc qnt qld nb cl gr sp ot na awm u292.2.2.1 u258.1 u292.2.1 ab fd u292.2.2.2 bx wy li fm en num td lf lk)))))))))) (by rw [show u292.1 = u258.1 by rw [hw292.2, hw258.2]; exact (bxS_st hX0 hB hP).2.1]) ?_
  refine wk_weq (ws' := (wPL o cI (t 0) (s 0) (k 0) (a 0) (w 0) (q 0) u258.2.2.2 ++ (wTx t cI (zA z) ty nu ln 0 0 0 ++ (wSt s cI cl gr sp rs aw nb na u258.1 u258.2.1 ab u258.2.2.1 ++ (wPk k cI (b 0) gi bi ki qu wt tr be fw fd ++ (wBx b cI bx ++ (wLd a cI go io ct sh wr ++ (wRl w cI qc.1 qc.2.1 qc.2.2.1 qc.2.2.2.1 qc.2.2.2.2.2.1 qc.2.2.2.2.2.2.1 qc.2.2.2.2.2.2.2.1 qc.2.2.2.2.2.2.2.2.1 qc.2.2.2.2.2.2.2.2.2.1 qc.2.2.2.2.2.2.2.2.2.2 qc.2.2.2.2.1 ++ (wRl q cI qd.1 qd.2.1 qd.2.2.1 qd.2.2.2.1 qd.2.2.2.2.2.1 qd.2.2.2.2.2.2.1 qd.2.2.2.2.2.2.2.1 qd.2.2.2.2.2.2.2.2.1 qd.2.2.2.2.2.2.2.2.2.1 qd.2.2.2.2.2.2.2.2.2.2 qd.2.2.2.2.1 ++ (wMd m cI ty ln p.1 p.2.1 p.2.2.1 p.2.2.2.1 p.2.2.2.2.1 p.2.2.2.2.2.1 p.2.2.2.2.2.2.1 p.2.2.2.2.2.2.2.1 p.2.2.2.2.2.2.2.2.1 p.2.2.2.2.2.2.2.2.2.1 p.2.2.2.2.2.2.2.2.2.2 qap qpt qrk qcd qfr qmc qmg qmz qnc qnt qld nb cl gr sp ot na awm u292.2.2.1 u258.1 u258.2.1 ab fd u292.2.2.2 bx wy li fm en num td lf lk)))))))))) (by rw [show u292.2.1 = u258.2.1 by rw [hw292.2, hw258.2]; exact (bxS_st hX0 hB hP).2.2.1]) ?_
  refine wk_weq (ws' := (wPL o cI (t 0) (s 0) (k 0) (a 0) (w 0) (q 0) u258.2.2.2 ++ (wTx t cI (zA z) ty nu ln 0 0 0 ++ (wSt s cI cl gr sp rs aw nb na u258.1 u258.2.1 ab u258.2.2.1 ++ (wPk k cI (b 0) gi bi ki qu wt tr be fw fd ++ (wBx b cI bx ++ (wLd a cI go io ct sh wr ++ (wRl w cI qc.1 qc.2.1 qc.2.2.1 qc.2.2.2.1 qc.2.2.2.2.2.1 qc.2.2.2.2.2.2.1 qc.2.2.2.2.2.2.2.1 qc.2.2.2.2.2.2.2.2.1 qc.2.2.2.2.2.2.2.2.2.1 qc.2.2.2.2.2.2.2.2.2.2 qc.2.2.2.2.1 ++ (wRl q cI qd.1 qd.2.1 qd.2.2.1 qd.2.2.2.1 qd.2.2.2.2.2.1 qd.2.2.2.2.2.2.1 qd.2.2.2.2.2.2.2.1 qd.2.2.2.2.2.2.2.2.1 qd.2.2.2.2.2.2.2.2.2.1 qd.2.2.2.2.2.2.2.2.2.2 qd.2.2.2.2.1 ++ (wMd m cI ty ln p.1 p.2.1 p.2.2.1 p.2.2.2.1 p.2.2.2.2.1 p.2.2.2.2.2.1 p.2.2.2.2.2.2.1 p.2.2.2.2.2.2.2.1 p.2.2.2.2.2.2.2.2.1 p.2.2.2.2.2.2.2.2.2.1 p.2.2.2.2.2.2.2.2.2.2 qap qpt qrk qcd qfr qmc qmg qmz qnc qnt qld nb cl gr sp ot na awm u258.2.2.1 u258.1 u258.2.1 ab fd u292.2.2.2 bx wy li fm en num td lf lk)))))))))) (by rw [show u292.2.2.1 = u258.2.2.1 by rw [hw292.2, hw258.2]; exact (bxS_st hX0 hB hP).2.2.2.1]) ?_
  refine wk_lv [0, 1, 2, 3] ?_ (hN (o) (t) (s) (k) (b) (a) (w) (q) (m) (u258.2.2.2) (ty) (nu) (ln) (cl) (gr) (sp) (rs) (aw) (nb) (na) (u258.1) (u258.2.1) (ab) (u258.2.2.1) (gi) (bi) (ki) (qu) (wt) (tr) (be) (fw) (fd) (bx) (go) (io) (ct) (sh) (wr) (qc) (qd) (p) (qap) (qpt) (qrk) (qcd) (qfr) (qmc) (qmg) (qmz) (qnc) (qnt) (qld) (ot) (awm) (u292.2.2.2) (wy) (li) (fm) (en) (num) (td) (lf) (lk) hA hS (by rw [hw258.2]; exact (bxS_st hX0 hB hP).2.2.2.2.2.1) hR0 (by rw [hw258.2]; exact (bxS_st hX0 hB hP).2.2.2.2.2.2) (by rw [hw292.2, hw258.2]; exact (bxS_st hX0 hB hP).2.2.2.2.1) hQ hL0)
  rfl
