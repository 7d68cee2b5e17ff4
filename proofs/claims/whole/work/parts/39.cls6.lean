theorem mv_PL_95 : wk_V R_PL 95 R_Pk y_Pk_search b_Pk_search 5 (some .int) 3 := ⟨(gd _ (tb1 _ (List.mem_of_getElem? (i := 203) rfl)) rfl), (gd _ (tb0 _ (List.mem_of_getElem? (i := 4) rfl)) rfl), (gd _ (tb1 _ (List.mem_of_getElem? (i := 200) rfl)) rfl), (by decide +kernel), (gd _ (tb1 _ (List.mem_of_getElem? (i := 201) rfl)) rfl), (gd _ (tb1 _ (List.mem_of_getElem? (i := 202) rfl)) rfl)⟩
theorem d_PL_pack_0 : decode b_PL_pack 0 = .ok (.aload_n 0, 1) := by decide +kernel
theorem d_PL_pack_1 : decode b_PL_pack 1 = .ok (.getfield 26, 3) := by decide +kernel
theorem d_PL_pack_4 : decode b_PL_pack 4 = .ok (.aload_n 0, 1) := by decide +kernel
theorem d_PL_pack_5 : decode b_PL_pack 5 = .ok (.getfield 19, 3) := by decide +kernel
theorem d_PL_pack_8 : decode b_PL_pack 8 = .ok (.aload_n 0, 1) := by decide +kernel
theorem d_PL_pack_9 : decode b_PL_pack 9 = .ok (.getfield 40, 3) := by decide +kernel
theorem d_PL_pack_12 : decode b_PL_pack 12 = .ok (.lload_n 1, 1) := by decide +kernel
theorem d_PL_pack_13 : decode b_PL_pack 13 = .ok (.invokevirtual 95, 3) := by decide +kernel
theorem d_PL_pack_16 : decode b_PL_pack 16 = .ok (.istore_n 3, 1) := by decide +kernel
theorem d_PL_pack_17 : decode b_PL_pack 17 = .ok (.iload_n 3, 1) := by decide +kernel
theorem d_PL_pack_18 : decode b_PL_pack 18 = .ok (.iconst (-1), 1) := by decide +kernel
theorem d_PL_pack_19 : decode b_PL_pack 19 = .ok (.if_icmp .eq 8, 3) := by decide +kernel
theorem d_PL_pack_22 : decode b_PL_pack 22 = .ok (.aload_n 0, 1) := by decide +kernel
theorem d_PL_pack_23 : decode b_PL_pack 23 = .ok (.iconst 1, 1) := by decide +kernel
theorem d_PL_pack_24 : decode b_PL_pack 24 = .ok (.putfield 47, 3) := by decide +kernel
theorem d_PL_pack_27 : decode b_PL_pack 27 = .ok (.iload_n 3, 1) := by decide +kernel
theorem d_PL_pack_28 : decode b_PL_pack 28 = .ok (.ireturn, 1) := by decide +kernel
theorem mv_PL_107 : wk_V R_PL 107 R_Pk y_Pk_stillHolds b_Pk_stillHolds 5 (some .boolean) 2 := ⟨(gd _ (tb2 _ (List.mem_of_getElem? (i := 25) rfl)) rfl), (gd _ (tb0 _ (List.mem_of_getElem? (i := 4) rfl)) rfl), (gd _ (tb2 _ (List.mem_of_getElem? (i := 22) rfl)) rfl), (by decide +kernel), (gd _ (tb2 _ (List.mem_of_getElem? (i := 23) rfl)) rfl), (gd _ (tb2 _ (List.mem_of_getElem? (i := 24) rfl)) rfl)⟩
theorem d_PL_kept_0 : decode b_PL_kept 0 = .ok (.aload_n 0, 1) := by decide +kernel
theorem d_PL_kept_1 : decode b_PL_kept 1 = .ok (.getfield 26, 3) := by decide +kernel
theorem d_PL_kept_4 : decode b_PL_kept 4 = .ok (.aload_n 0, 1) := by decide +kernel
theorem d_PL_kept_5 : decode b_PL_kept 5 = .ok (.getfield 19, 3) := by decide +kernel
theorem d_PL_kept_8 : decode b_PL_kept 8 = .ok (.aload_n 0, 1) := by decide +kernel
theorem d_PL_kept_9 : decode b_PL_kept 9 = .ok (.getfield 40, 3) := by decide +kernel
theorem d_PL_kept_12 : decode b_PL_kept 12 = .ok (.invokevirtual 107, 3) := by decide +kernel
theorem d_PL_kept_15 : decode b_PL_kept 15 = .ok (.ireturn, 1) := by decide +kernel
set_option maxHeartbeats 4000000 in
set_option maxRecDepth 100000 in
theorem c_PL_pack (l : Launch) (D : va_G) (cI : CiT) (z : GzT) (o : Nat → Nat) (k : Nat → Nat) (b : Nat → Nat) (s : Nat → Nat) (w : Nat → Nat) (t : Nat → Nat) (a : Nat → Nat) (q : Nat → Nat) (ut : Bool) (gi : (Nat → Nat)) (bi : (Nat → Nat)) (ki : (Nat → Nat)) (qu : (Nat → Nat)) (wt : Nat) (tr : (Nat → Nat)) (be : (Nat → Nat)) (fw : Nat) (fd : Bool) (bx : (Nat → Nat)) (cl : (Nat → Nat)) (gr : (Nat → Nat)) (sp : (Nat → Nat)) (rs : (Nat → Nat)) (aw : (Nat → Nat)) (nb : Nat) (na : Nat) (bg : (Nat → Nat)) (bb : (Nat → Nat)) (ab : (Nat → Nat)) (nx : Nat) (ap : (Nat → Nat)) (pt : (Nat → Nat)) (rk : (Nat → Nat)) (cd : (Nat → Nat)) (mc : (Nat → Nat)) (mg : (Nat → Nat)) (mz : (Nat → Nat)) (nc : (Nat → Nat)) (nt : (Nat → Nat)) (oc : (Nat → Nat)) (fr : Nat) (x : Int64) (hnb : nb ≤ 8) (hnx : nx ≤ 5) (hqu : ∀ k, qu k < 8) (hrs : ∀ b, rs b ≤ 9) (hcl : ∀ b, cl b ≤ 9) (hgr : ∀ b, gr b ≤ 100000) (hab : ∀ x, ab x ≤ 1000000) (hbb : ∀ x, bb x ≤ 8) (hbg : ∀ x, bg x ≤ 1000000) : wk_C l D (tyK cI) (gX z) y_PL_pack b_PL_pack 4 (some .int) 11 424 0 0 [.ref (o 0), .long (x)] (wPL o cI (t 0) (s 0) (k 0) (a 0) (w 0) (q 0) ut ++ (wPk k cI (b 0) gi bi ki qu wt tr be fw fd ++ (wBx b cI bx ++ (wSt s cI cl gr sp rs aw nb na bg bb ab nx ++ (wRl w cI ap pt rk cd mc mg mz nc nt oc fr))))) wk_i (fun (r : Int32) (u : (Nat → Nat) × (Nat → Nat) × (Nat → Nat) × (Nat → Nat) × Nat × (Nat → Nat) × (Nat → Nat) × Nat × (Nat → Nat) × Bool × Bool) => (∀ k, u.2.2.2.1 k < 8) ∧ (r, u.2.2.2.2.2.2.2.2) = ((scS ap cl gr bg bb ab (pkL (otC rs) cl nb qu nb).1 nx (pkL (otC rs) cl nb qu nb).2 be x bx fd).1, (scS ap cl gr bg bb ab (pkL (otC rs) cl nb qu nb).1 nx (pkL (otC rs) cl nb qu nb).2 be x bx fd).2.1, (scS ap cl gr bg bb ab (pkL (otC rs) cl nb qu nb).1 nx (pkL (otC rs) cl nb qu nb).2 be x bx fd).2.2, if (scS ap cl gr bg bb ab (pkL (otC rs) cl nb qu nb).1 nx (pkL (otC rs) cl nb qu nb).2 be x bx fd).1 = -1 then ut else true)) (fun u => (wPL o cI (t 0) (s 0) (k 0) (a 0) (w 0) (q 0) u.2.2.2.2.2.2.2.2.2.2 ++ (wPk k cI (b 0) u.1 u.2.1 u.2.2.1 u.2.2.2.1 u.2.2.2.2.1 u.2.2.2.2.2.1 u.2.2.2.2.2.2.1 u.2.2.2.2.2.2.2.1 u.2.2.2.2.2.2.2.2.2.1 ++ (wBx b cI u.2.2.2.2.2.2.2.2.1 ++ (wSt s cI cl gr sp rs aw nb na bg bb ab nx ++ (wRl w cI ap pt rk cd mc mg mz nc nt oc fr)))))) := by
  refine wk_methI (own := R_PL) [(0, .ref (o 0)), (1, .long (x))] (by decide) rfl (Nat.le_of_ble_eq_true rfl) rfl (gX_ok z) (fun p_ e_ R_ s_ m_ ar_ be_ me_ co_ Q_ A_ hR_ S_ hnm_ hQ_ => ?_)
  refine wk_aload_n (pc := 0) S_ 0 d_PL_pack_0 rfl rfl ?_
  refine wk_get (pc := 1) (v := .ref (k 0)) S_ 0 2 0 in_PL rfl (by decide) rfl fl_PL_26 d_PL_pack_1 rfl rfl ?_
  refine wk_aload_n (pc := 4) S_ 0 d_PL_pack_4 rfl rfl ?_
  refine wk_get (pc := 5) (v := .ref (s 0)) S_ 0 1 0 in_PL rfl (by decide) rfl fl_PL_19 d_PL_pack_5 rfl rfl ?_
  refine wk_aload_n (pc := 8) S_ 0 d_PL_pack_8 rfl rfl ?_
  refine wk_get (pc := 9) (v := .ref (w 0)) S_ 0 4 0 in_PL rfl (by decide) rfl fl_PL_40 d_PL_pack_9 rfl rfl ?_
  refine wk_lload_n (pc := 12) S_ 1 d_PL_pack_12 rfl rfl ?_
  refine wk_run (pc := 13) (rest := []) (wr := (wPL o cI (t 0) (s 0) (k 0) (a 0) (w 0) (q 0) ut)) (wN := fun u13 => (wPL o cI (t 0) (s 0) (k 0) (a 0) (w 0) (q 0) ut ++ (wPk k cI (b 0) u13.1 u13.2.1 u13.2.2.1 u13.2.2.2.1 u13.2.2.2.2.1 u13.2.2.2.2.2.1 u13.2.2.2.2.2.2.1 u13.2.2.2.2.2.2.2.1 u13.2.2.2.2.2.2.2.2.2 ++ (wBx b cI u13.2.2.2.2.2.2.2.2.1 ++ (wSt s cI cl gr sp rs aw nb na bg bb ab nx ++ (wRl w cI ap pt rk cd mc mg mz nc nt oc fr)))))) S_ (wk_rV S_ (c_Pk_search l D cI z (k) (b) (s) (w) (gi) (bi) (ki) (qu) (wt) (tr) (be) (fw) (fd) (bx) (cl) (gr) (sp) (rs) (aw) (nb) (na) (bg) (bb) (ab) (nx) (ap) (pt) (rk) (cd) (mc) (mg) (mz) (nc) (nt) (oc) (fr) (x) (by omega) (by omega) hqu hrs hcl hgr hab hbb hbg) mv_PL_95 (wk_rcv S_ 0 3 rfl rfl rfl) rfl rfl (Nat.le_of_ble_eq_true rfl) (by rw [hR_]; decide) (by rw [hR_]; decide) d_PL_pack_13) [1, 2, 3, 4, 5, 6, 7, 8, 9, 10, 11, 12, 13, 14, 15, 16, 17, 18, 19, 20, 21, 22, 23, 24, 25, 26, 27, 28] [0] [0, 1, 2, 3, 4, 5, 6, 7, 8, 9, 10, 11, 12, 13, 14, 15, 16, 17, 18, 19, 20, 21, 22, 23, 24, 25, 26, 27, 28] rfl rfl rfl (by decide) (by decide) (by decide) (by decide) (fun _ => rfl) (fun _ => rfl) (fun r13 u13 hw13 => ?_)
  refine wk_st (st' := [.int (r13)]) rfl ?_
  refine wk_istore_n (pc := 16) (lv' := [(3, .int (r13)), (0, .ref (o 0)), (1, .long (x))]) S_ d_PL_pack_16 rfl (by decide) rfl ?_
  refine wk_iload_n (pc := 17) S_ 0 d_PL_pack_17 rfl rfl ?_
  refine wk_iconst (pc := 18) (v := (-1)) S_ d_PL_pack_18 (by decide) ?_
  refine wk_icmp_eq (pc := 19) (tgt := 27) S_ d_PL_pack_19 (by decide) (fun h19 => ?_) (fun h19 => ?_)
  · -- taken
    refine wk_iload_n (pc := 27) S_ 0 d_PL_pack_27 rfl rfl ?_
    exact hQ_ (r13) (u13.1, u13.2.1, u13.2.2.1, u13.2.2.2.1, u13.2.2.2.2.1, u13.2.2.2.2.2.1, u13.2.2.2.2.2.2.1, u13.2.2.2.2.2.2.2.1, u13.2.2.2.2.2.2.2.2.1, u13.2.2.2.2.2.2.2.2.2, ut) d_PL_pack_28 rfl (by refine ⟨hw13.1, ?_⟩; rw [← hw13.2]; rw [if_pos h19])
  · -- on
    refine wk_aload_n (pc := 22) S_ 1 d_PL_pack_22 rfl rfl ?_
    refine wk_iconst (pc := 23) (v := (nI (1))) S_ d_PL_pack_23 (by decide) ?_
    refine wk_put (pc := 24) (ty := .boolean) (ws' := (wPL o cI (t 0) (s 0) (k 0) (a 0) (w 0) (q 0) true ++ (wPk k cI (b 0) u13.1 u13.2.1 u13.2.2.1 u13.2.2.2.1 u13.2.2.2.2.1 u13.2.2.2.2.2.1 u13.2.2.2.2.2.2.1 u13.2.2.2.2.2.2.2.1 u13.2.2.2.2.2.2.2.2.2 ++ (wBx b cI u13.2.2.2.2.2.2.2.2.1 ++ (wSt s cI cl gr sp rs aw nb na bg bb ab nx ++ (wRl w cI ap pt rk cd mc mg mz nc nt oc fr)))))) S_ 0 6 0 in_PL t_PL t_PL_ok n_PL rfl (by decide) rfl fl_PL_47 (by decide +kernel) d_PL_pack_24 rfl rfl rfl (Nat.le_of_ble_eq_true rfl) rfl ?_
    refine wk_iload_n (pc := 27) S_ 0 d_PL_pack_27 rfl rfl ?_
    exact hQ_ (r13) (u13.1, u13.2.1, u13.2.2.1, u13.2.2.2.1, u13.2.2.2.2.1, u13.2.2.2.2.2.1, u13.2.2.2.2.2.2.1, u13.2.2.2.2.2.2.2.1, u13.2.2.2.2.2.2.2.2.1, u13.2.2.2.2.2.2.2.2.2, true) d_PL_pack_28 rfl (by refine ⟨hw13.1, ?_⟩; rw [← hw13.2]; rw [if_neg h19])
set_option maxHeartbeats 4000000 in
set_option maxRecDepth 100000 in
theorem c_PL_kept (l : Launch) (D : va_G) (cI : CiT) (z : GzT) (o : Nat → Nat) (k : Nat → Nat) (b : Nat → Nat) (s : Nat → Nat) (w : Nat → Nat) (t : Nat → Nat) (a : Nat → Nat) (q : Nat → Nat) (ut : Bool) (gi : (Nat → Nat)) (bi : (Nat → Nat)) (ki : (Nat → Nat)) (qu : (Nat → Nat)) (wt : Nat) (tr : (Nat → Nat)) (be : (Nat → Nat)) (fw : Nat) (fd : Bool) (bx : (Nat → Nat)) (cl : (Nat → Nat)) (gr : (Nat → Nat)) (sp : (Nat → Nat)) (rs : (Nat → Nat)) (aw : (Nat → Nat)) (nb : Nat) (na : Nat) (bg : (Nat → Nat)) (bb : (Nat → Nat)) (ab : (Nat → Nat)) (nx : Nat) (ap : (Nat → Nat)) (pt : (Nat → Nat)) (rk : (Nat → Nat)) (cd : (Nat → Nat)) (mc : (Nat → Nat)) (mg : (Nat → Nat)) (mz : (Nat → Nat)) (nc : (Nat → Nat)) (nt : (Nat → Nat)) (oc : (Nat → Nat)) (fr : Nat) (hnb : nb ≤ 8) (hbx : ∀ b, bx b ≤ 5) (hrs : ∀ b, rs b ≤ 9) (hcl : ∀ b, cl b ≤ 9) (hgr : ∀ b, gr b ≤ 100000) (hab : ∀ x, ab x ≤ 1000000) (hbb : ∀ x, bb x ≤ 8) (hbg : ∀ x, bg x ≤ 1000000) : wk_C l D (tyK cI) (gX z) y_PL_kept b_PL_kept 1 (some .boolean) 3 67 0 0 [.ref (o 0)] (wPL o cI (t 0) (s 0) (k 0) (a 0) (w 0) (q 0) ut ++ (wPk k cI (b 0) gi bi ki qu wt tr be fw fd ++ (wBx b cI bx ++ (wSt s cI cl gr sp rs aw nb na bg bb ab nx ++ (wRl w cI ap pt rk cd mc mg mz nc nt oc fr))))) wk_i (fun (r : Int32) (u : (Nat → Nat) × (Nat → Nat) × (Nat → Nat) × (Nat → Nat)) => r = bI (fd && stS ap cl gr bg bb ab rs bx nb 0 (fun _ => 0) (fun _ => 0) (fun _ => 0))) (fun u => (wPL o cI (t 0) (s 0) (k 0) (a 0) (w 0) (q 0) ut ++ (wPk k cI (b 0) u.1 u.2.1 u.2.2.1 qu wt u.2.2.2 be fw fd ++ (wBx b cI bx ++ (wSt s cI cl gr sp rs aw nb na bg bb ab nx ++ (wRl w cI ap pt rk cd mc mg mz nc nt oc fr)))))) := by
  refine wk_methZ (own := R_PL) [(0, .ref (o 0))] (by decide) rfl (Nat.le_of_ble_eq_true rfl) rfl (gX_ok z) (fun p_ e_ R_ s_ m_ ar_ be_ me_ co_ Q_ A_ hR_ S_ hnm_ hQ_ => ?_)
  refine wk_aload_n (pc := 0) S_ 0 d_PL_kept_0 rfl rfl ?_
  refine wk_get (pc := 1) (v := .ref (k 0)) S_ 0 2 0 in_PL rfl (by decide) rfl fl_PL_26 d_PL_kept_1 rfl rfl ?_
  refine wk_aload_n (pc := 4) S_ 0 d_PL_kept_4 rfl rfl ?_
  refine wk_get (pc := 5) (v := .ref (s 0)) S_ 0 1 0 in_PL rfl (by decide) rfl fl_PL_19 d_PL_kept_5 rfl rfl ?_
  refine wk_aload_n (pc := 8) S_ 0 d_PL_kept_8 rfl rfl ?_
  refine wk_get (pc := 9) (v := .ref (w 0)) S_ 0 4 0 in_PL rfl (by decide) rfl fl_PL_40 d_PL_kept_9 rfl rfl ?_
  refine wk_run (pc := 12) (rest := []) (wr := (wPL o cI (t 0) (s 0) (k 0) (a 0) (w 0) (q 0) ut)) (wN := fun u12 => (wPL o cI (t 0) (s 0) (k 0) (a 0) (w 0) (q 0) ut ++ (wPk k cI (b 0) u12.1 u12.2.1 u12.2.2.1 qu wt u12.2.2.2 be fw fd ++ (wBx b cI bx ++ (wSt s cI cl gr sp rs aw nb na bg bb ab nx ++ (wRl w cI ap pt rk cd mc mg mz nc nt oc fr)))))) S_ (wk_rV S_ (c_Pk_stillHolds l D cI z (k) (b) (s) (w) (gi) (bi) (ki) (qu) (wt) (tr) (be) (fw) (fd) (bx) (cl) (gr) (sp) (rs) (aw) (nb) (na) (bg) (bb) (ab) (nx) (ap) (pt) (rk) (cd) (mc) (mg) (mz) (nc) (nt) (oc) (fr) (by omega) hbx hrs hcl hgr hab hbb hbg) mv_PL_107 (wk_rcv S_ 0 3 rfl rfl rfl) rfl rfl (Nat.le_of_ble_eq_true rfl) (by rw [hR_]; decide) (by rw [hR_]; decide) d_PL_kept_12) [1, 2, 3, 4, 5, 6, 7, 8, 9, 10, 11, 12, 13, 14, 15, 16, 17, 18, 19, 20, 21, 22, 23, 24, 25, 26, 27, 28] [0] [0, 1, 2, 3, 4, 5, 6, 7, 8, 9, 10, 11, 12, 13, 14, 15, 16, 17, 18, 19, 20, 21, 22, 23, 24, 25, 26, 27, 28] rfl rfl rfl (by decide) (by decide) (by decide) (by decide) (fun _ => rfl) (fun _ => rfl) (fun r12 u12 hw12 => ?_)
  refine wk_st (st' := [.int (r12)]) rfl ?_
  exact hQ_ (r12) (u12.1, u12.2.1, u12.2.2.1, u12.2.2.2) d_PL_kept_15 (by rw [hw12]; exact bI_z _) rfl hw12
