theorem neg_lt {n : Nat} (h : n < 2 ^ 30) : (-1 : Int32) - nI n < 0 := by
  rw [Int32.lt_iff_toInt_lt]
  have e : ((-1 : Int32) - nI n).toInt = -1 - (n : Int) := by
    rw [Int32.toInt_sub, nI_toInt (by omega)]
    simp only [Int.bmod]
    have : (-1 : Int32).toInt = -1 := rfl
    rw [this]
    omega
  rw [e]
  simp
  omega
theorem fl_PL_44 : Cond.fieldLink R_PL 44 R_PL "draft" "LPackLists$Rules;" ∈ lw_gd := (gd _ (tb0 _ (List.mem_of_getElem? (i := 230) rfl)) rfl)
theorem mv_PL_55 : wk_V R_PL 55 R_Rl y_Rl_forget b_Rl_forget 1 none 0 := ⟨(gd _ (tb1 _ (List.mem_of_getElem? (i := 22) rfl)) rfl), (gd _ (tb0 _ (List.mem_of_getElem? (i := 7) rfl)) rfl), (gd _ (tb1 _ (List.mem_of_getElem? (i := 19) rfl)) rfl), (by decide +kernel), (gd _ (tb1 _ (List.mem_of_getElem? (i := 20) rfl)) rfl), (gd _ (tb1 _ (List.mem_of_getElem? (i := 21) rfl)) rfl)⟩
theorem mv_PL_58 : wk_V R_PL 58 R_Tx y_Tx_read b_Tx_read 6 (some .int) 1 := ⟨(gd _ (tb1 _ (List.mem_of_getElem? (i := 26) rfl)) rfl), (gd _ (tb0 _ (List.mem_of_getElem? (i := 2) rfl)) rfl), (gd _ (tb1 _ (List.mem_of_getElem? (i := 23) rfl)) rfl), (by decide +kernel), (gd _ (tb1 _ (List.mem_of_getElem? (i := 24) rfl)) rfl), (gd _ (tb1 _ (List.mem_of_getElem? (i := 25) rfl)) rfl)⟩
theorem mv_PL_62 : wk_V R_PL 62 R_Tx y_Tx_clear b_Tx_clear 1 none 0 := ⟨(gd _ (tb1 _ (List.mem_of_getElem? (i := 163) rfl)) rfl), (gd _ (tb0 _ (List.mem_of_getElem? (i := 2) rfl)) rfl), (gd _ (tb1 _ (List.mem_of_getElem? (i := 160) rfl)) rfl), (by decide +kernel), (gd _ (tb1 _ (List.mem_of_getElem? (i := 161) rfl)) rfl), (gd _ (tb1 _ (List.mem_of_getElem? (i := 162) rfl)) rfl)⟩
theorem d_PL_rules_0 : decode b_PL_rules 0 = .ok (.aload_n 0, 1) := by decide +kernel
theorem d_PL_rules_1 : decode b_PL_rules 1 = .ok (.iconst 0, 1) := by decide +kernel
theorem d_PL_rules_2 : decode b_PL_rules 2 = .ok (.putfield 47, 3) := by decide +kernel
theorem d_PL_rules_5 : decode b_PL_rules 5 = .ok (.aload_n 0, 1) := by decide +kernel
theorem d_PL_rules_6 : decode b_PL_rules 6 = .ok (.getfield 44, 3) := by decide +kernel
theorem d_PL_rules_9 : decode b_PL_rules 9 = .ok (.invokevirtual 55, 3) := by decide +kernel
theorem d_PL_rules_12 : decode b_PL_rules 12 = .ok (.aload_n 0, 1) := by decide +kernel
theorem d_PL_rules_13 : decode b_PL_rules 13 = .ok (.getfield 12, 3) := by decide +kernel
theorem d_PL_rules_16 : decode b_PL_rules 16 = .ok (.aload_n 0, 1) := by decide +kernel
theorem d_PL_rules_17 : decode b_PL_rules 17 = .ok (.getfield 44, 3) := by decide +kernel
theorem d_PL_rules_20 : decode b_PL_rules 20 = .ok (.invokevirtual 58, 3) := by decide +kernel
theorem d_PL_rules_23 : decode b_PL_rules 23 = .ok (.istore_n 1, 1) := by decide +kernel
theorem d_PL_rules_24 : decode b_PL_rules 24 = .ok (.aload_n 0, 1) := by decide +kernel
theorem d_PL_rules_25 : decode b_PL_rules 25 = .ok (.getfield 12, 3) := by decide +kernel
theorem d_PL_rules_28 : decode b_PL_rules 28 = .ok (.invokevirtual 62, 3) := by decide +kernel
theorem d_PL_rules_31 : decode b_PL_rules 31 = .ok (.iload_n 1, 1) := by decide +kernel
theorem d_PL_rules_32 : decode b_PL_rules 32 = .ok (.ifCond .lt 21, 3) := by decide +kernel
theorem d_PL_rules_35 : decode b_PL_rules 35 = .ok (.aload_n 0, 1) := by decide +kernel
theorem d_PL_rules_36 : decode b_PL_rules 36 = .ok (.getfield 40, 3) := by decide +kernel
theorem d_PL_rules_39 : decode b_PL_rules 39 = .ok (.astore_n 2, 1) := by decide +kernel
theorem d_PL_rules_40 : decode b_PL_rules 40 = .ok (.aload_n 0, 1) := by decide +kernel
theorem d_PL_rules_41 : decode b_PL_rules 41 = .ok (.aload_n 0, 1) := by decide +kernel
theorem d_PL_rules_42 : decode b_PL_rules 42 = .ok (.getfield 44, 3) := by decide +kernel
theorem d_PL_rules_45 : decode b_PL_rules 45 = .ok (.putfield 40, 3) := by decide +kernel
theorem d_PL_rules_48 : decode b_PL_rules 48 = .ok (.aload_n 0, 1) := by decide +kernel
theorem d_PL_rules_49 : decode b_PL_rules 49 = .ok (.aload_n 2, 1) := by decide +kernel
theorem d_PL_rules_50 : decode b_PL_rules 50 = .ok (.putfield 44, 3) := by decide +kernel
theorem d_PL_rules_53 : decode b_PL_rules 53 = .ok (.iload_n 1, 1) := by decide +kernel
theorem d_PL_rules_54 : decode b_PL_rules 54 = .ok (.ireturn, 1) := by decide +kernel
set_option maxHeartbeats 4000000 in
set_option maxRecDepth 100000 in
theorem c_PL_rules (l : Launch) (D : va_G) (cI : CiT) (z : GzT) (o : Nat → Nat) (t : Nat → Nat) (w : Nat → Nat) (q : Nat → Nat) (s : Nat → Nat) (k : Nat → Nat) (a : Nat → Nat) (ut : Bool) (ty : (Nat → Nat)) (nu : (Nat → Nat)) (ln : Nat) (gt : Nat) (ok : Nat) (sn : Nat) (w_ap : (Nat → Nat)) (w_pt : (Nat → Nat)) (w_rk : (Nat → Nat)) (w_cd : (Nat → Nat)) (w_mc : (Nat → Nat)) (w_mg : (Nat → Nat)) (w_mz : (Nat → Nat)) (w_nc : (Nat → Nat)) (w_nt : (Nat → Nat)) (w_oc : (Nat → Nat)) (w_fr : Nat) (q_ap : (Nat → Nat)) (q_pt : (Nat → Nat)) (q_rk : (Nat → Nat)) (q_cd : (Nat → Nat)) (q_mc : (Nat → Nat)) (q_mg : (Nat → Nat)) (q_mz : (Nat → Nat)) (q_nc : (Nat → Nat)) (q_nt : (Nat → Nat)) (q_oc : (Nat → Nat)) (q_fr : Nat) (hln : ln ≤ 1500) (hty : ∀ i, ty i < 256) (hmg : ∀ c, q_mg c ≤ 999999) (hok : ok = 0) (hsn : sn = 0) : wk_C l D (tyK cI) (gX z) y_PL_rules b_PL_rules 3 (some .int) 8 180 0 0 [.ref (o 0)] (wPL o cI (t 0) (s 0) (k 0) (a 0) (w 0) (q 0) ut ++ (wTx t cI (zA z) ty nu ln gt ok sn ++ (wRl w cI w_ap w_pt w_rk w_cd w_mc w_mg w_mz w_nc w_nt w_oc w_fr ++ (wRl q cI q_ap q_pt q_rk q_cd q_mc q_mg q_mz q_nc q_nt q_oc q_fr)))) wk_i (fun (r : Int32) (u : Bool × (Nat → Nat) × (Nat → Nat) × (Nat → Nat) × (Nat → Nat) × (Nat → Nat) × Nat × (Nat → Nat) × (Nat → Nat) × (Nat → Nat) × (Nat → Nat) × (Nat → Nat) × (Nat → Nat)) => (((rdC ty ln (ln + 1) 0 0 0 (ok, gt, sn, nu, (fun _ => 0, fun _ => 0, fun _ => 0, fun _ => 0, 0, fun _ => 0, q_mg, q_mz, fun _ => 0, q_nt, fun _ => 0))).1 = true ∧ r = nI (rdC ty ln (ln + 1) 0 0 0 (ok, gt, sn, nu, (fun _ => 0, fun _ => 0, fun _ => 0, fun _ => 0, 0, fun _ => 0, q_mg, q_mz, fun _ => 0, q_nt, fun _ => 0))).2.1) ∨ ((rdC ty ln (ln + 1) 0 0 0 (ok, gt, sn, nu, (fun _ => 0, fun _ => 0, fun _ => 0, fun _ => 0, 0, fun _ => 0, q_mg, q_mz, fun _ => 0, q_nt, fun _ => 0))).1 = false ∧ r = -1 - nI (rdC ty ln (ln + 1) 0 0 0 (ok, gt, sn, nu, (fun _ => 0, fun _ => 0, fun _ => 0, fun _ => 0, 0, fun _ => 0, q_mg, q_mz, fun _ => 0, q_nt, fun _ => 0))).2.1)) ∧ (rdC ty ln (ln + 1) 0 0 0 (ok, gt, sn, nu, (fun _ => 0, fun _ => 0, fun _ => 0, fun _ => 0, 0, fun _ => 0, q_mg, q_mz, fun _ => 0, q_nt, fun _ => 0))).2.1 ≤ 1501 ∧ u.1 = (rdC ty ln (ln + 1) 0 0 0 (ok, gt, sn, nu, (fun _ => 0, fun _ => 0, fun _ => 0, fun _ => 0, 0, fun _ => 0, q_mg, q_mz, fun _ => 0, q_nt, fun _ => 0))).1 ∧ u.2.2 = (rdC ty ln (ln + 1) 0 0 0 (ok, gt, sn, nu, (fun _ => 0, fun _ => 0, fun _ => 0, fun _ => 0, 0, fun _ => 0, q_mg, q_mz, fun _ => 0, q_nt, fun _ => 0))).2.2.2.2.2.2 ∧ ctOk (rdC ty ln (ln + 1) 0 0 0 (ok, gt, sn, nu, (fun _ => 0, fun _ => 0, fun _ => 0, fun _ => 0, 0, fun _ => 0, q_mg, q_mz, fun _ => 0, q_nt, fun _ => 0))).2.2.2.2.2.2) (fun u => (wPL o cI (t 0) (s 0) (k 0) (a 0) ((if u.1 = true then q 0 else w 0)) ((if u.1 = true then w 0 else q 0)) false ++ (wTx t cI (zA z) ty u.2.1 0 0 0 0 ++ (wRl w cI w_ap w_pt w_rk w_cd w_mc w_mg w_mz w_nc w_nt w_oc w_fr ++ (wRl q cI u.2.2.1 u.2.2.2.1 u.2.2.2.2.1 u.2.2.2.2.2.1 u.2.2.2.2.2.2.2.1 u.2.2.2.2.2.2.2.2.1 u.2.2.2.2.2.2.2.2.2.1 u.2.2.2.2.2.2.2.2.2.2.1 u.2.2.2.2.2.2.2.2.2.2.2.1 u.2.2.2.2.2.2.2.2.2.2.2.2 u.2.2.2.2.2.2.1))))) := by
  refine wk_methI (own := R_PL) [(0, .ref (o 0))] (by decide) rfl (Nat.le_of_ble_eq_true rfl) rfl (gX_ok z) (fun p_ e_ R_ s_ m_ ar_ be_ me_ co_ Q_ A_ hR_ S_ hnm_ hQ_ => ?_)
  refine wk_aload_n (pc := 0) S_ 0 d_PL_rules_0 rfl rfl ?_
  refine wk_iconst (pc := 1) (v := (nI (0))) S_ d_PL_rules_1 (by decide) ?_
  refine wk_put (pc := 2) (ty := .boolean) (ws' := (wPL o cI (t 0) (s 0) (k 0) (a 0) (w 0) (q 0) false ++ (wTx t cI (zA z) ty nu ln gt ok sn ++ (wRl w cI w_ap w_pt w_rk w_cd w_mc w_mg w_mz w_nc w_nt w_oc w_fr ++ (wRl q cI q_ap q_pt q_rk q_cd q_mc q_mg q_mz q_nc q_nt q_oc q_fr))))) S_ 0 6 0 in_PL t_PL t_PL_ok n_PL rfl (by decide) rfl fl_PL_47 (by decide +kernel) d_PL_rules_2 rfl rfl rfl (Nat.le_of_ble_eq_true rfl) rfl ?_
  refine wk_aload_n (pc := 5) S_ 0 d_PL_rules_5 rfl rfl ?_
  refine wk_get (pc := 6) (v := .ref (q 0)) S_ 0 5 0 in_PL rfl (by decide) rfl fl_PL_44 d_PL_rules_6 rfl rfl ?_
  refine wk_run (pc := 9) (rest := []) (wr := (wPL o cI (t 0) (s 0) (k 0) (a 0) (w 0) (q 0) false ++ (wTx t cI (zA z) ty nu ln gt ok sn ++ (wRl w cI w_ap w_pt w_rk w_cd w_mc w_mg w_mz w_nc w_nt w_oc w_fr)))) (wN := fun _ => (wPL o cI (t 0) (s 0) (k 0) (a 0) (w 0) (q 0) false ++ (wTx t cI (zA z) ty nu ln gt ok sn ++ (wRl w cI w_ap w_pt w_rk w_cd w_mc w_mg w_mz w_nc w_nt w_oc w_fr ++ (wRl q cI (fun _ => 0) (fun _ => 0) (fun _ => 0) (fun _ => 0) (fun _ => 0) q_mg q_mz (fun _ => 0) q_nt (fun _ => 0) 0))))) S_ (wk_rV S_ (c_Rl_forget l D cI z (q) (q_ap) (q_pt) (q_rk) (q_cd) (q_mc) (q_mg) (q_mz) (q_nc) (q_nt) (q_oc) (q_fr)) mv_PL_55 (wk_rcv S_ 0 5 rfl rfl rfl) rfl rfl (Nat.le_of_ble_eq_true rfl) (by rw [hR_]; decide) (by rw [hR_]; decide) d_PL_rules_9) [15, 16, 17, 18, 19, 20, 21, 22, 23, 24, 25] [0, 1, 2, 3, 4, 5, 6, 7, 8, 9, 10, 11, 12, 13, 14] [0, 1, 2, 3, 4, 5, 6, 7, 8, 9, 10, 11, 12, 13, 14, 15, 16, 17, 18, 19, 20, 21, 22, 23, 24, 25] rfl rfl rfl (by decide) (by decide) (by decide) (by decide) (fun _ => rfl) (fun _ => rfl) (fun r9 _ hw9 => ?_)
  refine wk_st (st' := []) rfl ?_
  refine wk_aload_n (pc := 12) S_ 0 d_PL_rules_12 rfl rfl ?_
  refine wk_get (pc := 13) (v := .ref (t 0)) S_ 0 0 0 in_PL rfl (by decide) rfl fl_PL_12 d_PL_rules_13 rfl rfl ?_
  refine wk_aload_n (pc := 16) S_ 0 d_PL_rules_16 rfl rfl ?_
  refine wk_get (pc := 17) (v := .ref (q 0)) S_ 0 5 0 in_PL rfl (by decide) rfl fl_PL_44 d_PL_rules_17 rfl rfl ?_
  refine wk_run (pc := 20) (rest := []) (wr := (wPL o cI (t 0) (s 0) (k 0) (a 0) (w 0) (q 0) false ++ (wRl w cI w_ap w_pt w_rk w_cd w_mc w_mg w_mz w_nc w_nt w_oc w_fr))) (wN := fun u20 => (wPL o cI (t 0) (s 0) (k 0) (a 0) (w 0) (q 0) false ++ (wTx t cI (zA z) ty u20.2.2.2.1 ln u20.2.1 u20.1 u20.2.2.1 ++ (wRl w cI w_ap w_pt w_rk w_cd w_mc w_mg w_mz w_nc w_nt w_oc w_fr ++ (wRl q cI u20.2.2.2.2.1 u20.2.2.2.2.2.1 u20.2.2.2.2.2.2.1 u20.2.2.2.2.2.2.2.1 u20.2.2.2.2.2.2.2.2.2.1 u20.2.2.2.2.2.2.2.2.2.2.1 u20.2.2.2.2.2.2.2.2.2.2.2.1 u20.2.2.2.2.2.2.2.2.2.2.2.2.1 u20.2.2.2.2.2.2.2.2.2.2.2.2.2.1 u20.2.2.2.2.2.2.2.2.2.2.2.2.2.2 u20.2.2.2.2.2.2.2.2.1))))) S_ (wk_rV S_ (c_Tx_read l D cI z (t) (q) (ty) (nu) (ln) (gt) (ok) (sn) (fun _ => 0) (fun _ => 0) (fun _ => 0) (fun _ => 0) (fun _ => 0) (q_mg) (q_mz) (fun _ => 0) (q_nt) (fun _ => 0) (0) (by omega) hty (fun _ => Nat.zero_le _) hmg (fun _ => Nat.zero_le _) hok hsn) mv_PL_58 (wk_rcv S_ 0 1 rfl rfl rfl) rfl rfl (Nat.le_of_ble_eq_true rfl) (by rw [hR_]; decide) (by rw [hR_]; decide) d_PL_rules_20) [1, 2, 3, 15, 16, 17, 18, 19, 20, 21, 22, 23, 24, 25] [0, 4, 5, 6, 7, 8, 9, 10, 11, 12, 13, 14] [0, 12, 13, 14, 1, 2, 3, 4, 5, 6, 7, 8, 9, 10, 11, 15, 16, 17, 18, 19, 20, 21, 22, 23, 24, 25] rfl rfl rfl (by decide) (by decide) (by decide) (by decide) (fun _ => rfl) (fun _ => rfl) (fun r20 u20 hw20 => ?_)
  refine wk_st (st' := [.int (r20)]) rfl ?_
  have hn1 := hw20.2.1
  refine wk_istore_n (pc := 23) (lv' := [(1, .int (r20)), (0, .ref (o 0))]) S_ d_PL_rules_23 rfl (by decide) rfl ?_
  refine wk_aload_n (pc := 24) S_ 1 d_PL_rules_24 rfl rfl ?_
  refine wk_get (pc := 25) (v := .ref (t 0)) S_ 0 0 0 in_PL rfl (by decide) rfl fl_PL_12 d_PL_rules_25 rfl rfl ?_
  refine wk_run (pc := 28) (rest := []) (wr := (wPL o cI (t 0) (s 0) (k 0) (a 0) (w 0) (q 0) false ++ (wRl w cI w_ap w_pt w_rk w_cd w_mc w_mg w_mz w_nc w_nt w_oc w_fr ++ (wRl q cI u20.2.2.2.2.1 u20.2.2.2.2.2.1 u20.2.2.2.2.2.2.1 u20.2.2.2.2.2.2.2.1 u20.2.2.2.2.2.2.2.2.2.1 u20.2.2.2.2.2.2.2.2.2.2.1 u20.2.2.2.2.2.2.2.2.2.2.2.1 u20.2.2.2.2.2.2.2.2.2.2.2.2.1 u20.2.2.2.2.2.2.2.2.2.2.2.2.2.1 u20.2.2.2.2.2.2.2.2.2.2.2.2.2.2 u20.2.2.2.2.2.2.2.2.1)))) (wN := fun _ => (wPL o cI (t 0) (s 0) (k 0) (a 0) (w 0) (q 0) false ++ (wTx t cI (zA z) ty u20.2.2.2.1 0 0 0 0 ++ (wRl w cI w_ap w_pt w_rk w_cd w_mc w_mg w_mz w_nc w_nt w_oc w_fr ++ (wRl q cI u20.2.2.2.2.1 u20.2.2.2.2.2.1 u20.2.2.2.2.2.2.1 u20.2.2.2.2.2.2.2.1 u20.2.2.2.2.2.2.2.2.2.1 u20.2.2.2.2.2.2.2.2.2.2.1 u20.2.2.2.2.2.2.2.2.2.2.2.1 u20.2.2.2.2.2.2.2.2.2.2.2.2.1 u20.2.2.2.2.2.2.2.2.2.2.2.2.2.1 u20.2.2.2.2.2.2.2.2.2.2.2.2.2.2 u20.2.2.2.2.2.2.2.2.1))))) S_ (wk_rV S_ (c_Tx_clear l D cI z (t) (ty) (u20.2.2.2.1) (ln) (u20.2.1) (u20.1) (u20.2.2.1)) mv_PL_62 (wk_rcv S_ 0 1 rfl rfl rfl) rfl rfl (Nat.le_of_ble_eq_true rfl) (by rw [hR_]; decide) (by rw [hR_]; decide) d_PL_rules_28) [1, 2, 3] [0, 4, 5, 6, 7, 8, 9, 10, 11, 12, 13, 14, 15, 16, 17, 18, 19, 20, 21, 22, 23, 24, 25] [0, 23, 24, 25, 1, 2, 3, 4, 5, 6, 7, 8, 9, 10, 11, 12, 13, 14, 15, 16, 17, 18, 19, 20, 21, 22] rfl rfl rfl (by decide) (by decide) (by decide) (by decide) (fun _ => rfl) (fun _ => rfl) (fun r28 _ hw28 => ?_)
  refine wk_st (st' := []) rfl ?_
  refine wk_iload_n (pc := 31) S_ 0 d_PL_rules_31 rfl rfl ?_
  refine wk_if_lt (pc := 32) (tgt := 53) S_ d_PL_rules_32 (by decide) (fun h32 => ?_) (fun h32 => ?_)
  · -- taken
    refine wk_iload_n (pc := 53) S_ 0 d_PL_rules_53 rfl rfl ?_
    exact hQ_ (r20) (false, u20.2.2.2.1, u20.2.2.2.2.1, u20.2.2.2.2.2.1, u20.2.2.2.2.2.2.1, u20.2.2.2.2.2.2.2.1, u20.2.2.2.2.2.2.2.2.1, u20.2.2.2.2.2.2.2.2.2.1, u20.2.2.2.2.2.2.2.2.2.2.1, u20.2.2.2.2.2.2.2.2.2.2.2.1, u20.2.2.2.2.2.2.2.2.2.2.2.2.1, u20.2.2.2.2.2.2.2.2.2.2.2.2.2.1, u20.2.2.2.2.2.2.2.2.2.2.2.2.2.2) d_PL_rules_54 rfl ⟨hw20.1, hw20.2.1, (by rcases hw20.1 with y | y; rw [y.2] at h32; exact absurd h32 (nI_pos (by omega)); exact y.1.symm), by rw [hw20.2.2.1], hw20.2.2.2⟩
  · -- on
    refine wk_aload_n (pc := 35) S_ 1 d_PL_rules_35 rfl rfl ?_
    refine wk_get (pc := 36) (v := .ref (w 0)) S_ 0 4 0 in_PL rfl (by decide) rfl fl_PL_40 d_PL_rules_36 rfl rfl ?_
    refine wk_astore_n (pc := 39) (lv' := [(2, .ref (w 0)), (1, .int (r20)), (0, .ref (o 0))]) S_ d_PL_rules_39 rfl (by decide) rfl ?_
    refine wk_aload_n (pc := 40) S_ 2 d_PL_rules_40 rfl rfl ?_
    refine wk_aload_n (pc := 41) S_ 2 d_PL_rules_41 rfl rfl ?_
    refine wk_get (pc := 42) (v := .ref (q 0)) S_ 0 5 0 in_PL rfl (by decide) rfl fl_PL_44 d_PL_rules_42 rfl rfl ?_
    refine wk_put (pc := 45) (ty := .object "PackLists$Rules") (ws' := (wPL o cI (t 0) (s 0) (k 0) (a 0) (q 0) (q 0) false ++ (wTx t cI (zA z) ty u20.2.2.2.1 0 0 0 0 ++ (wRl w cI w_ap w_pt w_rk w_cd w_mc w_mg w_mz w_nc w_nt w_oc w_fr ++ (wRl q cI u20.2.2.2.2.1 u20.2.2.2.2.2.1 u20.2.2.2.2.2.2.1 u20.2.2.2.2.2.2.2.1 u20.2.2.2.2.2.2.2.2.2.1 u20.2.2.2.2.2.2.2.2.2.2.1 u20.2.2.2.2.2.2.2.2.2.2.2.1 u20.2.2.2.2.2.2.2.2.2.2.2.2.1 u20.2.2.2.2.2.2.2.2.2.2.2.2.2.1 u20.2.2.2.2.2.2.2.2.2.2.2.2.2.2 u20.2.2.2.2.2.2.2.2.1))))) S_ 0 4 0 in_PL t_PL t_PL_ok n_PL rfl (by decide) rfl fl_PL_40 (by decide +kernel) d_PL_rules_45 rfl rfl rfl (Nat.le_of_ble_eq_true rfl) rfl ?_
    refine wk_aload_n (pc := 48) S_ 2 d_PL_rules_48 rfl rfl ?_
    refine wk_aload_n (pc := 49) S_ 0 d_PL_rules_49 rfl rfl ?_
    refine wk_put (pc := 50) (ty := .object "PackLists$Rules") (ws' := (wPL o cI (t 0) (s 0) (k 0) (a 0) (q 0) (w 0) false ++ (wTx t cI (zA z) ty u20.2.2.2.1 0 0 0 0 ++ (wRl w cI w_ap w_pt w_rk w_cd w_mc w_mg w_mz w_nc w_nt w_oc w_fr ++ (wRl q cI u20.2.2.2.2.1 u20.2.2.2.2.2.1 u20.2.2.2.2.2.2.1 u20.2.2.2.2.2.2.2.1 u20.2.2.2.2.2.2.2.2.2.1 u20.2.2.2.2.2.2.2.2.2.2.1 u20.2.2.2.2.2.2.2.2.2.2.2.1 u20.2.2.2.2.2.2.2.2.2.2.2.2.1 u20.2.2.2.2.2.2.2.2.2.2.2.2.2.1 u20.2.2.2.2.2.2.2.2.2.2.2.2.2.2 u20.2.2.2.2.2.2.2.2.1))))) S_ 0 5 0 in_PL t_PL t_PL_ok n_PL rfl (by decide) rfl fl_PL_44 (by decide +kernel) d_PL_rules_50 rfl rfl rfl (Nat.le_of_ble_eq_true rfl) rfl ?_
    refine wk_iload_n (pc := 53) S_ 1 d_PL_rules_53 rfl rfl ?_
    exact hQ_ (r20) (true, u20.2.2.2.1, u20.2.2.2.2.1, u20.2.2.2.2.2.1, u20.2.2.2.2.2.2.1, u20.2.2.2.2.2.2.2.1, u20.2.2.2.2.2.2.2.2.1, u20.2.2.2.2.2.2.2.2.2.1, u20.2.2.2.2.2.2.2.2.2.2.1, u20.2.2.2.2.2.2.2.2.2.2.2.1, u20.2.2.2.2.2.2.2.2.2.2.2.2.1, u20.2.2.2.2.2.2.2.2.2.2.2.2.2.1, u20.2.2.2.2.2.2.2.2.2.2.2.2.2.2) d_PL_rules_54 rfl ⟨hw20.1, hw20.2.1, (by rcases hw20.1 with y | y; exact y.1.symm; rw [y.2] at h32; exact absurd (neg_lt (by omega)) h32), by rw [hw20.2.2.1], hw20.2.2.2⟩
