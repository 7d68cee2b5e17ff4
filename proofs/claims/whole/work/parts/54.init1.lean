theorem zn_1 : nI 0 = zI 1 := by decide
theorem ln_1 : nI 0 = lI 1 := by decide
theorem ml_Tx_3 : Cond.methodLink R_Tx 3 Lib.objectInit ∈ lw_gd := (gd _ (tb0 _ (List.mem_of_getElem? (i := 31) rfl)) rfl)
theorem d_Tx_init_0 : decode b_Tx_init 0 = .ok (.aload_n 0, 1) := by decide +kernel
theorem d_Tx_init_1 : decode b_Tx_init 1 = .ok (.invokespecial 3, 3) := by decide +kernel
theorem d_Tx_init_4 : decode b_Tx_init 4 = .ok (.aload_n 0, 1) := by decide +kernel
theorem d_Tx_init_5 : decode b_Tx_init 5 = .ok (.sipush 1500, 3) := by decide +kernel
theorem d_Tx_init_8 : decode b_Tx_init 8 = .ok (.newarray .int, 2) := by decide +kernel
theorem d_Tx_init_10 : decode b_Tx_init 10 = .ok (.putfield 9, 3) := by decide +kernel
theorem d_Tx_init_13 : decode b_Tx_init 13 = .ok (.aload_n 0, 1) := by decide +kernel
theorem d_Tx_init_14 : decode b_Tx_init 14 = .ok (.iconst 3, 1) := by decide +kernel
theorem d_Tx_init_15 : decode b_Tx_init 15 = .ok (.newarray .int, 2) := by decide +kernel
theorem d_Tx_init_17 : decode b_Tx_init 17 = .ok (.putfield 15, 3) := by decide +kernel
theorem d_Tx_init_20 : decode b_Tx_init 20 = .ok (.return_, 1) := by decide +kernel
theorem ml_St_3 : Cond.methodLink R_St 3 Lib.objectInit ∈ lw_gd := (gd _ (tb0 _ (List.mem_of_getElem? (i := 57) rfl)) rfl)
theorem fl_St_33 : Cond.fieldLink R_St 33 R_St "absorbers" "[I" ∈ lw_gd := (gd _ (tb0 _ (List.mem_of_getElem? (i := 81) rfl)) rfl)
theorem d_St_init_0 : decode b_St_init 0 = .ok (.aload_n 0, 1) := by decide +kernel
theorem d_St_init_1 : decode b_St_init 1 = .ok (.invokespecial 3, 3) := by decide +kernel
theorem d_St_init_4 : decode b_St_init 4 = .ok (.aload_n 0, 1) := by decide +kernel
theorem d_St_init_5 : decode b_St_init 5 = .ok (.bipush 8, 2) := by decide +kernel
theorem d_St_init_7 : decode b_St_init 7 = .ok (.newarray .int, 2) := by decide +kernel
theorem d_St_init_9 : decode b_St_init 9 = .ok (.putfield 9, 3) := by decide +kernel
theorem d_St_init_12 : decode b_St_init 12 = .ok (.aload_n 0, 1) := by decide +kernel
theorem d_St_init_13 : decode b_St_init 13 = .ok (.bipush 8, 2) := by decide +kernel
theorem d_St_init_15 : decode b_St_init 15 = .ok (.newarray .int, 2) := by decide +kernel
theorem d_St_init_17 : decode b_St_init 17 = .ok (.putfield 15, 3) := by decide +kernel
theorem d_St_init_20 : decode b_St_init 20 = .ok (.aload_n 0, 1) := by decide +kernel
theorem d_St_init_21 : decode b_St_init 21 = .ok (.bipush 8, 2) := by decide +kernel
theorem d_St_init_23 : decode b_St_init 23 = .ok (.newarray .int, 2) := by decide +kernel
theorem d_St_init_25 : decode b_St_init 25 = .ok (.putfield 18, 3) := by decide +kernel
theorem d_St_init_28 : decode b_St_init 28 = .ok (.aload_n 0, 1) := by decide +kernel
theorem d_St_init_29 : decode b_St_init 29 = .ok (.bipush 8, 2) := by decide +kernel
theorem d_St_init_31 : decode b_St_init 31 = .ok (.newarray .int, 2) := by decide +kernel
theorem d_St_init_33 : decode b_St_init 33 = .ok (.putfield 21, 3) := by decide +kernel
theorem d_St_init_36 : decode b_St_init 36 = .ok (.aload_n 0, 1) := by decide +kernel
theorem d_St_init_37 : decode b_St_init 37 = .ok (.bipush 8, 2) := by decide +kernel
theorem d_St_init_39 : decode b_St_init 39 = .ok (.newarray .int, 2) := by decide +kernel
theorem d_St_init_41 : decode b_St_init 41 = .ok (.putfield 24, 3) := by decide +kernel
theorem d_St_init_44 : decode b_St_init 44 = .ok (.aload_n 0, 1) := by decide +kernel
theorem d_St_init_45 : decode b_St_init 45 = .ok (.iconst 5, 1) := by decide +kernel
theorem d_St_init_46 : decode b_St_init 46 = .ok (.newarray .int, 2) := by decide +kernel
theorem d_St_init_48 : decode b_St_init 48 = .ok (.putfield 27, 3) := by decide +kernel
theorem d_St_init_51 : decode b_St_init 51 = .ok (.aload_n 0, 1) := by decide +kernel
theorem d_St_init_52 : decode b_St_init 52 = .ok (.iconst 5, 1) := by decide +kernel
theorem d_St_init_53 : decode b_St_init 53 = .ok (.newarray .int, 2) := by decide +kernel
theorem d_St_init_55 : decode b_St_init 55 = .ok (.putfield 30, 3) := by decide +kernel
theorem d_St_init_58 : decode b_St_init 58 = .ok (.aload_n 0, 1) := by decide +kernel
theorem d_St_init_59 : decode b_St_init 59 = .ok (.iconst 5, 1) := by decide +kernel
theorem d_St_init_60 : decode b_St_init 60 = .ok (.newarray .int, 2) := by decide +kernel
theorem d_St_init_62 : decode b_St_init 62 = .ok (.putfield 33, 3) := by decide +kernel
theorem d_St_init_65 : decode b_St_init 65 = .ok (.return_, 1) := by decide +kernel
theorem ml_Pk_3 : Cond.methodLink R_Pk 3 Lib.objectInit ∈ lw_gd := (gd _ (tb0 _ (List.mem_of_getElem? (i := 115) rfl)) rfl)
theorem d_Pk_init_0 : decode b_Pk_init 0 = .ok (.aload_n 0, 1) := by decide +kernel
theorem d_Pk_init_1 : decode b_Pk_init 1 = .ok (.invokespecial 3, 3) := by decide +kernel
theorem d_Pk_init_4 : decode b_Pk_init 4 = .ok (.aload_n 0, 1) := by decide +kernel
theorem d_Pk_init_5 : decode b_Pk_init 5 = .ok (.iconst 5, 1) := by decide +kernel
theorem d_Pk_init_6 : decode b_Pk_init 6 = .ok (.newarray .int, 2) := by decide +kernel
theorem d_Pk_init_8 : decode b_Pk_init 8 = .ok (.putfield 9, 3) := by decide +kernel
theorem d_Pk_init_11 : decode b_Pk_init 11 = .ok (.aload_n 0, 1) := by decide +kernel
theorem d_Pk_init_12 : decode b_Pk_init 12 = .ok (.iconst 5, 1) := by decide +kernel
theorem d_Pk_init_13 : decode b_Pk_init 13 = .ok (.newarray .int, 2) := by decide +kernel
theorem d_Pk_init_15 : decode b_Pk_init 15 = .ok (.putfield 15, 3) := by decide +kernel
theorem d_Pk_init_18 : decode b_Pk_init 18 = .ok (.aload_n 0, 1) := by decide +kernel
theorem d_Pk_init_19 : decode b_Pk_init 19 = .ok (.iconst 5, 1) := by decide +kernel
theorem d_Pk_init_20 : decode b_Pk_init 20 = .ok (.newarray .int, 2) := by decide +kernel
theorem d_Pk_init_22 : decode b_Pk_init 22 = .ok (.putfield 18, 3) := by decide +kernel
theorem d_Pk_init_25 : decode b_Pk_init 25 = .ok (.aload_n 0, 1) := by decide +kernel
theorem d_Pk_init_26 : decode b_Pk_init 26 = .ok (.bipush 8, 2) := by decide +kernel
theorem d_Pk_init_28 : decode b_Pk_init 28 = .ok (.newarray .int, 2) := by decide +kernel
theorem d_Pk_init_30 : decode b_Pk_init 30 = .ok (.putfield 21, 3) := by decide +kernel
theorem d_Pk_init_33 : decode b_Pk_init 33 = .ok (.aload_n 0, 1) := by decide +kernel
theorem d_Pk_init_34 : decode b_Pk_init 34 = .ok (.bipush 8, 2) := by decide +kernel
theorem d_Pk_init_36 : decode b_Pk_init 36 = .ok (.newarray .int, 2) := by decide +kernel
theorem d_Pk_init_38 : decode b_Pk_init 38 = .ok (.putfield 24, 3) := by decide +kernel
theorem d_Pk_init_41 : decode b_Pk_init 41 = .ok (.aload_n 0, 1) := by decide +kernel
theorem d_Pk_init_42 : decode b_Pk_init 42 = .ok (.bipush 8, 2) := by decide +kernel
theorem d_Pk_init_44 : decode b_Pk_init 44 = .ok (.newarray .int, 2) := by decide +kernel
theorem d_Pk_init_46 : decode b_Pk_init 46 = .ok (.putfield 27, 3) := by decide +kernel
theorem d_Pk_init_49 : decode b_Pk_init 49 = .ok (.aload_n 0, 1) := by decide +kernel
theorem d_Pk_init_50 : decode b_Pk_init 50 = .ok (.bipush 8, 2) := by decide +kernel
theorem d_Pk_init_52 : decode b_Pk_init 52 = .ok (.newarray .int, 2) := by decide +kernel
theorem d_Pk_init_54 : decode b_Pk_init 54 = .ok (.putfield 30, 3) := by decide +kernel
theorem d_Pk_init_57 : decode b_Pk_init 57 = .ok (.aload_n 0, 1) := by decide +kernel
theorem d_Pk_init_58 : decode b_Pk_init 58 = .ok (.getfield 30, 3) := by decide +kernel
theorem d_Pk_init_61 : decode b_Pk_init 61 = .ok (.iconst (-1), 1) := by decide +kernel
theorem d_Pk_init_62 : decode b_Pk_init 62 = .ok (.invokestatic 33, 3) := by decide +kernel
theorem d_Pk_init_65 : decode b_Pk_init 65 = .ok (.return_, 1) := by decide +kernel
theorem ml_Ld_3 : Cond.methodLink R_Ld 3 Lib.objectInit ∈ lw_gd := (gd _ (tb0 _ (List.mem_of_getElem? (i := 157) rfl)) rfl)
theorem d_Ld_init_0 : decode b_Ld_init 0 = .ok (.aload_n 0, 1) := by decide +kernel
theorem d_Ld_init_1 : decode b_Ld_init 1 = .ok (.invokespecial 3, 3) := by decide +kernel
theorem d_Ld_init_4 : decode b_Ld_init 4 = .ok (.aload_n 0, 1) := by decide +kernel
theorem d_Ld_init_5 : decode b_Ld_init 5 = .ok (.bipush 9, 2) := by decide +kernel
theorem d_Ld_init_7 : decode b_Ld_init 7 = .ok (.newarray .int, 2) := by decide +kernel
theorem d_Ld_init_9 : decode b_Ld_init 9 = .ok (.putfield 9, 3) := by decide +kernel
theorem d_Ld_init_12 : decode b_Ld_init 12 = .ok (.aload_n 0, 1) := by decide +kernel
theorem d_Ld_init_13 : decode b_Ld_init 13 = .ok (.bipush 9, 2) := by decide +kernel
theorem d_Ld_init_15 : decode b_Ld_init 15 = .ok (.newarray .int, 2) := by decide +kernel
theorem d_Ld_init_17 : decode b_Ld_init 17 = .ok (.putfield 15, 3) := by decide +kernel
theorem d_Ld_init_20 : decode b_Ld_init 20 = .ok (.aload_n 0, 1) := by decide +kernel
theorem d_Ld_init_21 : decode b_Ld_init 21 = .ok (.sipush 162, 3) := by decide +kernel
theorem d_Ld_init_24 : decode b_Ld_init 24 = .ok (.newarray .int, 2) := by decide +kernel
theorem d_Ld_init_26 : decode b_Ld_init 26 = .ok (.putfield 18, 3) := by decide +kernel
theorem d_Ld_init_29 : decode b_Ld_init 29 = .ok (.return_, 1) := by decide +kernel
theorem ml_Rl_3 : Cond.methodLink R_Rl 3 Lib.objectInit ∈ lw_gd := (gd _ (tb0 _ (List.mem_of_getElem? (i := 184) rfl)) rfl)
theorem d_Rl_init_0 : decode b_Rl_init 0 = .ok (.aload_n 0, 1) := by decide +kernel
theorem d_Rl_init_1 : decode b_Rl_init 1 = .ok (.invokespecial 3, 3) := by decide +kernel
theorem d_Rl_init_4 : decode b_Rl_init 4 = .ok (.aload_n 0, 1) := by decide +kernel
theorem d_Rl_init_5 : decode b_Rl_init 5 = .ok (.bipush 9, 2) := by decide +kernel
theorem d_Rl_init_7 : decode b_Rl_init 7 = .ok (.newarray .int, 2) := by decide +kernel
theorem d_Rl_init_9 : decode b_Rl_init 9 = .ok (.putfield 9, 3) := by decide +kernel
theorem d_Rl_init_12 : decode b_Rl_init 12 = .ok (.aload_n 0, 1) := by decide +kernel
theorem d_Rl_init_13 : decode b_Rl_init 13 = .ok (.bipush 9, 2) := by decide +kernel
theorem d_Rl_init_15 : decode b_Rl_init 15 = .ok (.newarray .int, 2) := by decide +kernel
theorem d_Rl_init_17 : decode b_Rl_init 17 = .ok (.putfield 15, 3) := by decide +kernel
theorem d_Rl_init_20 : decode b_Rl_init 20 = .ok (.aload_n 0, 1) := by decide +kernel
theorem d_Rl_init_21 : decode b_Rl_init 21 = .ok (.bipush 9, 2) := by decide +kernel
theorem d_Rl_init_23 : decode b_Rl_init 23 = .ok (.newarray .int, 2) := by decide +kernel
theorem d_Rl_init_25 : decode b_Rl_init 25 = .ok (.putfield 18, 3) := by decide +kernel
theorem d_Rl_init_28 : decode b_Rl_init 28 = .ok (.aload_n 0, 1) := by decide +kernel
theorem d_Rl_init_29 : decode b_Rl_init 29 = .ok (.bipush 9, 2) := by decide +kernel
theorem d_Rl_init_31 : decode b_Rl_init 31 = .ok (.newarray .int, 2) := by decide +kernel
theorem d_Rl_init_33 : decode b_Rl_init 33 = .ok (.putfield 21, 3) := by decide +kernel
theorem d_Rl_init_36 : decode b_Rl_init 36 = .ok (.aload_n 0, 1) := by decide +kernel
theorem d_Rl_init_37 : decode b_Rl_init 37 = .ok (.bipush 9, 2) := by decide +kernel
theorem d_Rl_init_39 : decode b_Rl_init 39 = .ok (.newarray .int, 2) := by decide +kernel
theorem d_Rl_init_41 : decode b_Rl_init 41 = .ok (.putfield 24, 3) := by decide +kernel
theorem d_Rl_init_44 : decode b_Rl_init 44 = .ok (.aload_n 0, 1) := by decide +kernel
theorem d_Rl_init_45 : decode b_Rl_init 45 = .ok (.bipush 54, 2) := by decide +kernel
theorem d_Rl_init_47 : decode b_Rl_init 47 = .ok (.newarray .int, 2) := by decide +kernel
theorem d_Rl_init_49 : decode b_Rl_init 49 = .ok (.putfield 27, 3) := by decide +kernel
theorem d_Rl_init_52 : decode b_Rl_init 52 = .ok (.aload_n 0, 1) := by decide +kernel
theorem d_Rl_init_53 : decode b_Rl_init 53 = .ok (.bipush 54, 2) := by decide +kernel
theorem d_Rl_init_55 : decode b_Rl_init 55 = .ok (.newarray .int, 2) := by decide +kernel
theorem d_Rl_init_57 : decode b_Rl_init 57 = .ok (.putfield 30, 3) := by decide +kernel
theorem d_Rl_init_60 : decode b_Rl_init 60 = .ok (.aload_n 0, 1) := by decide +kernel
theorem d_Rl_init_61 : decode b_Rl_init 61 = .ok (.iconst 4, 1) := by decide +kernel
theorem d_Rl_init_62 : decode b_Rl_init 62 = .ok (.newarray .int, 2) := by decide +kernel
theorem d_Rl_init_64 : decode b_Rl_init 64 = .ok (.putfield 33, 3) := by decide +kernel
theorem d_Rl_init_67 : decode b_Rl_init 67 = .ok (.aload_n 0, 1) := by decide +kernel
theorem d_Rl_init_68 : decode b_Rl_init 68 = .ok (.bipush 32, 2) := by decide +kernel
theorem d_Rl_init_70 : decode b_Rl_init 70 = .ok (.newarray .int, 2) := by decide +kernel
theorem d_Rl_init_72 : decode b_Rl_init 72 = .ok (.putfield 36, 3) := by decide +kernel
theorem d_Rl_init_75 : decode b_Rl_init 75 = .ok (.aload_n 0, 1) := by decide +kernel
theorem d_Rl_init_76 : decode b_Rl_init 76 = .ok (.bipush 40, 2) := by decide +kernel
theorem d_Rl_init_78 : decode b_Rl_init 78 = .ok (.newarray .int, 2) := by decide +kernel
theorem d_Rl_init_80 : decode b_Rl_init 80 = .ok (.putfield 39, 3) := by decide +kernel
theorem d_Rl_init_83 : decode b_Rl_init 83 = .ok (.aload_n 0, 1) := by decide +kernel
theorem d_Rl_init_84 : decode b_Rl_init 84 = .ok (.getfield 39, 3) := by decide +kernel
theorem d_Rl_init_87 : decode b_Rl_init 87 = .ok (.iconst (-1), 1) := by decide +kernel
theorem d_Rl_init_88 : decode b_Rl_init 88 = .ok (.invokestatic 42, 3) := by decide +kernel
theorem d_Rl_init_91 : decode b_Rl_init 91 = .ok (.return_, 1) := by decide +kernel
set_option maxHeartbeats 4000000 in
set_option maxRecDepth 100000 in
theorem c_Tx_init (l : Launch) (D : va_G) (cI : CiT) (z : GzT) (a0 : Nat) : wk_C l D (tyK cI) (gX z) y_Tx_init b_Tx_init 1 none 1 20 2 1503 [.ref a0] ([(a0, .inr (1, [.null, .int (nI (0)), .null, .int (nI (0)), .null, .int (nI (0))]))]) wk_v (fun (_ : Unit) (u : (Nat → Nat)) => u 0 = a0) (fun u => (wTx u cI (zA z) (fun _ => 0) (fun _ => 0) 0 0 0 0)) := by
  refine wk_methV (own := R_Tx) [(0, .ref (a0))] (by decide) rfl (Nat.le_of_ble_eq_true rfl) rfl (gX_ok z) (fun p_ e_ R_ s_ m_ ar_ be_ me_ co_ Q_ A_ hR_ S_ hnm_ hQ_ => ?_)
  refine wk_aload_n (pc := 0) S_ 0 d_Tx_init_0 rfl rfl ?_
  refine wk_obj (pc := 1) S_ ml_Tx_3 in_objI in_objC d_Tx_init_1 (by rw [hR_]; decide) (by rw [hR_]; decide) ?_
  refine wk_aload_n (pc := 4) S_ 0 d_Tx_init_4 rfl rfl ?_
  refine wk_sipush (pc := 5) (v := (nI (1500))) S_ d_Tx_init_5 (by decide) ?_
  refine wk_newi (pc := 8) S_ 0 in_aint rfl (by decide) (by rw [hR_]; decide) (by rw [hR_]; decide) d_Tx_init_8 (fun q8 => ?_)
  refine wk_weq (ws' := ([(a0, .inr (1, [.null, .int (nI (0)), .null, .int (nI (0)), .null, .int (nI (0))])), (q8, .inl (cI.1, 1500, .inl (nF (fun _ => 0))))])) rfl ?_
  refine wk_putF (pc := 10) (ty := .array .int) (ws' := ([(a0, .inr (1, [.ref (q8), .int (nI (0)), .null, .int (nI (0)), .null, .int (nI (0))])), (q8, .inl (cI.1, 1500, .inl (nF (fun _ => 0))))])) S_ hnm_ 1 0 0 in_Tx t_Tx t_Tx_ok n_Tx rfl (by decide) rfl fl_Tx_9 (by decide +kernel) d_Tx_init_10 rfl rfl rfl (Nat.le_of_ble_eq_true rfl) rfl ?_
  refine wk_aload_n (pc := 13) S_ 0 d_Tx_init_13 rfl rfl ?_
  refine wk_iconst (pc := 14) (v := (nI (3))) S_ d_Tx_init_14 (by decide) ?_
  refine wk_newi (pc := 15) S_ 0 in_aint rfl (by decide) (by rw [hR_]; decide) (by rw [hR_]; decide) d_Tx_init_15 (fun q15 => ?_)
  refine wk_weq (ws' := ([(a0, .inr (1, [.ref (q8), .int (nI (0)), .null, .int (nI (0)), .null, .int (nI (0))])), (q8, .inl (cI.1, 1500, .inl (nF (fun _ => 0)))), (q15, .inl (cI.1, 3, .inl (nF (fun _ => 0))))])) rfl ?_
  refine wk_putF (pc := 17) (ty := .array .int) (ws' := ([(a0, .inr (1, [.ref (q8), .int (nI (0)), .ref (q15), .int (nI (0)), .null, .int (nI (0))])), (q8, .inl (cI.1, 1500, .inl (nF (fun _ => 0)))), (q15, .inl (cI.1, 3, .inl (nF (fun _ => 0))))])) S_ hnm_ 1 2 0 in_Tx t_Tx t_Tx_ok n_Tx rfl (by decide) rfl fl_Tx_15 (by decide +kernel) d_Tx_init_17 rfl rfl rfl (Nat.le_of_ble_eq_true rfl) rfl ?_
  exact hQ_ (fun j => (a0 :: q8 :: q15 :: []).getD j 0) d_Tx_init_20 rfl rfl
set_option maxHeartbeats 4000000 in
set_option maxRecDepth 100000 in
theorem c_St_init (l : Launch) (D : va_G) (cI : CiT) (z : GzT) (a0 : Nat) : wk_C l D (tyK cI) (gX z) y_St_init b_St_init 1 none 1 20 8 55 [.ref a0] ([(a0, .inr (2, [.null, .null, .null, .null, .null, .int (nI (0)), .int (nI (0)), .null, .null, .null, .int (nI (0))]))]) wk_v (fun (_ : Unit) (u : (Nat → Nat)) => u 0 = a0) (fun u => (wSt u cI (fun _ => 1) (fun _ => 0) (fun _ => 0) (fun _ => 0) (fun _ => 0) 0 0 (fun _ => 0) (fun _ => 0) (fun _ => 0) 0)) := by
  refine wk_methV (own := R_St) [(0, .ref (a0))] (by decide) rfl (Nat.le_of_ble_eq_true rfl) rfl (gX_ok z) (fun p_ e_ R_ s_ m_ ar_ be_ me_ co_ Q_ A_ hR_ S_ hnm_ hQ_ => ?_)
  refine wk_aload_n (pc := 0) S_ 0 d_St_init_0 rfl rfl ?_
  refine wk_obj (pc := 1) S_ ml_St_3 in_objI in_objC d_St_init_1 (by rw [hR_]; decide) (by rw [hR_]; decide) ?_
  refine wk_aload_n (pc := 4) S_ 0 d_St_init_4 rfl rfl ?_
  refine wk_bipush (pc := 5) (v := (nI (8))) S_ d_St_init_5 (by decide) ?_
  refine wk_newi (pc := 7) S_ 0 in_aint rfl (by decide) (by rw [hR_]; decide) (by rw [hR_]; decide) d_St_init_7 (fun q7 => ?_)
  refine wk_weq (ws' := ([(a0, .inr (2, [.null, .null, .null, .null, .null, .int (nI (0)), .int (nI (0)), .null, .null, .null, .int (nI (0))])), (q7, .inl (cI.1, 8, .inl (nF (fun _ => 0))))])) rfl ?_
  refine wk_putF (pc := 9) (ty := .array .int) (ws' := ([(a0, .inr (2, [.ref (q7), .null, .null, .null, .null, .int (nI (0)), .int (nI (0)), .null, .null, .null, .int (nI (0))])), (q7, .inl (cI.1, 8, .inl (nF (fun _ => 0))))])) S_ hnm_ 2 0 0 in_St t_St t_St_ok n_St rfl (by decide) rfl fl_St_9 (by decide +kernel) d_St_init_9 rfl rfl rfl (Nat.le_of_ble_eq_true rfl) rfl ?_
  refine wk_aload_n (pc := 12) S_ 0 d_St_init_12 rfl rfl ?_
  refine wk_bipush (pc := 13) (v := (nI (8))) S_ d_St_init_13 (by decide) ?_
  refine wk_newi (pc := 15) S_ 0 in_aint rfl (by decide) (by rw [hR_]; decide) (by rw [hR_]; decide) d_St_init_15 (fun q15 => ?_)
  refine wk_weq (ws' := ([(a0, .inr (2, [.ref (q7), .null, .null, .null, .null, .int (nI (0)), .int (nI (0)), .null, .null, .null, .int (nI (0))])), (q7, .inl (cI.1, 8, .inl (nF (fun _ => 0)))), (q15, .inl (cI.1, 8, .inl (nF (fun _ => 0))))])) rfl ?_
  refine wk_putF (pc := 17) (ty := .array .int) (ws' := ([(a0, .inr (2, [.ref (q7), .ref (q15), .null, .null, .null, .int (nI (0)), .int (nI (0)), .null, .null, .null, .int (nI (0))])), (q7, .inl (cI.1, 8, .inl (nF (fun _ => 0)))), (q15, .inl (cI.1, 8, .inl (nF (fun _ => 0))))])) S_ hnm_ 2 1 0 in_St t_St t_St_ok n_St rfl (by decide) rfl fl_St_15 (by decide +kernel) d_St_init_17 rfl rfl rfl (Nat.le_of_ble_eq_true rfl) rfl ?_
  refine wk_aload_n (pc := 20) S_ 0 d_St_init_20 rfl rfl ?_
  refine wk_bipush (pc := 21) (v := (nI (8))) S_ d_St_init_21 (by decide) ?_
  refine wk_newi (pc := 23) S_ 0 in_aint rfl (by decide) (by rw [hR_]; decide) (by rw [hR_]; decide) d_St_init_23 (fun q23 => ?_)
  refine wk_weq (ws' := ([(a0, .inr (2, [.ref (q7), .ref (q15), .null, .null, .null, .int (nI (0)), .int (nI (0)), .null, .null, .null, .int (nI (0))])), (q7, .inl (cI.1, 8, .inl (nF (fun _ => 0)))), (q15, .inl (cI.1, 8, .inl (nF (fun _ => 0)))), (q23, .inl (cI.1, 8, .inl (nF (fun _ => 0))))])) rfl ?_
  refine wk_putF (pc := 25) (ty := .array .int) (ws' := ([(a0, .inr (2, [.ref (q7), .ref (q15), .ref (q23), .null, .null, .int (nI (0)), .int (nI (0)), .null, .null, .null, .int (nI (0))])), (q7, .inl (cI.1, 8, .inl (nF (fun _ => 0)))), (q15, .inl (cI.1, 8, .inl (nF (fun _ => 0)))), (q23, .inl (cI.1, 8, .inl (nF (fun _ => 0))))])) S_ hnm_ 2 2 0 in_St t_St t_St_ok n_St rfl (by decide) rfl fl_St_18 (by decide +kernel) d_St_init_25 rfl rfl rfl (Nat.le_of_ble_eq_true rfl) rfl ?_
  refine wk_aload_n (pc := 28) S_ 0 d_St_init_28 rfl rfl ?_
  refine wk_bipush (pc := 29) (v := (nI (8))) S_ d_St_init_29 (by decide) ?_
  refine wk_newi (pc := 31) S_ 0 in_aint rfl (by decide) (by rw [hR_]; decide) (by rw [hR_]; decide) d_St_init_31 (fun q31 => ?_)
  refine wk_weq (ws' := ([(a0, .inr (2, [.ref (q7), .ref (q15), .ref (q23), .null, .null, .int (nI (0)), .int (nI (0)), .null, .null, .null, .int (nI (0))])), (q7, .inl (cI.1, 8, .inl (nF (fun _ => 0)))), (q15, .inl (cI.1, 8, .inl (nF (fun _ => 0)))), (q23, .inl (cI.1, 8, .inl (nF (fun _ => 0)))), (q31, .inl (cI.1, 8, .inl (nF (fun _ => 0))))])) rfl ?_
  refine wk_putF (pc := 33) (ty := .array .int) (ws' := ([(a0, .inr (2, [.ref (q7), .ref (q15), .ref (q23), .ref (q31), .null, .int (nI (0)), .int (nI (0)), .null, .null, .null, .int (nI (0))])), (q7, .inl (cI.1, 8, .inl (nF (fun _ => 0)))), (q15, .inl (cI.1, 8, .inl (nF (fun _ => 0)))), (q23, .inl (cI.1, 8, .inl (nF (fun _ => 0)))), (q31, .inl (cI.1, 8, .inl (nF (fun _ => 0))))])) S_ hnm_ 2 3 0 in_St t_St t_St_ok n_St rfl (by decide) rfl fl_St_21 (by decide +kernel) d_St_init_33 rfl rfl rfl (Nat.le_of_ble_eq_true rfl) rfl ?_
  refine wk_aload_n (pc := 36) S_ 0 d_St_init_36 rfl rfl ?_
  refine wk_bipush (pc := 37) (v := (nI (8))) S_ d_St_init_37 (by decide) ?_
  refine wk_newi (pc := 39) S_ 0 in_aint rfl (by decide) (by rw [hR_]; decide) (by rw [hR_]; decide) d_St_init_39 (fun q39 => ?_)
  refine wk_weq (ws' := ([(a0, .inr (2, [.ref (q7), .ref (q15), .ref (q23), .ref (q31), .null, .int (nI (0)), .int (nI (0)), .null, .null, .null, .int (nI (0))])), (q7, .inl (cI.1, 8, .inl (nF (fun _ => 0)))), (q15, .inl (cI.1, 8, .inl (nF (fun _ => 0)))), (q23, .inl (cI.1, 8, .inl (nF (fun _ => 0)))), (q31, .inl (cI.1, 8, .inl (nF (fun _ => 0)))), (q39, .inl (cI.1, 8, .inl (nF (fun _ => 0))))])) rfl ?_
  refine wk_putF (pc := 41) (ty := .array .int) (ws' := ([(a0, .inr (2, [.ref (q7), .ref (q15), .ref (q23), .ref (q31), .ref (q39), .int (nI (0)), .int (nI (0)), .null, .null, .null, .int (nI (0))])), (q7, .inl (cI.1, 8, .inl (nF (fun _ => 0)))), (q15, .inl (cI.1, 8, .inl (nF (fun _ => 0)))), (q23, .inl (cI.1, 8, .inl (nF (fun _ => 0)))), (q31, .inl (cI.1, 8, .inl (nF (fun _ => 0)))), (q39, .inl (cI.1, 8, .inl (nF (fun _ => 0))))])) S_ hnm_ 2 4 0 in_St t_St t_St_ok n_St rfl (by decide) rfl fl_St_24 (by decide +kernel) d_St_init_41 rfl rfl rfl (Nat.le_of_ble_eq_true rfl) rfl ?_
  refine wk_aload_n (pc := 44) S_ 0 d_St_init_44 rfl rfl ?_
  refine wk_iconst (pc := 45) (v := (nI (5))) S_ d_St_init_45 (by decide) ?_
  refine wk_newi (pc := 46) S_ 0 in_aint rfl (by decide) (by rw [hR_]; decide) (by rw [hR_]; decide) d_St_init_46 (fun q46 => ?_)
  refine wk_weq (ws' := ([(a0, .inr (2, [.ref (q7), .ref (q15), .ref (q23), .ref (q31), .ref (q39), .int (nI (0)), .int (nI (0)), .null, .null, .null, .int (nI (0))])), (q7, .inl (cI.1, 8, .inl (nF (fun _ => 0)))), (q15, .inl (cI.1, 8, .inl (nF (fun _ => 0)))), (q23, .inl (cI.1, 8, .inl (nF (fun _ => 0)))), (q31, .inl (cI.1, 8, .inl (nF (fun _ => 0)))), (q39, .inl (cI.1, 8, .inl (nF (fun _ => 0)))), (q46, .inl (cI.1, 5, .inl (nF (fun _ => 0))))])) rfl ?_
  refine wk_putF (pc := 48) (ty := .array .int) (ws' := ([(a0, .inr (2, [.ref (q7), .ref (q15), .ref (q23), .ref (q31), .ref (q39), .int (nI (0)), .int (nI (0)), .ref (q46), .null, .null, .int (nI (0))])), (q7, .inl (cI.1, 8, .inl (nF (fun _ => 0)))), (q15, .inl (cI.1, 8, .inl (nF (fun _ => 0)))), (q23, .inl (cI.1, 8, .inl (nF (fun _ => 0)))), (q31, .inl (cI.1, 8, .inl (nF (fun _ => 0)))), (q39, .inl (cI.1, 8, .inl (nF (fun _ => 0)))), (q46, .inl (cI.1, 5, .inl (nF (fun _ => 0))))])) S_ hnm_ 2 7 0 in_St t_St t_St_ok n_St rfl (by decide) rfl fl_St_27 (by decide +kernel) d_St_init_48 rfl rfl rfl (Nat.le_of_ble_eq_true rfl) rfl ?_
  refine wk_aload_n (pc := 51) S_ 0 d_St_init_51 rfl rfl ?_
  refine wk_iconst (pc := 52) (v := (nI (5))) S_ d_St_init_52 (by decide) ?_
  refine wk_newi (pc := 53) S_ 0 in_aint rfl (by decide) (by rw [hR_]; decide) (by rw [hR_]; decide) d_St_init_53 (fun q53 => ?_)
  refine wk_weq (ws' := ([(a0, .inr (2, [.ref (q7), .ref (q15), .ref (q23), .ref (q31), .ref (q39), .int (nI (0)), .int (nI (0)), .ref (q46), .null, .null, .int (nI (0))])), (q7, .inl (cI.1, 8, .inl (nF (fun _ => 0)))), (q15, .inl (cI.1, 8, .inl (nF (fun _ => 0)))), (q23, .inl (cI.1, 8, .inl (nF (fun _ => 0)))), (q31, .inl (cI.1, 8, .inl (nF (fun _ => 0)))), (q39, .inl (cI.1, 8, .inl (nF (fun _ => 0)))), (q46, .inl (cI.1, 5, .inl (nF (fun _ => 0)))), (q53, .inl (cI.1, 5, .inl (nF (fun _ => 0))))])) rfl ?_
  refine wk_putF (pc := 55) (ty := .array .int) (ws' := ([(a0, .inr (2, [.ref (q7), .ref (q15), .ref (q23), .ref (q31), .ref (q39), .int (nI (0)), .int (nI (0)), .ref (q46), .ref (q53), .null, .int (nI (0))])), (q7, .inl (cI.1, 8, .inl (nF (fun _ => 0)))), (q15, .inl (cI.1, 8, .inl (nF (fun _ => 0)))), (q23, .inl (cI.1, 8, .inl (nF (fun _ => 0)))), (q31, .inl (cI.1, 8, .inl (nF (fun _ => 0)))), (q39, .inl (cI.1, 8, .inl (nF (fun _ => 0)))), (q46, .inl (cI.1, 5, .inl (nF (fun _ => 0)))), (q53, .inl (cI.1, 5, .inl (nF (fun _ => 0))))])) S_ hnm_ 2 8 0 in_St t_St t_St_ok n_St rfl (by decide) rfl fl_St_30 (by decide +kernel) d_St_init_55 rfl rfl rfl (Nat.le_of_ble_eq_true rfl) rfl ?_
  refine wk_aload_n (pc := 58) S_ 0 d_St_init_58 rfl rfl ?_
  refine wk_iconst (pc := 59) (v := (nI (5))) S_ d_St_init_59 (by decide) ?_
  refine wk_newi (pc := 60) S_ 0 in_aint rfl (by decide) (by rw [hR_]; decide) (by rw [hR_]; decide) d_St_init_60 (fun q60 => ?_)
  refine wk_weq (ws' := ([(a0, .inr (2, [.ref (q7), .ref (q15), .ref (q23), .ref (q31), .ref (q39), .int (nI (0)), .int (nI (0)), .ref (q46), .ref (q53), .null, .int (nI (0))])), (q7, .inl (cI.1, 8, .inl (nF (fun _ => 0)))), (q15, .inl (cI.1, 8, .inl (nF (fun _ => 0)))), (q23, .inl (cI.1, 8, .inl (nF (fun _ => 0)))), (q31, .inl (cI.1, 8, .inl (nF (fun _ => 0)))), (q39, .inl (cI.1, 8, .inl (nF (fun _ => 0)))), (q46, .inl (cI.1, 5, .inl (nF (fun _ => 0)))), (q53, .inl (cI.1, 5, .inl (nF (fun _ => 0)))), (q60, .inl (cI.1, 5, .inl (nF (fun _ => 0))))])) rfl ?_
  refine wk_putF (pc := 62) (ty := .array .int) (ws' := ([(a0, .inr (2, [.ref (q7), .ref (q15), .ref (q23), .ref (q31), .ref (q39), .int (nI (0)), .int (nI (0)), .ref (q46), .ref (q53), .ref (q60), .int (nI (0))])), (q7, .inl (cI.1, 8, .inl (nF (fun _ => 0)))), (q15, .inl (cI.1, 8, .inl (nF (fun _ => 0)))), (q23, .inl (cI.1, 8, .inl (nF (fun _ => 0)))), (q31, .inl (cI.1, 8, .inl (nF (fun _ => 0)))), (q39, .inl (cI.1, 8, .inl (nF (fun _ => 0)))), (q46, .inl (cI.1, 5, .inl (nF (fun _ => 0)))), (q53, .inl (cI.1, 5, .inl (nF (fun _ => 0)))), (q60, .inl (cI.1, 5, .inl (nF (fun _ => 0))))])) S_ hnm_ 2 9 0 in_St t_St t_St_ok n_St rfl (by decide) rfl fl_St_33 (by decide +kernel) d_St_init_62 rfl rfl rfl (Nat.le_of_ble_eq_true rfl) rfl ?_
  refine wk_ext (f := nF (fun _ => 0)) (g := zF (fun _ => 1)) (ws' := ([(a0, .inr (2, [.ref (q7), .ref (q15), .ref (q23), .ref (q31), .ref (q39), .int (nI (0)), .int (nI (0)), .ref (q46), .ref (q53), .ref (q60), .int (nI (0))])), (q7, .inl (cI.1, 8, .inl (zF (fun _ => 1)))), (q15, .inl (cI.1, 8, .inl (nF (fun _ => 0)))), (q23, .inl (cI.1, 8, .inl (nF (fun _ => 0)))), (q31, .inl (cI.1, 8, .inl (nF (fun _ => 0)))), (q39, .inl (cI.1, 8, .inl (nF (fun _ => 0)))), (q46, .inl (cI.1, 5, .inl (nF (fun _ => 0)))), (q53, .inl (cI.1, 5, .inl (nF (fun _ => 0)))), (q60, .inl (cI.1, 5, .inl (nF (fun _ => 0))))])) 1 rfl (fun _ _ => zn_1) rfl ?_
  exact hQ_ (fun j => (a0 :: q7 :: q15 :: q23 :: q31 :: q39 :: q46 :: q53 :: q60 :: []).getD j 0) d_St_init_65 rfl rfl
set_option maxHeartbeats 4000000 in
set_option maxRecDepth 100000 in
theorem c_Pk_init (l : Launch) (D : va_G) (cI : CiT) (z : GzT) (a0 : Nat) : wk_C l D (tyK cI) (gX z) y_Pk_init b_Pk_init 1 none 1 23 7 47 [.ref a0] ([(a0, .inr (3, [.null, .null, .null, .null, .int (nI (0)), .null, .null, .int (nI (0)), .null, .int (nI (0))]))]) wk_v (fun (_ : Unit) (u : (Nat → Nat) × (Nat → Nat)) => u.1 0 = a0) (fun u => (wPk u.1 cI (u.2 0) (fun _ => 0) (fun _ => 0) (fun _ => 0) (fun _ => 0) 0 (fun _ => 1) (fun _ => 1) 0 false ++ (wBx u.2 cI (fun _ => 0)))) := by
  refine wk_methV (own := R_Pk) [(0, .ref (a0))] (by decide) rfl (Nat.le_of_ble_eq_true rfl) rfl (gX_ok z) (fun p_ e_ R_ s_ m_ ar_ be_ me_ co_ Q_ A_ hR_ S_ hnm_ hQ_ => ?_)
  refine wk_aload_n (pc := 0) S_ 0 d_Pk_init_0 rfl rfl ?_
  refine wk_obj (pc := 1) S_ ml_Pk_3 in_objI in_objC d_Pk_init_1 (by rw [hR_]; decide) (by rw [hR_]; decide) ?_
  refine wk_aload_n (pc := 4) S_ 0 d_Pk_init_4 rfl rfl ?_
  refine wk_iconst (pc := 5) (v := (nI (5))) S_ d_Pk_init_5 (by decide) ?_
  refine wk_newi (pc := 6) S_ 0 in_aint rfl (by decide) (by rw [hR_]; decide) (by rw [hR_]; decide) d_Pk_init_6 (fun q6 => ?_)
  refine wk_weq (ws' := ([(a0, .inr (3, [.null, .null, .null, .null, .int (nI (0)), .null, .null, .int (nI (0)), .null, .int (nI (0))])), (q6, .inl (cI.1, 5, .inl (nF (fun _ => 0))))])) rfl ?_
  refine wk_putF (pc := 8) (ty := .array .int) (ws' := ([(a0, .inr (3, [.ref (q6), .null, .null, .null, .int (nI (0)), .null, .null, .int (nI (0)), .null, .int (nI (0))])), (q6, .inl (cI.1, 5, .inl (nF (fun _ => 0))))])) S_ hnm_ 3 0 0 in_Pk t_Pk t_Pk_ok n_Pk rfl (by decide) rfl fl_Pk_9 (by decide +kernel) d_Pk_init_8 rfl rfl rfl (Nat.le_of_ble_eq_true rfl) rfl ?_
  refine wk_aload_n (pc := 11) S_ 0 d_Pk_init_11 rfl rfl ?_
  refine wk_iconst (pc := 12) (v := (nI (5))) S_ d_Pk_init_12 (by decide) ?_
  refine wk_newi (pc := 13) S_ 0 in_aint rfl (by decide) (by rw [hR_]; decide) (by rw [hR_]; decide) d_Pk_init_13 (fun q13 => ?_)
  refine wk_weq (ws' := ([(a0, .inr (3, [.ref (q6), .null, .null, .null, .int (nI (0)), .null, .null, .int (nI (0)), .null, .int (nI (0))])), (q6, .inl (cI.1, 5, .inl (nF (fun _ => 0)))), (q13, .inl (cI.1, 5, .inl (nF (fun _ => 0))))])) rfl ?_
  refine wk_putF (pc := 15) (ty := .array .int) (ws' := ([(a0, .inr (3, [.ref (q6), .ref (q13), .null, .null, .int (nI (0)), .null, .null, .int (nI (0)), .null, .int (nI (0))])), (q6, .inl (cI.1, 5, .inl (nF (fun _ => 0)))), (q13, .inl (cI.1, 5, .inl (nF (fun _ => 0))))])) S_ hnm_ 3 1 0 in_Pk t_Pk t_Pk_ok n_Pk rfl (by decide) rfl fl_Pk_15 (by decide +kernel) d_Pk_init_15 rfl rfl rfl (Nat.le_of_ble_eq_true rfl) rfl ?_
  refine wk_aload_n (pc := 18) S_ 0 d_Pk_init_18 rfl rfl ?_
  refine wk_iconst (pc := 19) (v := (nI (5))) S_ d_Pk_init_19 (by decide) ?_
  refine wk_newi (pc := 20) S_ 0 in_aint rfl (by decide) (by rw [hR_]; decide) (by rw [hR_]; decide) d_Pk_init_20 (fun q20 => ?_)
  refine wk_weq (ws' := ([(a0, .inr (3, [.ref (q6), .ref (q13), .null, .null, .int (nI (0)), .null, .null, .int (nI (0)), .null, .int (nI (0))])), (q6, .inl (cI.1, 5, .inl (nF (fun _ => 0)))), (q13, .inl (cI.1, 5, .inl (nF (fun _ => 0)))), (q20, .inl (cI.1, 5, .inl (nF (fun _ => 0))))])) rfl ?_
  refine wk_putF (pc := 22) (ty := .array .int) (ws' := ([(a0, .inr (3, [.ref (q6), .ref (q13), .ref (q20), .null, .int (nI (0)), .null, .null, .int (nI (0)), .null, .int (nI (0))])), (q6, .inl (cI.1, 5, .inl (nF (fun _ => 0)))), (q13, .inl (cI.1, 5, .inl (nF (fun _ => 0)))), (q20, .inl (cI.1, 5, .inl (nF (fun _ => 0))))])) S_ hnm_ 3 2 0 in_Pk t_Pk t_Pk_ok n_Pk rfl (by decide) rfl fl_Pk_18 (by decide +kernel) d_Pk_init_22 rfl rfl rfl (Nat.le_of_ble_eq_true rfl) rfl ?_
  refine wk_aload_n (pc := 25) S_ 0 d_Pk_init_25 rfl rfl ?_
  refine wk_bipush (pc := 26) (v := (nI (8))) S_ d_Pk_init_26 (by decide) ?_
  refine wk_newi (pc := 28) S_ 0 in_aint rfl (by decide) (by rw [hR_]; decide) (by rw [hR_]; decide) d_Pk_init_28 (fun q28 => ?_)
  refine wk_weq (ws' := ([(a0, .inr (3, [.ref (q6), .ref (q13), .ref (q20), .null, .int (nI (0)), .null, .null, .int (nI (0)), .null, .int (nI (0))])), (q6, .inl (cI.1, 5, .inl (nF (fun _ => 0)))), (q13, .inl (cI.1, 5, .inl (nF (fun _ => 0)))), (q20, .inl (cI.1, 5, .inl (nF (fun _ => 0)))), (q28, .inl (cI.1, 8, .inl (nF (fun _ => 0))))])) rfl ?_
  refine wk_putF (pc := 30) (ty := .array .int) (ws' := ([(a0, .inr (3, [.ref (q6), .ref (q13), .ref (q20), .ref (q28), .int (nI (0)), .null, .null, .int (nI (0)), .null, .int (nI (0))])), (q6, .inl (cI.1, 5, .inl (nF (fun _ => 0)))), (q13, .inl (cI.1, 5, .inl (nF (fun _ => 0)))), (q20, .inl (cI.1, 5, .inl (nF (fun _ => 0)))), (q28, .inl (cI.1, 8, .inl (nF (fun _ => 0))))])) S_ hnm_ 3 3 0 in_Pk t_Pk t_Pk_ok n_Pk rfl (by decide) rfl fl_Pk_21 (by decide +kernel) d_Pk_init_30 rfl rfl rfl (Nat.le_of_ble_eq_true rfl) rfl ?_
  refine wk_aload_n (pc := 33) S_ 0 d_Pk_init_33 rfl rfl ?_
  refine wk_bipush (pc := 34) (v := (nI (8))) S_ d_Pk_init_34 (by decide) ?_
  refine wk_newi (pc := 36) S_ 0 in_aint rfl (by decide) (by rw [hR_]; decide) (by rw [hR_]; decide) d_Pk_init_36 (fun q36 => ?_)
  refine wk_weq (ws' := ([(a0, .inr (3, [.ref (q6), .ref (q13), .ref (q20), .ref (q28), .int (nI (0)), .null, .null, .int (nI (0)), .null, .int (nI (0))])), (q6, .inl (cI.1, 5, .inl (nF (fun _ => 0)))), (q13, .inl (cI.1, 5, .inl (nF (fun _ => 0)))), (q20, .inl (cI.1, 5, .inl (nF (fun _ => 0)))), (q28, .inl (cI.1, 8, .inl (nF (fun _ => 0)))), (q36, .inl (cI.1, 8, .inl (nF (fun _ => 0))))])) rfl ?_
  refine wk_putF (pc := 38) (ty := .array .int) (ws' := ([(a0, .inr (3, [.ref (q6), .ref (q13), .ref (q20), .ref (q28), .int (nI (0)), .ref (q36), .null, .int (nI (0)), .null, .int (nI (0))])), (q6, .inl (cI.1, 5, .inl (nF (fun _ => 0)))), (q13, .inl (cI.1, 5, .inl (nF (fun _ => 0)))), (q20, .inl (cI.1, 5, .inl (nF (fun _ => 0)))), (q28, .inl (cI.1, 8, .inl (nF (fun _ => 0)))), (q36, .inl (cI.1, 8, .inl (nF (fun _ => 0))))])) S_ hnm_ 3 5 0 in_Pk t_Pk t_Pk_ok n_Pk rfl (by decide) rfl fl_Pk_24 (by decide +kernel) d_Pk_init_38 rfl rfl rfl (Nat.le_of_ble_eq_true rfl) rfl ?_
  refine wk_aload_n (pc := 41) S_ 0 d_Pk_init_41 rfl rfl ?_
  refine wk_bipush (pc := 42) (v := (nI (8))) S_ d_Pk_init_42 (by decide) ?_
  refine wk_newi (pc := 44) S_ 0 in_aint rfl (by decide) (by rw [hR_]; decide) (by rw [hR_]; decide) d_Pk_init_44 (fun q44 => ?_)
  refine wk_weq (ws' := ([(a0, .inr (3, [.ref (q6), .ref (q13), .ref (q20), .ref (q28), .int (nI (0)), .ref (q36), .null, .int (nI (0)), .null, .int (nI (0))])), (q6, .inl (cI.1, 5, .inl (nF (fun _ => 0)))), (q13, .inl (cI.1, 5, .inl (nF (fun _ => 0)))), (q20, .inl (cI.1, 5, .inl (nF (fun _ => 0)))), (q28, .inl (cI.1, 8, .inl (nF (fun _ => 0)))), (q36, .inl (cI.1, 8, .inl (nF (fun _ => 0)))), (q44, .inl (cI.1, 8, .inl (nF (fun _ => 0))))])) rfl ?_
  refine wk_putF (pc := 46) (ty := .array .int) (ws' := ([(a0, .inr (3, [.ref (q6), .ref (q13), .ref (q20), .ref (q28), .int (nI (0)), .ref (q36), .ref (q44), .int (nI (0)), .null, .int (nI (0))])), (q6, .inl (cI.1, 5, .inl (nF (fun _ => 0)))), (q13, .inl (cI.1, 5, .inl (nF (fun _ => 0)))), (q20, .inl (cI.1, 5, .inl (nF (fun _ => 0)))), (q28, .inl (cI.1, 8, .inl (nF (fun _ => 0)))), (q36, .inl (cI.1, 8, .inl (nF (fun _ => 0)))), (q44, .inl (cI.1, 8, .inl (nF (fun _ => 0))))])) S_ hnm_ 3 6 0 in_Pk t_Pk t_Pk_ok n_Pk rfl (by decide) rfl fl_Pk_27 (by decide +kernel) d_Pk_init_46 rfl rfl rfl (Nat.le_of_ble_eq_true rfl) rfl ?_
  refine wk_aload_n (pc := 49) S_ 0 d_Pk_init_49 rfl rfl ?_
  refine wk_bipush (pc := 50) (v := (nI (8))) S_ d_Pk_init_50 (by decide) ?_
  refine wk_newi (pc := 52) S_ 0 in_aint rfl (by decide) (by rw [hR_]; decide) (by rw [hR_]; decide) d_Pk_init_52 (fun q52 => ?_)
  refine wk_weq (ws' := ([(a0, .inr (3, [.ref (q6), .ref (q13), .ref (q20), .ref (q28), .int (nI (0)), .ref (q36), .ref (q44), .int (nI (0)), .null, .int (nI (0))])), (q6, .inl (cI.1, 5, .inl (nF (fun _ => 0)))), (q13, .inl (cI.1, 5, .inl (nF (fun _ => 0)))), (q20, .inl (cI.1, 5, .inl (nF (fun _ => 0)))), (q28, .inl (cI.1, 8, .inl (nF (fun _ => 0)))), (q36, .inl (cI.1, 8, .inl (nF (fun _ => 0)))), (q44, .inl (cI.1, 8, .inl (nF (fun _ => 0)))), (q52, .inl (cI.1, 8, .inl (nF (fun _ => 0))))])) rfl ?_
  refine wk_putF (pc := 54) (ty := .array .int) (ws' := ([(a0, .inr (3, [.ref (q6), .ref (q13), .ref (q20), .ref (q28), .int (nI (0)), .ref (q36), .ref (q44), .int (nI (0)), .ref (q52), .int (nI (0))])), (q6, .inl (cI.1, 5, .inl (nF (fun _ => 0)))), (q13, .inl (cI.1, 5, .inl (nF (fun _ => 0)))), (q20, .inl (cI.1, 5, .inl (nF (fun _ => 0)))), (q28, .inl (cI.1, 8, .inl (nF (fun _ => 0)))), (q36, .inl (cI.1, 8, .inl (nF (fun _ => 0)))), (q44, .inl (cI.1, 8, .inl (nF (fun _ => 0)))), (q52, .inl (cI.1, 8, .inl (nF (fun _ => 0))))])) S_ hnm_ 3 8 0 in_Pk t_Pk t_Pk_ok n_Pk rfl (by decide) rfl fl_Pk_30 (by decide +kernel) d_Pk_init_54 rfl rfl rfl (Nat.le_of_ble_eq_true rfl) rfl ?_
  refine wk_aload_n (pc := 57) S_ 0 d_Pk_init_57 rfl rfl ?_
  refine wk_get (pc := 58) (v := .ref (q52)) S_ 3 8 0 in_Pk rfl (by decide) rfl fl_Pk_30 d_Pk_init_58 rfl rfl ?_
  refine wk_iconst (pc := 61) (v := (-1)) S_ d_Pk_init_61 (by decide) ?_
  refine wk_top (y := zI 0) zI_0.symm ?_
  refine wk_run (pc := 62) (rest := []) (wr := [(a0, .inr (3, [.ref (q6), .ref (q13), .ref (q20), .ref (q28), .int (nI (0)), .ref (q36), .ref (q44), .int (nI (0)), .ref (q52), .int (nI (0))])), (q6, .inl (cI.1, 5, .inl (nF (fun _ => 0)))), (q13, .inl (cI.1, 5, .inl (nF (fun _ => 0)))), (q20, .inl (cI.1, 5, .inl (nF (fun _ => 0)))), (q28, .inl (cI.1, 8, .inl (nF (fun _ => 0)))), (q36, .inl (cI.1, 8, .inl (nF (fun _ => 0)))), (q44, .inl (cI.1, 8, .inl (nF (fun _ => 0))))]) (wN := fun _ => ([(a0, .inr (3, [.ref (q6), .ref (q13), .ref (q20), .ref (q28), .int (nI (0)), .ref (q36), .ref (q44), .int (nI (0)), .ref (q52), .int (nI (0))])), (q6, .inl (cI.1, 5, .inl (nF (fun _ => 0)))), (q13, .inl (cI.1, 5, .inl (nF (fun _ => 0)))), (q20, .inl (cI.1, 5, .inl (nF (fun _ => 0)))), (q28, .inl (cI.1, 8, .inl (nF (fun _ => 0)))), (q36, .inl (cI.1, 8, .inl (nF (fun _ => 0)))), (q44, .inl (cI.1, 8, .inl (nF (fun _ => 0)))), (q52, .inl (cI.1, 8, .inl (zF (fun _ => 0))))])) S_ (wk_rS S_ (c_Ar_fill l D cI z (fun _ => q52) 8 (nF (fun _ => 0)) (zI (0)) (by decide)) mv_Pk_33 rfl rfl (Nat.le_of_ble_eq_true rfl) (by rw [hR_]; decide) (by rw [hR_]; decide) d_Pk_init_62) [7] [0, 1, 2, 3, 4, 5, 6] [0, 1, 2, 3, 4, 5, 6, 7] rfl rfl rfl (by decide) (by decide) (by decide) (by decide) (fun _ => rfl) (fun _ => rfl) (fun _ _ _ => ?_)
  refine wk_st (st' := []) rfl ?_
  refine wk_ext (f := nF (fun _ => 0)) (g := zF (fun _ => 1)) (ws' := ([(a0, .inr (3, [.ref (q6), .ref (q13), .ref (q20), .ref (q28), .int (nI (0)), .ref (q36), .ref (q44), .int (nI (0)), .ref (q52), .int (nI (0))])), (q6, .inl (cI.1, 5, .inl (nF (fun _ => 0)))), (q13, .inl (cI.1, 5, .inl (nF (fun _ => 0)))), (q20, .inl (cI.1, 5, .inl (nF (fun _ => 0)))), (q28, .inl (cI.1, 8, .inl (nF (fun _ => 0)))), (q36, .inl (cI.1, 8, .inl (zF (fun _ => 1)))), (q44, .inl (cI.1, 8, .inl (nF (fun _ => 0)))), (q52, .inl (cI.1, 8, .inl (zF (fun _ => 0))))])) 5 rfl (fun _ _ => zn_1) rfl ?_
  refine wk_ext (f := nF (fun _ => 0)) (g := zF (fun _ => 1)) (ws' := ([(a0, .inr (3, [.ref (q6), .ref (q13), .ref (q20), .ref (q28), .int (nI (0)), .ref (q36), .ref (q44), .int (nI (0)), .ref (q52), .int (nI (0))])), (q6, .inl (cI.1, 5, .inl (nF (fun _ => 0)))), (q13, .inl (cI.1, 5, .inl (nF (fun _ => 0)))), (q20, .inl (cI.1, 5, .inl (nF (fun _ => 0)))), (q28, .inl (cI.1, 8, .inl (nF (fun _ => 0)))), (q36, .inl (cI.1, 8, .inl (zF (fun _ => 1)))), (q44, .inl (cI.1, 8, .inl (zF (fun _ => 1)))), (q52, .inl (cI.1, 8, .inl (zF (fun _ => 0))))])) 6 rfl (fun _ _ => zn_1) rfl ?_
  exact hQ_ ((fun j => (a0 :: q6 :: q13 :: q20 :: q28 :: q36 :: q44 :: []).getD j 0), (fun _ => q52)) d_Pk_init_65 rfl rfl
set_option maxHeartbeats 4000000 in
set_option maxRecDepth 100000 in
theorem c_Ld_init (l : Launch) (D : va_G) (cI : CiT) (z : GzT) (a0 : Nat) : wk_C l D (tyK cI) (gX z) y_Ld_init b_Ld_init 1 none 1 20 3 180 [.ref a0] ([(a0, .inr (4, [.null, .null, .int (nI (0)), .null, .int (nI (0))]))]) wk_v (fun (_ : Unit) (u : (Nat → Nat)) => u 0 = a0) (fun u => (wLd u cI (fun _ => 0) (fun _ => 0) 0 (fun _ => 0) 0)) := by
  refine wk_methV (own := R_Ld) [(0, .ref (a0))] (by decide) rfl (Nat.le_of_ble_eq_true rfl) rfl (gX_ok z) (fun p_ e_ R_ s_ m_ ar_ be_ me_ co_ Q_ A_ hR_ S_ hnm_ hQ_ => ?_)
  refine wk_aload_n (pc := 0) S_ 0 d_Ld_init_0 rfl rfl ?_
  refine wk_obj (pc := 1) S_ ml_Ld_3 in_objI in_objC d_Ld_init_1 (by rw [hR_]; decide) (by rw [hR_]; decide) ?_
  refine wk_aload_n (pc := 4) S_ 0 d_Ld_init_4 rfl rfl ?_
  refine wk_bipush (pc := 5) (v := (nI (9))) S_ d_Ld_init_5 (by decide) ?_
  refine wk_newi (pc := 7) S_ 0 in_aint rfl (by decide) (by rw [hR_]; decide) (by rw [hR_]; decide) d_Ld_init_7 (fun q7 => ?_)
  refine wk_weq (ws' := ([(a0, .inr (4, [.null, .null, .int (nI (0)), .null, .int (nI (0))])), (q7, .inl (cI.1, 9, .inl (nF (fun _ => 0))))])) rfl ?_
  refine wk_putF (pc := 9) (ty := .array .int) (ws' := ([(a0, .inr (4, [.ref (q7), .null, .int (nI (0)), .null, .int (nI (0))])), (q7, .inl (cI.1, 9, .inl (nF (fun _ => 0))))])) S_ hnm_ 4 0 0 in_Ld t_Ld t_Ld_ok n_Ld rfl (by decide) rfl fl_Ld_9 (by decide +kernel) d_Ld_init_9 rfl rfl rfl (Nat.le_of_ble_eq_true rfl) rfl ?_
  refine wk_aload_n (pc := 12) S_ 0 d_Ld_init_12 rfl rfl ?_
  refine wk_bipush (pc := 13) (v := (nI (9))) S_ d_Ld_init_13 (by decide) ?_
  refine wk_newi (pc := 15) S_ 0 in_aint rfl (by decide) (by rw [hR_]; decide) (by rw [hR_]; decide) d_Ld_init_15 (fun q15 => ?_)
  refine wk_weq (ws' := ([(a0, .inr (4, [.ref (q7), .null, .int (nI (0)), .null, .int (nI (0))])), (q7, .inl (cI.1, 9, .inl (nF (fun _ => 0)))), (q15, .inl (cI.1, 9, .inl (nF (fun _ => 0))))])) rfl ?_
  refine wk_putF (pc := 17) (ty := .array .int) (ws' := ([(a0, .inr (4, [.ref (q7), .ref (q15), .int (nI (0)), .null, .int (nI (0))])), (q7, .inl (cI.1, 9, .inl (nF (fun _ => 0)))), (q15, .inl (cI.1, 9, .inl (nF (fun _ => 0))))])) S_ hnm_ 4 1 0 in_Ld t_Ld t_Ld_ok n_Ld rfl (by decide) rfl fl_Ld_15 (by decide +kernel) d_Ld_init_17 rfl rfl rfl (Nat.le_of_ble_eq_true rfl) rfl ?_
  refine wk_aload_n (pc := 20) S_ 0 d_Ld_init_20 rfl rfl ?_
  refine wk_sipush (pc := 21) (v := (nI (162))) S_ d_Ld_init_21 (by decide) ?_
  refine wk_newi (pc := 24) S_ 0 in_aint rfl (by decide) (by rw [hR_]; decide) (by rw [hR_]; decide) d_Ld_init_24 (fun q24 => ?_)
  refine wk_weq (ws' := ([(a0, .inr (4, [.ref (q7), .ref (q15), .int (nI (0)), .null, .int (nI (0))])), (q7, .inl (cI.1, 9, .inl (nF (fun _ => 0)))), (q15, .inl (cI.1, 9, .inl (nF (fun _ => 0)))), (q24, .inl (cI.1, 162, .inl (nF (fun _ => 0))))])) rfl ?_
  refine wk_putF (pc := 26) (ty := .array .int) (ws' := ([(a0, .inr (4, [.ref (q7), .ref (q15), .int (nI (0)), .ref (q24), .int (nI (0))])), (q7, .inl (cI.1, 9, .inl (nF (fun _ => 0)))), (q15, .inl (cI.1, 9, .inl (nF (fun _ => 0)))), (q24, .inl (cI.1, 162, .inl (nF (fun _ => 0))))])) S_ hnm_ 4 3 0 in_Ld t_Ld t_Ld_ok n_Ld rfl (by decide) rfl fl_Ld_18 (by decide +kernel) d_Ld_init_26 rfl rfl rfl (Nat.le_of_ble_eq_true rfl) rfl ?_
  exact hQ_ (fun j => (a0 :: q7 :: q15 :: q24 :: []).getD j 0) d_Ld_init_29 rfl rfl
set_option maxHeartbeats 4000000 in
set_option maxRecDepth 100000 in
theorem c_Rl_init (l : Launch) (D : va_G) (cI : CiT) (z : GzT) (a0 : Nat) : wk_C l D (tyK cI) (gX z) y_Rl_init b_Rl_init 1 none 1 23 10 229 [.ref a0] ([(a0, .inr (5, [.null, .null, .null, .null, .null, .null, .null, .null, .null, .null, .int (nI (0))]))]) wk_v (fun (_ : Unit) (u : (Nat → Nat)) => u 0 = a0) (fun u => (wRl u cI (fun _ => 0) (fun _ => 0) (fun _ => 0) (fun _ => 0) (fun _ => 0) (fun _ => 0) (fun _ => 0) (fun _ => 0) (fun _ => 0) (fun _ => 0) 0)) := by
  refine wk_methV (own := R_Rl) [(0, .ref (a0))] (by decide) rfl (Nat.le_of_ble_eq_true rfl) rfl (gX_ok z) (fun p_ e_ R_ s_ m_ ar_ be_ me_ co_ Q_ A_ hR_ S_ hnm_ hQ_ => ?_)
  refine wk_aload_n (pc := 0) S_ 0 d_Rl_init_0 rfl rfl ?_
  refine wk_obj (pc := 1) S_ ml_Rl_3 in_objI in_objC d_Rl_init_1 (by rw [hR_]; decide) (by rw [hR_]; decide) ?_
  refine wk_aload_n (pc := 4) S_ 0 d_Rl_init_4 rfl rfl ?_
  refine wk_bipush (pc := 5) (v := (nI (9))) S_ d_Rl_init_5 (by decide) ?_
  refine wk_newi (pc := 7) S_ 0 in_aint rfl (by decide) (by rw [hR_]; decide) (by rw [hR_]; decide) d_Rl_init_7 (fun q7 => ?_)
  refine wk_weq (ws' := ([(a0, .inr (5, [.null, .null, .null, .null, .null, .null, .null, .null, .null, .null, .int (nI (0))])), (q7, .inl (cI.1, 9, .inl (nF (fun _ => 0))))])) rfl ?_
  refine wk_putF (pc := 9) (ty := .array .int) (ws' := ([(a0, .inr (5, [.ref (q7), .null, .null, .null, .null, .null, .null, .null, .null, .null, .int (nI (0))])), (q7, .inl (cI.1, 9, .inl (nF (fun _ => 0))))])) S_ hnm_ 5 0 0 in_Rl t_Rl t_Rl_ok n_Rl rfl (by decide) rfl fl_Rl_9 (by decide +kernel) d_Rl_init_9 rfl rfl rfl (Nat.le_of_ble_eq_true rfl) rfl ?_
  refine wk_aload_n (pc := 12) S_ 0 d_Rl_init_12 rfl rfl ?_
  refine wk_bipush (pc := 13) (v := (nI (9))) S_ d_Rl_init_13 (by decide) ?_
  refine wk_newi (pc := 15) S_ 0 in_aint rfl (by decide) (by rw [hR_]; decide) (by rw [hR_]; decide) d_Rl_init_15 (fun q15 => ?_)
  refine wk_weq (ws' := ([(a0, .inr (5, [.ref (q7), .null, .null, .null, .null, .null, .null, .null, .null, .null, .int (nI (0))])), (q7, .inl (cI.1, 9, .inl (nF (fun _ => 0)))), (q15, .inl (cI.1, 9, .inl (nF (fun _ => 0))))])) rfl ?_
  refine wk_putF (pc := 17) (ty := .array .int) (ws' := ([(a0, .inr (5, [.ref (q7), .ref (q15), .null, .null, .null, .null, .null, .null, .null, .null, .int (nI (0))])), (q7, .inl (cI.1, 9, .inl (nF (fun _ => 0)))), (q15, .inl (cI.1, 9, .inl (nF (fun _ => 0))))])) S_ hnm_ 5 1 0 in_Rl t_Rl t_Rl_ok n_Rl rfl (by decide) rfl fl_Rl_15 (by decide +kernel) d_Rl_init_17 rfl rfl rfl (Nat.le_of_ble_eq_true rfl) rfl ?_
  refine wk_aload_n (pc := 20) S_ 0 d_Rl_init_20 rfl rfl ?_
  refine wk_bipush (pc := 21) (v := (nI (9))) S_ d_Rl_init_21 (by decide) ?_
  refine wk_newi (pc := 23) S_ 0 in_aint rfl (by decide) (by rw [hR_]; decide) (by rw [hR_]; decide) d_Rl_init_23 (fun q23 => ?_)
  refine wk_weq (ws' := ([(a0, .inr (5, [.ref (q7), .ref (q15), .null, .null, .null, .null, .null, .null, .null, .null, .int (nI (0))])), (q7, .inl (cI.1, 9, .inl (nF (fun _ => 0)))), (q15, .inl (cI.1, 9, .inl (nF (fun _ => 0)))), (q23, .inl (cI.1, 9, .inl (nF (fun _ => 0))))])) rfl ?_
  refine wk_putF (pc := 25) (ty := .array .int) (ws' := ([(a0, .inr (5, [.ref (q7), .ref (q15), .ref (q23), .null, .null, .null, .null, .null, .null, .null, .int (nI (0))])), (q7, .inl (cI.1, 9, .inl (nF (fun _ => 0)))), (q15, .inl (cI.1, 9, .inl (nF (fun _ => 0)))), (q23, .inl (cI.1, 9, .inl (nF (fun _ => 0))))])) S_ hnm_ 5 2 0 in_Rl t_Rl t_Rl_ok n_Rl rfl (by decide) rfl fl_Rl_18 (by decide +kernel) d_Rl_init_25 rfl rfl rfl (Nat.le_of_ble_eq_true rfl) rfl ?_
  refine wk_aload_n (pc := 28) S_ 0 d_Rl_init_28 rfl rfl ?_
  refine wk_bipush (pc := 29) (v := (nI (9))) S_ d_Rl_init_29 (by decide) ?_
  refine wk_newi (pc := 31) S_ 0 in_aint rfl (by decide) (by rw [hR_]; decide) (by rw [hR_]; decide) d_Rl_init_31 (fun q31 => ?_)
  refine wk_weq (ws' := ([(a0, .inr (5, [.ref (q7), .ref (q15), .ref (q23), .null, .null, .null, .null, .null, .null, .null, .int (nI (0))])), (q7, .inl (cI.1, 9, .inl (nF (fun _ => 0)))), (q15, .inl (cI.1, 9, .inl (nF (fun _ => 0)))), (q23, .inl (cI.1, 9, .inl (nF (fun _ => 0)))), (q31, .inl (cI.1, 9, .inl (nF (fun _ => 0))))])) rfl ?_
  refine wk_putF (pc := 33) (ty := .array .int) (ws' := ([(a0, .inr (5, [.ref (q7), .ref (q15), .ref (q23), .ref (q31), .null, .null, .null, .null, .null, .null, .int (nI (0))])), (q7, .inl (cI.1, 9, .inl (nF (fun _ => 0)))), (q15, .inl (cI.1, 9, .inl (nF (fun _ => 0)))), (q23, .inl (cI.1, 9, .inl (nF (fun _ => 0)))), (q31, .inl (cI.1, 9, .inl (nF (fun _ => 0))))])) S_ hnm_ 5 3 0 in_Rl t_Rl t_Rl_ok n_Rl rfl (by decide) rfl fl_Rl_21 (by decide +kernel) d_Rl_init_33 rfl rfl rfl (Nat.le_of_ble_eq_true rfl) rfl ?_
  refine wk_aload_n (pc := 36) S_ 0 d_Rl_init_36 rfl rfl ?_
  refine wk_bipush (pc := 37) (v := (nI (9))) S_ d_Rl_init_37 (by decide) ?_
  refine wk_newi (pc := 39) S_ 0 in_aint rfl (by decide) (by rw [hR_]; decide) (by rw [hR_]; decide) d_Rl_init_39 (fun q39 => ?_)
  refine wk_weq (ws' := ([(a0, .inr (5, [.ref (q7), .ref (q15), .ref (q23), .ref (q31), .null, .null, .null, .null, .null, .null, .int (nI (0))])), (q7, .inl (cI.1, 9, .inl (nF (fun _ => 0)))), (q15, .inl (cI.1, 9, .inl (nF (fun _ => 0)))), (q23, .inl (cI.1, 9, .inl (nF (fun _ => 0)))), (q31, .inl (cI.1, 9, .inl (nF (fun _ => 0)))), (q39, .inl (cI.1, 9, .inl (nF (fun _ => 0))))])) rfl ?_
  refine wk_putF (pc := 41) (ty := .array .int) (ws' := ([(a0, .inr (5, [.ref (q7), .ref (q15), .ref (q23), .ref (q31), .ref (q39), .null, .null, .null, .null, .null, .int (nI (0))])), (q7, .inl (cI.1, 9, .inl (nF (fun _ => 0)))), (q15, .inl (cI.1, 9, .inl (nF (fun _ => 0)))), (q23, .inl (cI.1, 9, .inl (nF (fun _ => 0)))), (q31, .inl (cI.1, 9, .inl (nF (fun _ => 0)))), (q39, .inl (cI.1, 9, .inl (nF (fun _ => 0))))])) S_ hnm_ 5 4 0 in_Rl t_Rl t_Rl_ok n_Rl rfl (by decide) rfl fl_Rl_24 (by decide +kernel) d_Rl_init_41 rfl rfl rfl (Nat.le_of_ble_eq_true rfl) rfl ?_
  refine wk_aload_n (pc := 44) S_ 0 d_Rl_init_44 rfl rfl ?_
  refine wk_bipush (pc := 45) (v := (nI (54))) S_ d_Rl_init_45 (by decide) ?_
  refine wk_newi (pc := 47) S_ 0 in_aint rfl (by decide) (by rw [hR_]; decide) (by rw [hR_]; decide) d_Rl_init_47 (fun q47 => ?_)
  refine wk_weq (ws' := ([(a0, .inr (5, [.ref (q7), .ref (q15), .ref (q23), .ref (q31), .ref (q39), .null, .null, .null, .null, .null, .int (nI (0))])), (q7, .inl (cI.1, 9, .inl (nF (fun _ => 0)))), (q15, .inl (cI.1, 9, .inl (nF (fun _ => 0)))), (q23, .inl (cI.1, 9, .inl (nF (fun _ => 0)))), (q31, .inl (cI.1, 9, .inl (nF (fun _ => 0)))), (q39, .inl (cI.1, 9, .inl (nF (fun _ => 0)))), (q47, .inl (cI.1, 54, .inl (nF (fun _ => 0))))])) rfl ?_
  refine wk_putF (pc := 49) (ty := .array .int) (ws' := ([(a0, .inr (5, [.ref (q7), .ref (q15), .ref (q23), .ref (q31), .ref (q39), .ref (q47), .null, .null, .null, .null, .int (nI (0))])), (q7, .inl (cI.1, 9, .inl (nF (fun _ => 0)))), (q15, .inl (cI.1, 9, .inl (nF (fun _ => 0)))), (q23, .inl (cI.1, 9, .inl (nF (fun _ => 0)))), (q31, .inl (cI.1, 9, .inl (nF (fun _ => 0)))), (q39, .inl (cI.1, 9, .inl (nF (fun _ => 0)))), (q47, .inl (cI.1, 54, .inl (nF (fun _ => 0))))])) S_ hnm_ 5 5 0 in_Rl t_Rl t_Rl_ok n_Rl rfl (by decide) rfl fl_Rl_27 (by decide +kernel) d_Rl_init_49 rfl rfl rfl (Nat.le_of_ble_eq_true rfl) rfl ?_
  refine wk_aload_n (pc := 52) S_ 0 d_Rl_init_52 rfl rfl ?_
  refine wk_bipush (pc := 53) (v := (nI (54))) S_ d_Rl_init_53 (by decide) ?_
  refine wk_newi (pc := 55) S_ 0 in_aint rfl (by decide) (by rw [hR_]; decide) (by rw [hR_]; decide) d_Rl_init_55 (fun q55 => ?_)
  refine wk_weq (ws' := ([(a0, .inr (5, [.ref (q7), .ref (q15), .ref (q23), .ref (q31), .ref (q39), .ref (q47), .null, .null, .null, .null, .int (nI (0))])), (q7, .inl (cI.1, 9, .inl (nF (fun _ => 0)))), (q15, .inl (cI.1, 9, .inl (nF (fun _ => 0)))), (q23, .inl (cI.1, 9, .inl (nF (fun _ => 0)))), (q31, .inl (cI.1, 9, .inl (nF (fun _ => 0)))), (q39, .inl (cI.1, 9, .inl (nF (fun _ => 0)))), (q47, .inl (cI.1, 54, .inl (nF (fun _ => 0)))), (q55, .inl (cI.1, 54, .inl (nF (fun _ => 0))))])) rfl ?_
  refine wk_putF (pc := 57) (ty := .array .int) (ws' := ([(a0, .inr (5, [.ref (q7), .ref (q15), .ref (q23), .ref (q31), .ref (q39), .ref (q47), .ref (q55), .null, .null, .null, .int (nI (0))])), (q7, .inl (cI.1, 9, .inl (nF (fun _ => 0)))), (q15, .inl (cI.1, 9, .inl (nF (fun _ => 0)))), (q23, .inl (cI.1, 9, .inl (nF (fun _ => 0)))), (q31, .inl (cI.1, 9, .inl (nF (fun _ => 0)))), (q39, .inl (cI.1, 9, .inl (nF (fun _ => 0)))), (q47, .inl (cI.1, 54, .inl (nF (fun _ => 0)))), (q55, .inl (cI.1, 54, .inl (nF (fun _ => 0))))])) S_ hnm_ 5 6 0 in_Rl t_Rl t_Rl_ok n_Rl rfl (by decide) rfl fl_Rl_30 (by decide +kernel) d_Rl_init_57 rfl rfl rfl (Nat.le_of_ble_eq_true rfl) rfl ?_
  refine wk_aload_n (pc := 60) S_ 0 d_Rl_init_60 rfl rfl ?_
  refine wk_iconst (pc := 61) (v := (nI (4))) S_ d_Rl_init_61 (by decide) ?_
  refine wk_newi (pc := 62) S_ 0 in_aint rfl (by decide) (by rw [hR_]; decide) (by rw [hR_]; decide) d_Rl_init_62 (fun q62 => ?_)
  refine wk_weq (ws' := ([(a0, .inr (5, [.ref (q7), .ref (q15), .ref (q23), .ref (q31), .ref (q39), .ref (q47), .ref (q55), .null, .null, .null, .int (nI (0))])), (q7, .inl (cI.1, 9, .inl (nF (fun _ => 0)))), (q15, .inl (cI.1, 9, .inl (nF (fun _ => 0)))), (q23, .inl (cI.1, 9, .inl (nF (fun _ => 0)))), (q31, .inl (cI.1, 9, .inl (nF (fun _ => 0)))), (q39, .inl (cI.1, 9, .inl (nF (fun _ => 0)))), (q47, .inl (cI.1, 54, .inl (nF (fun _ => 0)))), (q55, .inl (cI.1, 54, .inl (nF (fun _ => 0)))), (q62, .inl (cI.1, 4, .inl (nF (fun _ => 0))))])) rfl ?_
  refine wk_putF (pc := 64) (ty := .array .int) (ws' := ([(a0, .inr (5, [.ref (q7), .ref (q15), .ref (q23), .ref (q31), .ref (q39), .ref (q47), .ref (q55), .ref (q62), .null, .null, .int (nI (0))])), (q7, .inl (cI.1, 9, .inl (nF (fun _ => 0)))), (q15, .inl (cI.1, 9, .inl (nF (fun _ => 0)))), (q23, .inl (cI.1, 9, .inl (nF (fun _ => 0)))), (q31, .inl (cI.1, 9, .inl (nF (fun _ => 0)))), (q39, .inl (cI.1, 9, .inl (nF (fun _ => 0)))), (q47, .inl (cI.1, 54, .inl (nF (fun _ => 0)))), (q55, .inl (cI.1, 54, .inl (nF (fun _ => 0)))), (q62, .inl (cI.1, 4, .inl (nF (fun _ => 0))))])) S_ hnm_ 5 7 0 in_Rl t_Rl t_Rl_ok n_Rl rfl (by decide) rfl fl_Rl_33 (by decide +kernel) d_Rl_init_64 rfl rfl rfl (Nat.le_of_ble_eq_true rfl) rfl ?_
  refine wk_aload_n (pc := 67) S_ 0 d_Rl_init_67 rfl rfl ?_
  refine wk_bipush (pc := 68) (v := (nI (32))) S_ d_Rl_init_68 (by decide) ?_
  refine wk_newi (pc := 70) S_ 0 in_aint rfl (by decide) (by rw [hR_]; decide) (by rw [hR_]; decide) d_Rl_init_70 (fun q70 => ?_)
  refine wk_weq (ws' := ([(a0, .inr (5, [.ref (q7), .ref (q15), .ref (q23), .ref (q31), .ref (q39), .ref (q47), .ref (q55), .ref (q62), .null, .null, .int (nI (0))])), (q7, .inl (cI.1, 9, .inl (nF (fun _ => 0)))), (q15, .inl (cI.1, 9, .inl (nF (fun _ => 0)))), (q23, .inl (cI.1, 9, .inl (nF (fun _ => 0)))), (q31, .inl (cI.1, 9, .inl (nF (fun _ => 0)))), (q39, .inl (cI.1, 9, .inl (nF (fun _ => 0)))), (q47, .inl (cI.1, 54, .inl (nF (fun _ => 0)))), (q55, .inl (cI.1, 54, .inl (nF (fun _ => 0)))), (q62, .inl (cI.1, 4, .inl (nF (fun _ => 0)))), (q70, .inl (cI.1, 32, .inl (nF (fun _ => 0))))])) rfl ?_
  refine wk_putF (pc := 72) (ty := .array .int) (ws' := ([(a0, .inr (5, [.ref (q7), .ref (q15), .ref (q23), .ref (q31), .ref (q39), .ref (q47), .ref (q55), .ref (q62), .ref (q70), .null, .int (nI (0))])), (q7, .inl (cI.1, 9, .inl (nF (fun _ => 0)))), (q15, .inl (cI.1, 9, .inl (nF (fun _ => 0)))), (q23, .inl (cI.1, 9, .inl (nF (fun _ => 0)))), (q31, .inl (cI.1, 9, .inl (nF (fun _ => 0)))), (q39, .inl (cI.1, 9, .inl (nF (fun _ => 0)))), (q47, .inl (cI.1, 54, .inl (nF (fun _ => 0)))), (q55, .inl (cI.1, 54, .inl (nF (fun _ => 0)))), (q62, .inl (cI.1, 4, .inl (nF (fun _ => 0)))), (q70, .inl (cI.1, 32, .inl (nF (fun _ => 0))))])) S_ hnm_ 5 8 0 in_Rl t_Rl t_Rl_ok n_Rl rfl (by decide) rfl fl_Rl_36 (by decide +kernel) d_Rl_init_72 rfl rfl rfl (Nat.le_of_ble_eq_true rfl) rfl ?_
  refine wk_aload_n (pc := 75) S_ 0 d_Rl_init_75 rfl rfl ?_
  refine wk_bipush (pc := 76) (v := (nI (40))) S_ d_Rl_init_76 (by decide) ?_
  refine wk_newi (pc := 78) S_ 0 in_aint rfl (by decide) (by rw [hR_]; decide) (by rw [hR_]; decide) d_Rl_init_78 (fun q78 => ?_)
  refine wk_weq (ws' := ([(a0, .inr (5, [.ref (q7), .ref (q15), .ref (q23), .ref (q31), .ref (q39), .ref (q47), .ref (q55), .ref (q62), .ref (q70), .null, .int (nI (0))])), (q7, .inl (cI.1, 9, .inl (nF (fun _ => 0)))), (q15, .inl (cI.1, 9, .inl (nF (fun _ => 0)))), (q23, .inl (cI.1, 9, .inl (nF (fun _ => 0)))), (q31, .inl (cI.1, 9, .inl (nF (fun _ => 0)))), (q39, .inl (cI.1, 9, .inl (nF (fun _ => 0)))), (q47, .inl (cI.1, 54, .inl (nF (fun _ => 0)))), (q55, .inl (cI.1, 54, .inl (nF (fun _ => 0)))), (q62, .inl (cI.1, 4, .inl (nF (fun _ => 0)))), (q70, .inl (cI.1, 32, .inl (nF (fun _ => 0)))), (q78, .inl (cI.1, 40, .inl (nF (fun _ => 0))))])) rfl ?_
  refine wk_putF (pc := 80) (ty := .array .int) (ws' := ([(a0, .inr (5, [.ref (q7), .ref (q15), .ref (q23), .ref (q31), .ref (q39), .ref (q47), .ref (q55), .ref (q62), .ref (q70), .ref (q78), .int (nI (0))])), (q7, .inl (cI.1, 9, .inl (nF (fun _ => 0)))), (q15, .inl (cI.1, 9, .inl (nF (fun _ => 0)))), (q23, .inl (cI.1, 9, .inl (nF (fun _ => 0)))), (q31, .inl (cI.1, 9, .inl (nF (fun _ => 0)))), (q39, .inl (cI.1, 9, .inl (nF (fun _ => 0)))), (q47, .inl (cI.1, 54, .inl (nF (fun _ => 0)))), (q55, .inl (cI.1, 54, .inl (nF (fun _ => 0)))), (q62, .inl (cI.1, 4, .inl (nF (fun _ => 0)))), (q70, .inl (cI.1, 32, .inl (nF (fun _ => 0)))), (q78, .inl (cI.1, 40, .inl (nF (fun _ => 0))))])) S_ hnm_ 5 9 0 in_Rl t_Rl t_Rl_ok n_Rl rfl (by decide) rfl fl_Rl_39 (by decide +kernel) d_Rl_init_80 rfl rfl rfl (Nat.le_of_ble_eq_true rfl) rfl ?_
  refine wk_aload_n (pc := 83) S_ 0 d_Rl_init_83 rfl rfl ?_
  refine wk_get (pc := 84) (v := .ref (q78)) S_ 5 9 0 in_Rl rfl (by decide) rfl fl_Rl_39 d_Rl_init_84 rfl rfl ?_
  refine wk_iconst (pc := 87) (v := (-1)) S_ d_Rl_init_87 (by decide) ?_
  refine wk_top (y := zI 0) zI_0.symm ?_
  refine wk_run (pc := 88) (rest := []) (wr := [(a0, .inr (5, [.ref (q7), .ref (q15), .ref (q23), .ref (q31), .ref (q39), .ref (q47), .ref (q55), .ref (q62), .ref (q70), .ref (q78), .int (nI (0))])), (q7, .inl (cI.1, 9, .inl (nF (fun _ => 0)))), (q15, .inl (cI.1, 9, .inl (nF (fun _ => 0)))), (q23, .inl (cI.1, 9, .inl (nF (fun _ => 0)))), (q31, .inl (cI.1, 9, .inl (nF (fun _ => 0)))), (q39, .inl (cI.1, 9, .inl (nF (fun _ => 0)))), (q47, .inl (cI.1, 54, .inl (nF (fun _ => 0)))), (q55, .inl (cI.1, 54, .inl (nF (fun _ => 0)))), (q62, .inl (cI.1, 4, .inl (nF (fun _ => 0)))), (q70, .inl (cI.1, 32, .inl (nF (fun _ => 0))))]) (wN := fun _ => ([(a0, .inr (5, [.ref (q7), .ref (q15), .ref (q23), .ref (q31), .ref (q39), .ref (q47), .ref (q55), .ref (q62), .ref (q70), .ref (q78), .int (nI (0))])), (q7, .inl (cI.1, 9, .inl (nF (fun _ => 0)))), (q15, .inl (cI.1, 9, .inl (nF (fun _ => 0)))), (q23, .inl (cI.1, 9, .inl (nF (fun _ => 0)))), (q31, .inl (cI.1, 9, .inl (nF (fun _ => 0)))), (q39, .inl (cI.1, 9, .inl (nF (fun _ => 0)))), (q47, .inl (cI.1, 54, .inl (nF (fun _ => 0)))), (q55, .inl (cI.1, 54, .inl (nF (fun _ => 0)))), (q62, .inl (cI.1, 4, .inl (nF (fun _ => 0)))), (q70, .inl (cI.1, 32, .inl (nF (fun _ => 0)))), (q78, .inl (cI.1, 40, .inl (zF (fun _ => 0))))])) S_ (wk_rS S_ (c_Ar_fill l D cI z (fun _ => q78) 40 (nF (fun _ => 0)) (zI (0)) (by decide)) mv_Rl_42 rfl rfl (Nat.le_of_ble_eq_true rfl) (by rw [hR_]; decide) (by rw [hR_]; decide) d_Rl_init_88) [10] [0, 1, 2, 3, 4, 5, 6, 7, 8, 9] [0, 1, 2, 3, 4, 5, 6, 7, 8, 9, 10] rfl rfl rfl (by decide) (by decide) (by decide) (by decide) (fun _ => rfl) (fun _ => rfl) (fun _ _ _ => ?_)
  refine wk_st (st' := []) rfl ?_
  exact hQ_ (fun j => (a0 :: q7 :: q15 :: q23 :: q31 :: q39 :: q47 :: q55 :: q62 :: q70 :: q78 :: []).getD j 0) d_Rl_init_91 rfl rfl
