theorem d_Ar_fill_0 : decode b_Ar_fill 0 = .ok (.iconst 0, 1) := by decide +kernel
theorem d_Ar_fill_1 : decode b_Ar_fill 1 = .ok (.istore_n 2, 1) := by decide +kernel
theorem d_Ar_fill_2 : decode b_Ar_fill 2 = .ok (.aload_n 0, 1) := by decide +kernel
theorem d_Ar_fill_3 : decode b_Ar_fill 3 = .ok (.arraylength, 1) := by decide +kernel
theorem d_Ar_fill_4 : decode b_Ar_fill 4 = .ok (.istore_n 3, 1) := by decide +kernel
theorem d_Ar_fill_5 : decode b_Ar_fill 5 = .ok (.iload_n 2, 1) := by decide +kernel
theorem d_Ar_fill_6 : decode b_Ar_fill 6 = .ok (.iload_n 3, 1) := by decide +kernel
theorem d_Ar_fill_7 : decode b_Ar_fill 7 = .ok (.if_icmp .ge 13, 3) := by decide +kernel
theorem d_Ar_fill_10 : decode b_Ar_fill 10 = .ok (.aload_n 0, 1) := by decide +kernel
theorem d_Ar_fill_11 : decode b_Ar_fill 11 = .ok (.iload_n 2, 1) := by decide +kernel
theorem d_Ar_fill_12 : decode b_Ar_fill 12 = .ok (.iload_n 1, 1) := by decide +kernel
theorem d_Ar_fill_13 : decode b_Ar_fill 13 = .ok (.iastore, 1) := by decide +kernel
theorem d_Ar_fill_14 : decode b_Ar_fill 14 = .ok (.iinc 2 1, 3) := by decide +kernel
theorem d_Ar_fill_17 : decode b_Ar_fill 17 = .ok (.goto (-12), 3) := by decide +kernel
theorem d_Ar_fill_20 : decode b_Ar_fill 20 = .ok (.return_, 1) := by decide +kernel
set_option maxHeartbeats 4000000 in
set_option maxRecDepth 100000 in
theorem c_Ar_fill (l : Launch) (D : va_G) (cI : CiT) (z : GzT) (a : Nat → Nat) (n : Nat) (f : (Nat → Int32)) (v : Int32) (hn : n < 100000) : wk_C l D (tyK cI) (gX z) y_Ar_fill b_Ar_fill 4 none 0 0 0 0 [.ref (a 0), .int (v)] (wAi a cI n f) wk_v (fun (_ : Unit) (_ : Unit) => True) (fun _ => (wAi a cI n (fun _ => v))) := by
  refine wk_methV (own := R_Ar) [(0, .ref (a 0)), (1, .int (v))] (by decide) rfl (Nat.le_of_ble_eq_true rfl) rfl (gX_ok z) (fun p_ e_ R_ s_ m_ ar_ be_ me_ co_ Q_ A_ hR_ S_ hnm_ hQ_ => ?_)
  refine wk_iconst (pc := 0) (v := (nI (0))) S_ d_Ar_fill_0 (by decide) ?_
  refine wk_istore_n (pc := 1) (lv' := [(2, .int (nI (0))), (0, .ref (a 0)), (1, .int (v))]) S_ d_Ar_fill_1 rfl (by decide) rfl ?_
  refine wk_aload_n (pc := 2) S_ 1 d_Ar_fill_2 rfl rfl ?_
  refine wk_alen (pc := 3) S_ 0 0 d_Ar_fill_3 rfl rfl ?_
  refine wk_top (y := nI n) rfl ?_
  refine wk_istore_n (pc := 4) (lv' := [(3, .int (nI (n))), (2, .int (nI (0))), (0, .ref (a 0)), (1, .int (v))]) S_ d_Ar_fill_4 rfl (by decide) rfl ?_
  have hL5 : ∀ (fuel5 : Nat), ∀ (k : Nat), n - k < fuel5 → (k ≤ n) → wk_G p_ l e_ R_ s_ m_ ar_ be_ me_ co_ Q_ D A_ 4 0 0 (wAi a cI n (fillN k v f)) 5 [(0, .ref (a 0)), (1, .int (v)), (2, .int (nI (k))), (3, .int (nI (n)))] [] := by
    intro fuel5
    induction fuel5 with
    | zero => intro k hm; exact absurd hm (Nat.not_lt_zero _)
    | succ fuel5 ih5 =>
      intro k hm hk
      refine wk_iload_n (pc := 5) S_ 2 d_Ar_fill_5 rfl rfl ?_
      refine wk_iload_n (pc := 6) S_ 3 d_Ar_fill_6 rfl rfl ?_
      refine wk_icmp_geN (pc := 7) (tgt := 20) S_ d_Ar_fill_7 (by decide) (by omega) (by omega) (fun h7 => ?_) (fun h7 => ?_)
      · -- taken
        refine wk_ext (f := fillN k v f) (g := fun _ => v) (ws' := (wAi a cI n (fun _ => v))) 0 rfl (fun j hj => fill_in (by omega)) rfl ?_
        exact hQ_ () d_Ar_fill_20 rfl trivial
      · -- on
        refine wk_aload_n (pc := 10) S_ 0 d_Ar_fill_10 rfl rfl ?_
        refine wk_iload_n (pc := 11) S_ 2 d_Ar_fill_11 rfl rfl ?_
        refine wk_iload_n (pc := 12) S_ 1 d_Ar_fill_12 rfl rfl ?_
        refine wk_iast (pc := 13) (f := fillN k v f) (ws' := (wAi a cI n (upd (fillN k v f) (k) (v)))) S_ 0 0 d_Ar_fill_13 rfl rfl (by omega) (by omega) rfl ?_
        refine wk_iincN (pc := 14) (d := 1) (lv' := [(2, .int (nI (k + 1))), (0, .ref (a 0)), (1, .int (v)), (3, .int (nI (n)))]) S_ 2 d_Ar_fill_14 (by decide) rfl (by decide) rfl ?_
        refine wk_goto (pc := 17) (tgt := 5) S_ d_Ar_fill_17 (by decide) ?_
        refine wk_weq (ws' := (wAi a cI n (fillN (k + 1) v f))) (by rw [show upd (fillN k v f) k v = va_up (fillN k v f) k v from rfl, fill_up]) ?_
        refine wk_lv [1, 2, 0, 3] ?_ (ih5 (k + 1) (by omega) (by omega))
        rfl
  refine wk_weq (ws' := (wAi a cI n (fillN 0 v f))) (by rw [← fill_0]) ?_
  refine wk_lv [2, 3, 1, 0] ?_ (hL5 _ (0) (Nat.lt_succ_self _) (by omega))
  rfl
