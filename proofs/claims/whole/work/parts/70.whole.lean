/-! THE CLAIM OUT OF ONE WALK OF THE LAW'S BODY. Your part is whole_start (and what it stands on); all else here is the same for every law, but numbers. -/
def R_law : String := "PackListsLaw"
def lw_P (b : Addr) (xs : List Int32) (args : Array Value) (s : State) : Prop := args = #[.ref b] ∧ s.IntsAt b xs ∧ xs.length ≤ 2560 ∧ (Jvm.Cond.and given_1 narrow_1).before args s = true
def lw_Q (_ : Array Value) (s : State) (o : Outcome) (t : State) : Prop := o = .returned (some (.int 1)) ∧ Framed s o t [] 600000 7302250
def lw_Z (below : List Frame) (a : Array Value) (s : State) : State → Prop := fun t => ∃ o, t.status = .running ∧ Ended t below o ∧ lw_Q a s o t
/-- the law's own end, with 1 on the stack, nothing written that was there before, its room as the claim has it -/
theorem lw_ret {p : Program} {l : Launch} {e : Env} {s : State} {m : MethodId} {below : List Frame} {meth : Method} {c : Code} {b : Nat} (hx : p.tables.exec = Jvm.exec) (hb : c.code = code) (hr : meth.sig.returnType = ret) (hlocks : meth.locks = false) {pc : Nat} {H : Heap} {ls : Array Slot} (hdg : decode code pc = .ok (.ireturn, 1)) : W p l e room_1 s m #[Value.ref b] below meth c H [] 600000 7302250 (lw_Z below #[Value.ref b] s) (F0 m pc ls [.int 1]) := by
  intro T hT X
  obtain ⟨fs, hret, hrun, hended, hW, hframe⟩ := X.leave (v := some (.int 1)) (hlocks := hlocks) (fun h => by rw [hr] at h; cases h)
  have hmeth' : T.vm.method? m = some meth := X.method'
  refine ⟨T.setFrames fs, ?_, .returned (some (.int 1)), hrun, hended, rfl, ⟨_, rfl⟩, hW, hframe⟩
  jvm_step X.here [X.here.top, hx, hb, hdg, hmeth', hr, ret, narrow_b1]
  (try refine ⟨rfl, ?_⟩); (try refine ⟨rfl, ?_⟩)
  first | (intro acts; rw [hret _ acts rfl rfl rfl]) | rw [hret _ _ rfl rfl rfl]
  exact Steps.refl _
/-- what holds at the law's entry: the machine, the code, the tables' words (any of lw_tbl by 'hts w (by decide +kernel)'), the script of L ints xs at the cell b, what the Statement gives of the start (any of its parts by flat_of_before) -/
def lw_At (p : Program) (s : State) (m : MethodId) (meth : Method) (c : Code) (b L : Nat) (xs : Nat → Int32) : Prop :=
  p.tables.exec = Jvm.exec ∧ c.code = code ∧ meth.sig.returnType = ret ∧ c.maxLocals = 4 ∧ s.vm.findClass R_law = some m.cls ∧ (∀ w ∈ lw_tbl, w.before #[Value.ref b] s = true) ∧ va_X b L xs s s.heap ∧ b < s.heap.size ∧ meth.locks = false ∧ (Jvm.Cond.and given_1 narrow_1).before #[Value.ref b] s = true
set_option maxHeartbeats 4000000 in
set_option maxRecDepth 100000 in
theorem whole_start {p : Program} {e : Env} {s : State} {m : MethodId} {below : List Frame} {meth : Method} {c : Code} (l : Launch) {b L : Nat} {xs : Nat → Int32} (hL : L ≤ 2560) (C0 : lw_At p s m meth c b L xs) : W p l e room_1 s m #[Value.ref b] below meth c s.heap [] 0 0 (lw_Z below #[Value.ref b] s) (entryFrame m ([Value.ref b] : List Value).toArray 4) := by
  obtain ⟨hx, hb, hr, hml, hown, hts, hX_, hbl_, hlocks, hgv⟩ := id C0
  obtain ⟨z, hz⟩ := gx_start hts hgv
  obtain ⟨c0, iS0, hKn0⟩ := u_known (C := R_PL) (T := F_PL) (N := 7) (n := 7) (fun w h => hts w (List.mem_filter.mp h).1) in_PL (hts (.instantiable R_PL 7) (List.mem_filter.mp is_PL).1)
  obtain ⟨c1, iS1, hKn1⟩ := u_known (C := R_Tx) (T := F_Tx) (N := 6) (n := 6) (fun w h => hts w (List.mem_filter.mp h).1) in_Tx (hts (.instantiable R_Tx 6) (List.mem_filter.mp is_Tx).1)
  obtain ⟨c2, iS2, hKn2⟩ := u_known (C := R_St) (T := F_St) (N := 11) (n := 11) (fun w h => hts w (List.mem_filter.mp h).1) in_St (hts (.instantiable R_St 11) (List.mem_filter.mp is_St).1)
  obtain ⟨c3, iS3, hKn3⟩ := u_known (C := R_Pk) (T := F_Pk) (N := 10) (n := 10) (fun w h => hts w (List.mem_filter.mp h).1) in_Pk (hts (.instantiable R_Pk 10) (List.mem_filter.mp is_Pk).1)
  obtain ⟨c4, iS4, hKn4⟩ := u_known (C := R_Ld) (T := F_Ld) (N := 5) (n := 5) (fun w h => hts w (List.mem_filter.mp h).1) in_Ld (hts (.instantiable R_Ld 5) (List.mem_filter.mp is_Ld).1)
  obtain ⟨c5, iS5, hKn5⟩ := u_known (C := R_Rl) (T := F_Rl) (N := 11) (n := 11) (fun w h => hts w (List.mem_filter.mp h).1) in_Rl (hts (.instantiable R_Rl 11) (List.mem_filter.mp is_Rl).1)
  obtain ⟨c6, iS6, hKn6⟩ := u_known (C := R_Md) (T := F_Md) (N := 46) (n := 46) (fun w h => hts w (List.mem_filter.mp h).1) in_Md (hts (.instantiable R_Md 46) (List.mem_filter.mp is_Md).1)
  obtain ⟨dC, dI, hKc⟩ : ∃ (dC : Nat → ClassId) (dI : Nat → Nat → Nat), ∀ (k : Nat) (q : vw_C), vwCl[k]? = some q → u_Kn s q.1 q.2.1 q.2.2 (dC k) (dI k) := by
    refine ⟨fun k => match k with | 0 => c0 | 1 => c1 | 2 => c2 | 3 => c3 | 4 => c4 | 5 => c5 | _ => c6, fun k => match k with | 0 => iS0 | 1 => iS1 | 2 => iS2 | 3 => iS3 | 4 => iS4 | 5 => iS5 | _ => iS6, ?_⟩
    intro k q hq
    match k, hq with
    | 0, hq => cases hq; exact hKn0
    | 1, hq => cases hq; exact hKn1
    | 2, hq => cases hq; exact hKn2
    | 3, hq => cases hq; exact hKn3
    | 4, hq => cases hq; exact hKn4
    | 5, hq => cases hq; exact hKn5
    | 6, hq => cases hq; exact hKn6
    | k + 7, hq => simp at hq
  obtain ⟨a0, hKa0⟩ := arr_i (hts _ (List.mem_filter.mp in_aint).1)
  obtain ⟨a1, hKa1⟩ := arr_z (hts _ (List.mem_filter.mp in_aboolean).1)
  obtain ⟨a2, hKa2⟩ := arr_l (hts _ (List.mem_filter.mp in_along).1)
  have hK : va_K (dC, dI) vwCl (tyK (a0, a1, a2)) s := ⟨hKc, fun k q hq => by match k, hq with | 0, hq => cases hq; exact hKa0 | 1, hq => cases hq; exact hKa1 | 2, hq => cases hq; exact hKa2 | k + 3, hq => simp at hq⟩
  obtain ⟨D, hD_⟩ : ∃ D : va_G, D = (dC, dI) := ⟨_, rfl⟩
  rw [← hD_] at hK
  obtain ⟨cI, hcI⟩ : ∃ cI : CiT, cI = (a0, a1, a2) := ⟨_, rfl⟩
  rw [← hcI] at hK
  obtain ⟨R_, hR_⟩ : ∃ R_ : Room, R_ = room_1 := ⟨_, rfl⟩
  have S_ : wk_S p s m #[Value.ref b] c D (fun q : Nat => s.heap.size ≤ q) 4 b_Lw_law R_Lw (tyK cI) (gX z) := ⟨⟨hx, hb, hml, hown, fun w h => hts w (List.mem_filter.mp h).1⟩, hK, fun _ h => h, hz, gX_ok z⟩
  have hbA_ : ¬ (fun q : Nat => s.heap.size ≤ q) b := Nat.not_le.mpr hbl_
  have hF_ : ∀ {ws : va_W} {lv : List (Nat × Value)}, wk_G p l e R_ s m #[Value.ref b] below meth c (lw_Z below #[Value.ref b] s) D (fun q : Nat => s.heap.size ≤ q) 4 81 4534 ws 736 lv [.int (nI 1)] := by
    intro ws lv H locs ls hP hD hS hl
    subst hR_
    exact va_forget hS.2.2 (W.widen (by decide) (by decide) (lw_ret hx hb hr hlocks d_Lw_law_736))
  have hl := lv_entry ([.ref b]) (n := 4) (Nat.le_of_ble_eq_true rfl)
  rw [lg_entry_eq]
  suffices hG : wk_G p l e R_ s m #[Value.ref b] below meth c (lw_Z below #[Value.ref b] s) D (fun q : Nat => s.heap.size ≤ q) 4 0 0 [] 0 [(0, .ref b)] [] by
    have h9 := hG s.heap [] _ (fun k q h => by simp at h) ⟨fun i j p q h => by simp at h, fun k q h => by simp at h⟩ va_S.rf hl
    rw [hR_] at h9
    exact h9
  refine wk_new (pc := 0) (fs := [.null, .null, .null, .null, .null, .null, .int (nI (0))]) S_ 0 in_PL t_PL t_PL_ok rfl cl_Lw_7 is_PL ii_PL (fun j hj => by rcases (show j = 0 ∨ j = 1 ∨ j = 2 ∨ j = 3 ∨ j = 4 ∨ j = 5 ∨ j = 6 by omega) with rfl | rfl | rfl | rfl | rfl | rfl | rfl <;> rfl) (by rw [hR_]; decide) (by rw [hR_]; decide) d_Lw_law_0 (fun q0 => ?_)
  refine wk_weq (ws' := ([(q0, .inr (0, [.null, .null, .null, .null, .null, .null, .int (nI (0))]))])) rfl ?_
  refine wk_dup (pc := 3) S_ d_Lw_law_3 rfl ?_
  refine wk_run (pc := 4) (rest := [.ref (q0)]) (wr := []) (wN := fun u4 => (wPL u4.1 cI (u4.2.1 0) (u4.2.2.1 0) (u4.2.2.2.1 0) (u4.2.2.2.2.2.1 0) (u4.2.2.2.2.2.2.1 0) (u4.2.2.2.2.2.2.2 0) false ++ (wTx u4.2.1 cI (zA z) (fun _ => 0) (fun _ => 0) 0 0 0 0 ++ (wSt u4.2.2.1 cI (fun _ => 1) (fun _ => 0) (fun _ => 0) (fun _ => 0) (fun _ => 0) 0 0 (fun _ => 0) (fun _ => 0) (fun _ => 0) 0 ++ (wPk u4.2.2.2.1 cI (u4.2.2.2.2.1 0) (fun _ => 0) (fun _ => 0) (fun _ => 0) (fun _ => 0) 0 (fun _ => 1) (fun _ => 1) 0 false ++ (wBx u4.2.2.2.2.1 cI (fun _ => 0) ++ (wLd u4.2.2.2.2.2.1 cI (fun _ => 0) (fun _ => 0) 0 (fun _ => 0) 0 ++ (wRl u4.2.2.2.2.2.2.1 cI (fun _ => 0) (fun _ => 0) (fun _ => 0) (fun _ => 0) (fun _ => 0) (fun _ => 0) (fun _ => 0) (fun _ => 0) (fun _ => 0) (fun _ => 0) 0 ++ (wRl u4.2.2.2.2.2.2.2 cI (fun _ => 0) (fun _ => 0) (fun _ => 0) (fun _ => 0) (fun _ => 0) (fun _ => 0) (fun _ => 0) (fun _ => 0) (fun _ => 0) (fun _ => 0) 0))))))))) S_ (wk_rI (ret := none) S_ (c_PL_init l D cI z (q0)) mv_Lw_9 rfl rfl (Nat.le_of_ble_eq_true rfl) (by rw [hR_]; decide) (by rw [hR_]; decide) d_Lw_law_4) [0] [] [0, 1, 2, 3, 4, 5, 6, 7, 8, 9, 10, 11, 12, 13, 14, 15, 16, 17, 18, 19, 20, 21, 22, 23, 24, 25, 26, 27, 28, 29, 30, 31, 32, 33, 34, 35, 36, 37, 38, 39, 40, 41, 42, 43, 44, 45, 46] rfl rfl rfl (by decide) (by decide) (by decide) (by decide) (fun _ => rfl) (fun _ => rfl) (fun r4 u4 hw4 => ?_)
  refine wk_st (st' := [.ref (q0)]) rfl ?_
  subst hw4
  refine wk_astore_n (pc := 7) (lv' := [(1, .ref (u4.1 0)), (0, .ref (b))]) S_ d_Lw_law_7 rfl (by decide) rfl ?_
  refine wk_new (pc := 8) (fs := [.null, .int (nI (0)), .null, .null, .null, .null, .int (nI (0)), .null, .null, .null, .null, .null, .null, .null, .null, .null, .null, .int (nI (0)), .null, .null, .null, .null, .null, .null, .int (nI (0)), .null, .null, .null, .null, .int (nI (0)), .null, .int (nI (0)), .null, .null, .null, .int (nI (0)), .int (nI (0)), .null, .null, .null, .int (nI (0)), .int (nI (0)), .int (nI (0)), .null, .int (nI (0)), .int (nI (0))]) S_ 6 in_Md t_Md t_Md_ok rfl cl_Lw_10 is_Md ii_Md (fun j hj => by rcases (show j = 0 ∨ j = 1 ∨ j = 2 ∨ j = 3 ∨ j = 4 ∨ j = 5 ∨ j = 6 ∨ j = 7 ∨ j = 8 ∨ j = 9 ∨ j = 10 ∨ j = 11 ∨ j = 12 ∨ j = 13 ∨ j = 14 ∨ j = 15 ∨ j = 16 ∨ j = 17 ∨ j = 18 ∨ j = 19 ∨ j = 20 ∨ j = 21 ∨ j = 22 ∨ j = 23 ∨ j = 24 ∨ j = 25 ∨ j = 26 ∨ j = 27 ∨ j = 28 ∨ j = 29 ∨ j = 30 ∨ j = 31 ∨ j = 32 ∨ j = 33 ∨ j = 34 ∨ j = 35 ∨ j = 36 ∨ j = 37 ∨ j = 38 ∨ j = 39 ∨ j = 40 ∨ j = 41 ∨ j = 42 ∨ j = 43 ∨ j = 44 ∨ j = 45 by omega) with rfl | rfl | rfl | rfl | rfl | rfl | rfl | rfl | rfl | rfl | rfl | rfl | rfl | rfl | rfl | rfl | rfl | rfl | rfl | rfl | rfl | rfl | rfl | rfl | rfl | rfl | rfl | rfl | rfl | rfl | rfl | rfl | rfl | rfl | rfl | rfl | rfl | rfl | rfl | rfl | rfl | rfl | rfl | rfl | rfl | rfl <;> rfl) (by rw [hR_]; decide) (by rw [hR_]; decide) d_Lw_law_8 (fun q8 => ?_)
  refine wk_weq (ws' := (wPL u4.1 cI (u4.2.1 0) (u4.2.2.1 0) (u4.2.2.2.1 0) (u4.2.2.2.2.2.1 0) (u4.2.2.2.2.2.2.1 0) (u4.2.2.2.2.2.2.2 0) false ++ (wTx u4.2.1 cI (zA z) (fun _ => 0) (fun _ => 0) 0 0 0 0 ++ (wSt u4.2.2.1 cI (fun _ => 1) (fun _ => 0) (fun _ => 0) (fun _ => 0) (fun _ => 0) 0 0 (fun _ => 0) (fun _ => 0) (fun _ => 0) 0 ++ (wPk u4.2.2.2.1 cI (u4.2.2.2.2.1 0) (fun _ => 0) (fun _ => 0) (fun _ => 0) (fun _ => 0) 0 (fun _ => 1) (fun _ => 1) 0 false ++ (wBx u4.2.2.2.2.1 cI (fun _ => 0) ++ (wLd u4.2.2.2.2.2.1 cI (fun _ => 0) (fun _ => 0) 0 (fun _ => 0) 0 ++ (wRl u4.2.2.2.2.2.2.1 cI (fun _ => 0) (fun _ => 0) (fun _ => 0) (fun _ => 0) (fun _ => 0) (fun _ => 0) (fun _ => 0) (fun _ => 0) (fun _ => 0) (fun _ => 0) 0 ++ (wRl u4.2.2.2.2.2.2.2 cI (fun _ => 0) (fun _ => 0) (fun _ => 0) (fun _ => 0) (fun _ => 0) (fun _ => 0) (fun _ => 0) (fun _ => 0) (fun _ => 0) (fun _ => 0) 0 ++ ([(q8, .inr (6, [.null, .int (nI (0)), .null, .null, .null, .null, .int (nI (0)), .null, .null, .null, .null, .null, .null, .null, .null, .null, .null, .int (nI (0)), .null, .null, .null, .null, .null, .null, .int (nI (0)), .null, .null, .null, .null, .int (nI (0)), .null, .int (nI (0)), .null, .null, .null, .int (nI (0)), .int (nI (0)), .null, .null, .null, .int (nI (0)), .int (nI (0)), .int (nI (0)), .null, .int (nI (0)), .int (nI (0))]))])))))))))) rfl ?_
  refine wk_dup (pc := 11) S_ d_Lw_law_11 rfl ?_
  refine wk_run (pc := 12) (rest := [.ref (q8)]) (wr := (wPL u4.1 cI (u4.2.1 0) (u4.2.2.1 0) (u4.2.2.2.1 0) (u4.2.2.2.2.2.1 0) (u4.2.2.2.2.2.2.1 0) (u4.2.2.2.2.2.2.2 0) false ++ (wTx u4.2.1 cI (zA z) (fun _ => 0) (fun _ => 0) 0 0 0 0 ++ (wSt u4.2.2.1 cI (fun _ => 1) (fun _ => 0) (fun _ => 0) (fun _ => 0) (fun _ => 0) 0 0 (fun _ => 0) (fun _ => 0) (fun _ => 0) 0 ++ (wPk u4.2.2.2.1 cI (u4.2.2.2.2.1 0) (fun _ => 0) (fun _ => 0) (fun _ => 0) (fun _ => 0) 0 (fun _ => 1) (fun _ => 1) 0 false ++ (wBx u4.2.2.2.2.1 cI (fun _ => 0) ++ (wLd u4.2.2.2.2.2.1 cI (fun _ => 0) (fun _ => 0) 0 (fun _ => 0) 0 ++ (wRl u4.2.2.2.2.2.2.1 cI (fun _ => 0) (fun _ => 0) (fun _ => 0) (fun _ => 0) (fun _ => 0) (fun _ => 0) (fun _ => 0) (fun _ => 0) (fun _ => 0) (fun _ => 0) 0 ++ (wRl u4.2.2.2.2.2.2.2 cI (fun _ => 0) (fun _ => 0) (fun _ => 0) (fun _ => 0) (fun _ => 0) (fun _ => 0) (fun _ => 0) (fun _ => 0) (fun _ => 0) (fun _ => 0) 0))))))))) (wN := fun u12 => (wPL u4.1 cI (u4.2.1 0) (u4.2.2.1 0) (u4.2.2.2.1 0) (u4.2.2.2.2.2.1 0) (u4.2.2.2.2.2.2.1 0) (u4.2.2.2.2.2.2.2 0) false ++ (wTx u4.2.1 cI (zA z) (fun _ => 0) (fun _ => 0) 0 0 0 0 ++ (wSt u4.2.2.1 cI (fun _ => 1) (fun _ => 0) (fun _ => 0) (fun _ => 0) (fun _ => 0) 0 0 (fun _ => 0) (fun _ => 0) (fun _ => 0) 0 ++ (wPk u4.2.2.2.1 cI (u4.2.2.2.2.1 0) (fun _ => 0) (fun _ => 0) (fun _ => 0) (fun _ => 0) 0 (fun _ => 1) (fun _ => 1) 0 false ++ (wBx u4.2.2.2.2.1 cI (fun _ => 0) ++ (wLd u4.2.2.2.2.2.1 cI (fun _ => 0) (fun _ => 0) 0 (fun _ => 0) 0 ++ (wRl u4.2.2.2.2.2.2.1 cI (fun _ => 0) (fun _ => 0) (fun _ => 0) (fun _ => 0) (fun _ => 0) (fun _ => 0) (fun _ => 0) (fun _ => 0) (fun _ => 0) (fun _ => 0) 0 ++ (wRl u4.2.2.2.2.2.2.2 cI (fun _ => 0) (fun _ => 0) (fun _ => 0) (fun _ => 0) (fun _ => 0) (fun _ => 0) (fun _ => 0) (fun _ => 0) (fun _ => 0) (fun _ => 0) 0 ++ (wMd u12 cI (fun _ => 0) 0 (fun _ => false) (fun _ => 0) (fun _ => 0) (fun _ => 0) 0 (fun _ => 0) (fun _ => 0) (fun _ => 0) (fun _ => 0) (fun _ => 0) (fun _ => 0) (fun _ => false) (fun _ => 0) (fun _ => 0) (fun _ => 0) 0 (fun _ => 0) (fun _ => 0) (fun _ => 0) (fun _ => 0) (fun _ => 0) (fun _ => 0) 0 (fun _ => 1) (fun _ => 0) (fun _ => 0) (fun _ => false) 0 (fun _ => 0) 0 (fun _ => 0) (fun _ => 0) (fun _ => 0) false false (fun _ => 0) (fun _ => 1) (fun _ => 0) 0 0 0 (fun _ => 1) 0 0)))))))))) S_ (wk_rI (ret := none) S_ (c_Md_init l D cI z (q8)) mv_Lw_12 rfl rfl (Nat.le_of_ble_eq_true rfl) (by rw [hR_]; decide) (by rw [hR_]; decide) d_Lw_law_12) [47] [0, 1, 2, 3, 4, 5, 6, 7, 8, 9, 10, 11, 12, 13, 14, 15, 16, 17, 18, 19, 20, 21, 22, 23, 24, 25, 26, 27, 28, 29, 30, 31, 32, 33, 34, 35, 36, 37, 38, 39, 40, 41, 42, 43, 44, 45, 46] [0, 1, 2, 3, 4, 5, 6, 7, 8, 9, 10, 11, 12, 13, 14, 15, 16, 17, 18, 19, 20, 21, 22, 23, 24, 25, 26, 27, 28, 29, 30, 31, 32, 33, 34, 35, 36, 37, 38, 39, 40, 41, 42, 43, 44, 45, 46, 47, 48, 49, 50, 51, 52, 53, 54, 55, 56, 57, 58, 59, 60, 61, 62, 63, 64, 65, 66, 67, 68, 69, 70, 71, 72, 73, 74, 75, 76, 77, 78, 79, 80] rfl rfl rfl (by decide) (by decide) (by decide) (by decide) (fun _ => rfl) (fun _ => rfl) (fun r12 u12 hw12 => ?_)
  refine wk_st (st' := [.ref (q8)]) rfl ?_
  subst hw12
  refine wk_astore_n (pc := 15) (lv' := [(2, .ref (u12 0)), (1, .ref (u4.1 0)), (0, .ref (b))]) S_ d_Lw_law_15 rfl (by decide) rfl ?_
  refine wk_iconst (pc := 16) (v := (nI (0))) S_ d_Lw_law_16 (by decide) ?_
  refine wk_istore_n (pc := 17) (lv' := [(3, .int (nI (0))), (2, .ref (u12 0)), (1, .ref (u4.1 0)), (0, .ref (b))]) S_ d_Lw_law_17 rfl (by decide) rfl ?_
  refine wk_wd (k := 81) (n := 4534) (by decide) (by decide) ?_
  refine wk_lv [3, 2, 1, 0] ?_ (law_loop hR_ S_ hX_ hbl_ hbA_ hL hF_ (L + 6) 0 (by omega) (by omega) (u4.1) (u4.2.1) (u4.2.2.1) (u4.2.2.2.1) (u4.2.2.2.2.1) (u4.2.2.2.2.2.1) (u4.2.2.2.2.2.2.1) (u4.2.2.2.2.2.2.2) (u12) (false) (fun _ => 0) (fun _ => 0) (0) (fun _ => 1) (fun _ => 0) (fun _ => 0) (fun _ => 0) (fun _ => 0) (0) (0) (fun _ => 0) (fun _ => 0) (fun _ => 0) (0) (fun _ => 0) (fun _ => 0) (fun _ => 0) (fun _ => 0) (0) (fun _ => 1) (fun _ => 1) (0) (false) (fun _ => 0) (fun _ => 0) (fun _ => 0) (0) (fun _ => 0) (0) ((fun _ => 0, fun _ => 0, fun _ => 0, fun _ => 0, 0, fun _ => 0, fun _ => 0, fun _ => 0, fun _ => 0, fun _ => 0, fun _ => 0)) ((fun _ => 0, fun _ => 0, fun _ => 0, fun _ => 0, 0, fun _ => 0, fun _ => 0, fun _ => 0, fun _ => 0, fun _ => 0, fun _ => 0)) ((fun _ => false, fun _ => 0, fun _ => 0, fun _ => 0, 0, fun _ => 0, fun _ => 0, fun _ => 0, fun _ => 0, fun _ => 0, fun _ => 0)) (fun _ => false) (fun _ => 0) (fun _ => 0) (fun _ => 0) (0) (fun _ => 0) (fun _ => 0) (fun _ => 0) (fun _ => 0) (fun _ => 0) (fun _ => 0) (fun _ => false) (fun _ => 0) (false) (fun _ => 1) (fun _ => 0) (0) (0) (0) (fun _ => 1) (0) (0) ⟨by decide, fun _ => Nat.zero_lt_succ _⟩ ⟨by decide, fun _ => Nat.zero_le _, fun _ => (by decide : 1 ≤ 9), fun _ => Nat.zero_le _⟩ ⟨by decide, fun _ => Nat.zero_le _, fun _ => Nat.zero_le _, fun _ => Nat.zero_le _⟩ ⟨fun _ => Nat.zero_le _, fun _ => (by decide : 0 < 8), ⟨fun b hb => absurd hb (Nat.not_lt_zero b), fun k hk => absurd hk (Nat.not_lt_zero k)⟩, fun b _ => ⟨rfl, rfl⟩, rfl⟩ ⟨fun _ => Nat.zero_le _, fun b hb => absurd rfl hb, fun _ _ => rfl⟩ rfl ⟨⟨fun a b _ _ => Nat.zero_testBit b, rfl, rfl, rfl, rfl, rfl, fun c _ i hi => absurd hi (Nat.not_lt_zero i), rfl, fun c _ i hi => absurd hi (Nat.not_lt_zero i), rfl⟩, ⟨⟨fun _ => Nat.zero_le _, fun _ => Nat.zero_le _, fun _ => Nat.zero_le _⟩, fun _ => Nat.zero_le _, fun _ => Nat.zero_le _, fun _ => Nat.zero_le _, Nat.zero_le _, fun _ => Nat.zero_le _⟩, ⟨fun _ => Nat.zero_le _, fun _ => Nat.zero_le _, fun _ => Nat.zero_le _⟩, fun _ => Nat.zero_le _, fun _ => Nat.zero_le _⟩ ⟨fun _ => (by decide : 0 < 8), fun _ => (by decide : 0 < 8)⟩)
  rfl
set_option maxHeartbeats 4000000 in
theorem lw_walk (l : Launch) (b : Addr) (xs : List Int32) : MetFree l x (headSpec (Jvm.Cond.code x code maxLocals ret :: tables_1) room_1) (lw_P b xs) (fun _ _ _ _ _ => True) lw_Q := by
  refine MetFree.of_bodyS (code := code) (maxLocals := maxLocals) (ret := ret) (by decide) ?_ ?_
  · intro args s m h hn
    obtain ⟨meth, c, h1, h2, h3, h4, h5, h6, -, -⟩ := Cond.code_spec hn (atoms_spec (ws := Jvm.Cond.code x code maxLocals ret :: tables_1) h _ List.mem_cons_self)
    exact ⟨meth, c, h1, h2, h3, h4, h5, h6⟩
  · intro p e s m args below meth c s₁ B hml0 hP _
    obtain ⟨rfl, hx, hbd, hgv⟩ := hP
    obtain ⟨scr, harrAt, hlist, hof, hsmall⟩ := hx
    obtain ⟨hcb, hkn, -, -⟩ := State.arrayAt?_spec harrAt
    have hown : s.vm.findClass R_law = some m.cls := findClass_of_methodNamed B.named
    have hts0 : ∀ c ∈ (Jvm.Cond.code x code maxLocals ret :: tables_1), c.before #[Value.ref b] s = true := atoms_spec (ws := Jvm.Cond.code x code maxLocals ret :: tables_1) B.pre
    have hts : ∀ w ∈ lw_tbl, w.before #[Value.ref b] s = true := k2_hts_sels lw_privs (fun w hw => hts0 w (List.mem_cons_of_mem _ hw)) lw_privs_ok
    have hml : c.maxLocals = 4 := B.maxLocals_eq (hts0 _ List.mem_cons_self)
    have X₀ : Stand p l e room_1 s m #[Value.ref b] below meth c s₁ [] 0 0 := Stand.of_body B
    have hh0 : s₁.heap = s.heap := by rw [B.state]; rfl
    have hsz : scr.slots.size = xs.length := by rw [← Array.length_toList, hlist, List.length_map]
    have hval : ∀ j : Nat, j < xs.length → scr.slots[j]? = some (.int (xs.getD j 0)) := fun j hj => by
      rw [← Array.getElem?_toList, hlist]
      simp [hj]
    have hbl : b < s.heap.size := (Array.getElem?_eq_some_iff.mp hcb).1
    have hX : va_X b xs.length (fun j => xs.getD j 0) s s.heap := ⟨scr, hcb, hof, hkn, hsz, hval⟩
    have K : W p l e room_1 s m #[Value.ref b] below meth c s₁.heap [] 0 0 (lw_Z below #[Value.ref b] s) (entryFrame m ([Value.ref b] : List Value).toArray 4) := by
      rw [hh0]
      exact whole_start l hbd ⟨B.exec, B.bytes, B.returns, hml, hown, hts, hX, hbl, B.notSynchronized, hgv⟩
    obtain ⟨t, a1, o, b1, b2, b3⟩ := K s₁ rfl X₀
    exact ⟨t, o, a1, b1, b2, b3⟩
theorem lw_pre_spec {args : Array Value} {s : State} (h : (Jvm.Cond.and given_1 narrow_1).before args s = true) (hr : rest_1_c.before args s = true) : ∃ (b : Addr) (xs : List Int32), lw_P b xs args s := by
  have hs := flat_of_before _ h
  have hq := flat_of_before _ hr
  have hc : (Cond.count 1).before args s = true := hs _ (by decide +kernel)
  have harr : (Cond.arrayOf (.arg 0) .int).before args s = true := hs _ (by decide +kernel)
  have hle : (Cond.le (.length (.arg 0)) (.int 2560)).before args s = true := hs _ (by decide +kernel)
  have hlen : (Cond.isInt (.length (.arg 0))).before args s = true := hq _ (by decide +kernel)
  have hall : (Cond.all (.arg 0) (.isInt (.elem (.arg 0) (.index 0)))).before args s = true := hq _ (by decide +kernel)
  obtain ⟨b, xs, hb, hx⟩ := State.ints_of_pre rfl harr hlen hall
  have hsm : xs.length < 2 ^ 31 := hx.choose_spec.2.2.2
  have hev : (Term.length (.arg 0)).eval args s none [] s = some (.int xs.length.toInt32) := hx.length_eval hb
  have hv := Cond.le_ints hev (show (Term.int 2560).eval args s none [] s = some (.int 2560) from rfl)
  have hd : xs.length.toInt32 ≤ 2560 := by
    simpa [Cond.before, Cond.holds, hv] using hle
  have hN : xs.length ≤ 2560 := (Int32.ofNat_le_ofNat hsm (by decide)).mp (show Int32.ofNat xs.length ≤ Int32.ofNat 2560 from hd)
  exact ⟨b, xs, Cond.one_arg hc (show args[0]? = some (.ref b) from hb), hx, hN, h⟩
theorem lw_comes (l : Launch) : Comes l x (Jvm.Cond.code x code maxLocals ret :: tables_1) room_1 (fun tb e args s => Calls_1 tb e args s ∧ rest_1 tb e args s ∧ Pre_1 tb e args s)
    (fun _ _ args s o t => lw_Q args s o t) := by
  intro p e ha hc hk s m args below hf hfit hheap happ hpre
  obtain ⟨b, xs, hP⟩ := lw_pre_spec hpre.2.2 hpre.2.1
  obtain ⟨k, o, h1, h2, h3, hQ⟩ := lw_walk l b xs p e ha hc hk s m args below hf ((Spec.applies_iff_loose hf).mp happ).1 hP trivial
  exact ⟨k, o, h1, h2, h3, hQ⟩
theorem lw_frame {s t : State} {o : Outcome} {args : Array Value} (h : Framed s o t [] 600000 7302250) :
    Framed s o t (fieldLocs frame_1_writes args s ++ arrayLocs frame_1_arrays args s ++ staticLocs frame_1_statics s) 600000 7302250 := h
theorem lw_limb (L : Cond) (hL : ∀ (args : Array Value) (s t : State), L.after args s (.returned (some (.int 1))) t = true) :
    ArmFor flags0 classFile x code maxLocals ret World_1 tables_1 room_1 Calls_1 rest_1 Pre_1
      (fun tb e a s o t => postC L tb e a s o t ∧ Framed s o t (fieldLocs frame_1_writes a s ++ arrayLocs frame_1_arrays a s ++ staticLocs frame_1_statics s) 600000 7302250) := by
  intro l _ _ _ p e ha hc hk s m args below hf hfit hheap happ hpre
  obtain ⟨k, o, h1, h2, h3, rfl, hF⟩ := lw_comes l p e ha hc hk s m args below hf hfit hheap happ hpre
  exact ⟨k, _, h1, h2, h3, hL args s _, lw_frame hF⟩
theorem i_vc : Claimed_1_1 ∧ Claimed_1_2 := ⟨lw_limb limb_1_1 (fun args s t => by simp [limb_1_1, Cond.after, Cond.holds, Cond.value]), lw_limb limb_1_2 (fun args s t => Cond.after_iff.mpr (by
  first | (rw [show limb_1_2 = Cond.eq .result (.int 1) from rfl, Cond.eq_ints (x := 1) (y := 1) rfl rfl]; simp; done) | (simp [limb_1_2, Cond.value, Term.eval]; done)))⟩
