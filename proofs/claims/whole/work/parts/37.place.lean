theorem zcpy (f g : Nat → Nat) (sp dp n : Nat) : va_cpy (zF f) (zF g) sp dp n = zF (va_cpy f g sp dp n) := by
  funext k
  show (if dp ≤ k ∧ k < dp + n then zI (f (sp + (k - dp))) else zI (g k)) = zI (if dp ≤ k ∧ k < dp + n then f (sp + (k - dp)) else g k)
  by_cases c : dp ≤ k ∧ k < dp + n
  · rw [if_pos c, if_pos c]
  · rw [if_neg c, if_neg c]
theorem wk_copyY {p : Program} {l : Launch} {e : Env} {R : Room} {s : State} {m : MethodId} {args : Array Value} {below : List Frame} {meth : Method} {c : Code} {Q : State → Prop} {D : va_G} {A : Nat → Prop} {nL cells slots : Nat} {cc : ByteArray} {own : String} {tys : List (ClassId × FieldType)} {gx : (Nat → Prop) → State → Heap → Prop} {ws ws' : va_W} {pc : Nat} {lv : List (Nat × Value)} {rest : List Value} {a : Nat}
    (S : wk_S p s m args c D A nL cc own tys gx) {idx : Nat} (q0 q1 t0 : Nat) {a0 : Nat} {cA : ClassId} {n0 n1 sp dp n : Nat} {f g : Nat → Nat} (hlink : Cond.methodLink own idx arraycopyName ∈ lw_gd) (hnat : Cond.native arraycopyName ∈ lw_gd) (hstat : Cond.static arraycopyName ∈ lw_gd) (hini : Cond.initialized "java/lang/System" ∈ lw_gd) (ha0 : ws[q0]? = some (a0, .inl (cA, n0, .inl (zF f)))) (ha1 : ws[q1]? = some (a, .inl (cA, n1, .inl (zF g)))) (ht : tys[t0]? = some (cA, .int)) (h4 : sp + n ≤ n0) (h5 : dp + n ≤ n1) (hn0 : n0 < 2 ^ 31) (hn1 : n1 < 2 ^ 31) (hfr : 1 ≤ R.frames) (hlo : (rest.map fun v => v.category).sum + (nativeFrameWords "java/lang/System" "arraycopy" 5 + 11) ≤ R.locals) (hdg : decode cc pc = .ok (.invokestatic idx, 3)) (hw : ws.set q1 (a, .inl (cA, n1, .inl (zF (va_cpy f g sp dp n)))) = ws') (kk : wk_G p l e R s m args below meth c Q D A nL cells slots ws' (pc + 3) lv (rest)) : wk_G p l e R s m args below meth c Q D A nL cells slots ws (pc) lv (.int (nI n) :: .int (nI dp) :: .ref a :: .int (nI sp) :: .ref a0 :: rest) :=
  wk_copy S q0 q1 t0 hlink hnat hstat hini ha0 ha1 ht h4 h5 hn0 hn1 hfr hlo hdg (by rw [zcpy]; exact hw) kk
def fitB (ap cl gr bg bb ab gi bi ki : Nat → Nat) (j x : Nat) : Bool := decide (bi x < bb x ∧ ab x + gi x + gr j ≤ bg x ∧ ki x &&& ap (cl j - 1) = 0)
abbrev PcT : Type := (Nat → Nat) × (Nat → Nat) × Nat
/-- how many boxes are in use with the box x -/
def ndF (bi : Nat → Nat) (u x : Nat) : Nat := if bi x = 0 then u + 1 else u
theorem ndF_le (bi : Nat → Nat) (u x : Nat) : ndF bi u x ≤ u + 1 := by unfold ndF; split <;> omega
/-- the boxes from x on, m of them, for the bottle j -/
def pcX (F : (Nat → Nat) → (Nat → Nat) → (Nat → Nat) → PcT → Nat → PcT) (fit : (Nat → Nat) → (Nat → Nat) → (Nat → Nat) → Nat → Bool) (j g c : Nat) (gi bi ki : Nat → Nat) (u : Nat) : Nat → Nat → PcT → PcT
  | 0, _, q => q
  | m + 1, x, q => pcX F fit j g c gi bi ki u m (x + 1) (if ndF bi u x < q.2.2 ∧ fit gi bi ki x = true then F (va_up gi x (gi x + g)) (va_up bi x (bi x + 1)) (va_up ki x (ki x ||| 2 ^ (c - 1))) (va_up q.1 j (x + 1), q.2.1, q.2.2) (ndF bi u x) else q)
/-- the queue from the depth d on, r bottles: what was tried, the best, the fewest boxes -/
def pcF (ap cl gr bg bb ab qu : Nat → Nat) (nx : Nat) : Nat → Nat → (Nat → Nat) → (Nat → Nat) → (Nat → Nat) → PcT → Nat → PcT
  | 0, _, _, _, _, q, u => (q.1, va_cpy q.1 q.2.1 0 0 8, u)
  | r + 1, d, gi, bi, ki, q, u => pcX (pcF ap cl gr bg bb ab qu nx r (d + 1)) (fun gi bi ki x => fitB ap cl gr bg bb ab gi bi ki (qu d) x) (qu d) (gr (qu d)) (cl (qu d)) gi bi ki u nx 0 q
theorem up_back (f : Nat → Nat) (x v w : Nat) (h : w = f x) : va_up (va_up f x v) x w = f := by
  funext k
  unfold va_up
  split
  · rename_i e; rw [e, h]
  · rfl
theorem or512 {a c : Nat} (h : a < 512) (hc : c ≤ 9) (h0 : c ≠ 0) : a ||| 2 ^ (c - 1) < 512 := by
  show _ < 2 ^ 9
  exact Nat.or_lt_two_pow h (Nat.pow_lt_pow_right (by decide) (by omega))
/-- the fewest never grow above what they were, and a number of boxes is at most five -/
theorem up_le {f : Nat → Nat} {a v M : Nat} (hf : ∀ x, f x ≤ M) (hv : v ≤ M) : ∀ x, va_up f a v x ≤ M := fun x => by
  unfold va_up
  split
  · exact hv
  · exact hf x
theorem pcX_le {F : (Nat → Nat) → (Nat → Nat) → (Nat → Nat) → PcT → Nat → PcT} {fit : (Nat → Nat) → (Nat → Nat) → (Nat → Nat) → Nat → Bool} {j g c : Nat} {gi bi ki : Nat → Nat} {u : Nat} (hF : ∀ gi bi ki q nd, q.2.2 ≤ 8 → nd ≤ u + 1 → (F gi bi ki q nd).2.2 ≤ 8) : ∀ m x q, q.2.2 ≤ 8 → (pcX F fit j g c gi bi ki u m x q).2.2 ≤ 8
  | 0, _, _, h => h
  | m + 1, x, q, h => by
    rw [pcX]
    refine pcX_le hF m (x + 1) _ ?_
    split
    · exact hF _ _ _ _ _ h (ndF_le _ _ _)
    · exact h
theorem pcF_le {ap cl gr bg bb ab qu : Nat → Nat} {nx : Nat} : ∀ r d gi bi ki q u, q.2.2 ≤ 8 → u + r ≤ 8 → (pcF ap cl gr bg bb ab qu nx r d gi bi ki q u).2.2 ≤ 8
  | 0, _, _, _, _, _, u, _, h => by
    show u ≤ 8
    omega
  | r + 1, d, gi, bi, ki, q, u, h, hu => by
    rw [pcF]
    exact pcX_le (fun gi2 bi2 ki2 q2 nd h1 h2 => pcF_le r (d + 1) gi2 bi2 ki2 q2 nd h1 (by omega)) nx 0 q h
theorem fl_Pk_55 : Cond.fieldLink R_Pk 55 R_Pk "fewest" "I" ∈ lw_gd := (gd _ (tb0 _ (List.mem_of_getElem? (i := 126) rfl)) rfl)
theorem fl_Pk_27 : Cond.fieldLink R_Pk 27 R_Pk "best" "[I" ∈ lw_gd := (gd _ (tb0 _ (List.mem_of_getElem? (i := 125) rfl)) rfl)
theorem ml_Pk_66 : Cond.methodLink R_Pk 66 arraycopyName ∈ lw_gd := (gd _ (tb1 _ (List.mem_of_getElem? (i := 235) rfl)) rfl)
theorem fl_Pk_21 : Cond.fieldLink R_Pk 21 R_Pk "queue" "[I" ∈ lw_gd := (gd _ (tb0 _ (List.mem_of_getElem? (i := 122) rfl)) rfl)
theorem fl_Pk_43 : Cond.fieldLink R_Pk 43 R_St "boxes" "I" ∈ lw_gd := (gd _ (tb0 _ (List.mem_of_getElem? (i := 84) rfl)) rfl)
theorem mv_Pk_83 : wk_V R_Pk 83 R_Pk y_Pk_fits b_Pk_fits 6 (some .boolean) 4 := ⟨(gd _ (tb1 _ (List.mem_of_getElem? (i := 231) rfl)) rfl), (gd _ (tb0 _ (List.mem_of_getElem? (i := 4) rfl)) rfl), (gd _ (tb1 _ (List.mem_of_getElem? (i := 228) rfl)) rfl), (by decide +kernel), (gd _ (tb1 _ (List.mem_of_getElem? (i := 230) rfl)) rfl), (gd _ (List.mem_append_left _ (by decide +kernel)) rfl)⟩
theorem mv_Pk_87 : wk_V R_Pk 87 R_Pk y_Pk_putIn b_Pk_putIn 4 none 3 := ⟨(gd _ (tb2 _ (List.mem_of_getElem? (i := 1) rfl)) rfl), (gd _ (tb0 _ (List.mem_of_getElem? (i := 4) rfl)) rfl), (gd _ (tb1 _ (List.mem_of_getElem? (i := 238) rfl)) rfl), (by decide +kernel), (gd _ (tb2 _ (List.mem_of_getElem? (i := 0) rfl)) rfl), (gd _ (List.mem_append_left _ (by decide +kernel)) rfl)⟩
theorem mv_Pk_62 : wk_T R_Pk 62 y_Pk_place b_Pk_place 9 none 5 := ⟨(gd _ (tb1 _ (List.mem_of_getElem? (i := 234) rfl)) rfl), (gd _ (tb0 _ (List.mem_of_getElem? (i := 4) rfl)) rfl), (gd _ (tb1 _ (List.mem_of_getElem? (i := 232) rfl)) rfl), (by decide +kernel), (gd _ (tb1 _ (List.mem_of_getElem? (i := 233) rfl)) rfl)⟩
theorem mv_Pk_94 : wk_V R_Pk 94 R_Pk y_Pk_takeOut b_Pk_takeOut 5 none 4 := ⟨(gd _ (tb2 _ (List.mem_of_getElem? (i := 5) rfl)) rfl), (gd _ (tb0 _ (List.mem_of_getElem? (i := 4) rfl)) rfl), (gd _ (tb2 _ (List.mem_of_getElem? (i := 2) rfl)) rfl), (by decide +kernel), (gd _ (tb2 _ (List.mem_of_getElem? (i := 4) rfl)) rfl), (gd _ (List.mem_append_left _ (by decide +kernel)) rfl)⟩
theorem d_Pk_place_0 : decode b_Pk_place 0 = .ok (.iload_n 3, 1) := by decide +kernel
theorem d_Pk_place_1 : decode b_Pk_place 1 = .ok (.aload_n 0, 1) := by decide +kernel
theorem d_Pk_place_2 : decode b_Pk_place 2 = .ok (.getfield 91, 3) := by decide +kernel
theorem d_Pk_place_5 : decode b_Pk_place 5 = .ok (.if_icmp .lt 25, 3) := by decide +kernel
theorem d_Pk_place_8 : decode b_Pk_place 8 = .ok (.aload_n 0, 1) := by decide +kernel
theorem d_Pk_place_9 : decode b_Pk_place 9 = .ok (.iload 4, 2) := by decide +kernel
theorem d_Pk_place_11 : decode b_Pk_place 11 = .ok (.putfield 55, 3) := by decide +kernel
theorem d_Pk_place_14 : decode b_Pk_place 14 = .ok (.aload_n 0, 1) := by decide +kernel
theorem d_Pk_place_15 : decode b_Pk_place 15 = .ok (.getfield 24, 3) := by decide +kernel
theorem d_Pk_place_18 : decode b_Pk_place 18 = .ok (.iconst 0, 1) := by decide +kernel
theorem d_Pk_place_19 : decode b_Pk_place 19 = .ok (.aload_n 0, 1) := by decide +kernel
theorem d_Pk_place_20 : decode b_Pk_place 20 = .ok (.getfield 27, 3) := by decide +kernel
theorem d_Pk_place_23 : decode b_Pk_place 23 = .ok (.iconst 0, 1) := by decide +kernel
theorem d_Pk_place_24 : decode b_Pk_place 24 = .ok (.bipush 8, 2) := by decide +kernel
theorem d_Pk_place_26 : decode b_Pk_place 26 = .ok (.invokestatic 66, 3) := by decide +kernel
theorem d_Pk_place_29 : decode b_Pk_place 29 = .ok (.return_, 1) := by decide +kernel
theorem d_Pk_place_30 : decode b_Pk_place 30 = .ok (.aload_n 0, 1) := by decide +kernel
theorem d_Pk_place_31 : decode b_Pk_place 31 = .ok (.getfield 21, 3) := by decide +kernel
theorem d_Pk_place_34 : decode b_Pk_place 34 = .ok (.iload_n 3, 1) := by decide +kernel
theorem d_Pk_place_35 : decode b_Pk_place 35 = .ok (.iaload, 1) := by decide +kernel
theorem d_Pk_place_36 : decode b_Pk_place 36 = .ok (.istore 5, 2) := by decide +kernel
theorem d_Pk_place_38 : decode b_Pk_place 38 = .ok (.iconst 0, 1) := by decide +kernel
theorem d_Pk_place_39 : decode b_Pk_place 39 = .ok (.istore 6, 2) := by decide +kernel
theorem d_Pk_place_41 : decode b_Pk_place 41 = .ok (.iload 6, 2) := by decide +kernel
theorem d_Pk_place_43 : decode b_Pk_place 43 = .ok (.aload_n 1, 1) := by decide +kernel
theorem d_Pk_place_44 : decode b_Pk_place 44 = .ok (.getfield 43, 3) := by decide +kernel
theorem d_Pk_place_47 : decode b_Pk_place 47 = .ok (.if_icmp .ge 92, 3) := by decide +kernel
theorem d_Pk_place_50 : decode b_Pk_place 50 = .ok (.aload_n 0, 1) := by decide +kernel
theorem d_Pk_place_51 : decode b_Pk_place 51 = .ok (.getfield 15, 3) := by decide +kernel
theorem d_Pk_place_54 : decode b_Pk_place 54 = .ok (.iload 6, 2) := by decide +kernel
theorem d_Pk_place_56 : decode b_Pk_place 56 = .ok (.iaload, 1) := by decide +kernel
theorem d_Pk_place_57 : decode b_Pk_place 57 = .ok (.ifCond .ne 10, 3) := by decide +kernel
theorem d_Pk_place_60 : decode b_Pk_place 60 = .ok (.iload 4, 2) := by decide +kernel
theorem d_Pk_place_62 : decode b_Pk_place 62 = .ok (.iconst 1, 1) := by decide +kernel
theorem d_Pk_place_63 : decode b_Pk_place 63 = .ok (.iadd, 1) := by decide +kernel
theorem d_Pk_place_64 : decode b_Pk_place 64 = .ok (.goto 5, 3) := by decide +kernel
theorem d_Pk_place_67 : decode b_Pk_place 67 = .ok (.iload 4, 2) := by decide +kernel
theorem d_Pk_place_69 : decode b_Pk_place 69 = .ok (.istore 7, 2) := by decide +kernel
theorem d_Pk_place_71 : decode b_Pk_place 71 = .ok (.iload 7, 2) := by decide +kernel
theorem d_Pk_place_73 : decode b_Pk_place 73 = .ok (.aload_n 0, 1) := by decide +kernel
theorem d_Pk_place_74 : decode b_Pk_place 74 = .ok (.getfield 55, 3) := by decide +kernel
theorem d_Pk_place_77 : decode b_Pk_place 77 = .ok (.if_icmp .ge 56, 3) := by decide +kernel
theorem d_Pk_place_80 : decode b_Pk_place 80 = .ok (.aload_n 0, 1) := by decide +kernel
theorem d_Pk_place_81 : decode b_Pk_place 81 = .ok (.aload_n 1, 1) := by decide +kernel
theorem d_Pk_place_82 : decode b_Pk_place 82 = .ok (.aload_n 2, 1) := by decide +kernel
theorem d_Pk_place_83 : decode b_Pk_place 83 = .ok (.iload 5, 2) := by decide +kernel
theorem d_Pk_place_85 : decode b_Pk_place 85 = .ok (.iload 6, 2) := by decide +kernel
theorem d_Pk_place_87 : decode b_Pk_place 87 = .ok (.invokevirtual 83, 3) := by decide +kernel
theorem d_Pk_place_90 : decode b_Pk_place 90 = .ok (.ifCond .eq 43, 3) := by decide +kernel
theorem d_Pk_place_93 : decode b_Pk_place 93 = .ok (.aload_n 0, 1) := by decide +kernel
theorem d_Pk_place_94 : decode b_Pk_place 94 = .ok (.getfield 18, 3) := by decide +kernel
theorem d_Pk_place_97 : decode b_Pk_place 97 = .ok (.iload 6, 2) := by decide +kernel
theorem d_Pk_place_99 : decode b_Pk_place 99 = .ok (.iaload, 1) := by decide +kernel
theorem d_Pk_place_100 : decode b_Pk_place 100 = .ok (.istore 8, 2) := by decide +kernel
theorem d_Pk_place_102 : decode b_Pk_place 102 = .ok (.aload_n 0, 1) := by decide +kernel
theorem d_Pk_place_103 : decode b_Pk_place 103 = .ok (.aload_n 1, 1) := by decide +kernel
theorem d_Pk_place_104 : decode b_Pk_place 104 = .ok (.iload 5, 2) := by decide +kernel
theorem d_Pk_place_106 : decode b_Pk_place 106 = .ok (.iload 6, 2) := by decide +kernel
theorem d_Pk_place_108 : decode b_Pk_place 108 = .ok (.invokevirtual 87, 3) := by decide +kernel
theorem d_Pk_place_111 : decode b_Pk_place 111 = .ok (.aload_n 0, 1) := by decide +kernel
theorem d_Pk_place_112 : decode b_Pk_place 112 = .ok (.aload_n 1, 1) := by decide +kernel
theorem d_Pk_place_113 : decode b_Pk_place 113 = .ok (.aload_n 2, 1) := by decide +kernel
theorem d_Pk_place_114 : decode b_Pk_place 114 = .ok (.iload_n 3, 1) := by decide +kernel
theorem d_Pk_place_115 : decode b_Pk_place 115 = .ok (.iconst 1, 1) := by decide +kernel
theorem d_Pk_place_116 : decode b_Pk_place 116 = .ok (.iadd, 1) := by decide +kernel
theorem d_Pk_place_117 : decode b_Pk_place 117 = .ok (.iload 7, 2) := by decide +kernel
theorem d_Pk_place_119 : decode b_Pk_place 119 = .ok (.invokestatic 62, 3) := by decide +kernel
theorem d_Pk_place_122 : decode b_Pk_place 122 = .ok (.aload_n 0, 1) := by decide +kernel
theorem d_Pk_place_123 : decode b_Pk_place 123 = .ok (.aload_n 1, 1) := by decide +kernel
theorem d_Pk_place_124 : decode b_Pk_place 124 = .ok (.iload 5, 2) := by decide +kernel
theorem d_Pk_place_126 : decode b_Pk_place 126 = .ok (.iload 6, 2) := by decide +kernel
theorem d_Pk_place_128 : decode b_Pk_place 128 = .ok (.iload 8, 2) := by decide +kernel
theorem d_Pk_place_130 : decode b_Pk_place 130 = .ok (.invokevirtual 94, 3) := by decide +kernel
theorem d_Pk_place_133 : decode b_Pk_place 133 = .ok (.iinc 6 1, 3) := by decide +kernel
theorem d_Pk_place_136 : decode b_Pk_place 136 = .ok (.goto (-95), 3) := by decide +kernel
theorem d_Pk_place_139 : decode b_Pk_place 139 = .ok (.return_, 1) := by decide +kernel
set_option maxHeartbeats 4000000 in
set_option maxRecDepth 100000 in
theorem c_Pk_place (l : Launch) (D : va_G) (cI : CiT) (z : GzT) : ∀ (n : Nat), ∀ (k : Nat → Nat) (s : Nat → Nat) (w : Nat → Nat) (b : Nat → Nat) (gi : (Nat → Nat)) (bi : (Nat → Nat)) (ki : (Nat → Nat)) (qu : (Nat → Nat)) (wt : Nat) (tr : (Nat → Nat)) (be : (Nat → Nat)) (fw : Nat) (fd : Bool) (cl : (Nat → Nat)) (gr : (Nat → Nat)) (sp : (Nat → Nat)) (rs : (Nat → Nat)) (aw : (Nat → Nat)) (nb : Nat) (na : Nat) (bg : (Nat → Nat)) (bb : (Nat → Nat)) (ab : (Nat → Nat)) (nx : Nat) (ap : (Nat → Nat)) (pt : (Nat → Nat)) (rk : (Nat → Nat)) (cd : (Nat → Nat)) (mc : (Nat → Nat)) (mg : (Nat → Nat)) (mz : (Nat → Nat)) (nc : (Nat → Nat)) (nt : (Nat → Nat)) (oc : (Nat → Nat)) (fr : Nat) (d : Nat) (u0 : Nat), (d + n = wt) → (wt ≤ 8) → (nx ≤ 5) → (u0 ≤ d) → (fw ≤ 8) → (∀ x, gi x ≤ 100000 * d) → (∀ x, bi x ≤ d) → (∀ x, ki x < 512) → (∀ i, i < wt → qu i < 8 ∧ cl (qu i) ≠ 0) → (∀ b, cl b ≤ 9) → (∀ b, gr b ≤ 100000) → (∀ x, ab x ≤ 1000000) → (∀ x, bb x ≤ 8) → (∀ x, bg x ≤ 1000000) → wk_C l D (tyK cI) (gX z) y_Pk_place b_Pk_place 9 none (n + 1) (28 * n + 60) 0 0 [.ref (k 0), .ref (s 0), .ref (w 0), .int (nI (d)), .int (nI (u0))] (wPk k cI (b 0) gi bi ki qu wt tr be fw fd ++ (wSt s cI cl gr sp rs aw nb na bg bb ab nx ++ (wRl w cI ap pt rk cd mc mg mz nc nt oc fr))) wk_v (fun (_ : Unit) (_ : Unit) => True) (fun _ => (wPk k cI (b 0) gi bi ki qu wt ((pcF ap cl gr bg bb ab qu nx n d gi bi ki (tr, be, fw) u0).1) ((pcF ap cl gr bg bb ab qu nx n d gi bi ki (tr, be, fw) u0).2.1) ((pcF ap cl gr bg bb ab qu nx n d gi bi ki (tr, be, fw) u0).2.2) fd ++ (wSt s cI cl gr sp rs aw nb na bg bb ab nx ++ (wRl w cI ap pt rk cd mc mg mz nc nt oc fr)))) := by
  intro n
  induction n with
  | zero =>
    intro k s w b gi bi ki qu wt tr be fw fd cl gr sp rs aw nb na bg bb ab nx ap pt rk cd mc mg mz nc nt oc fr d u0 hd hwt hnx hu hfw hgi hbi hki hq hcl hgr hab hbb hbg
    refine wk_methV (own := R_Pk) [(0, .ref (k 0)), (1, .ref (s 0)), (2, .ref (w 0)), (3, .int (nI (d))), (4, .int (nI (u0)))] (by decide) rfl (Nat.le_of_ble_eq_true rfl) rfl (gX_ok z) (fun p_ e_ R_ s_ m_ ar_ be_ me_ co_ Q_ A_ hR_ S_ hnm_ hQ_ => ?_)
    refine wk_iload_n (pc := 0) S_ 3 d_Pk_place_0 rfl rfl ?_
    refine wk_aload_n (pc := 1) S_ 0 d_Pk_place_1 rfl rfl ?_
    refine wk_get (pc := 2) (v := .int (nI (wt))) S_ 3 4 0 in_Pk rfl (by decide) rfl fl_Pk_91 d_Pk_place_2 rfl rfl ?_
    refine wk_icmp_ltN (pc := 5) (tgt := 30) S_ d_Pk_place_5 (by decide) (by omega) (by omega) (fun h5 => absurd h5 (by omega)) (fun h5 => ?_)
    refine wk_aload_n (pc := 8) S_ 0 d_Pk_place_8 rfl rfl ?_
    refine wk_iload (pc := 9) S_ 4 d_Pk_place_9 rfl ?_
    refine wk_put (pc := 11) (ty := .int) (ws' := (wPk k cI (b 0) gi bi ki qu wt tr be u0 fd ++ (wSt s cI cl gr sp rs aw nb na bg bb ab nx ++ (wRl w cI ap pt rk cd mc mg mz nc nt oc fr)))) S_ 3 7 0 in_Pk t_Pk t_Pk_ok n_Pk rfl (by decide) rfl fl_Pk_55 (by decide +kernel) d_Pk_place_11 rfl rfl rfl (Nat.le_of_ble_eq_true rfl) rfl ?_
    refine wk_aload_n (pc := 14) S_ 0 d_Pk_place_14 rfl rfl ?_
    refine wk_get (pc := 15) (v := .ref (k 5)) S_ 3 5 0 in_Pk rfl (by decide) rfl fl_Pk_24 d_Pk_place_15 rfl rfl ?_
    refine wk_iconst (pc := 18) (v := (nI (0))) S_ d_Pk_place_18 (by decide) ?_
    refine wk_aload_n (pc := 19) S_ 0 d_Pk_place_19 rfl rfl ?_
    refine wk_get (pc := 20) (v := .ref (k 6)) S_ 3 6 0 in_Pk rfl (by decide) rfl fl_Pk_27 d_Pk_place_20 rfl rfl ?_
    refine wk_iconst (pc := 23) (v := (nI (0))) S_ d_Pk_place_23 (by decide) ?_
    refine wk_bipush (pc := 24) (v := (nI (8))) S_ d_Pk_place_24 (by decide) ?_
    refine wk_copyY (pc := 26) (f := tr) (g := be) (ws' := (wPk k cI (b 0) gi bi ki qu wt tr (va_cpy (tr) (be) (0) (0) (8)) u0 fd ++ (wSt s cI cl gr sp rs aw nb na bg bb ab nx ++ (wRl w cI ap pt rk cd mc mg mz nc nt oc fr)))) S_ 5 6 0 ml_Pk_66 in_cpN in_cpS in_cpI rfl rfl rfl (by decide) (by decide) (by decide) (by decide) (by subst hR_; decide) (by subst hR_; decide) d_Pk_place_26 rfl ?_
    exact hQ_ () d_Pk_place_29 (by rw [pcF]) trivial
  | succ n ih =>
    intro k s w b gi bi ki qu wt tr be fw fd cl gr sp rs aw nb na bg bb ab nx ap pt rk cd mc mg mz nc nt oc fr d u0 hd hwt hnx hu hfw hgi hbi hki hq hcl hgr hab hbb hbg
    refine wk_methV (own := R_Pk) [(0, .ref (k 0)), (1, .ref (s 0)), (2, .ref (w 0)), (3, .int (nI (d))), (4, .int (nI (u0)))] (by decide) rfl (Nat.le_of_ble_eq_true rfl) rfl (gX_ok z) (fun p_ e_ R_ s_ m_ ar_ be_ me_ co_ Q_ A_ hR_ S_ hnm_ hQ_ => ?_)
    refine wk_iload_n (pc := 0) S_ 3 d_Pk_place_0 rfl rfl ?_
    refine wk_aload_n (pc := 1) S_ 0 d_Pk_place_1 rfl rfl ?_
    refine wk_get (pc := 2) (v := .int (nI (wt))) S_ 3 4 0 in_Pk rfl (by decide) rfl fl_Pk_91 d_Pk_place_2 rfl rfl ?_
    refine wk_icmp_ltN (pc := 5) (tgt := 30) S_ d_Pk_place_5 (by decide) (by omega) (by omega) (fun h5 => ?_) (fun h5 => absurd h5 (by omega))
    refine wk_aload_n (pc := 30) S_ 0 d_Pk_place_30 rfl rfl ?_
    refine wk_get (pc := 31) (v := .ref (k 4)) S_ 3 3 0 in_Pk rfl (by decide) rfl fl_Pk_21 d_Pk_place_31 rfl rfl ?_
    refine wk_iload_n (pc := 34) S_ 3 d_Pk_place_34 rfl rfl ?_
    have hqd := hq d (by omega)
    have hcd := hcl (qu d)
    have hgd := hgr (qu d)
    refine wk_ialdN (pc := 35) (g := qu) S_ 4 0 d_Pk_place_35 rfl rfl (by omega) (by decide) ?_
    refine wk_istore (pc := 36) (lv' := [(5, .int (nI ((qu) (d)))), (0, .ref (k 0)), (1, .ref (s 0)), (2, .ref (w 0)), (3, .int (nI (d))), (4, .int (nI (u0)))]) S_ d_Pk_place_36 (by decide) rfl ?_
    refine wk_iconst (pc := 38) (v := (nI (0))) S_ d_Pk_place_38 (by decide) ?_
    refine wk_istore (pc := 39) (lv' := [(6, .int (nI (0))), (5, .int (nI ((qu) (d)))), (0, .ref (k 0)), (1, .ref (s 0)), (2, .ref (w 0)), (3, .int (nI (d))), (4, .int (nI (u0)))]) S_ d_Pk_place_39 (by decide) rfl ?_
    have hL41 : ∀ (fuel41 : Nat), ∀ (mm : Nat) (x : Nat) (tr1 : Nat → Nat) (be1 : Nat → Nat) (fw1 : Nat), mm < fuel41 → (x + mm = nx) → (fw1 ≤ 8) → (pcX (pcF ap cl gr bg bb ab qu nx n (d + 1)) (fun gi bi ki x => fitB ap cl gr bg bb ab gi bi ki (qu d) x) (qu d) (gr (qu d)) (cl (qu d)) gi bi ki u0 mm x (tr1, be1, fw1) = pcX (pcF ap cl gr bg bb ab qu nx n (d + 1)) (fun gi bi ki x => fitB ap cl gr bg bb ab gi bi ki (qu d) x) (qu d) (gr (qu d)) (cl (qu d)) gi bi ki u0 nx 0 (tr, be, fw)) → wk_G p_ l e_ R_ s_ m_ ar_ be_ me_ co_ Q_ D A_ 9 0 0 (wPk k cI (b 0) gi bi ki qu wt tr1 be1 fw1 fd ++ (wSt s cI cl gr sp rs aw nb na bg bb ab nx ++ (wRl w cI ap pt rk cd mc mg mz nc nt oc fr))) 41 [(0, .ref (k 0)), (1, .ref (s 0)), (2, .ref (w 0)), (3, .int (nI (d))), (4, .int (nI (u0))), (5, .int (nI ((qu) (d)))), (6, .int (nI (x)))] [] := by
      intro fuel41
      induction fuel41 with
      | zero => intro mm x tr1 be1 fw1 hm; exact absurd hm (Nat.not_lt_zero _)
      | succ fuel41 ih41 =>
        intro mm x tr1 be1 fw1 hm hk hf1 hE
        refine wk_iload (pc := 41) S_ 6 d_Pk_place_41 rfl ?_
        refine wk_aload_n (pc := 43) S_ 1 d_Pk_place_43 rfl rfl ?_
        refine wk_get (pc := 44) (v := .int (nI (nx))) S_ 2 10 7 in_St rfl (by decide) rfl fl_Pk_43 d_Pk_place_44 rfl rfl ?_
        refine wk_icmp_geN (pc := 47) (tgt := 139) S_ d_Pk_place_47 (by decide) (by omega) (by omega) (fun h47 => ?_) (fun h47 => ?_)
        · -- taken
          exact hQ_ () d_Pk_place_139 (by rw [show pcF ap cl gr bg bb ab qu nx (n + 1) d gi bi ki (tr, be, fw) u0 = pcX (pcF ap cl gr bg bb ab qu nx n (d + 1)) (fun gi bi ki x => fitB ap cl gr bg bb ab gi bi ki (qu d) x) (qu d) (gr (qu d)) (cl (qu d)) gi bi ki u0 nx 0 (tr, be, fw) from rfl, ← hE, show mm = 0 by omega]; rfl) trivial
        · -- on
          refine wk_aload_n (pc := 50) S_ 0 d_Pk_place_50 rfl rfl ?_
          refine wk_get (pc := 51) (v := .ref (k 2)) S_ 3 1 0 in_Pk rfl (by decide) rfl fl_Pk_15 d_Pk_place_51 rfl rfl ?_
          refine wk_iload (pc := 54) S_ 6 d_Pk_place_54 rfl ?_
          refine wk_ialdN (pc := 56) (g := bi) S_ 2 0 d_Pk_place_56 rfl rfl (by omega) (by decide) ?_
          have hb1 := hbi x
          have hg1 := hgi x
          have hk1 := hki x
          have ha1 := hab x
          have hb2 := hbb x
          have hb3 := hbg x
          refine wk_if_neN (pc := 57) (tgt := 67) S_ d_Pk_place_57 (by decide) (by omega) (fun h57 => ?_) (fun h57 => ?_)
          · -- taken
            refine wk_iload (pc := 67) S_ 4 d_Pk_place_67 rfl ?_
            refine wk_top (y := (nI (ndF bi u0 x))) (congrArg nI (if_neg h57).symm) ?_
            refine wk_istore (pc := 69) (lv' := [(7, .int (nI (ndF bi u0 x))), (0, .ref (k 0)), (1, .ref (s 0)), (2, .ref (w 0)), (3, .int (nI (d))), (4, .int (nI (u0))), (5, .int (nI ((qu) (d)))), (6, .int (nI (x)))]) S_ d_Pk_place_69 (by decide) rfl ?_
            have hnl := ndF_le bi u0 x
            refine wk_iload (pc := 71) S_ 0 d_Pk_place_71 rfl ?_
            refine wk_aload_n (pc := 73) S_ 1 d_Pk_place_73 rfl rfl ?_
            refine wk_get (pc := 74) (v := .int (nI (fw1))) S_ 3 7 0 in_Pk rfl (by decide) rfl fl_Pk_55 d_Pk_place_74 rfl rfl ?_
            refine wk_icmp_geN (pc := 77) (tgt := 133) S_ d_Pk_place_77 (by decide) (by omega) (by omega) (fun h77 => ?_) (fun h77 => ?_)
            · -- taken
              refine wk_iincN (pc := 133) (d := 1) (lv' := [(6, .int (nI (x + 1))), (7, .int (nI (ndF bi u0 x))), (0, .ref (k 0)), (1, .ref (s 0)), (2, .ref (w 0)), (3, .int (nI (d))), (4, .int (nI (u0))), (5, .int (nI ((qu) (d))))]) S_ 7 d_Pk_place_133 (by decide) rfl (by decide) rfl ?_
              refine wk_goto (pc := 136) (tgt := 41) S_ d_Pk_place_136 (by decide) ?_
              refine wk_lv [2, 3, 4, 5, 6, 7, 0] ?_ (ih41 (mm - 1) (x + 1) (tr1) (be1) (fw1) (by omega) (by omega) (by omega) (by rw [← hE]; obtain ⟨r, rfl⟩ : ∃ r, mm = r + 1 := ⟨mm - 1, by omega⟩; rw [pcX, if_neg (fun y => absurd y.1 (Nat.not_lt.mpr h77))]; rfl))
              rfl
            · -- on
              refine wk_aload_n (pc := 80) S_ 1 d_Pk_place_80 rfl rfl ?_
              refine wk_aload_n (pc := 81) S_ 2 d_Pk_place_81 rfl rfl ?_
              refine wk_aload_n (pc := 82) S_ 3 d_Pk_place_82 rfl rfl ?_
              refine wk_iload (pc := 83) S_ 6 d_Pk_place_83 rfl ?_
              refine wk_iload (pc := 85) S_ 7 d_Pk_place_85 rfl ?_
              refine wk_run (pc := 87) (rest := []) (wr := []) (wN := fun _ => (wPk k cI (b 0) gi bi ki qu wt tr1 be1 fw1 fd ++ (wSt s cI cl gr sp rs aw nb na bg bb ab nx ++ (wRl w cI ap pt rk cd mc mg mz nc nt oc fr)))) S_ (wk_rV S_ (c_Pk_fits l D cI z (k) (s) (w) (b) (gi) (bi) (ki) (qu) (wt) (tr1) (be1) (fw1) (fd) (cl) (gr) (sp) (rs) (aw) (nb) (na) (bg) (bb) (ab) (nx) (ap) (pt) (rk) (cd) (mc) (mg) (mz) (nc) (nt) (oc) (fr) ((qu) (d)) (x) (by omega) (by omega) (by omega) (by omega) (by omega) (by omega) (by omega) (by omega) ⟨hqd.2, hcd⟩ (by omega)) mv_Pk_83 (wk_rcv S_ 0 3 rfl rfl rfl) rfl rfl (Nat.le_of_ble_eq_true rfl) (by subst hR_; exact ⟨by show 0 + 1 ≤ n + 1 + 1; omega, by show 8 + (6 + 11) + 0 ≤ 28 * (n + 1) + 60; omega⟩) (by subst hR_; exact ⟨Nat.le_refl _, Nat.le_refl _⟩) d_Pk_place_87) [0, 1, 2, 3, 4, 5, 6, 7, 8, 9, 10, 11, 12, 13, 14, 15, 16, 17, 18, 19, 20, 21, 22, 23, 24, 25, 26] [] [0, 1, 2, 3, 4, 5, 6, 7, 8, 9, 10, 11, 12, 13, 14, 15, 16, 17, 18, 19, 20, 21, 22, 23, 24, 25, 26] rfl rfl rfl (by decide) (by decide) (by decide) (by decide) (fun _ => rfl) (fun _ => rfl) (fun r87 _ hw87 => ?_)
              refine wk_st (st' := [.int (r87)]) rfl ?_
              refine wk_top (y := (bI (decide ((bi) (x) < (bb) (x) ∧ (ab) (x) + (gi) (x) + (gr) ((qu) (d)) ≤ (bg) (x) ∧ (ki) (x) &&& (ap) ((cl) ((qu) (d)) - 1) = 0)))) hw87 ?_
              refine wk_if_eqB (pc := 90) (tgt := 133) S_ d_Pk_place_90 (by decide) (fun h90 => ?_) (fun h90 => ?_)
              · -- taken
                refine wk_iincN (pc := 133) (d := 1) (lv' := [(6, .int (nI (x + 1))), (7, .int (nI (ndF bi u0 x))), (0, .ref (k 0)), (1, .ref (s 0)), (2, .ref (w 0)), (3, .int (nI (d))), (4, .int (nI (u0))), (5, .int (nI ((qu) (d))))]) S_ 7 d_Pk_place_133 (by decide) rfl (by decide) rfl ?_
                refine wk_goto (pc := 136) (tgt := 41) S_ d_Pk_place_136 (by decide) ?_
                refine wk_lv [2, 3, 4, 5, 6, 7, 0] ?_ (ih41 (mm - 1) (x + 1) (tr1) (be1) (fw1) (by omega) (by omega) (by omega) (by rw [← hE]; obtain ⟨r, rfl⟩ : ∃ r, mm = r + 1 := ⟨mm - 1, by omega⟩; rw [pcX, if_neg (fun y => by rw [show fitB ap cl gr bg bb ab gi bi ki (qu d) x = false from h90] at y; exact absurd y.2 (by decide))]; rfl))
                rfl
              · -- on
                refine wk_aload_n (pc := 93) S_ 1 d_Pk_place_93 rfl rfl ?_
                refine wk_get (pc := 94) (v := .ref (k 3)) S_ 3 2 0 in_Pk rfl (by decide) rfl fl_Pk_18 d_Pk_place_94 rfl rfl ?_
                refine wk_iload (pc := 97) S_ 7 d_Pk_place_97 rfl ?_
                refine wk_ialdN (pc := 99) (g := ki) S_ 3 0 d_Pk_place_99 rfl rfl (by omega) (by decide) ?_
                refine wk_istore (pc := 100) (lv' := [(8, .int (nI ((ki) (x)))), (7, .int (nI (ndF bi u0 x))), (0, .ref (k 0)), (1, .ref (s 0)), (2, .ref (w 0)), (3, .int (nI (d))), (4, .int (nI (u0))), (5, .int (nI ((qu) (d)))), (6, .int (nI (x)))]) S_ d_Pk_place_100 (by decide) rfl ?_
                refine wk_aload_n (pc := 102) S_ 2 d_Pk_place_102 rfl rfl ?_
                refine wk_aload_n (pc := 103) S_ 3 d_Pk_place_103 rfl rfl ?_
                refine wk_iload (pc := 104) S_ 7 d_Pk_place_104 rfl ?_
                refine wk_iload (pc := 106) S_ 8 d_Pk_place_106 rfl ?_
                refine wk_run (pc := 108) (rest := []) (wr := (wRl w cI ap pt rk cd mc mg mz nc nt oc fr)) (wN := fun _ => (wPk k cI (b 0) (va_up (gi) (x) ((gi) (x) + (gr) ((qu) (d)))) (va_up (bi) (x) ((bi) (x) + 1)) (va_up (ki) (x) ((ki) (x) ||| 2 ^ ((cl) ((qu) (d)) - 1))) qu wt (va_up (tr1) ((qu) (d)) ((x) + 1)) be1 fw1 fd ++ (wSt s cI cl gr sp rs aw nb na bg bb ab nx ++ (wRl w cI ap pt rk cd mc mg mz nc nt oc fr)))) S_ (wk_rV S_ (c_Pk_putIn l D cI z (k) (s) (b) (gi) (bi) (ki) (qu) (wt) (tr1) (be1) (fw1) (fd) (cl) (gr) (sp) (rs) (aw) (nb) (na) (bg) (bb) (ab) (nx) ((qu) (d)) (x) (by omega) (by omega) ⟨hqd.2, hcd⟩) mv_Pk_87 (wk_rcv S_ 0 3 rfl rfl rfl) rfl rfl (Nat.le_of_ble_eq_true rfl) (by subst hR_; exact ⟨by show 0 + 1 ≤ n + 1 + 1; omega, by show 8 + (4 + 11) + 0 ≤ 28 * (n + 1) + 60; omega⟩) (by subst hR_; exact ⟨Nat.le_refl _, Nat.le_refl _⟩) d_Pk_place_108) [0, 1, 2, 3, 4, 5, 6, 7, 8, 9, 10, 11, 12, 13, 14, 15] [16, 17, 18, 19, 20, 21, 22, 23, 24, 25, 26] [11, 12, 13, 14, 15, 16, 17, 18, 19, 20, 21, 22, 23, 24, 25, 26, 0, 1, 2, 3, 4, 5, 6, 7, 8, 9, 10] rfl rfl rfl (by decide) (by decide) (by decide) (by decide) (fun _ => rfl) (fun _ => rfl) (fun r108 _ hw108 => ?_)
                refine wk_st (st' := []) rfl ?_
                refine wk_aload_n (pc := 111) S_ 2 d_Pk_place_111 rfl rfl ?_
                refine wk_aload_n (pc := 112) S_ 3 d_Pk_place_112 rfl rfl ?_
                refine wk_aload_n (pc := 113) S_ 4 d_Pk_place_113 rfl rfl ?_
                refine wk_iload_n (pc := 114) S_ 5 d_Pk_place_114 rfl rfl ?_
                refine wk_iconst (pc := 115) (v := (nI (1))) S_ d_Pk_place_115 (by decide) ?_
                refine wk_iaddN (pc := 116) S_ d_Pk_place_116 ?_
                refine wk_iload (pc := 117) S_ 1 d_Pk_place_117 rfl ?_
                refine wk_run (pc := 119) (rest := []) (wr := []) (wN := fun _ => (wPk k cI (b 0) (va_up (gi) (x) ((gi) (x) + (gr) ((qu) (d)))) (va_up (bi) (x) ((bi) (x) + 1)) (va_up (ki) (x) ((ki) (x) ||| 2 ^ ((cl) ((qu) (d)) - 1))) qu wt ((pcF (ap) (cl) (gr) (bg) (bb) (ab) (qu) (nx) (n) ((d) + (1)) (va_up (gi) (x) ((gi) (x) + (gr) ((qu) (d)))) (va_up (bi) (x) ((bi) (x) + 1)) (va_up (ki) (x) ((ki) (x) ||| 2 ^ ((cl) ((qu) (d)) - 1))) ((va_up (tr1) ((qu) (d)) ((x) + 1)), (be1), (fw1)) (ndF bi u0 x)).1) ((pcF (ap) (cl) (gr) (bg) (bb) (ab) (qu) (nx) (n) ((d) + (1)) (va_up (gi) (x) ((gi) (x) + (gr) ((qu) (d)))) (va_up (bi) (x) ((bi) (x) + 1)) (va_up (ki) (x) ((ki) (x) ||| 2 ^ ((cl) ((qu) (d)) - 1))) ((va_up (tr1) ((qu) (d)) ((x) + 1)), (be1), (fw1)) (ndF bi u0 x)).2.1) ((pcF (ap) (cl) (gr) (bg) (bb) (ab) (qu) (nx) (n) ((d) + (1)) (va_up (gi) (x) ((gi) (x) + (gr) ((qu) (d)))) (va_up (bi) (x) ((bi) (x) + 1)) (va_up (ki) (x) ((ki) (x) ||| 2 ^ ((cl) ((qu) (d)) - 1))) ((va_up (tr1) ((qu) (d)) ((x) + 1)), (be1), (fw1)) (ndF bi u0 x)).2.2) fd ++ (wSt s cI cl gr sp rs aw nb na bg bb ab nx ++ (wRl w cI ap pt rk cd mc mg mz nc nt oc fr)))) S_ (wk_rS S_ (ih (k) (s) (w) (b) (va_up (gi) (x) ((gi) (x) + (gr) ((qu) (d)))) (va_up (bi) (x) ((bi) (x) + 1)) (va_up (ki) (x) ((ki) (x) ||| 2 ^ ((cl) ((qu) (d)) - 1))) (qu) (wt) (va_up (tr1) ((qu) (d)) ((x) + 1)) (be1) (fw1) (fd) (cl) (gr) (sp) (rs) (aw) (nb) (na) (bg) (bb) (ab) (nx) (ap) (pt) (rk) (cd) (mc) (mg) (mz) (nc) (nt) (oc) (fr) ((d) + (1)) (ndF bi u0 x) (by omega) (by omega) (by omega) (by omega) (by omega) (up_le (fun y => by have := hgi y; omega) (by omega)) (up_le (fun y => by have := hbi y; omega) (by omega)) (fun y => by unfold va_up; split; exact or512 hk1 hcd hqd.2; exact hki y) hq hcl hgr hab hbb hbg) mv_Pk_62 rfl rfl (Nat.le_of_ble_eq_true rfl) (by subst hR_; exact ⟨Nat.le_refl _, by show 8 + (9 + 11) + (28 * n + 60) ≤ 28 * (n + 1) + 60; omega⟩) (by subst hR_; exact ⟨Nat.le_refl _, Nat.le_refl _⟩) d_Pk_place_119) [0, 1, 2, 3, 4, 5, 6, 7, 8, 9, 10, 11, 12, 13, 14, 15, 16, 17, 18, 19, 20, 21, 22, 23, 24, 25, 26] [] [0, 1, 2, 3, 4, 5, 6, 7, 8, 9, 10, 11, 12, 13, 14, 15, 16, 17, 18, 19, 20, 21, 22, 23, 24, 25, 26] rfl rfl rfl (by decide) (by decide) (by decide) (by decide) (fun _ => rfl) (fun _ => rfl) (fun r119 _ hw119 => ?_)
                refine wk_st (st' := []) rfl ?_
                refine wk_aload_n (pc := 122) S_ 2 d_Pk_place_122 rfl rfl ?_
                refine wk_aload_n (pc := 123) S_ 3 d_Pk_place_123 rfl rfl ?_
                refine wk_iload (pc := 124) S_ 7 d_Pk_place_124 rfl ?_
                refine wk_iload (pc := 126) S_ 8 d_Pk_place_126 rfl ?_
                refine wk_iload (pc := 128) S_ 0 d_Pk_place_128 rfl ?_
                refine wk_run (pc := 130) (rest := []) (wr := (wRl w cI ap pt rk cd mc mg mz nc nt oc fr)) (wN := fun _ => (wPk k cI (b 0) (va_up (va_up (gi) (x) ((gi) (x) + (gr) ((qu) (d)))) (x) ((va_up (gi) (x) ((gi) (x) + (gr) ((qu) (d)))) (x) - (gr) ((qu) (d)))) (va_up (va_up (bi) (x) ((bi) (x) + 1)) (x) ((va_up (bi) (x) ((bi) (x) + 1)) (x) - 1)) (va_up (va_up (ki) (x) ((ki) (x) ||| 2 ^ ((cl) ((qu) (d)) - 1))) (x) ((ki) (x))) qu wt ((pcF (ap) (cl) (gr) (bg) (bb) (ab) (qu) (nx) (n) ((d) + (1)) (va_up (gi) (x) ((gi) (x) + (gr) ((qu) (d)))) (va_up (bi) (x) ((bi) (x) + 1)) (va_up (ki) (x) ((ki) (x) ||| 2 ^ ((cl) ((qu) (d)) - 1))) ((va_up (tr1) ((qu) (d)) ((x) + 1)), (be1), (fw1)) (ndF bi u0 x)).1) ((pcF (ap) (cl) (gr) (bg) (bb) (ab) (qu) (nx) (n) ((d) + (1)) (va_up (gi) (x) ((gi) (x) + (gr) ((qu) (d)))) (va_up (bi) (x) ((bi) (x) + 1)) (va_up (ki) (x) ((ki) (x) ||| 2 ^ ((cl) ((qu) (d)) - 1))) ((va_up (tr1) ((qu) (d)) ((x) + 1)), (be1), (fw1)) (ndF bi u0 x)).2.1) ((pcF (ap) (cl) (gr) (bg) (bb) (ab) (qu) (nx) (n) ((d) + (1)) (va_up (gi) (x) ((gi) (x) + (gr) ((qu) (d)))) (va_up (bi) (x) ((bi) (x) + 1)) (va_up (ki) (x) ((ki) (x) ||| 2 ^ ((cl) ((qu) (d)) - 1))) ((va_up (tr1) ((qu) (d)) ((x) + 1)), (be1), (fw1)) (ndF bi u0 x)).2.2) fd ++ (wSt s cI cl gr sp rs aw nb na bg bb ab nx ++ (wRl w cI ap pt rk cd mc mg mz nc nt oc fr)))) S_ (wk_rV S_ (c_Pk_takeOut l D cI z (k) (s) (b) (va_up (gi) (x) ((gi) (x) + (gr) ((qu) (d)))) (va_up (bi) (x) ((bi) (x) + 1)) (va_up (ki) (x) ((ki) (x) ||| 2 ^ ((cl) ((qu) (d)) - 1))) (qu) (wt) ((pcF (ap) (cl) (gr) (bg) (bb) (ab) (qu) (nx) (n) ((d) + (1)) (va_up (gi) (x) ((gi) (x) + (gr) ((qu) (d)))) (va_up (bi) (x) ((bi) (x) + 1)) (va_up (ki) (x) ((ki) (x) ||| 2 ^ ((cl) ((qu) (d)) - 1))) ((va_up (tr1) ((qu) (d)) ((x) + 1)), (be1), (fw1)) (ndF bi u0 x)).1) ((pcF (ap) (cl) (gr) (bg) (bb) (ab) (qu) (nx) (n) ((d) + (1)) (va_up (gi) (x) ((gi) (x) + (gr) ((qu) (d)))) (va_up (bi) (x) ((bi) (x) + 1)) (va_up (ki) (x) ((ki) (x) ||| 2 ^ ((cl) ((qu) (d)) - 1))) ((va_up (tr1) ((qu) (d)) ((x) + 1)), (be1), (fw1)) (ndF bi u0 x)).2.1) ((pcF (ap) (cl) (gr) (bg) (bb) (ab) (qu) (nx) (n) ((d) + (1)) (va_up (gi) (x) ((gi) (x) + (gr) ((qu) (d)))) (va_up (bi) (x) ((bi) (x) + 1)) (va_up (ki) (x) ((ki) (x) ||| 2 ^ ((cl) ((qu) (d)) - 1))) ((va_up (tr1) ((qu) (d)) ((x) + 1)), (be1), (fw1)) (ndF bi u0 x)).2.2) (fd) (cl) (gr) (sp) (rs) (aw) (nb) (na) (bg) (bb) (ab) (nx) ((qu) (d)) (x) ((ki) (x)) (by omega) (by omega) (by rw [va_up_self]; omega) (by rw [va_up_self]; omega)) mv_Pk_94 (wk_rcv S_ 0 3 rfl rfl rfl) rfl rfl (Nat.le_of_ble_eq_true rfl) (by subst hR_; exact ⟨by show 0 + 1 ≤ n + 1 + 1; omega, by show 8 + (5 + 11) + 0 ≤ 28 * (n + 1) + 60; omega⟩) (by subst hR_; exact ⟨Nat.le_refl _, Nat.le_refl _⟩) d_Pk_place_130) [0, 1, 2, 3, 4, 5, 6, 7, 8, 9, 10, 11, 12, 13, 14, 15] [16, 17, 18, 19, 20, 21, 22, 23, 24, 25, 26] [11, 12, 13, 14, 15, 16, 17, 18, 19, 20, 21, 22, 23, 24, 25, 26, 0, 1, 2, 3, 4, 5, 6, 7, 8, 9, 10] rfl rfl rfl (by decide) (by decide) (by decide) (by decide) (fun _ => rfl) (fun _ => rfl) (fun r130 _ hw130 => ?_)
                refine wk_st (st' := []) rfl ?_
                refine wk_iincN (pc := 133) (d := 1) (lv' := [(6, .int (nI (x + 1))), (8, .int (nI ((ki) (x)))), (7, .int (nI (ndF bi u0 x))), (0, .ref (k 0)), (1, .ref (s 0)), (2, .ref (w 0)), (3, .int (nI (d))), (4, .int (nI (u0))), (5, .int (nI ((qu) (d))))]) S_ 8 d_Pk_place_133 (by decide) rfl (by decide) rfl ?_
                refine wk_goto (pc := 136) (tgt := 41) S_ d_Pk_place_136 (by decide) ?_
                refine wk_weq (ws' := (wPk k cI (b 0) gi (va_up (va_up (bi) (x) ((bi) (x) + 1)) (x) ((va_up (bi) (x) ((bi) (x) + 1)) (x) - 1)) (va_up (va_up (ki) (x) ((ki) (x) ||| 2 ^ ((cl) ((qu) (d)) - 1))) (x) ((ki) (x))) qu wt ((pcF (ap) (cl) (gr) (bg) (bb) (ab) (qu) (nx) (n) ((d) + (1)) (va_up (gi) (x) ((gi) (x) + (gr) ((qu) (d)))) (va_up (bi) (x) ((bi) (x) + 1)) (va_up (ki) (x) ((ki) (x) ||| 2 ^ ((cl) ((qu) (d)) - 1))) ((va_up (tr1) ((qu) (d)) ((x) + 1)), (be1), (fw1)) (ndF bi u0 x)).1) ((pcF (ap) (cl) (gr) (bg) (bb) (ab) (qu) (nx) (n) ((d) + (1)) (va_up (gi) (x) ((gi) (x) + (gr) ((qu) (d)))) (va_up (bi) (x) ((bi) (x) + 1)) (va_up (ki) (x) ((ki) (x) ||| 2 ^ ((cl) ((qu) (d)) - 1))) ((va_up (tr1) ((qu) (d)) ((x) + 1)), (be1), (fw1)) (ndF bi u0 x)).2.1) ((pcF (ap) (cl) (gr) (bg) (bb) (ab) (qu) (nx) (n) ((d) + (1)) (va_up (gi) (x) ((gi) (x) + (gr) ((qu) (d)))) (va_up (bi) (x) ((bi) (x) + 1)) (va_up (ki) (x) ((ki) (x) ||| 2 ^ ((cl) ((qu) (d)) - 1))) ((va_up (tr1) ((qu) (d)) ((x) + 1)), (be1), (fw1)) (ndF bi u0 x)).2.2) fd ++ (wSt s cI cl gr sp rs aw nb na bg bb ab nx ++ (wRl w cI ap pt rk cd mc mg mz nc nt oc fr)))) (by rw [up_back gi x _ _ (by rw [va_up_self]; omega)]) ?_
                refine wk_weq (ws' := (wPk k cI (b 0) gi bi (va_up (va_up (ki) (x) ((ki) (x) ||| 2 ^ ((cl) ((qu) (d)) - 1))) (x) ((ki) (x))) qu wt ((pcF (ap) (cl) (gr) (bg) (bb) (ab) (qu) (nx) (n) ((d) + (1)) (va_up (gi) (x) ((gi) (x) + (gr) ((qu) (d)))) (va_up (bi) (x) ((bi) (x) + 1)) (va_up (ki) (x) ((ki) (x) ||| 2 ^ ((cl) ((qu) (d)) - 1))) ((va_up (tr1) ((qu) (d)) ((x) + 1)), (be1), (fw1)) (ndF bi u0 x)).1) ((pcF (ap) (cl) (gr) (bg) (bb) (ab) (qu) (nx) (n) ((d) + (1)) (va_up (gi) (x) ((gi) (x) + (gr) ((qu) (d)))) (va_up (bi) (x) ((bi) (x) + 1)) (va_up (ki) (x) ((ki) (x) ||| 2 ^ ((cl) ((qu) (d)) - 1))) ((va_up (tr1) ((qu) (d)) ((x) + 1)), (be1), (fw1)) (ndF bi u0 x)).2.1) ((pcF (ap) (cl) (gr) (bg) (bb) (ab) (qu) (nx) (n) ((d) + (1)) (va_up (gi) (x) ((gi) (x) + (gr) ((qu) (d)))) (va_up (bi) (x) ((bi) (x) + 1)) (va_up (ki) (x) ((ki) (x) ||| 2 ^ ((cl) ((qu) (d)) - 1))) ((va_up (tr1) ((qu) (d)) ((x) + 1)), (be1), (fw1)) (ndF bi u0 x)).2.2) fd ++ (wSt s cI cl gr sp rs aw nb na bg bb ab nx ++ (wRl w cI ap pt rk cd mc mg mz nc nt oc fr)))) (by rw [up_back bi x _ _ (by rw [va_up_self]; omega)]) ?_
                refine wk_weq (ws' := (wPk k cI (b 0) gi bi ki qu wt ((pcF (ap) (cl) (gr) (bg) (bb) (ab) (qu) (nx) (n) ((d) + (1)) (va_up (gi) (x) ((gi) (x) + (gr) ((qu) (d)))) (va_up (bi) (x) ((bi) (x) + 1)) (va_up (ki) (x) ((ki) (x) ||| 2 ^ ((cl) ((qu) (d)) - 1))) ((va_up (tr1) ((qu) (d)) ((x) + 1)), (be1), (fw1)) (ndF bi u0 x)).1) ((pcF (ap) (cl) (gr) (bg) (bb) (ab) (qu) (nx) (n) ((d) + (1)) (va_up (gi) (x) ((gi) (x) + (gr) ((qu) (d)))) (va_up (bi) (x) ((bi) (x) + 1)) (va_up (ki) (x) ((ki) (x) ||| 2 ^ ((cl) ((qu) (d)) - 1))) ((va_up (tr1) ((qu) (d)) ((x) + 1)), (be1), (fw1)) (ndF bi u0 x)).2.1) ((pcF (ap) (cl) (gr) (bg) (bb) (ab) (qu) (nx) (n) ((d) + (1)) (va_up (gi) (x) ((gi) (x) + (gr) ((qu) (d)))) (va_up (bi) (x) ((bi) (x) + 1)) (va_up (ki) (x) ((ki) (x) ||| 2 ^ ((cl) ((qu) (d)) - 1))) ((va_up (tr1) ((qu) (d)) ((x) + 1)), (be1), (fw1)) (ndF bi u0 x)).2.2) fd ++ (wSt s cI cl gr sp rs aw nb na bg bb ab nx ++ (wRl w cI ap pt rk cd mc mg mz nc nt oc fr)))) (by rw [up_back ki x _ _ rfl]) ?_
                refine wk_lv [3, 4, 5, 6, 7, 8, 0] ?_ (ih41 (mm - 1) (x + 1) ((pcF (ap) (cl) (gr) (bg) (bb) (ab) (qu) (nx) (n) ((d) + (1)) (va_up (gi) (x) ((gi) (x) + (gr) ((qu) (d)))) (va_up (bi) (x) ((bi) (x) + 1)) (va_up (ki) (x) ((ki) (x) ||| 2 ^ ((cl) ((qu) (d)) - 1))) ((va_up (tr1) ((qu) (d)) ((x) + 1)), (be1), (fw1)) (ndF bi u0 x)).1) ((pcF (ap) (cl) (gr) (bg) (bb) (ab) (qu) (nx) (n) ((d) + (1)) (va_up (gi) (x) ((gi) (x) + (gr) ((qu) (d)))) (va_up (bi) (x) ((bi) (x) + 1)) (va_up (ki) (x) ((ki) (x) ||| 2 ^ ((cl) ((qu) (d)) - 1))) ((va_up (tr1) ((qu) (d)) ((x) + 1)), (be1), (fw1)) (ndF bi u0 x)).2.1) ((pcF (ap) (cl) (gr) (bg) (bb) (ab) (qu) (nx) (n) ((d) + (1)) (va_up (gi) (x) ((gi) (x) + (gr) ((qu) (d)))) (va_up (bi) (x) ((bi) (x) + 1)) (va_up (ki) (x) ((ki) (x) ||| 2 ^ ((cl) ((qu) (d)) - 1))) ((va_up (tr1) ((qu) (d)) ((x) + 1)), (be1), (fw1)) (ndF bi u0 x)).2.2) (by omega) (by omega) (pcF_le n (d + 1) _ _ _ _ _ hf1 (by omega)) (by rw [← hE]; obtain ⟨r, rfl⟩ : ∃ r, mm = r + 1 := ⟨mm - 1, by omega⟩; rw [pcX, if_pos ⟨h77, h90⟩]; rfl))
                rfl
          · -- on
            refine wk_iload (pc := 60) S_ 4 d_Pk_place_60 rfl ?_
            refine wk_iconst (pc := 62) (v := (nI (1))) S_ d_Pk_place_62 (by decide) ?_
            refine wk_iaddN (pc := 63) S_ d_Pk_place_63 ?_
            refine wk_goto (pc := 64) (tgt := 69) S_ d_Pk_place_64 (by decide) ?_
            refine wk_top (y := (nI (ndF bi u0 x))) (congrArg nI (if_pos h57).symm) ?_
            refine wk_istore (pc := 69) (lv' := [(7, .int (nI (ndF bi u0 x))), (0, .ref (k 0)), (1, .ref (s 0)), (2, .ref (w 0)), (3, .int (nI (d))), (4, .int (nI (u0))), (5, .int (nI ((qu) (d)))), (6, .int (nI (x)))]) S_ d_Pk_place_69 (by decide) rfl ?_
            have hnl := ndF_le bi u0 x
            refine wk_iload (pc := 71) S_ 0 d_Pk_place_71 rfl ?_
            refine wk_aload_n (pc := 73) S_ 1 d_Pk_place_73 rfl rfl ?_
            refine wk_get (pc := 74) (v := .int (nI (fw1))) S_ 3 7 0 in_Pk rfl (by decide) rfl fl_Pk_55 d_Pk_place_74 rfl rfl ?_
            refine wk_icmp_geN (pc := 77) (tgt := 133) S_ d_Pk_place_77 (by decide) (by omega) (by omega) (fun h77 => ?_) (fun h77 => ?_)
            · -- taken
              refine wk_iincN (pc := 133) (d := 1) (lv' := [(6, .int (nI (x + 1))), (7, .int (nI (ndF bi u0 x))), (0, .ref (k 0)), (1, .ref (s 0)), (2, .ref (w 0)), (3, .int (nI (d))), (4, .int (nI (u0))), (5, .int (nI ((qu) (d))))]) S_ 7 d_Pk_place_133 (by decide) rfl (by decide) rfl ?_
              refine wk_goto (pc := 136) (tgt := 41) S_ d_Pk_place_136 (by decide) ?_
              refine wk_lv [2, 3, 4, 5, 6, 7, 0] ?_ (ih41 (mm - 1) (x + 1) (tr1) (be1) (fw1) (by omega) (by omega) (by omega) (by rw [← hE]; obtain ⟨r, rfl⟩ : ∃ r, mm = r + 1 := ⟨mm - 1, by omega⟩; rw [pcX, if_neg (fun y => absurd y.1 (Nat.not_lt.mpr h77))]; rfl))
              rfl
            · -- on
              refine wk_aload_n (pc := 80) S_ 1 d_Pk_place_80 rfl rfl ?_
              refine wk_aload_n (pc := 81) S_ 2 d_Pk_place_81 rfl rfl ?_
              refine wk_aload_n (pc := 82) S_ 3 d_Pk_place_82 rfl rfl ?_
              refine wk_iload (pc := 83) S_ 6 d_Pk_place_83 rfl ?_
              refine wk_iload (pc := 85) S_ 7 d_Pk_place_85 rfl ?_
              refine wk_run (pc := 87) (rest := []) (wr := []) (wN := fun _ => (wPk k cI (b 0) gi bi ki qu wt tr1 be1 fw1 fd ++ (wSt s cI cl gr sp rs aw nb na bg bb ab nx ++ (wRl w cI ap pt rk cd mc mg mz nc nt oc fr)))) S_ (wk_rV S_ (c_Pk_fits l D cI z (k) (s) (w) (b) (gi) (bi) (ki) (qu) (wt) (tr1) (be1) (fw1) (fd) (cl) (gr) (sp) (rs) (aw) (nb) (na) (bg) (bb) (ab) (nx) (ap) (pt) (rk) (cd) (mc) (mg) (mz) (nc) (nt) (oc) (fr) ((qu) (d)) (x) (by omega) (by omega) (by omega) (by omega) (by omega) (by omega) (by omega) (by omega) ⟨hqd.2, hcd⟩ (by omega)) mv_Pk_83 (wk_rcv S_ 0 3 rfl rfl rfl) rfl rfl (Nat.le_of_ble_eq_true rfl) (by subst hR_; exact ⟨by show 0 + 1 ≤ n + 1 + 1; omega, by show 8 + (6 + 11) + 0 ≤ 28 * (n + 1) + 60; omega⟩) (by subst hR_; exact ⟨Nat.le_refl _, Nat.le_refl _⟩) d_Pk_place_87) [0, 1, 2, 3, 4, 5, 6, 7, 8, 9, 10, 11, 12, 13, 14, 15, 16, 17, 18, 19, 20, 21, 22, 23, 24, 25, 26] [] [0, 1, 2, 3, 4, 5, 6, 7, 8, 9, 10, 11, 12, 13, 14, 15, 16, 17, 18, 19, 20, 21, 22, 23, 24, 25, 26] rfl rfl rfl (by decide) (by decide) (by decide) (by decide) (fun _ => rfl) (fun _ => rfl) (fun r87 _ hw87 => ?_)
              refine wk_st (st' := [.int (r87)]) rfl ?_
              refine wk_top (y := (bI (decide ((bi) (x) < (bb) (x) ∧ (ab) (x) + (gi) (x) + (gr) ((qu) (d)) ≤ (bg) (x) ∧ (ki) (x) &&& (ap) ((cl) ((qu) (d)) - 1) = 0)))) hw87 ?_
              refine wk_if_eqB (pc := 90) (tgt := 133) S_ d_Pk_place_90 (by decide) (fun h90 => ?_) (fun h90 => ?_)
              · -- taken
                refine wk_iincN (pc := 133) (d := 1) (lv' := [(6, .int (nI (x + 1))), (7, .int (nI (ndF bi u0 x))), (0, .ref (k 0)), (1, .ref (s 0)), (2, .ref (w 0)), (3, .int (nI (d))), (4, .int (nI (u0))), (5, .int (nI ((qu) (d))))]) S_ 7 d_Pk_place_133 (by decide) rfl (by decide) rfl ?_
                refine wk_goto (pc := 136) (tgt := 41) S_ d_Pk_place_136 (by decide) ?_
                refine wk_lv [2, 3, 4, 5, 6, 7, 0] ?_ (ih41 (mm - 1) (x + 1) (tr1) (be1) (fw1) (by omega) (by omega) (by omega) (by rw [← hE]; obtain ⟨r, rfl⟩ : ∃ r, mm = r + 1 := ⟨mm - 1, by omega⟩; rw [pcX, if_neg (fun y => by rw [show fitB ap cl gr bg bb ab gi bi ki (qu d) x = false from h90] at y; exact absurd y.2 (by decide))]; rfl))
                rfl
              · -- on
                refine wk_aload_n (pc := 93) S_ 1 d_Pk_place_93 rfl rfl ?_
                refine wk_get (pc := 94) (v := .ref (k 3)) S_ 3 2 0 in_Pk rfl (by decide) rfl fl_Pk_18 d_Pk_place_94 rfl rfl ?_
                refine wk_iload (pc := 97) S_ 7 d_Pk_place_97 rfl ?_
                refine wk_ialdN (pc := 99) (g := ki) S_ 3 0 d_Pk_place_99 rfl rfl (by omega) (by decide) ?_
                refine wk_istore (pc := 100) (lv' := [(8, .int (nI ((ki) (x)))), (7, .int (nI (ndF bi u0 x))), (0, .ref (k 0)), (1, .ref (s 0)), (2, .ref (w 0)), (3, .int (nI (d))), (4, .int (nI (u0))), (5, .int (nI ((qu) (d)))), (6, .int (nI (x)))]) S_ d_Pk_place_100 (by decide) rfl ?_
                refine wk_aload_n (pc := 102) S_ 2 d_Pk_place_102 rfl rfl ?_
                refine wk_aload_n (pc := 103) S_ 3 d_Pk_place_103 rfl rfl ?_
                refine wk_iload (pc := 104) S_ 7 d_Pk_place_104 rfl ?_
                refine wk_iload (pc := 106) S_ 8 d_Pk_place_106 rfl ?_
                refine wk_run (pc := 108) (rest := []) (wr := (wRl w cI ap pt rk cd mc mg mz nc nt oc fr)) (wN := fun _ => (wPk k cI (b 0) (va_up (gi) (x) ((gi) (x) + (gr) ((qu) (d)))) (va_up (bi) (x) ((bi) (x) + 1)) (va_up (ki) (x) ((ki) (x) ||| 2 ^ ((cl) ((qu) (d)) - 1))) qu wt (va_up (tr1) ((qu) (d)) ((x) + 1)) be1 fw1 fd ++ (wSt s cI cl gr sp rs aw nb na bg bb ab nx ++ (wRl w cI ap pt rk cd mc mg mz nc nt oc fr)))) S_ (wk_rV S_ (c_Pk_putIn l D cI z (k) (s) (b) (gi) (bi) (ki) (qu) (wt) (tr1) (be1) (fw1) (fd) (cl) (gr) (sp) (rs) (aw) (nb) (na) (bg) (bb) (ab) (nx) ((qu) (d)) (x) (by omega) (by omega) ⟨hqd.2, hcd⟩) mv_Pk_87 (wk_rcv S_ 0 3 rfl rfl rfl) rfl rfl (Nat.le_of_ble_eq_true rfl) (by subst hR_; exact ⟨by show 0 + 1 ≤ n + 1 + 1; omega, by show 8 + (4 + 11) + 0 ≤ 28 * (n + 1) + 60; omega⟩) (by subst hR_; exact ⟨Nat.le_refl _, Nat.le_refl _⟩) d_Pk_place_108) [0, 1, 2, 3, 4, 5, 6, 7, 8, 9, 10, 11, 12, 13, 14, 15] [16, 17, 18, 19, 20, 21, 22, 23, 24, 25, 26] [11, 12, 13, 14, 15, 16, 17, 18, 19, 20, 21, 22, 23, 24, 25, 26, 0, 1, 2, 3, 4, 5, 6, 7, 8, 9, 10] rfl rfl rfl (by decide) (by decide) (by decide) (by decide) (fun _ => rfl) (fun _ => rfl) (fun r108 _ hw108 => ?_)
                refine wk_st (st' := []) rfl ?_
                refine wk_aload_n (pc := 111) S_ 2 d_Pk_place_111 rfl rfl ?_
                refine wk_aload_n (pc := 112) S_ 3 d_Pk_place_112 rfl rfl ?_
                refine wk_aload_n (pc := 113) S_ 4 d_Pk_place_113 rfl rfl ?_
                refine wk_iload_n (pc := 114) S_ 5 d_Pk_place_114 rfl rfl ?_
                refine wk_iconst (pc := 115) (v := (nI (1))) S_ d_Pk_place_115 (by decide) ?_
                refine wk_iaddN (pc := 116) S_ d_Pk_place_116 ?_
                refine wk_iload (pc := 117) S_ 1 d_Pk_place_117 rfl ?_
                refine wk_run (pc := 119) (rest := []) (wr := []) (wN := fun _ => (wPk k cI (b 0) (va_up (gi) (x) ((gi) (x) + (gr) ((qu) (d)))) (va_up (bi) (x) ((bi) (x) + 1)) (va_up (ki) (x) ((ki) (x) ||| 2 ^ ((cl) ((qu) (d)) - 1))) qu wt ((pcF (ap) (cl) (gr) (bg) (bb) (ab) (qu) (nx) (n) ((d) + (1)) (va_up (gi) (x) ((gi) (x) + (gr) ((qu) (d)))) (va_up (bi) (x) ((bi) (x) + 1)) (va_up (ki) (x) ((ki) (x) ||| 2 ^ ((cl) ((qu) (d)) - 1))) ((va_up (tr1) ((qu) (d)) ((x) + 1)), (be1), (fw1)) (ndF bi u0 x)).1) ((pcF (ap) (cl) (gr) (bg) (bb) (ab) (qu) (nx) (n) ((d) + (1)) (va_up (gi) (x) ((gi) (x) + (gr) ((qu) (d)))) (va_up (bi) (x) ((bi) (x) + 1)) (va_up (ki) (x) ((ki) (x) ||| 2 ^ ((cl) ((qu) (d)) - 1))) ((va_up (tr1) ((qu) (d)) ((x) + 1)), (be1), (fw1)) (ndF bi u0 x)).2.1) ((pcF (ap) (cl) (gr) (bg) (bb) (ab) (qu) (nx) (n) ((d) + (1)) (va_up (gi) (x) ((gi) (x) + (gr) ((qu) (d)))) (va_up (bi) (x) ((bi) (x) + 1)) (va_up (ki) (x) ((ki) (x) ||| 2 ^ ((cl) ((qu) (d)) - 1))) ((va_up (tr1) ((qu) (d)) ((x) + 1)), (be1), (fw1)) (ndF bi u0 x)).2.2) fd ++ (wSt s cI cl gr sp rs aw nb na bg bb ab nx ++ (wRl w cI ap pt rk cd mc mg mz nc nt oc fr)))) S_ (wk_rS S_ (ih (k) (s) (w) (b) (va_up (gi) (x) ((gi) (x) + (gr) ((qu) (d)))) (va_up (bi) (x) ((bi) (x) + 1)) (va_up (ki) (x) ((ki) (x) ||| 2 ^ ((cl) ((qu) (d)) - 1))) (qu) (wt) (va_up (tr1) ((qu) (d)) ((x) + 1)) (be1) (fw1) (fd) (cl) (gr) (sp) (rs) (aw) (nb) (na) (bg) (bb) (ab) (nx) (ap) (pt) (rk) (cd) (mc) (mg) (mz) (nc) (nt) (oc) (fr) ((d) + (1)) (ndF bi u0 x) (by omega) (by omega) (by omega) (by omega) (by omega) (up_le (fun y => by have := hgi y; omega) (by omega)) (up_le (fun y => by have := hbi y; omega) (by omega)) (fun y => by unfold va_up; split; exact or512 hk1 hcd hqd.2; exact hki y) hq hcl hgr hab hbb hbg) mv_Pk_62 rfl rfl (Nat.le_of_ble_eq_true rfl) (by subst hR_; exact ⟨Nat.le_refl _, by show 8 + (9 + 11) + (28 * n + 60) ≤ 28 * (n + 1) + 60; omega⟩) (by subst hR_; exact ⟨Nat.le_refl _, Nat.le_refl _⟩) d_Pk_place_119) [0, 1, 2, 3, 4, 5, 6, 7, 8, 9, 10, 11, 12, 13, 14, 15, 16, 17, 18, 19, 20, 21, 22, 23, 24, 25, 26] [] [0, 1, 2, 3, 4, 5, 6, 7, 8, 9, 10, 11, 12, 13, 14, 15, 16, 17, 18, 19, 20, 21, 22, 23, 24, 25, 26] rfl rfl rfl (by decide) (by decide) (by decide) (by decide) (fun _ => rfl) (fun _ => rfl) (fun r119 _ hw119 => ?_)
                refine wk_st (st' := []) rfl ?_
                refine wk_aload_n (pc := 122) S_ 2 d_Pk_place_122 rfl rfl ?_
                refine wk_aload_n (pc := 123) S_ 3 d_Pk_place_123 rfl rfl ?_
                refine wk_iload (pc := 124) S_ 7 d_Pk_place_124 rfl ?_
                refine wk_iload (pc := 126) S_ 8 d_Pk_place_126 rfl ?_
                refine wk_iload (pc := 128) S_ 0 d_Pk_place_128 rfl ?_
                refine wk_run (pc := 130) (rest := []) (wr := (wRl w cI ap pt rk cd mc mg mz nc nt oc fr)) (wN := fun _ => (wPk k cI (b 0) (va_up (va_up (gi) (x) ((gi) (x) + (gr) ((qu) (d)))) (x) ((va_up (gi) (x) ((gi) (x) + (gr) ((qu) (d)))) (x) - (gr) ((qu) (d)))) (va_up (va_up (bi) (x) ((bi) (x) + 1)) (x) ((va_up (bi) (x) ((bi) (x) + 1)) (x) - 1)) (va_up (va_up (ki) (x) ((ki) (x) ||| 2 ^ ((cl) ((qu) (d)) - 1))) (x) ((ki) (x))) qu wt ((pcF (ap) (cl) (gr) (bg) (bb) (ab) (qu) (nx) (n) ((d) + (1)) (va_up (gi) (x) ((gi) (x) + (gr) ((qu) (d)))) (va_up (bi) (x) ((bi) (x) + 1)) (va_up (ki) (x) ((ki) (x) ||| 2 ^ ((cl) ((qu) (d)) - 1))) ((va_up (tr1) ((qu) (d)) ((x) + 1)), (be1), (fw1)) (ndF bi u0 x)).1) ((pcF (ap) (cl) (gr) (bg) (bb) (ab) (qu) (nx) (n) ((d) + (1)) (va_up (gi) (x) ((gi) (x) + (gr) ((qu) (d)))) (va_up (bi) (x) ((bi) (x) + 1)) (va_up (ki) (x) ((ki) (x) ||| 2 ^ ((cl) ((qu) (d)) - 1))) ((va_up (tr1) ((qu) (d)) ((x) + 1)), (be1), (fw1)) (ndF bi u0 x)).2.1) ((pcF (ap) (cl) (gr) (bg) (bb) (ab) (qu) (nx) (n) ((d) + (1)) (va_up (gi) (x) ((gi) (x) + (gr) ((qu) (d)))) (va_up (bi) (x) ((bi) (x) + 1)) (va_up (ki) (x) ((ki) (x) ||| 2 ^ ((cl) ((qu) (d)) - 1))) ((va_up (tr1) ((qu) (d)) ((x) + 1)), (be1), (fw1)) (ndF bi u0 x)).2.2) fd ++ (wSt s cI cl gr sp rs aw nb na bg bb ab nx ++ (wRl w cI ap pt rk cd mc mg mz nc nt oc fr)))) S_ (wk_rV S_ (c_Pk_takeOut l D cI z (k) (s) (b) (va_up (gi) (x) ((gi) (x) + (gr) ((qu) (d)))) (va_up (bi) (x) ((bi) (x) + 1)) (va_up (ki) (x) ((ki) (x) ||| 2 ^ ((cl) ((qu) (d)) - 1))) (qu) (wt) ((pcF (ap) (cl) (gr) (bg) (bb) (ab) (qu) (nx) (n) ((d) + (1)) (va_up (gi) (x) ((gi) (x) + (gr) ((qu) (d)))) (va_up (bi) (x) ((bi) (x) + 1)) (va_up (ki) (x) ((ki) (x) ||| 2 ^ ((cl) ((qu) (d)) - 1))) ((va_up (tr1) ((qu) (d)) ((x) + 1)), (be1), (fw1)) (ndF bi u0 x)).1) ((pcF (ap) (cl) (gr) (bg) (bb) (ab) (qu) (nx) (n) ((d) + (1)) (va_up (gi) (x) ((gi) (x) + (gr) ((qu) (d)))) (va_up (bi) (x) ((bi) (x) + 1)) (va_up (ki) (x) ((ki) (x) ||| 2 ^ ((cl) ((qu) (d)) - 1))) ((va_up (tr1) ((qu) (d)) ((x) + 1)), (be1), (fw1)) (ndF bi u0 x)).2.1) ((pcF (ap) (cl) (gr) (bg) (bb) (ab) (qu) (nx) (n) ((d) + (1)) (va_up (gi) (x) ((gi) (x) + (gr) ((qu) (d)))) (va_up (bi) (x) ((bi) (x) + 1)) (va_up (ki) (x) ((ki) (x) ||| 2 ^ ((cl) ((qu) (d)) - 1))) ((va_up (tr1) ((qu) (d)) ((x) + 1)), (be1), (fw1)) (ndF bi u0 x)).2.2) (fd) (cl) (gr) (sp) (rs) (aw) (nb) (na) (bg) (bb) (ab) (nx) ((qu) (d)) (x) ((ki) (x)) (by omega) (by omega) (by rw [va_up_self]; omega) (by rw [va_up_self]; omega)) mv_Pk_94 (wk_rcv S_ 0 3 rfl rfl rfl) rfl rfl (Nat.le_of_ble_eq_true rfl) (by subst hR_; exact ⟨by show 0 + 1 ≤ n + 1 + 1; omega, by show 8 + (5 + 11) + 0 ≤ 28 * (n + 1) + 60; omega⟩) (by subst hR_; exact ⟨Nat.le_refl _, Nat.le_refl _⟩) d_Pk_place_130) [0, 1, 2, 3, 4, 5, 6, 7, 8, 9, 10, 11, 12, 13, 14, 15] [16, 17, 18, 19, 20, 21, 22, 23, 24, 25, 26] [11, 12, 13, 14, 15, 16, 17, 18, 19, 20, 21, 22, 23, 24, 25, 26, 0, 1, 2, 3, 4, 5, 6, 7, 8, 9, 10] rfl rfl rfl (by decide) (by decide) (by decide) (by decide) (fun _ => rfl) (fun _ => rfl) (fun r130 _ hw130 => ?_)
                refine wk_st (st' := []) rfl ?_
                refine wk_iincN (pc := 133) (d := 1) (lv' := [(6, .int (nI (x + 1))), (8, .int (nI ((ki) (x)))), (7, .int (nI (ndF bi u0 x))), (0, .ref (k 0)), (1, .ref (s 0)), (2, .ref (w 0)), (3, .int (nI (d))), (4, .int (nI (u0))), (5, .int (nI ((qu) (d))))]) S_ 8 d_Pk_place_133 (by decide) rfl (by decide) rfl ?_
                refine wk_goto (pc := 136) (tgt := 41) S_ d_Pk_place_136 (by decide) ?_
                refine wk_weq (ws' := (wPk k cI (b 0) gi (va_up (va_up (bi) (x) ((bi) (x) + 1)) (x) ((va_up (bi) (x) ((bi) (x) + 1)) (x) - 1)) (va_up (va_up (ki) (x) ((ki) (x) ||| 2 ^ ((cl) ((qu) (d)) - 1))) (x) ((ki) (x))) qu wt ((pcF (ap) (cl) (gr) (bg) (bb) (ab) (qu) (nx) (n) ((d) + (1)) (va_up (gi) (x) ((gi) (x) + (gr) ((qu) (d)))) (va_up (bi) (x) ((bi) (x) + 1)) (va_up (ki) (x) ((ki) (x) ||| 2 ^ ((cl) ((qu) (d)) - 1))) ((va_up (tr1) ((qu) (d)) ((x) + 1)), (be1), (fw1)) (ndF bi u0 x)).1) ((pcF (ap) (cl) (gr) (bg) (bb) (ab) (qu) (nx) (n) ((d) + (1)) (va_up (gi) (x) ((gi) (x) + (gr) ((qu) (d)))) (va_up (bi) (x) ((bi) (x) + 1)) (va_up (ki) (x) ((ki) (x) ||| 2 ^ ((cl) ((qu) (d)) - 1))) ((va_up (tr1) ((qu) (d)) ((x) + 1)), (be1), (fw1)) (ndF bi u0 x)).2.1) ((pcF (ap) (cl) (gr) (bg) (bb) (ab) (qu) (nx) (n) ((d) + (1)) (va_up (gi) (x) ((gi) (x) + (gr) ((qu) (d)))) (va_up (bi) (x) ((bi) (x) + 1)) (va_up (ki) (x) ((ki) (x) ||| 2 ^ ((cl) ((qu) (d)) - 1))) ((va_up (tr1) ((qu) (d)) ((x) + 1)), (be1), (fw1)) (ndF bi u0 x)).2.2) fd ++ (wSt s cI cl gr sp rs aw nb na bg bb ab nx ++ (wRl w cI ap pt rk cd mc mg mz nc nt oc fr)))) (by rw [up_back gi x _ _ (by rw [va_up_self]; omega)]) ?_
                refine wk_weq (ws' := (wPk k cI (b 0) gi bi (va_up (va_up (ki) (x) ((ki) (x) ||| 2 ^ ((cl) ((qu) (d)) - 1))) (x) ((ki) (x))) qu wt ((pcF (ap) (cl) (gr) (bg) (bb) (ab) (qu) (nx) (n) ((d) + (1)) (va_up (gi) (x) ((gi) (x) + (gr) ((qu) (d)))) (va_up (bi) (x) ((bi) (x) + 1)) (va_up (ki) (x) ((ki) (x) ||| 2 ^ ((cl) ((qu) (d)) - 1))) ((va_up (tr1) ((qu) (d)) ((x) + 1)), (be1), (fw1)) (ndF bi u0 x)).1) ((pcF (ap) (cl) (gr) (bg) (bb) (ab) (qu) (nx) (n) ((d) + (1)) (va_up (gi) (x) ((gi) (x) + (gr) ((qu) (d)))) (va_up (bi) (x) ((bi) (x) + 1)) (va_up (ki) (x) ((ki) (x) ||| 2 ^ ((cl) ((qu) (d)) - 1))) ((va_up (tr1) ((qu) (d)) ((x) + 1)), (be1), (fw1)) (ndF bi u0 x)).2.1) ((pcF (ap) (cl) (gr) (bg) (bb) (ab) (qu) (nx) (n) ((d) + (1)) (va_up (gi) (x) ((gi) (x) + (gr) ((qu) (d)))) (va_up (bi) (x) ((bi) (x) + 1)) (va_up (ki) (x) ((ki) (x) ||| 2 ^ ((cl) ((qu) (d)) - 1))) ((va_up (tr1) ((qu) (d)) ((x) + 1)), (be1), (fw1)) (ndF bi u0 x)).2.2) fd ++ (wSt s cI cl gr sp rs aw nb na bg bb ab nx ++ (wRl w cI ap pt rk cd mc mg mz nc nt oc fr)))) (by rw [up_back bi x _ _ (by rw [va_up_self]; omega)]) ?_
                refine wk_weq (ws' := (wPk k cI (b 0) gi bi ki qu wt ((pcF (ap) (cl) (gr) (bg) (bb) (ab) (qu) (nx) (n) ((d) + (1)) (va_up (gi) (x) ((gi) (x) + (gr) ((qu) (d)))) (va_up (bi) (x) ((bi) (x) + 1)) (va_up (ki) (x) ((ki) (x) ||| 2 ^ ((cl) ((qu) (d)) - 1))) ((va_up (tr1) ((qu) (d)) ((x) + 1)), (be1), (fw1)) (ndF bi u0 x)).1) ((pcF (ap) (cl) (gr) (bg) (bb) (ab) (qu) (nx) (n) ((d) + (1)) (va_up (gi) (x) ((gi) (x) + (gr) ((qu) (d)))) (va_up (bi) (x) ((bi) (x) + 1)) (va_up (ki) (x) ((ki) (x) ||| 2 ^ ((cl) ((qu) (d)) - 1))) ((va_up (tr1) ((qu) (d)) ((x) + 1)), (be1), (fw1)) (ndF bi u0 x)).2.1) ((pcF (ap) (cl) (gr) (bg) (bb) (ab) (qu) (nx) (n) ((d) + (1)) (va_up (gi) (x) ((gi) (x) + (gr) ((qu) (d)))) (va_up (bi) (x) ((bi) (x) + 1)) (va_up (ki) (x) ((ki) (x) ||| 2 ^ ((cl) ((qu) (d)) - 1))) ((va_up (tr1) ((qu) (d)) ((x) + 1)), (be1), (fw1)) (ndF bi u0 x)).2.2) fd ++ (wSt s cI cl gr sp rs aw nb na bg bb ab nx ++ (wRl w cI ap pt rk cd mc mg mz nc nt oc fr)))) (by rw [up_back ki x _ _ rfl]) ?_
                refine wk_lv [3, 4, 5, 6, 7, 8, 0] ?_ (ih41 (mm - 1) (x + 1) ((pcF (ap) (cl) (gr) (bg) (bb) (ab) (qu) (nx) (n) ((d) + (1)) (va_up (gi) (x) ((gi) (x) + (gr) ((qu) (d)))) (va_up (bi) (x) ((bi) (x) + 1)) (va_up (ki) (x) ((ki) (x) ||| 2 ^ ((cl) ((qu) (d)) - 1))) ((va_up (tr1) ((qu) (d)) ((x) + 1)), (be1), (fw1)) (ndF bi u0 x)).1) ((pcF (ap) (cl) (gr) (bg) (bb) (ab) (qu) (nx) (n) ((d) + (1)) (va_up (gi) (x) ((gi) (x) + (gr) ((qu) (d)))) (va_up (bi) (x) ((bi) (x) + 1)) (va_up (ki) (x) ((ki) (x) ||| 2 ^ ((cl) ((qu) (d)) - 1))) ((va_up (tr1) ((qu) (d)) ((x) + 1)), (be1), (fw1)) (ndF bi u0 x)).2.1) ((pcF (ap) (cl) (gr) (bg) (bb) (ab) (qu) (nx) (n) ((d) + (1)) (va_up (gi) (x) ((gi) (x) + (gr) ((qu) (d)))) (va_up (bi) (x) ((bi) (x) + 1)) (va_up (ki) (x) ((ki) (x) ||| 2 ^ ((cl) ((qu) (d)) - 1))) ((va_up (tr1) ((qu) (d)) ((x) + 1)), (be1), (fw1)) (ndF bi u0 x)).2.2) (by omega) (by omega) (pcF_le n (d + 1) _ _ _ _ _ hf1 (by omega)) (by rw [← hE]; obtain ⟨r, rfl⟩ : ∃ r, mm = r + 1 := ⟨mm - 1, by omega⟩; rw [pcX, if_pos ⟨h77, h90⟩]; rfl))
                rfl
    refine wk_lv [2, 3, 4, 5, 6, 1, 0] ?_ (hL41 _ (nx) (0) (tr) (be) (fw) (Nat.lt_succ_self _) (by omega) hfw rfl)
    rfl
