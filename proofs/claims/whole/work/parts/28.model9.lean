theorem trS_ok2 {li : Nat → Nat} {nx : Nat} {w0 : Nat → Nat} (k : Nat) (w : Nat → Nat) (h0 : k = 0 ∨ 0 < nx) (h1 : ∀ b, w b ≤ nx ∨ k = 0) (h2 : ∀ b, w b = 0 ↔ w0 b = 0) (h3 : ∀ j, j < k → w (li j) ≠ 0) : (∀ b, (trS li nx k w).1 b ≤ nx ∨ k = 0) ∧ (∀ b, (trS li nx k w).1 b = 0 ↔ w0 b = 0) := by
  by_cases e : k = 0
  · subst e; exact ⟨fun _ => Or.inr rfl, h2⟩
  · have h4 := trS_ok (w0 := w0) (show 0 < nx by omega) k w (fun b => by rcases h1 b with z | z; exact z; exact absurd z e) h2 h3
    exact ⟨fun b => Or.inl (h4.1 b), h4.2⟩
theorem muS_lt {li : Nat → Nat} {nx : Nat} {w : Nat → Nat} : ∀ k, (∀ j, j < k → w (li j) ≠ 0 ∧ 0 < nx) → muS li nx k w < nx ^ k
  | 0, _ => Nat.zero_lt_one
  | k + 1, h => by
    have ih := muS_lt (w := w) k (fun j hj => h j (by omega))
    have h1 := h k (by omega)
    rw [muS, Nat.pow_succ]
    have h2 : (muS li nx k w + 1) * nx ≤ nx ^ k * nx := Nat.mul_le_mul_right nx ih
    rw [Nat.add_mul] at h2
    omega
noncomputable def kpF (ap : Nat → Bool) (cl gr bg bb ab : Nat → Nat) (nb nx : Nat) : (Nat → Nat) → Bool := fun w => kpB ap cl gr w bg bb ab nb nx
/-- one way is looked at -/
def stB (K : (Nat → Nat) → Bool) (nb : Nat) (w : Nat → Nat) (q : Nat) (b : Nat → Nat) : Nat × (Nat → Nat) := if (q = 0 ∨ (usS w nb).2 + 1 < q) ∧ K w = true then ((usS w nb).2 + 1, w) else (q, b)
/-- all ways from w on: the best (0: none, else one more), and who stands where -/
def pkR (K : (Nat → Nat) → Bool) (nb : Nat) (li : Nat → Nat) (nx n : Nat) : Nat → (Nat → Nat) → Nat × (Nat → Nat) → Nat × (Nat → Nat)
  | 0, _, q => q
  | f + 1, w, q => if (trS li nx n w).2 = true then pkR K nb li nx n f (trS li nx n w).1 (stB K nb w q.1 q.2) else stB K nb w q.1 q.2
theorem pkR_s (K : (Nat → Nat) → Bool) (nb : Nat) (li : Nat → Nat) (nx n f : Nat) (w : Nat → Nat) (q : Nat) (b : Nat → Nat) : pkR K nb li nx n (f + 1) w (q, b) = if (trS li nx n w).2 = true then pkR K nb li nx n f (trS li nx n w).1 (stB K nb w q b) else stB K nb w q b := rfl
noncomputable def pkA (ap : Nat → Bool) (cl gr bg bb ab : Nat → Nat) (ot : Nat → Bool) (nb nx : Nat) (li bx : Nat → Nat) : Nat × (Nat → Nat) := pkR (kpF ap cl gr bg bb ab nb nx) nb (pkL ot cl nb li 8).1 nx (pkL ot cl nb li 8).2 (nx ^ (pkL ot cl nb li 8).2) (wyI ot cl nb) (0, bx)
noncomputable def pkS (ap : Nat → Bool) (cl gr bg bb ab : Nat → Nat) (ot : Nat → Bool) (nb nx : Nat) (li : Nat → Nat) (x : Int64) (bx : Nat → Nat) (fd pv : Bool) : Int32 × (Nat → Nat) × Bool × Bool :=
  if x < lN (nx ^ (pkL ot cl nb li 8).2) ∨ nx ^ (pkL ot cl nb li 8).2 = 0 then (-1, bx, fd, pv)
  else if (pkA ap cl gr bg bb ab ot nb nx li bx).1 = 0 then (-1, bx, fd, pv)
  else (zI (pkA ap cl gr bg bb ab ot nb nx li bx).1, (pkA ap cl gr bg bb ab ot nb nx li bx).2, true, true)
theorem p58 {nx n : Nat} (h1 : nx ≤ 5) (h2 : n ≤ 8) : nx ^ n ≤ 390625 := Nat.le_trans (Nat.pow_le_pow_left h1 n) (Nat.pow_le_pow_right (by decide) h2)
theorem mv_Md_231 : wk_V R_Md 231 R_Md y_Md_used b_Md_used 5 (some .int) 1 := ⟨(gd _ (tb3 _ (List.mem_of_getElem? (i := 160) rfl)) rfl), (gd _ (tb0 _ (List.mem_of_getElem? (i := 8) rfl)) rfl), (gd _ (tb3 _ (List.mem_of_getElem? (i := 157) rfl)) rfl), (by decide +kernel), (gd _ (tb3 _ (List.mem_of_getElem? (i := 159) rfl)) rfl), (gd _ (List.mem_append_left _ (by decide +kernel)) rfl)⟩
theorem mv_Md_242 : wk_V R_Md 242 R_Md y_Md_turn b_Md_turn 3 (some .boolean) 1 := ⟨(gd _ (tb3 _ (List.mem_of_getElem? (i := 168) rfl)) rfl), (gd _ (tb0 _ (List.mem_of_getElem? (i := 8) rfl)) rfl), (gd _ (tb3 _ (List.mem_of_getElem? (i := 165) rfl)) rfl), (by decide +kernel), (gd _ (tb3 _ (List.mem_of_getElem? (i := 167) rfl)) rfl), (gd _ (List.mem_append_left _ (by decide +kernel)) rfl)⟩
theorem d_Md_pack_0 : decode b_Md_pack 0 = .ok (.iconst 0, 1) := by decide +kernel
theorem d_Md_pack_1 : decode b_Md_pack 1 = .ok (.istore_n 3, 1) := by decide +kernel
theorem d_Md_pack_2 : decode b_Md_pack 2 = .ok (.lconst 1, 1) := by decide +kernel
theorem d_Md_pack_3 : decode b_Md_pack 3 = .ok (.lstore 4, 2) := by decide +kernel
theorem d_Md_pack_5 : decode b_Md_pack 5 = .ok (.iconst 0, 1) := by decide +kernel
theorem d_Md_pack_6 : decode b_Md_pack 6 = .ok (.istore 6, 2) := by decide +kernel
theorem d_Md_pack_8 : decode b_Md_pack 8 = .ok (.iload 6, 2) := by decide +kernel
theorem d_Md_pack_10 : decode b_Md_pack 10 = .ok (.bipush 8, 2) := by decide +kernel
theorem d_Md_pack_12 : decode b_Md_pack 12 = .ok (.if_icmp .ge 64, 3) := by decide +kernel
theorem d_Md_pack_15 : decode b_Md_pack 15 = .ok (.aload_n 0, 1) := by decide +kernel
theorem d_Md_pack_16 : decode b_Md_pack 16 = .ok (.getfield 102, 3) := by decide +kernel
theorem d_Md_pack_19 : decode b_Md_pack 19 = .ok (.iload 6, 2) := by decide +kernel
theorem d_Md_pack_21 : decode b_Md_pack 21 = .ok (.iconst (-1), 1) := by decide +kernel
theorem d_Md_pack_22 : decode b_Md_pack 22 = .ok (.iastore, 1) := by decide +kernel
theorem d_Md_pack_23 : decode b_Md_pack 23 = .ok (.iload 6, 2) := by decide +kernel
theorem d_Md_pack_25 : decode b_Md_pack 25 = .ok (.aload_n 0, 1) := by decide +kernel
theorem d_Md_pack_26 : decode b_Md_pack 26 = .ok (.getfield 117, 3) := by decide +kernel
theorem d_Md_pack_29 : decode b_Md_pack 29 = .ok (.if_icmp .ge 41, 3) := by decide +kernel
theorem d_Md_pack_32 : decode b_Md_pack 32 = .ok (.aload_n 0, 1) := by decide +kernel
theorem d_Md_pack_33 : decode b_Md_pack 33 = .ok (.iload 6, 2) := by decide +kernel
theorem d_Md_pack_35 : decode b_Md_pack 35 = .ok (.invokevirtual 228, 3) := by decide +kernel
theorem d_Md_pack_38 : decode b_Md_pack 38 = .ok (.ifCond .eq 32, 3) := by decide +kernel
theorem d_Md_pack_41 : decode b_Md_pack 41 = .ok (.aload_n 0, 1) := by decide +kernel
theorem d_Md_pack_42 : decode b_Md_pack 42 = .ok (.getfield 102, 3) := by decide +kernel
theorem d_Md_pack_45 : decode b_Md_pack 45 = .ok (.iload 6, 2) := by decide +kernel
theorem d_Md_pack_47 : decode b_Md_pack 47 = .ok (.iconst 0, 1) := by decide +kernel
theorem d_Md_pack_48 : decode b_Md_pack 48 = .ok (.iastore, 1) := by decide +kernel
theorem d_Md_pack_49 : decode b_Md_pack 49 = .ok (.aload_n 0, 1) := by decide +kernel
theorem d_Md_pack_50 : decode b_Md_pack 50 = .ok (.getfield 105, 3) := by decide +kernel
theorem d_Md_pack_53 : decode b_Md_pack 53 = .ok (.iload_n 3, 1) := by decide +kernel
theorem d_Md_pack_54 : decode b_Md_pack 54 = .ok (.iload 6, 2) := by decide +kernel
theorem d_Md_pack_56 : decode b_Md_pack 56 = .ok (.iastore, 1) := by decide +kernel
theorem d_Md_pack_57 : decode b_Md_pack 57 = .ok (.iinc 3 1, 3) := by decide +kernel
theorem d_Md_pack_60 : decode b_Md_pack 60 = .ok (.lload 4, 2) := by decide +kernel
theorem d_Md_pack_62 : decode b_Md_pack 62 = .ok (.aload_n 0, 1) := by decide +kernel
theorem d_Md_pack_63 : decode b_Md_pack 63 = .ok (.getfield 213, 3) := by decide +kernel
theorem d_Md_pack_66 : decode b_Md_pack 66 = .ok (.i2l, 1) := by decide +kernel
theorem d_Md_pack_67 : decode b_Md_pack 67 = .ok (.lmul, 1) := by decide +kernel
theorem d_Md_pack_68 : decode b_Md_pack 68 = .ok (.lstore 4, 2) := by decide +kernel
theorem d_Md_pack_70 : decode b_Md_pack 70 = .ok (.iinc 6 1, 3) := by decide +kernel
theorem d_Md_pack_73 : decode b_Md_pack 73 = .ok (.goto (-65), 3) := by decide +kernel
theorem d_Md_pack_76 : decode b_Md_pack 76 = .ok (.lload 4, 2) := by decide +kernel
theorem d_Md_pack_78 : decode b_Md_pack 78 = .ok (.lload_n 1, 1) := by decide +kernel
theorem d_Md_pack_79 : decode b_Md_pack 79 = .ok (.lcmp, 1) := by decide +kernel
theorem d_Md_pack_80 : decode b_Md_pack 80 = .ok (.ifCond .gt 10, 3) := by decide +kernel
theorem d_Md_pack_83 : decode b_Md_pack 83 = .ok (.lload 4, 2) := by decide +kernel
theorem d_Md_pack_85 : decode b_Md_pack 85 = .ok (.lconst 0, 1) := by decide +kernel
theorem d_Md_pack_86 : decode b_Md_pack 86 = .ok (.lcmp, 1) := by decide +kernel
theorem d_Md_pack_87 : decode b_Md_pack 87 = .ok (.ifCond .ne 5, 3) := by decide +kernel
theorem d_Md_pack_90 : decode b_Md_pack 90 = .ok (.iconst (-1), 1) := by decide +kernel
theorem d_Md_pack_91 : decode b_Md_pack 91 = .ok (.ireturn, 1) := by decide +kernel
theorem d_Md_pack_92 : decode b_Md_pack 92 = .ok (.iconst (-1), 1) := by decide +kernel
theorem d_Md_pack_93 : decode b_Md_pack 93 = .ok (.istore 6, 2) := by decide +kernel
theorem d_Md_pack_95 : decode b_Md_pack 95 = .ok (.iconst 1, 1) := by decide +kernel
theorem d_Md_pack_96 : decode b_Md_pack 96 = .ok (.istore 7, 2) := by decide +kernel
theorem d_Md_pack_98 : decode b_Md_pack 98 = .ok (.iload 7, 2) := by decide +kernel
theorem d_Md_pack_100 : decode b_Md_pack 100 = .ok (.ifCond .eq 92, 3) := by decide +kernel
theorem d_Md_pack_103 : decode b_Md_pack 103 = .ok (.iload 6, 2) := by decide +kernel
theorem d_Md_pack_105 : decode b_Md_pack 105 = .ok (.ifCond .lt 16, 3) := by decide +kernel
theorem d_Md_pack_108 : decode b_Md_pack 108 = .ok (.aload_n 0, 1) := by decide +kernel
theorem d_Md_pack_109 : decode b_Md_pack 109 = .ok (.aload_n 0, 1) := by decide +kernel
theorem d_Md_pack_110 : decode b_Md_pack 110 = .ok (.getfield 102, 3) := by decide +kernel
theorem d_Md_pack_113 : decode b_Md_pack 113 = .ok (.invokevirtual 231, 3) := by decide +kernel
theorem d_Md_pack_116 : decode b_Md_pack 116 = .ok (.iload 6, 2) := by decide +kernel
theorem d_Md_pack_118 : decode b_Md_pack 118 = .ok (.if_icmp .ge 64, 3) := by decide +kernel
theorem d_Md_pack_121 : decode b_Md_pack 121 = .ok (.aload_n 0, 1) := by decide +kernel
theorem d_Md_pack_122 : decode b_Md_pack 122 = .ok (.aload_n 0, 1) := by decide +kernel
theorem d_Md_pack_123 : decode b_Md_pack 123 = .ok (.getfield 102, 3) := by decide +kernel
theorem d_Md_pack_126 : decode b_Md_pack 126 = .ok (.invokevirtual 235, 3) := by decide +kernel
theorem d_Md_pack_129 : decode b_Md_pack 129 = .ok (.ifCond .eq 53, 3) := by decide +kernel
theorem d_Md_pack_132 : decode b_Md_pack 132 = .ok (.aload_n 0, 1) := by decide +kernel
theorem d_Md_pack_133 : decode b_Md_pack 133 = .ok (.aload_n 0, 1) := by decide +kernel
theorem d_Md_pack_134 : decode b_Md_pack 134 = .ok (.getfield 102, 3) := by decide +kernel
theorem d_Md_pack_137 : decode b_Md_pack 137 = .ok (.invokevirtual 231, 3) := by decide +kernel
theorem d_Md_pack_140 : decode b_Md_pack 140 = .ok (.istore 6, 2) := by decide +kernel
theorem d_Md_pack_142 : decode b_Md_pack 142 = .ok (.iconst 0, 1) := by decide +kernel
theorem d_Md_pack_143 : decode b_Md_pack 143 = .ok (.istore 8, 2) := by decide +kernel
theorem d_Md_pack_145 : decode b_Md_pack 145 = .ok (.iload 8, 2) := by decide +kernel
theorem d_Md_pack_147 : decode b_Md_pack 147 = .ok (.bipush 8, 2) := by decide +kernel
theorem d_Md_pack_149 : decode b_Md_pack 149 = .ok (.if_icmp .ge 23, 3) := by decide +kernel
theorem d_Md_pack_152 : decode b_Md_pack 152 = .ok (.aload_n 0, 1) := by decide +kernel
theorem d_Md_pack_153 : decode b_Md_pack 153 = .ok (.getfield 99, 3) := by decide +kernel
theorem d_Md_pack_156 : decode b_Md_pack 156 = .ok (.iload 8, 2) := by decide +kernel
theorem d_Md_pack_158 : decode b_Md_pack 158 = .ok (.aload_n 0, 1) := by decide +kernel
theorem d_Md_pack_159 : decode b_Md_pack 159 = .ok (.getfield 102, 3) := by decide +kernel
theorem d_Md_pack_162 : decode b_Md_pack 162 = .ok (.iload 8, 2) := by decide +kernel
theorem d_Md_pack_164 : decode b_Md_pack 164 = .ok (.iaload, 1) := by decide +kernel
theorem d_Md_pack_165 : decode b_Md_pack 165 = .ok (.iastore, 1) := by decide +kernel
theorem d_Md_pack_166 : decode b_Md_pack 166 = .ok (.iinc 8 1, 3) := by decide +kernel
theorem d_Md_pack_169 : decode b_Md_pack 169 = .ok (.goto (-24), 3) := by decide +kernel
theorem d_Md_pack_172 : decode b_Md_pack 172 = .ok (.aload_n 0, 1) := by decide +kernel
theorem d_Md_pack_173 : decode b_Md_pack 173 = .ok (.iconst 1, 1) := by decide +kernel
theorem d_Md_pack_174 : decode b_Md_pack 174 = .ok (.putfield 239, 3) := by decide +kernel
theorem d_Md_pack_177 : decode b_Md_pack 177 = .ok (.aload_n 0, 1) := by decide +kernel
theorem d_Md_pack_178 : decode b_Md_pack 178 = .ok (.iconst 1, 1) := by decide +kernel
theorem d_Md_pack_179 : decode b_Md_pack 179 = .ok (.putfield 130, 3) := by decide +kernel
theorem d_Md_pack_182 : decode b_Md_pack 182 = .ok (.aload_n 0, 1) := by decide +kernel
theorem d_Md_pack_183 : decode b_Md_pack 183 = .ok (.iload_n 3, 1) := by decide +kernel
theorem d_Md_pack_184 : decode b_Md_pack 184 = .ok (.invokevirtual 242, 3) := by decide +kernel
theorem d_Md_pack_187 : decode b_Md_pack 187 = .ok (.istore 7, 2) := by decide +kernel
theorem d_Md_pack_189 : decode b_Md_pack 189 = .ok (.goto (-91), 3) := by decide +kernel
theorem d_Md_pack_192 : decode b_Md_pack 192 = .ok (.iload 6, 2) := by decide +kernel
theorem d_Md_pack_194 : decode b_Md_pack 194 = .ok (.ireturn, 1) := by decide +kernel
set_option maxHeartbeats 4000000 in
set_option maxRecDepth 100000 in
theorem c_Md_pack (l : Launch) (D : va_G) (cI : CiT) (z : GzT) (m : Nat → Nat) (tx : (Nat → Nat)) (sz : Nat) (ap : (Nat → Bool)) (pt : (Nat → Nat)) (rk : (Nat → Nat)) (cd : (Nat → Nat)) (fr : Nat) (mc : (Nat → Nat)) (mg : (Nat → Nat)) (mz : (Nat → Nat)) (nc : (Nat → Nat)) (nt : (Nat → Nat)) (ld : (Nat → Nat)) (qap : (Nat → Bool)) (qpt : (Nat → Nat)) (qrk : (Nat → Nat)) (qcd : (Nat → Nat)) (qfr : Nat) (qmc : (Nat → Nat)) (qmg : (Nat → Nat)) (qmz : (Nat → Nat)) (qnc : (Nat → Nat)) (qnt : (Nat → Nat)) (qld : (Nat → Nat)) (nb : Nat) (cl : (Nat → Nat)) (gr : (Nat → Nat)) (sp : (Nat → Nat)) (ot : (Nat → Bool)) (na : Nat) (aw : (Nat → Nat)) (nx : Nat) (bg : (Nat → Nat)) (bb : (Nat → Nat)) (ab : (Nat → Nat)) (fd : Bool) (pv : Bool) (bx : (Nat → Nat)) (wy : (Nat → Nat)) (li : (Nat → Nat)) (fm : Nat) (en : Nat) (nu : Nat) (td : (Nat → Nat)) (lf : Int32) (lk : Int32) (x : Int64) (hnb : nb ≤ 8) (hnx : nx ≤ 5) (hgr : ∀ b, gr b ≤ 100000) (hcl : ∀ b, cl b ≤ 9) (hbg : ∀ x, bg x ≤ 1000000) (hbb : ∀ x, bb x ≤ 8) (hab : ∀ x, ab x ≤ 1000000) (hli : ∀ k, li k < 8) : wk_C l D (tyK cI) (gX z) y_Md_pack b_Md_pack 9 (some .int) 1 27 0 0 [.ref (m 0), .long (x)] (wMd m cI tx sz ap pt rk cd fr mc mg mz nc nt ld qap qpt qrk qcd qfr qmc qmg qmz qnc qnt qld nb cl gr sp ot na aw nx bg bb ab fd pv bx wy li fm en nu td lf lk) wk_i (fun (r : Int32) (u : (Nat → Nat) × (Nat → Nat) × (Nat → Nat) × Bool × Bool) => u.2.1 = (pkL ot cl nb li 8).1 ∧ (r, u.2.2) = pkS ap cl gr bg bb ab ot nb nx li x bx fd pv) (fun u => (wMd m cI tx sz ap pt rk cd fr mc mg mz nc nt ld qap qpt qrk qcd qfr qmc qmg qmz qnc qnt qld nb cl gr sp ot na aw nx bg bb ab u.2.2.2.1 u.2.2.2.2 u.2.2.1 u.1 u.2.1 fm en nu td lf lk)) := by
  refine wk_methI (own := R_Md) [(0, .ref (m 0)), (1, .long (x))] (by decide) rfl (Nat.le_of_ble_eq_true rfl) rfl (gX_ok z) (fun p_ e_ R_ s_ m_ ar_ be_ me_ co_ Q_ A_ hR_ S_ hnm_ hQ_ => ?_)
  refine wk_iconst (pc := 0) (v := (nI (0))) S_ d_Md_pack_0 (by decide) ?_
  refine wk_istore_n (pc := 1) (lv' := [(3, .int (nI (0))), (0, .ref (m 0)), (1, .long (x))]) S_ d_Md_pack_1 rfl (by decide) rfl ?_
  refine wk_lconst (pc := 2) (v := (lN (1))) S_ d_Md_pack_2 (by decide) ?_
  refine wk_lstore (pc := 3) (lv' := [(4, .long (lN (1))), (3, .int (nI (0))), (0, .ref (m 0)), (1, .long (x))]) S_ d_Md_pack_3 (by decide) rfl ?_
  refine wk_iconst (pc := 5) (v := (nI (0))) S_ d_Md_pack_5 (by decide) ?_
  refine wk_istore (pc := 6) (lv' := [(6, .int (nI (0))), (4, .long (lN (1))), (3, .int (nI (0))), (0, .ref (m 0)), (1, .long (x))]) S_ d_Md_pack_6 (by decide) rfl ?_
  have hL8 : ∀ (fuel8 : Nat), ∀ (k : Nat), 8 - k < fuel8 → (k ≤ 8) → wk_G p_ l e_ R_ s_ m_ ar_ be_ me_ co_ Q_ D A_ 9 0 0 (wMd m cI tx sz ap pt rk cd fr mc mg mz nc nt ld qap qpt qrk qcd qfr qmc qmg qmz qnc qnt qld nb cl gr sp ot na aw nx bg bb ab fd pv bx (cpN k (wyI ot cl nb) wy) ((pkL ot cl nb li k).1) fm en nu td lf lk) 8 [(0, .ref (m 0)), (1, .long (x)), (3, .int (nI ((pkL ot cl nb li k).2))), (4, .long (lN (nx ^ (pkL ot cl nb li k).2))), (6, .int (nI (k)))] [] := by
    intro fuel8
    induction fuel8 with
    | zero => intro k hm; exact absurd hm (Nat.not_lt_zero _)
    | succ fuel8 ih8 =>
      intro k hm hk
      refine wk_iload (pc := 8) S_ 4 d_Md_pack_8 rfl ?_
      refine wk_bipush (pc := 10) (v := (nI (8))) S_ d_Md_pack_10 (by decide) ?_
      refine wk_icmp_geN (pc := 12) (tgt := 76) S_ d_Md_pack_12 (by decide) (by omega) (by omega) (fun h12 => ?_) (fun h12 => ?_)
      · -- taken
        have hk8 : k = 8 := by omega
        subst hk8
        have hP8 := pkL_ok (ot := ot) (cl := cl) (nb := nb) hli 8 (by omega)
        have hpw := p58 (nx := nx) (n := (pkL ot cl nb li 8).2) hnx hP8.1
        refine wk_ext (f := zF (cpN 8 (wyI ot cl nb) wy)) (g := zF (wyI ot cl nb)) (ws' := (wMd m cI tx sz ap pt rk cd fr mc mg mz nc nt ld qap qpt qrk qcd qfr qmc qmg qmz qnc qnt qld nb cl gr sp ot na aw nx bg bb ab fd pv bx (wyI ot cl nb) ((pkL ot cl nb li 8).1) fm en nu td lf lk)) 31 rfl (fun j hj => by unfold zF; rw [cp_in (by omega)]) rfl ?_
        refine wk_lload (pc := 76) S_ 3 d_Md_pack_76 rfl ?_
        refine wk_lload_n (pc := 78) S_ 1 d_Md_pack_78 rfl rfl ?_
        refine wk_lcmp (pc := 79) S_ d_Md_pack_79 ?_
        refine wk_cmp_gt (pc := 80) (tgt := 90) S_ d_Md_pack_80 (by decide) (fun h80 => ?_) (fun h80 => ?_)
        · -- taken
          refine wk_iconst (pc := 90) (v := (-1)) S_ d_Md_pack_90 (by decide) ?_
          exact hQ_ (-1) (wyI ot cl nb, (pkL ot cl nb li 8).1, bx, fd, pv) d_Md_pack_91 rfl ⟨rfl, by rw [pkS, if_pos (Or.inl h80)]⟩
        · -- on
          refine wk_lload (pc := 83) S_ 3 d_Md_pack_83 rfl ?_
          refine wk_lconst (pc := 85) (v := (lN (0))) S_ d_Md_pack_85 (by decide) ?_
          refine wk_lcmp (pc := 86) S_ d_Md_pack_86 ?_
          refine wk_cmp_neN (pc := 87) (tgt := 92) S_ d_Md_pack_87 (by decide) (by omega) (by omega) (fun h87 => ?_) (fun h87 => ?_)
          · -- taken
            have hnz : (pkL ot cl nb li 8).2 = 0 ∨ 0 < nx := by by_cases z : (pkL ot cl nb li 8).2 = 0; exact Or.inl z; right; rcases Nat.eq_zero_or_pos nx with y | y; rw [y, Nat.zero_pow (by omega)] at h87; exact absurd rfl h87; exact y
            refine wk_iconst (pc := 92) (v := (-1)) S_ d_Md_pack_92 (by decide) ?_
            refine wk_top (y := (zI (0))) zI_0.symm ?_
            refine wk_istore (pc := 93) (lv' := [(6, .int (zI (0))), (0, .ref (m 0)), (1, .long (x)), (3, .int (nI ((pkL ot cl nb li 8).2))), (4, .long (lN (nx ^ (pkL ot cl nb li 8).2)))]) S_ d_Md_pack_93 (by decide) rfl ?_
            refine wk_iconst (pc := 95) (v := (nI (1))) S_ d_Md_pack_95 (by decide) ?_
            refine wk_top (y := (bI (true))) rfl ?_
            refine wk_istore (pc := 96) (lv' := [(7, .int (bI (true))), (6, .int (zI (0))), (0, .ref (m 0)), (1, .long (x)), (3, .int (nI ((pkL ot cl nb li 8).2))), (4, .long (lN (nx ^ (pkL ot cl nb li 8).2)))]) S_ d_Md_pack_96 (by decide) rfl ?_
            have hL98 : ∀ (fuel98 : Nat), ∀ (f : Nat) (w : Nat → Nat) (best : Nat) (b1 : Nat → Nat) (fd1 : Bool) (pv1 : Bool) (mo : Bool), (if mo = true then muS (pkL ot cl nb li 8).1 nx (pkL ot cl nb li 8).2 w + 1 else 0) < fuel98 → ((if mo = true then pkR (kpF ap cl gr bg bb ab nb nx) nb (pkL ot cl nb li 8).1 nx (pkL ot cl nb li 8).2 f w (best, b1) else (best, b1)) = pkA ap cl gr bg bb ab ot nb nx li bx) → (mo = true → muS (pkL ot cl nb li 8).1 nx (pkL ot cl nb li 8).2 w < f) → (∀ b, w b ≤ nx ∨ (pkL ot cl nb li 8).2 = 0) → (∀ b, w b ≤ 5) → (∀ b, w b = 0 ↔ wyI ot cl nb b = 0) → (best ≤ 9) → ((best = 0 ∧ fd1 = fd ∧ pv1 = pv ∧ b1 = bx) ∨ (best ≠ 0 ∧ fd1 = true ∧ pv1 = true)) → wk_G p_ l e_ R_ s_ m_ ar_ be_ me_ co_ Q_ D A_ 9 0 0 (wMd m cI tx sz ap pt rk cd fr mc mg mz nc nt ld qap qpt qrk qcd qfr qmc qmg qmz qnc qnt qld nb cl gr sp ot na aw nx bg bb ab fd1 pv1 b1 w ((pkL ot cl nb li 8).1) fm en nu td lf lk) 98 [(0, .ref (m 0)), (3, .int (nI ((pkL ot cl nb li 8).2))), (6, .int (zI (best))), (7, .int (bI (mo)))] [] := by
              intro fuel98
              induction fuel98 with
              | zero => intro f w best b1 fd1 pv1 mo hm98; exact absurd hm98 (Nat.not_lt_zero _)
              | succ fuel98 ih98 =>
                intro f w best b1 fd1 pv1 mo hm98 hE hf hw5 hw6 hw0 hbest hfd
                refine wk_iload (pc := 98) S_ 3 d_Md_pack_98 rfl ?_
                refine wk_if_eqB (pc := 100) (tgt := 192) S_ d_Md_pack_100 (by decide) (fun h100 => ?_) (fun h100 => ?_)
                · -- taken
                  refine wk_iload (pc := 192) S_ 2 d_Md_pack_192 rfl ?_
                  exact hQ_ (zI (best)) (w, (pkL ot cl nb li 8).1, b1, fd1, pv1) d_Md_pack_194 rfl (by subst h100; rw [if_neg (by decide)] at hE; refine ⟨rfl, ?_⟩; rw [pkS, if_neg (fun z => by rcases z with z | z; exact h80 z; exact h87 z), ← hE]; rcases hfd with ⟨z, z1, z2, z3⟩ | ⟨z, z1, z2⟩; rw [if_pos z, z, z1, z2, z3, zI_0]; rw [if_neg z, z1, z2])
                · -- on
                  subst h100
                  have hwl : ∀ j, j < (pkL ot cl nb li 8).2 → w ((pkL ot cl nb li 8).1 j) ≠ 0 := fun j hj z => by have h1 := (hw0 _).mp z; rw [(hP8.2.2.1 j hj).2] at h1; cases h1
                  have hwc : ∀ b, b < nb → w b ≠ 0 → cl b ≠ 0 := fun b _ hb0 => by have h7 := (not_congr (hw0 b)).mp hb0; by_cases z : b < nb ∧ ot b = false ∧ cl b ≠ 0; exact z.2.2; exact absurd (if_neg z) h7
                  refine wk_iload (pc := 103) S_ 2 d_Md_pack_103 rfl ?_
                  refine wk_if_ltY (pc := 105) (tgt := 121) S_ d_Md_pack_105 (by decide) (by omega) (fun h105 => ?_) (fun h105 => ?_)
                  · -- taken
                    refine wk_aload_n (pc := 121) S_ 0 d_Md_pack_121 rfl rfl ?_
                    refine wk_aload_n (pc := 122) S_ 0 d_Md_pack_122 rfl rfl ?_
                    refine wk_get (pc := 123) (v := .ref (m 31)) S_ 6 38 0 in_Md rfl (by decide) rfl fl_Md_102 d_Md_pack_123 rfl rfl ?_
                    refine wk_run (pc := 126) (rest := []) (wr := []) (wN := fun _ => (wMd m cI tx sz ap pt rk cd fr mc mg mz nc nt ld qap qpt qrk qcd qfr qmc qmg qmz qnc qnt qld nb cl gr sp ot na aw nx bg bb ab fd1 pv1 b1 w ((pkL ot cl nb li 8).1) fm en nu td lf lk)) S_ (wk_rV S_ (c_Md_keeps_wy l D cI z (m) (tx) (sz) (ap) (pt) (rk) (cd) (fr) (mc) (mg) (mz) (nc) (nt) (ld) (qap) (qpt) (qrk) (qcd) (qfr) (qmc) (qmg) (qmz) (qnc) (qnt) (qld) (nb) (cl) (gr) (sp) (ot) (na) (aw) (nx) (bg) (bb) (ab) (fd1) (pv1) (b1) (w) ((pkL ot cl nb li 8).1) (fm) (en) (nu) (td) (lf) (lk) (by omega) (by omega) hgr hcl hw6 hwc hbg hbb hab) mv_Md_235 (wk_rcv S_ 0 6 rfl rfl rfl) rfl rfl (Nat.le_of_ble_eq_true rfl) (by rw [hR_]; decide) (by rw [hR_]; decide) d_Md_pack_126) [0, 1, 2, 3, 4, 5, 6, 7, 8, 9, 10, 11, 12, 13, 14, 15, 16, 17, 18, 19, 20, 21, 22, 23, 24, 25, 26, 27, 28, 29, 30, 31, 32, 33] [] [0, 1, 2, 3, 4, 5, 6, 7, 8, 9, 10, 11, 12, 13, 14, 15, 16, 17, 18, 19, 20, 21, 22, 23, 24, 25, 26, 27, 28, 29, 30, 31, 32, 33] rfl rfl rfl (by decide) (by decide) (by decide) (by decide) (fun _ => rfl) (fun _ => rfl) (fun r126 _ hw126 => ?_)
                    refine wk_st (st' := [.int (r126)]) rfl ?_
                    refine wk_top (y := (bI (kpB (ap) (cl) (gr) (w) (bg) (bb) (ab) (nb) (nx)))) hw126 ?_
                    refine wk_if_eqB (pc := 129) (tgt := 182) S_ d_Md_pack_129 (by decide) (fun h129 => ?_) (fun h129 => ?_)
                    · -- taken
                      refine wk_aload_n (pc := 182) S_ 0 d_Md_pack_182 rfl rfl ?_
                      refine wk_iload_n (pc := 183) S_ 1 d_Md_pack_183 rfl rfl ?_
                      refine wk_run (pc := 184) (rest := []) (wr := []) (wN := fun _ => (wMd m cI tx sz ap pt rk cd fr mc mg mz nc nt ld qap qpt qrk qcd qfr qmc qmg qmz qnc qnt qld nb cl gr sp ot na aw nx bg bb ab fd1 pv1 b1 ((trS ((pkL ot cl nb li 8).1) (nx) ((pkL ot cl nb li 8).2) (w)).1) ((pkL ot cl nb li 8).1) fm en nu td lf lk)) S_ (wk_rV S_ (c_Md_turn l D cI z (m) (tx) (sz) (ap) (pt) (rk) (cd) (fr) (mc) (mg) (mz) (nc) (nt) (ld) (qap) (qpt) (qrk) (qcd) (qfr) (qmc) (qmg) (qmz) (qnc) (qnt) (qld) (nb) (cl) (gr) (sp) (ot) (na) (aw) (nx) (bg) (bb) (ab) (fd1) (pv1) (b1) (w) ((pkL ot cl nb li 8).1) (fm) (en) (nu) (td) (lf) (lk) ((pkL ot cl nb li 8).2) hP8.1 ⟨hnz, hnx⟩ hP8.2.1 hw6 hwl) mv_Md_242 (wk_rcv S_ 0 6 rfl rfl rfl) rfl rfl (Nat.le_of_ble_eq_true rfl) (by rw [hR_]; decide) (by rw [hR_]; decide) d_Md_pack_184) [0, 1, 2, 3, 4, 5, 6, 7, 8, 9, 10, 11, 12, 13, 14, 15, 16, 17, 18, 19, 20, 21, 22, 23, 24, 25, 26, 27, 28, 29, 30, 31, 32, 33] [] [0, 1, 2, 3, 4, 5, 6, 7, 8, 9, 10, 11, 12, 13, 14, 15, 16, 17, 18, 19, 20, 21, 22, 23, 24, 25, 26, 27, 28, 29, 30, 31, 32, 33] rfl rfl rfl (by decide) (by decide) (by decide) (by decide) (fun _ => rfl) (fun _ => rfl) (fun r184 _ hw184 => ?_)
                      refine wk_st (st' := [.int (r184)]) rfl ?_
                      refine wk_top (y := (bI ((trS ((pkL ot cl nb li 8).1) (nx) ((pkL ot cl nb li 8).2) (w)).2))) hw184 ?_
                      refine wk_istore (pc := 187) (lv' := [(7, .int (bI ((trS ((pkL ot cl nb li 8).1) (nx) ((pkL ot cl nb li 8).2) (w)).2))), (0, .ref (m 0)), (3, .int (nI ((pkL ot cl nb li 8).2))), (6, .int (zI (best)))]) S_ d_Md_pack_187 (by decide) rfl ?_
                      refine wk_goto (pc := 189) (tgt := 98) S_ d_Md_pack_189 (by decide) ?_
                      obtain ⟨r, rfl⟩ : ∃ r, f = r + 1 := ⟨f - 1, by have := hf rfl; omega⟩
                      have hst : stB (kpF ap cl gr bg bb ab nb nx) nb w best b1 = (best, b1) := if_neg (fun z => absurd (show kpB ap cl gr w bg bb ab nb nx = true from z.2) (by rw [h129]; decide))
                      have hmu : (trS (pkL ot cl nb li 8).1 nx (pkL ot cl nb li 8).2 w).2 = true → muS (pkL ot cl nb li 8).1 nx (pkL ot cl nb li 8).2 (trS (pkL ot cl nb li 8).1 nx (pkL ot cl nb li 8).2 w).1 + 1 = muS (pkL ot cl nb li 8).1 nx (pkL ot cl nb li 8).2 w := trS_mu (pkL ot cl nb li 8).2 w (fun j i h1 h2 => Nat.ne_of_lt (hP8.2.2.2 j i h1 h2)) (fun j hj => ⟨Nat.pos_of_ne_zero (hwl j hj), by rcases hw5 ((pkL ot cl nb li 8).1 j) with z | z; exact z; omega⟩)
                      have htr := trS_ok2 (li := (pkL ot cl nb li 8).1) (pkL ot cl nb li 8).2 w hnz hw5 hw0 hwl
                      refine wk_lv [1, 2, 3, 0] ?_ (ih98 (r) ((trS ((pkL ot cl nb li 8).1) (nx) ((pkL ot cl nb li 8).2) (w)).1) (best) (b1) (fd1) (pv1) ((trS ((pkL ot cl nb li 8).1) (nx) ((pkL ot cl nb li 8).2) (w)).2) (by rw [if_pos rfl] at hm98; split; rename_i z; have h1 := hmu z; omega; omega) (by rw [← hE, if_pos rfl, pkR_s, hst]) (fun z => by have h1 := hmu z; have h2 := hf rfl; omega) htr.1 (fun b => by rcases htr.1 b with z | z; omega; rw [z]; exact hw6 b) htr.2 (by have := (usS_le hw6 nb).2; omega) hfd)
                      rfl
                    · -- on
                      refine wk_aload_n (pc := 132) S_ 0 d_Md_pack_132 rfl rfl ?_
                      refine wk_aload_n (pc := 133) S_ 0 d_Md_pack_133 rfl rfl ?_
                      refine wk_get (pc := 134) (v := .ref (m 31)) S_ 6 38 0 in_Md rfl (by decide) rfl fl_Md_102 d_Md_pack_134 rfl rfl ?_
                      refine wk_run (pc := 137) (rest := []) (wr := []) (wN := fun _ => (wMd m cI tx sz ap pt rk cd fr mc mg mz nc nt ld qap qpt qrk qcd qfr qmc qmg qmz qnc qnt qld nb cl gr sp ot na aw nx bg bb ab fd1 pv1 b1 w ((pkL ot cl nb li 8).1) fm en nu td lf lk)) S_ (wk_rV S_ (c_Md_used_wy l D cI z (m) (tx) (sz) (ap) (pt) (rk) (cd) (fr) (mc) (mg) (mz) (nc) (nt) (ld) (qap) (qpt) (qrk) (qcd) (qfr) (qmc) (qmg) (qmz) (qnc) (qnt) (qld) (nb) (cl) (gr) (sp) (ot) (na) (aw) (nx) (bg) (bb) (ab) (fd1) (pv1) (b1) (w) ((pkL ot cl nb li 8).1) (fm) (en) (nu) (td) (lf) (lk) (by omega) hw6) mv_Md_231 (wk_rcv S_ 0 6 rfl rfl rfl) rfl rfl (Nat.le_of_ble_eq_true rfl) (by rw [hR_]; decide) (by rw [hR_]; decide) d_Md_pack_137) [0, 1, 2, 3, 4, 5, 6, 7, 8, 9, 10, 11, 12, 13, 14, 15, 16, 17, 18, 19, 20, 21, 22, 23, 24, 25, 26, 27, 28, 29, 30, 31, 32, 33] [] [0, 1, 2, 3, 4, 5, 6, 7, 8, 9, 10, 11, 12, 13, 14, 15, 16, 17, 18, 19, 20, 21, 22, 23, 24, 25, 26, 27, 28, 29, 30, 31, 32, 33] rfl rfl rfl (by decide) (by decide) (by decide) (by decide) (fun _ => rfl) (fun _ => rfl) (fun r137 _ hw137 => ?_)
                      refine wk_st (st' := [.int (r137)]) rfl ?_
                      refine wk_top (y := (nI ((usS (w) (nb)).2))) hw137 ?_
                      refine wk_top (y := (zI ((usS w nb).2 + 1))) (zI_s _).symm ?_
                      refine wk_istore (pc := 140) (lv' := [(6, .int (zI ((usS w nb).2 + 1))), (0, .ref (m 0)), (3, .int (nI ((pkL ot cl nb li 8).2))), (7, .int (bI (true)))]) S_ d_Md_pack_140 (by decide) rfl ?_
                      refine wk_iconst (pc := 142) (v := (nI (0))) S_ d_Md_pack_142 (by decide) ?_
                      refine wk_istore (pc := 143) (lv' := [(8, .int (nI (0))), (6, .int (zI ((usS w nb).2 + 1))), (0, .ref (m 0)), (3, .int (nI ((pkL ot cl nb li 8).2))), (7, .int (bI (true)))]) S_ d_Md_pack_143 (by decide) rfl ?_
                      have hL145 : ∀ (fuel145 : Nat), ∀ (j : Nat), 8 - j < fuel145 → (j ≤ 8) → wk_G p_ l e_ R_ s_ m_ ar_ be_ me_ co_ Q_ D A_ 9 0 0 (wMd m cI tx sz ap pt rk cd fr mc mg mz nc nt ld qap qpt qrk qcd qfr qmc qmg qmz qnc qnt qld nb cl gr sp ot na aw nx bg bb ab fd1 pv1 (cpN j w b1) w ((pkL ot cl nb li 8).1) fm en nu td lf lk) 145 [(0, .ref (m 0)), (3, .int (nI ((pkL ot cl nb li 8).2))), (6, .int (zI ((usS w nb).2 + 1))), (7, .int (bI (true))), (8, .int (nI (j)))] [] := by
                        intro fuel145
                        induction fuel145 with
                        | zero => intro j hm; exact absurd hm (Nat.not_lt_zero _)
                        | succ fuel145 ih145 =>
                          intro j hm hj
                          refine wk_iload (pc := 145) S_ 4 d_Md_pack_145 rfl ?_
                          refine wk_bipush (pc := 147) (v := (nI (8))) S_ d_Md_pack_147 (by decide) ?_
                          refine wk_icmp_geN (pc := 149) (tgt := 172) S_ d_Md_pack_149 (by decide) (by omega) (by omega) (fun h149 => ?_) (fun h149 => ?_)
                          · -- taken
                            refine wk_ext (f := zF (cpN j w b1)) (g := zF (w)) (ws' := (wMd m cI tx sz ap pt rk cd fr mc mg mz nc nt ld qap qpt qrk qcd qfr qmc qmg qmz qnc qnt qld nb cl gr sp ot na aw nx bg bb ab fd1 pv1 w w ((pkL ot cl nb li 8).1) fm en nu td lf lk)) 30 rfl (fun j2 hj2 => by unfold zF; rw [cp_in (by omega)]) rfl ?_
                            refine wk_aload_n (pc := 172) S_ 0 d_Md_pack_172 rfl rfl ?_
                            refine wk_iconst (pc := 173) (v := (nI (1))) S_ d_Md_pack_173 (by decide) ?_
                            refine wk_put (pc := 174) (ty := .boolean) (ws' := (wMd m cI tx sz ap pt rk cd fr mc mg mz nc nt ld qap qpt qrk qcd qfr qmc qmg qmz qnc qnt qld nb cl gr sp ot na aw nx bg bb ab true pv1 w w ((pkL ot cl nb li 8).1) fm en nu td lf lk)) S_ 6 35 0 in_Md t_Md t_Md_ok n_Md rfl (by decide) rfl fl_Md_239 (by decide +kernel) d_Md_pack_174 rfl rfl rfl (Nat.le_of_ble_eq_true rfl) rfl ?_
                            refine wk_aload_n (pc := 177) S_ 0 d_Md_pack_177 rfl rfl ?_
                            refine wk_iconst (pc := 178) (v := (nI (1))) S_ d_Md_pack_178 (by decide) ?_
                            refine wk_put (pc := 179) (ty := .boolean) (ws' := (wMd m cI tx sz ap pt rk cd fr mc mg mz nc nt ld qap qpt qrk qcd qfr qmc qmg qmz qnc qnt qld nb cl gr sp ot na aw nx bg bb ab true true w w ((pkL ot cl nb li 8).1) fm en nu td lf lk)) S_ 6 36 0 in_Md t_Md t_Md_ok n_Md rfl (by decide) rfl fl_Md_130 (by decide +kernel) d_Md_pack_179 rfl rfl rfl (Nat.le_of_ble_eq_true rfl) rfl ?_
                            refine wk_aload_n (pc := 182) S_ 0 d_Md_pack_182 rfl rfl ?_
                            refine wk_iload_n (pc := 183) S_ 1 d_Md_pack_183 rfl rfl ?_
                            refine wk_run (pc := 184) (rest := []) (wr := []) (wN := fun _ => (wMd m cI tx sz ap pt rk cd fr mc mg mz nc nt ld qap qpt qrk qcd qfr qmc qmg qmz qnc qnt qld nb cl gr sp ot na aw nx bg bb ab true true w ((trS ((pkL ot cl nb li 8).1) (nx) ((pkL ot cl nb li 8).2) (w)).1) ((pkL ot cl nb li 8).1) fm en nu td lf lk)) S_ (wk_rV S_ (c_Md_turn l D cI z (m) (tx) (sz) (ap) (pt) (rk) (cd) (fr) (mc) (mg) (mz) (nc) (nt) (ld) (qap) (qpt) (qrk) (qcd) (qfr) (qmc) (qmg) (qmz) (qnc) (qnt) (qld) (nb) (cl) (gr) (sp) (ot) (na) (aw) (nx) (bg) (bb) (ab) (true) (true) (w) (w) ((pkL ot cl nb li 8).1) (fm) (en) (nu) (td) (lf) (lk) ((pkL ot cl nb li 8).2) hP8.1 ⟨hnz, hnx⟩ hP8.2.1 hw6 hwl) mv_Md_242 (wk_rcv S_ 0 6 rfl rfl rfl) rfl rfl (Nat.le_of_ble_eq_true rfl) (by rw [hR_]; decide) (by rw [hR_]; decide) d_Md_pack_184) [0, 1, 2, 3, 4, 5, 6, 7, 8, 9, 10, 11, 12, 13, 14, 15, 16, 17, 18, 19, 20, 21, 22, 23, 24, 25, 26, 27, 28, 29, 30, 31, 32, 33] [] [0, 1, 2, 3, 4, 5, 6, 7, 8, 9, 10, 11, 12, 13, 14, 15, 16, 17, 18, 19, 20, 21, 22, 23, 24, 25, 26, 27, 28, 29, 30, 31, 32, 33] rfl rfl rfl (by decide) (by decide) (by decide) (by decide) (fun _ => rfl) (fun _ => rfl) (fun r184 _ hw184 => ?_)
                            refine wk_st (st' := [.int (r184)]) rfl ?_
                            refine wk_top (y := (bI ((trS ((pkL ot cl nb li 8).1) (nx) ((pkL ot cl nb li 8).2) (w)).2))) hw184 ?_
                            refine wk_istore (pc := 187) (lv' := [(7, .int (bI ((trS ((pkL ot cl nb li 8).1) (nx) ((pkL ot cl nb li 8).2) (w)).2))), (0, .ref (m 0)), (3, .int (nI ((pkL ot cl nb li 8).2))), (6, .int (zI ((usS w nb).2 + 1))), (8, .int (nI (j)))]) S_ d_Md_pack_187 (by decide) rfl ?_
                            refine wk_goto (pc := 189) (tgt := 98) S_ d_Md_pack_189 (by decide) ?_
                            obtain ⟨r, rfl⟩ : ∃ r, f = r + 1 := ⟨f - 1, by have := hf rfl; omega⟩
                            have hst : stB (kpF ap cl gr bg bb ab nb nx) nb w best b1 = ((usS w nb).2 + 1, w) := if_pos ⟨Or.inl h105, h129⟩
                            have hmu : (trS (pkL ot cl nb li 8).1 nx (pkL ot cl nb li 8).2 w).2 = true → muS (pkL ot cl nb li 8).1 nx (pkL ot cl nb li 8).2 (trS (pkL ot cl nb li 8).1 nx (pkL ot cl nb li 8).2 w).1 + 1 = muS (pkL ot cl nb li 8).1 nx (pkL ot cl nb li 8).2 w := trS_mu (pkL ot cl nb li 8).2 w (fun j i h1 h2 => Nat.ne_of_lt (hP8.2.2.2 j i h1 h2)) (fun j hj => ⟨Nat.pos_of_ne_zero (hwl j hj), by rcases hw5 ((pkL ot cl nb li 8).1 j) with z | z; exact z; omega⟩)
                            have htr := trS_ok2 (li := (pkL ot cl nb li 8).1) (pkL ot cl nb li 8).2 w hnz hw5 hw0 hwl
                            refine wk_lv [1, 2, 3, 0] ?_ (ih98 (r) ((trS ((pkL ot cl nb li 8).1) (nx) ((pkL ot cl nb li 8).2) (w)).1) ((usS w nb).2 + 1) (w) (true) (true) ((trS ((pkL ot cl nb li 8).1) (nx) ((pkL ot cl nb li 8).2) (w)).2) (by rw [if_pos rfl] at hm98; split; rename_i z; have h1 := hmu z; omega; omega) (by rw [← hE, if_pos rfl, pkR_s, hst]) (fun z => by have h1 := hmu z; have h2 := hf rfl; omega) htr.1 (fun b => by rcases htr.1 b with z | z; omega; rw [z]; exact hw6 b) htr.2 (by have := (usS_le hw6 nb).2; omega) (Or.inr ⟨by omega, rfl, rfl⟩))
                            rfl
                          · -- on
                            refine wk_aload_n (pc := 152) S_ 0 d_Md_pack_152 rfl rfl ?_
                            refine wk_get (pc := 153) (v := .ref (m 30)) S_ 6 37 0 in_Md rfl (by decide) rfl fl_Md_99 d_Md_pack_153 rfl rfl ?_
                            refine wk_iload (pc := 156) S_ 4 d_Md_pack_156 rfl ?_
                            refine wk_aload_n (pc := 158) S_ 0 d_Md_pack_158 rfl rfl ?_
                            refine wk_get (pc := 159) (v := .ref (m 31)) S_ 6 38 0 in_Md rfl (by decide) rfl fl_Md_102 d_Md_pack_159 rfl rfl ?_
                            refine wk_iload (pc := 162) S_ 4 d_Md_pack_162 rfl ?_
                            refine wk_ialdY (pc := 164) (g := w) S_ 31 0 d_Md_pack_164 rfl rfl (by omega) (by decide) ?_
                            refine wk_iastY (pc := 165) (g := cpN j w b1) (ws' := (wMd m cI tx sz ap pt rk cd fr mc mg mz nc nt ld qap qpt qrk qcd qfr qmc qmg qmz qnc qnt qld nb cl gr sp ot na aw nx bg bb ab fd1 pv1 (va_up (cpN j w b1) (j) ((w) (j))) w ((pkL ot cl nb li 8).1) fm en nu td lf lk)) S_ 30 0 d_Md_pack_165 rfl rfl (by omega) (by decide) rfl ?_
                            refine wk_iincN (pc := 166) (d := 1) (lv' := [(8, .int (nI (j + 1))), (0, .ref (m 0)), (3, .int (nI ((pkL ot cl nb li 8).2))), (6, .int (zI ((usS w nb).2 + 1))), (7, .int (bI (true)))]) S_ 4 d_Md_pack_166 (by decide) rfl (by decide) rfl ?_
                            refine wk_goto (pc := 169) (tgt := 145) S_ d_Md_pack_169 (by decide) ?_
                            refine wk_weq (ws' := (wMd m cI tx sz ap pt rk cd fr mc mg mz nc nt ld qap qpt qrk qcd qfr qmc qmg qmz qnc qnt qld nb cl gr sp ot na aw nx bg bb ab fd1 pv1 (cpN (j + 1) w b1) w ((pkL ot cl nb li 8).1) fm en nu td lf lk)) (by rw [cp_up]) ?_
                            refine wk_lv [1, 2, 3, 4, 0] ?_ (ih145 (j + 1) (by omega) (by omega))
                            rfl
                      refine wk_weq (ws' := (wMd m cI tx sz ap pt rk cd fr mc mg mz nc nt ld qap qpt qrk qcd qfr qmc qmg qmz qnc qnt qld nb cl gr sp ot na aw nx bg bb ab fd1 pv1 (cpN 0 w b1) w ((pkL ot cl nb li 8).1) fm en nu td lf lk)) (by rw [← cp_0]) ?_
                      refine wk_lv [2, 3, 1, 4, 0] ?_ (hL145 _ (0) (Nat.lt_succ_self _) (by omega))
                      rfl
                  · -- on
                    refine wk_aload_n (pc := 108) S_ 0 d_Md_pack_108 rfl rfl ?_
                    refine wk_aload_n (pc := 109) S_ 0 d_Md_pack_109 rfl rfl ?_
                    refine wk_get (pc := 110) (v := .ref (m 31)) S_ 6 38 0 in_Md rfl (by decide) rfl fl_Md_102 d_Md_pack_110 rfl rfl ?_
                    refine wk_run (pc := 113) (rest := []) (wr := []) (wN := fun _ => (wMd m cI tx sz ap pt rk cd fr mc mg mz nc nt ld qap qpt qrk qcd qfr qmc qmg qmz qnc qnt qld nb cl gr sp ot na aw nx bg bb ab fd1 pv1 b1 w ((pkL ot cl nb li 8).1) fm en nu td lf lk)) S_ (wk_rV S_ (c_Md_used_wy l D cI z (m) (tx) (sz) (ap) (pt) (rk) (cd) (fr) (mc) (mg) (mz) (nc) (nt) (ld) (qap) (qpt) (qrk) (qcd) (qfr) (qmc) (qmg) (qmz) (qnc) (qnt) (qld) (nb) (cl) (gr) (sp) (ot) (na) (aw) (nx) (bg) (bb) (ab) (fd1) (pv1) (b1) (w) ((pkL ot cl nb li 8).1) (fm) (en) (nu) (td) (lf) (lk) (by omega) hw6) mv_Md_231 (wk_rcv S_ 0 6 rfl rfl rfl) rfl rfl (Nat.le_of_ble_eq_true rfl) (by rw [hR_]; decide) (by rw [hR_]; decide) d_Md_pack_113) [0, 1, 2, 3, 4, 5, 6, 7, 8, 9, 10, 11, 12, 13, 14, 15, 16, 17, 18, 19, 20, 21, 22, 23, 24, 25, 26, 27, 28, 29, 30, 31, 32, 33] [] [0, 1, 2, 3, 4, 5, 6, 7, 8, 9, 10, 11, 12, 13, 14, 15, 16, 17, 18, 19, 20, 21, 22, 23, 24, 25, 26, 27, 28, 29, 30, 31, 32, 33] rfl rfl rfl (by decide) (by decide) (by decide) (by decide) (fun _ => rfl) (fun _ => rfl) (fun r113 _ hw113 => ?_)
                    refine wk_st (st' := [.int (r113)]) rfl ?_
                    refine wk_top (y := (nI ((usS (w) (nb)).2))) hw113 ?_
                    have hu1 := (usS_le hw6 nb).2
                    refine wk_iload (pc := 116) S_ 2 d_Md_pack_116 rfl ?_
                    refine wk_top (y := (nI (best - 1))) (zI_p h105) ?_
                    refine wk_icmp_geN (pc := 118) (tgt := 182) S_ d_Md_pack_118 (by decide) (by omega) (by omega) (fun h118 => ?_) (fun h118 => ?_)
                    · -- taken
                      refine wk_aload_n (pc := 182) S_ 0 d_Md_pack_182 rfl rfl ?_
                      refine wk_iload_n (pc := 183) S_ 1 d_Md_pack_183 rfl rfl ?_
                      refine wk_run (pc := 184) (rest := []) (wr := []) (wN := fun _ => (wMd m cI tx sz ap pt rk cd fr mc mg mz nc nt ld qap qpt qrk qcd qfr qmc qmg qmz qnc qnt qld nb cl gr sp ot na aw nx bg bb ab fd1 pv1 b1 ((trS ((pkL ot cl nb li 8).1) (nx) ((pkL ot cl nb li 8).2) (w)).1) ((pkL ot cl nb li 8).1) fm en nu td lf lk)) S_ (wk_rV S_ (c_Md_turn l D cI z (m) (tx) (sz) (ap) (pt) (rk) (cd) (fr) (mc) (mg) (mz) (nc) (nt) (ld) (qap) (qpt) (qrk) (qcd) (qfr) (qmc) (qmg) (qmz) (qnc) (qnt) (qld) (nb) (cl) (gr) (sp) (ot) (na) (aw) (nx) (bg) (bb) (ab) (fd1) (pv1) (b1) (w) ((pkL ot cl nb li 8).1) (fm) (en) (nu) (td) (lf) (lk) ((pkL ot cl nb li 8).2) hP8.1 ⟨hnz, hnx⟩ hP8.2.1 hw6 hwl) mv_Md_242 (wk_rcv S_ 0 6 rfl rfl rfl) rfl rfl (Nat.le_of_ble_eq_true rfl) (by rw [hR_]; decide) (by rw [hR_]; decide) d_Md_pack_184) [0, 1, 2, 3, 4, 5, 6, 7, 8, 9, 10, 11, 12, 13, 14, 15, 16, 17, 18, 19, 20, 21, 22, 23, 24, 25, 26, 27, 28, 29, 30, 31, 32, 33] [] [0, 1, 2, 3, 4, 5, 6, 7, 8, 9, 10, 11, 12, 13, 14, 15, 16, 17, 18, 19, 20, 21, 22, 23, 24, 25, 26, 27, 28, 29, 30, 31, 32, 33] rfl rfl rfl (by decide) (by decide) (by decide) (by decide) (fun _ => rfl) (fun _ => rfl) (fun r184 _ hw184 => ?_)
                      refine wk_st (st' := [.int (r184)]) rfl ?_
                      refine wk_top (y := (bI ((trS ((pkL ot cl nb li 8).1) (nx) ((pkL ot cl nb li 8).2) (w)).2))) hw184 ?_
                      refine wk_istore (pc := 187) (lv' := [(7, .int (bI ((trS ((pkL ot cl nb li 8).1) (nx) ((pkL ot cl nb li 8).2) (w)).2))), (0, .ref (m 0)), (3, .int (nI ((pkL ot cl nb li 8).2))), (6, .int (zI (best)))]) S_ d_Md_pack_187 (by decide) rfl ?_
                      refine wk_goto (pc := 189) (tgt := 98) S_ d_Md_pack_189 (by decide) ?_
                      obtain ⟨r, rfl⟩ : ∃ r, f = r + 1 := ⟨f - 1, by have := hf rfl; omega⟩
                      have hst : stB (kpF ap cl gr bg bb ab nb nx) nb w best b1 = (best, b1) := if_neg (fun z => by rcases z.1 with z | z; exact h105 z; omega)
                      have hmu : (trS (pkL ot cl nb li 8).1 nx (pkL ot cl nb li 8).2 w).2 = true → muS (pkL ot cl nb li 8).1 nx (pkL ot cl nb li 8).2 (trS (pkL ot cl nb li 8).1 nx (pkL ot cl nb li 8).2 w).1 + 1 = muS (pkL ot cl nb li 8).1 nx (pkL ot cl nb li 8).2 w := trS_mu (pkL ot cl nb li 8).2 w (fun j i h1 h2 => Nat.ne_of_lt (hP8.2.2.2 j i h1 h2)) (fun j hj => ⟨Nat.pos_of_ne_zero (hwl j hj), by rcases hw5 ((pkL ot cl nb li 8).1 j) with z | z; exact z; omega⟩)
                      have htr := trS_ok2 (li := (pkL ot cl nb li 8).1) (pkL ot cl nb li 8).2 w hnz hw5 hw0 hwl
                      refine wk_lv [1, 2, 3, 0] ?_ (ih98 (r) ((trS ((pkL ot cl nb li 8).1) (nx) ((pkL ot cl nb li 8).2) (w)).1) (best) (b1) (fd1) (pv1) ((trS ((pkL ot cl nb li 8).1) (nx) ((pkL ot cl nb li 8).2) (w)).2) (by rw [if_pos rfl] at hm98; split; rename_i z; have h1 := hmu z; omega; omega) (by rw [← hE, if_pos rfl, pkR_s, hst]) (fun z => by have h1 := hmu z; have h2 := hf rfl; omega) htr.1 (fun b => by rcases htr.1 b with z | z; omega; rw [z]; exact hw6 b) htr.2 (by have := (usS_le hw6 nb).2; omega) hfd)
                      rfl
                    · -- on
                      refine wk_aload_n (pc := 121) S_ 0 d_Md_pack_121 rfl rfl ?_
                      refine wk_aload_n (pc := 122) S_ 0 d_Md_pack_122 rfl rfl ?_
                      refine wk_get (pc := 123) (v := .ref (m 31)) S_ 6 38 0 in_Md rfl (by decide) rfl fl_Md_102 d_Md_pack_123 rfl rfl ?_
                      refine wk_run (pc := 126) (rest := []) (wr := []) (wN := fun _ => (wMd m cI tx sz ap pt rk cd fr mc mg mz nc nt ld qap qpt qrk qcd qfr qmc qmg qmz qnc qnt qld nb cl gr sp ot na aw nx bg bb ab fd1 pv1 b1 w ((pkL ot cl nb li 8).1) fm en nu td lf lk)) S_ (wk_rV S_ (c_Md_keeps_wy l D cI z (m) (tx) (sz) (ap) (pt) (rk) (cd) (fr) (mc) (mg) (mz) (nc) (nt) (ld) (qap) (qpt) (qrk) (qcd) (qfr) (qmc) (qmg) (qmz) (qnc) (qnt) (qld) (nb) (cl) (gr) (sp) (ot) (na) (aw) (nx) (bg) (bb) (ab) (fd1) (pv1) (b1) (w) ((pkL ot cl nb li 8).1) (fm) (en) (nu) (td) (lf) (lk) (by omega) (by omega) hgr hcl hw6 hwc hbg hbb hab) mv_Md_235 (wk_rcv S_ 0 6 rfl rfl rfl) rfl rfl (Nat.le_of_ble_eq_true rfl) (by rw [hR_]; decide) (by rw [hR_]; decide) d_Md_pack_126) [0, 1, 2, 3, 4, 5, 6, 7, 8, 9, 10, 11, 12, 13, 14, 15, 16, 17, 18, 19, 20, 21, 22, 23, 24, 25, 26, 27, 28, 29, 30, 31, 32, 33] [] [0, 1, 2, 3, 4, 5, 6, 7, 8, 9, 10, 11, 12, 13, 14, 15, 16, 17, 18, 19, 20, 21, 22, 23, 24, 25, 26, 27, 28, 29, 30, 31, 32, 33] rfl rfl rfl (by decide) (by decide) (by decide) (by decide) (fun _ => rfl) (fun _ => rfl) (fun r126 _ hw126 => ?_)
                      refine wk_st (st' := [.int (r126)]) rfl ?_
                      refine wk_top (y := (bI (kpB (ap) (cl) (gr) (w) (bg) (bb) (ab) (nb) (nx)))) hw126 ?_
                      refine wk_if_eqB (pc := 129) (tgt := 182) S_ d_Md_pack_129 (by decide) (fun h129 => ?_) (fun h129 => ?_)
                      · -- taken
                        refine wk_aload_n (pc := 182) S_ 0 d_Md_pack_182 rfl rfl ?_
                        refine wk_iload_n (pc := 183) S_ 1 d_Md_pack_183 rfl rfl ?_
                        refine wk_run (pc := 184) (rest := []) (wr := []) (wN := fun _ => (wMd m cI tx sz ap pt rk cd fr mc mg mz nc nt ld qap qpt qrk qcd qfr qmc qmg qmz qnc qnt qld nb cl gr sp ot na aw nx bg bb ab fd1 pv1 b1 ((trS ((pkL ot cl nb li 8).1) (nx) ((pkL ot cl nb li 8).2) (w)).1) ((pkL ot cl nb li 8).1) fm en nu td lf lk)) S_ (wk_rV S_ (c_Md_turn l D cI z (m) (tx) (sz) (ap) (pt) (rk) (cd) (fr) (mc) (mg) (mz) (nc) (nt) (ld) (qap) (qpt) (qrk) (qcd) (qfr) (qmc) (qmg) (qmz) (qnc) (qnt) (qld) (nb) (cl) (gr) (sp) (ot) (na) (aw) (nx) (bg) (bb) (ab) (fd1) (pv1) (b1) (w) ((pkL ot cl nb li 8).1) (fm) (en) (nu) (td) (lf) (lk) ((pkL ot cl nb li 8).2) hP8.1 ⟨hnz, hnx⟩ hP8.2.1 hw6 hwl) mv_Md_242 (wk_rcv S_ 0 6 rfl rfl rfl) rfl rfl (Nat.le_of_ble_eq_true rfl) (by rw [hR_]; decide) (by rw [hR_]; decide) d_Md_pack_184) [0, 1, 2, 3, 4, 5, 6, 7, 8, 9, 10, 11, 12, 13, 14, 15, 16, 17, 18, 19, 20, 21, 22, 23, 24, 25, 26, 27, 28, 29, 30, 31, 32, 33] [] [0, 1, 2, 3, 4, 5, 6, 7, 8, 9, 10, 11, 12, 13, 14, 15, 16, 17, 18, 19, 20, 21, 22, 23, 24, 25, 26, 27, 28, 29, 30, 31, 32, 33] rfl rfl rfl (by decide) (by decide) (by decide) (by decide) (fun _ => rfl) (fun _ => rfl) (fun r184 _ hw184 => ?_)
                        refine wk_st (st' := [.int (r184)]) rfl ?_
                        refine wk_top (y := (bI ((trS ((pkL ot cl nb li 8).1) (nx) ((pkL ot cl nb li 8).2) (w)).2))) hw184 ?_
                        refine wk_istore (pc := 187) (lv' := [(7, .int (bI ((trS ((pkL ot cl nb li 8).1) (nx) ((pkL ot cl nb li 8).2) (w)).2))), (0, .ref (m 0)), (3, .int (nI ((pkL ot cl nb li 8).2))), (6, .int (zI (best)))]) S_ d_Md_pack_187 (by decide) rfl ?_
                        refine wk_goto (pc := 189) (tgt := 98) S_ d_Md_pack_189 (by decide) ?_
                        obtain ⟨r, rfl⟩ : ∃ r, f = r + 1 := ⟨f - 1, by have := hf rfl; omega⟩
                        have hst : stB (kpF ap cl gr bg bb ab nb nx) nb w best b1 = (best, b1) := if_neg (fun z => absurd (show kpB ap cl gr w bg bb ab nb nx = true from z.2) (by rw [h129]; decide))
                        have hmu : (trS (pkL ot cl nb li 8).1 nx (pkL ot cl nb li 8).2 w).2 = true → muS (pkL ot cl nb li 8).1 nx (pkL ot cl nb li 8).2 (trS (pkL ot cl nb li 8).1 nx (pkL ot cl nb li 8).2 w).1 + 1 = muS (pkL ot cl nb li 8).1 nx (pkL ot cl nb li 8).2 w := trS_mu (pkL ot cl nb li 8).2 w (fun j i h1 h2 => Nat.ne_of_lt (hP8.2.2.2 j i h1 h2)) (fun j hj => ⟨Nat.pos_of_ne_zero (hwl j hj), by rcases hw5 ((pkL ot cl nb li 8).1 j) with z | z; exact z; omega⟩)
                        have htr := trS_ok2 (li := (pkL ot cl nb li 8).1) (pkL ot cl nb li 8).2 w hnz hw5 hw0 hwl
                        refine wk_lv [1, 2, 3, 0] ?_ (ih98 (r) ((trS ((pkL ot cl nb li 8).1) (nx) ((pkL ot cl nb li 8).2) (w)).1) (best) (b1) (fd1) (pv1) ((trS ((pkL ot cl nb li 8).1) (nx) ((pkL ot cl nb li 8).2) (w)).2) (by rw [if_pos rfl] at hm98; split; rename_i z; have h1 := hmu z; omega; omega) (by rw [← hE, if_pos rfl, pkR_s, hst]) (fun z => by have h1 := hmu z; have h2 := hf rfl; omega) htr.1 (fun b => by rcases htr.1 b with z | z; omega; rw [z]; exact hw6 b) htr.2 (by have := (usS_le hw6 nb).2; omega) hfd)
                        rfl
                      · -- on
                        refine wk_aload_n (pc := 132) S_ 0 d_Md_pack_132 rfl rfl ?_
                        refine wk_aload_n (pc := 133) S_ 0 d_Md_pack_133 rfl rfl ?_
                        refine wk_get (pc := 134) (v := .ref (m 31)) S_ 6 38 0 in_Md rfl (by decide) rfl fl_Md_102 d_Md_pack_134 rfl rfl ?_
                        refine wk_run (pc := 137) (rest := []) (wr := []) (wN := fun _ => (wMd m cI tx sz ap pt rk cd fr mc mg mz nc nt ld qap qpt qrk qcd qfr qmc qmg qmz qnc qnt qld nb cl gr sp ot na aw nx bg bb ab fd1 pv1 b1 w ((pkL ot cl nb li 8).1) fm en nu td lf lk)) S_ (wk_rV S_ (c_Md_used_wy l D cI z (m) (tx) (sz) (ap) (pt) (rk) (cd) (fr) (mc) (mg) (mz) (nc) (nt) (ld) (qap) (qpt) (qrk) (qcd) (qfr) (qmc) (qmg) (qmz) (qnc) (qnt) (qld) (nb) (cl) (gr) (sp) (ot) (na) (aw) (nx) (bg) (bb) (ab) (fd1) (pv1) (b1) (w) ((pkL ot cl nb li 8).1) (fm) (en) (nu) (td) (lf) (lk) (by omega) hw6) mv_Md_231 (wk_rcv S_ 0 6 rfl rfl rfl) rfl rfl (Nat.le_of_ble_eq_true rfl) (by rw [hR_]; decide) (by rw [hR_]; decide) d_Md_pack_137) [0, 1, 2, 3, 4, 5, 6, 7, 8, 9, 10, 11, 12, 13, 14, 15, 16, 17, 18, 19, 20, 21, 22, 23, 24, 25, 26, 27, 28, 29, 30, 31, 32, 33] [] [0, 1, 2, 3, 4, 5, 6, 7, 8, 9, 10, 11, 12, 13, 14, 15, 16, 17, 18, 19, 20, 21, 22, 23, 24, 25, 26, 27, 28, 29, 30, 31, 32, 33] rfl rfl rfl (by decide) (by decide) (by decide) (by decide) (fun _ => rfl) (fun _ => rfl) (fun r137 _ hw137 => ?_)
                        refine wk_st (st' := [.int (r137)]) rfl ?_
                        refine wk_top (y := (nI ((usS (w) (nb)).2))) hw137 ?_
                        refine wk_top (y := (zI ((usS w nb).2 + 1))) (zI_s _).symm ?_
                        refine wk_istore (pc := 140) (lv' := [(6, .int (zI ((usS w nb).2 + 1))), (0, .ref (m 0)), (3, .int (nI ((pkL ot cl nb li 8).2))), (7, .int (bI (true)))]) S_ d_Md_pack_140 (by decide) rfl ?_
                        refine wk_iconst (pc := 142) (v := (nI (0))) S_ d_Md_pack_142 (by decide) ?_
                        refine wk_istore (pc := 143) (lv' := [(8, .int (nI (0))), (6, .int (zI ((usS w nb).2 + 1))), (0, .ref (m 0)), (3, .int (nI ((pkL ot cl nb li 8).2))), (7, .int (bI (true)))]) S_ d_Md_pack_143 (by decide) rfl ?_
                        have hL145 : ∀ (fuel145 : Nat), ∀ (j : Nat), 8 - j < fuel145 → (j ≤ 8) → wk_G p_ l e_ R_ s_ m_ ar_ be_ me_ co_ Q_ D A_ 9 0 0 (wMd m cI tx sz ap pt rk cd fr mc mg mz nc nt ld qap qpt qrk qcd qfr qmc qmg qmz qnc qnt qld nb cl gr sp ot na aw nx bg bb ab fd1 pv1 (cpN j w b1) w ((pkL ot cl nb li 8).1) fm en nu td lf lk) 145 [(0, .ref (m 0)), (3, .int (nI ((pkL ot cl nb li 8).2))), (6, .int (zI ((usS w nb).2 + 1))), (7, .int (bI (true))), (8, .int (nI (j)))] [] := by
                          intro fuel145
                          induction fuel145 with
                          | zero => intro j hm; exact absurd hm (Nat.not_lt_zero _)
                          | succ fuel145 ih145 =>
                            intro j hm hj
                            refine wk_iload (pc := 145) S_ 4 d_Md_pack_145 rfl ?_
                            refine wk_bipush (pc := 147) (v := (nI (8))) S_ d_Md_pack_147 (by decide) ?_
                            refine wk_icmp_geN (pc := 149) (tgt := 172) S_ d_Md_pack_149 (by decide) (by omega) (by omega) (fun h149 => ?_) (fun h149 => ?_)
                            · -- taken
                              refine wk_ext (f := zF (cpN j w b1)) (g := zF (w)) (ws' := (wMd m cI tx sz ap pt rk cd fr mc mg mz nc nt ld qap qpt qrk qcd qfr qmc qmg qmz qnc qnt qld nb cl gr sp ot na aw nx bg bb ab fd1 pv1 w w ((pkL ot cl nb li 8).1) fm en nu td lf lk)) 30 rfl (fun j2 hj2 => by unfold zF; rw [cp_in (by omega)]) rfl ?_
                              refine wk_aload_n (pc := 172) S_ 0 d_Md_pack_172 rfl rfl ?_
                              refine wk_iconst (pc := 173) (v := (nI (1))) S_ d_Md_pack_173 (by decide) ?_
                              refine wk_put (pc := 174) (ty := .boolean) (ws' := (wMd m cI tx sz ap pt rk cd fr mc mg mz nc nt ld qap qpt qrk qcd qfr qmc qmg qmz qnc qnt qld nb cl gr sp ot na aw nx bg bb ab true pv1 w w ((pkL ot cl nb li 8).1) fm en nu td lf lk)) S_ 6 35 0 in_Md t_Md t_Md_ok n_Md rfl (by decide) rfl fl_Md_239 (by decide +kernel) d_Md_pack_174 rfl rfl rfl (Nat.le_of_ble_eq_true rfl) rfl ?_
                              refine wk_aload_n (pc := 177) S_ 0 d_Md_pack_177 rfl rfl ?_
                              refine wk_iconst (pc := 178) (v := (nI (1))) S_ d_Md_pack_178 (by decide) ?_
                              refine wk_put (pc := 179) (ty := .boolean) (ws' := (wMd m cI tx sz ap pt rk cd fr mc mg mz nc nt ld qap qpt qrk qcd qfr qmc qmg qmz qnc qnt qld nb cl gr sp ot na aw nx bg bb ab true true w w ((pkL ot cl nb li 8).1) fm en nu td lf lk)) S_ 6 36 0 in_Md t_Md t_Md_ok n_Md rfl (by decide) rfl fl_Md_130 (by decide +kernel) d_Md_pack_179 rfl rfl rfl (Nat.le_of_ble_eq_true rfl) rfl ?_
                              refine wk_aload_n (pc := 182) S_ 0 d_Md_pack_182 rfl rfl ?_
                              refine wk_iload_n (pc := 183) S_ 1 d_Md_pack_183 rfl rfl ?_
                              refine wk_run (pc := 184) (rest := []) (wr := []) (wN := fun _ => (wMd m cI tx sz ap pt rk cd fr mc mg mz nc nt ld qap qpt qrk qcd qfr qmc qmg qmz qnc qnt qld nb cl gr sp ot na aw nx bg bb ab true true w ((trS ((pkL ot cl nb li 8).1) (nx) ((pkL ot cl nb li 8).2) (w)).1) ((pkL ot cl nb li 8).1) fm en nu td lf lk)) S_ (wk_rV S_ (c_Md_turn l D cI z (m) (tx) (sz) (ap) (pt) (rk) (cd) (fr) (mc) (mg) (mz) (nc) (nt) (ld) (qap) (qpt) (qrk) (qcd) (qfr) (qmc) (qmg) (qmz) (qnc) (qnt) (qld) (nb) (cl) (gr) (sp) (ot) (na) (aw) (nx) (bg) (bb) (ab) (true) (true) (w) (w) ((pkL ot cl nb li 8).1) (fm) (en) (nu) (td) (lf) (lk) ((pkL ot cl nb li 8).2) hP8.1 ⟨hnz, hnx⟩ hP8.2.1 hw6 hwl) mv_Md_242 (wk_rcv S_ 0 6 rfl rfl rfl) rfl rfl (Nat.le_of_ble_eq_true rfl) (by rw [hR_]; decide) (by rw [hR_]; decide) d_Md_pack_184) [0, 1, 2, 3, 4, 5, 6, 7, 8, 9, 10, 11, 12, 13, 14, 15, 16, 17, 18, 19, 20, 21, 22, 23, 24, 25, 26, 27, 28, 29, 30, 31, 32, 33] [] [0, 1, 2, 3, 4, 5, 6, 7, 8, 9, 10, 11, 12, 13, 14, 15, 16, 17, 18, 19, 20, 21, 22, 23, 24, 25, 26, 27, 28, 29, 30, 31, 32, 33] rfl rfl rfl (by decide) (by decide) (by decide) (by decide) (fun _ => rfl) (fun _ => rfl) (fun r184 _ hw184 => ?_)
                              refine wk_st (st' := [.int (r184)]) rfl ?_
                              refine wk_top (y := (bI ((trS ((pkL ot cl nb li 8).1) (nx) ((pkL ot cl nb li 8).2) (w)).2))) hw184 ?_
                              refine wk_istore (pc := 187) (lv' := [(7, .int (bI ((trS ((pkL ot cl nb li 8).1) (nx) ((pkL ot cl nb li 8).2) (w)).2))), (0, .ref (m 0)), (3, .int (nI ((pkL ot cl nb li 8).2))), (6, .int (zI ((usS w nb).2 + 1))), (8, .int (nI (j)))]) S_ d_Md_pack_187 (by decide) rfl ?_
                              refine wk_goto (pc := 189) (tgt := 98) S_ d_Md_pack_189 (by decide) ?_
                              obtain ⟨r, rfl⟩ : ∃ r, f = r + 1 := ⟨f - 1, by have := hf rfl; omega⟩
                              have hst : stB (kpF ap cl gr bg bb ab nb nx) nb w best b1 = ((usS w nb).2 + 1, w) := if_pos ⟨Or.inr (by omega), h129⟩
                              have hmu : (trS (pkL ot cl nb li 8).1 nx (pkL ot cl nb li 8).2 w).2 = true → muS (pkL ot cl nb li 8).1 nx (pkL ot cl nb li 8).2 (trS (pkL ot cl nb li 8).1 nx (pkL ot cl nb li 8).2 w).1 + 1 = muS (pkL ot cl nb li 8).1 nx (pkL ot cl nb li 8).2 w := trS_mu (pkL ot cl nb li 8).2 w (fun j i h1 h2 => Nat.ne_of_lt (hP8.2.2.2 j i h1 h2)) (fun j hj => ⟨Nat.pos_of_ne_zero (hwl j hj), by rcases hw5 ((pkL ot cl nb li 8).1 j) with z | z; exact z; omega⟩)
                              have htr := trS_ok2 (li := (pkL ot cl nb li 8).1) (pkL ot cl nb li 8).2 w hnz hw5 hw0 hwl
                              refine wk_lv [1, 2, 3, 0] ?_ (ih98 (r) ((trS ((pkL ot cl nb li 8).1) (nx) ((pkL ot cl nb li 8).2) (w)).1) ((usS w nb).2 + 1) (w) (true) (true) ((trS ((pkL ot cl nb li 8).1) (nx) ((pkL ot cl nb li 8).2) (w)).2) (by rw [if_pos rfl] at hm98; split; rename_i z; have h1 := hmu z; omega; omega) (by rw [← hE, if_pos rfl, pkR_s, hst]) (fun z => by have h1 := hmu z; have h2 := hf rfl; omega) htr.1 (fun b => by rcases htr.1 b with z | z; omega; rw [z]; exact hw6 b) htr.2 (by have := (usS_le hw6 nb).2; omega) (Or.inr ⟨by omega, rfl, rfl⟩))
                              rfl
                            · -- on
                              refine wk_aload_n (pc := 152) S_ 0 d_Md_pack_152 rfl rfl ?_
                              refine wk_get (pc := 153) (v := .ref (m 30)) S_ 6 37 0 in_Md rfl (by decide) rfl fl_Md_99 d_Md_pack_153 rfl rfl ?_
                              refine wk_iload (pc := 156) S_ 4 d_Md_pack_156 rfl ?_
                              refine wk_aload_n (pc := 158) S_ 0 d_Md_pack_158 rfl rfl ?_
                              refine wk_get (pc := 159) (v := .ref (m 31)) S_ 6 38 0 in_Md rfl (by decide) rfl fl_Md_102 d_Md_pack_159 rfl rfl ?_
                              refine wk_iload (pc := 162) S_ 4 d_Md_pack_162 rfl ?_
                              refine wk_ialdY (pc := 164) (g := w) S_ 31 0 d_Md_pack_164 rfl rfl (by omega) (by decide) ?_
                              refine wk_iastY (pc := 165) (g := cpN j w b1) (ws' := (wMd m cI tx sz ap pt rk cd fr mc mg mz nc nt ld qap qpt qrk qcd qfr qmc qmg qmz qnc qnt qld nb cl gr sp ot na aw nx bg bb ab fd1 pv1 (va_up (cpN j w b1) (j) ((w) (j))) w ((pkL ot cl nb li 8).1) fm en nu td lf lk)) S_ 30 0 d_Md_pack_165 rfl rfl (by omega) (by decide) rfl ?_
                              refine wk_iincN (pc := 166) (d := 1) (lv' := [(8, .int (nI (j + 1))), (0, .ref (m 0)), (3, .int (nI ((pkL ot cl nb li 8).2))), (6, .int (zI ((usS w nb).2 + 1))), (7, .int (bI (true)))]) S_ 4 d_Md_pack_166 (by decide) rfl (by decide) rfl ?_
                              refine wk_goto (pc := 169) (tgt := 145) S_ d_Md_pack_169 (by decide) ?_
                              refine wk_weq (ws' := (wMd m cI tx sz ap pt rk cd fr mc mg mz nc nt ld qap qpt qrk qcd qfr qmc qmg qmz qnc qnt qld nb cl gr sp ot na aw nx bg bb ab fd1 pv1 (cpN (j + 1) w b1) w ((pkL ot cl nb li 8).1) fm en nu td lf lk)) (by rw [cp_up]) ?_
                              refine wk_lv [1, 2, 3, 4, 0] ?_ (ih145 (j + 1) (by omega) (by omega))
                              rfl
                        refine wk_weq (ws' := (wMd m cI tx sz ap pt rk cd fr mc mg mz nc nt ld qap qpt qrk qcd qfr qmc qmg qmz qnc qnt qld nb cl gr sp ot na aw nx bg bb ab fd1 pv1 (cpN 0 w b1) w ((pkL ot cl nb li 8).1) fm en nu td lf lk)) (by rw [← cp_0]) ?_
                        refine wk_lv [2, 3, 1, 4, 0] ?_ (hL145 _ (0) (Nat.lt_succ_self _) (by omega))
                        rfl
            refine wk_lv [2, 4, 1, 0] ?_ (hL98 _ (nx ^ (pkL ot cl nb li 8).2) (wyI ot cl nb) (0) (bx) (fd) (pv) (true) (Nat.lt_succ_self _) rfl (fun _ => muS_lt (pkL ot cl nb li 8).2 (fun j hj => ⟨by rw [(hP8.2.2.1 j hj).2]; decide, by omega⟩)) (fun b => by by_cases z : (pkL ot cl nb li 8).2 = 0; exact Or.inr z; left; unfold wyI; split <;> omega) (fun b => by unfold wyI; split <;> omega) (fun _ => Iff.rfl) (by omega) (Or.inl ⟨rfl, rfl, rfl, rfl⟩))
            rfl
          · -- on
            refine wk_iconst (pc := 90) (v := (-1)) S_ d_Md_pack_90 (by decide) ?_
            exact hQ_ (-1) (wyI ot cl nb, (pkL ot cl nb li 8).1, bx, fd, pv) d_Md_pack_91 rfl ⟨rfl, by rw [pkS, if_pos (Or.inr h87)]⟩
      · -- on
        have hPk := pkL_ok (ot := ot) (cl := cl) (nb := nb) hli k (by omega)
        refine wk_aload_n (pc := 15) S_ 0 d_Md_pack_15 rfl rfl ?_
        refine wk_get (pc := 16) (v := .ref (m 31)) S_ 6 38 0 in_Md rfl (by decide) rfl fl_Md_102 d_Md_pack_16 rfl rfl ?_
        refine wk_iload (pc := 19) S_ 4 d_Md_pack_19 rfl ?_
        refine wk_iconst (pc := 21) (v := (-1)) S_ d_Md_pack_21 (by decide) ?_
        refine wk_iastY0 (pc := 22) (g := cpN k (wyI ot cl nb) wy) (ws' := (wMd m cI tx sz ap pt rk cd fr mc mg mz nc nt ld qap qpt qrk qcd qfr qmc qmg qmz qnc qnt qld nb cl gr sp ot na aw nx bg bb ab fd pv bx (va_up (cpN k (wyI ot cl nb) wy) (k) (0)) ((pkL ot cl nb li k).1) fm en nu td lf lk)) S_ 31 0 d_Md_pack_22 rfl rfl (by omega) (by decide) rfl ?_
        refine wk_iload (pc := 23) S_ 4 d_Md_pack_23 rfl ?_
        refine wk_aload_n (pc := 25) S_ 0 d_Md_pack_25 rfl rfl ?_
        refine wk_get (pc := 26) (v := .int (nI (nb))) S_ 6 24 0 in_Md rfl (by decide) rfl fl_Md_117 d_Md_pack_26 rfl rfl ?_
        refine wk_icmp_geN (pc := 29) (tgt := 70) S_ d_Md_pack_29 (by decide) (by omega) (by omega) (fun h29 => ?_) (fun h29 => ?_)
        · -- taken
          refine wk_iincN (pc := 70) (d := 1) (lv' := [(6, .int (nI (k + 1))), (0, .ref (m 0)), (1, .long (x)), (3, .int (nI ((pkL ot cl nb li k).2))), (4, .long (lN (nx ^ (pkL ot cl nb li k).2)))]) S_ 4 d_Md_pack_70 (by decide) rfl (by decide) rfl ?_
          refine wk_goto (pc := 73) (tgt := 8) S_ d_Md_pack_73 (by decide) ?_
          have hp : ¬ (k < nb ∧ ot k = false ∧ cl k ≠ 0) := fun z => by omega
          have hpk : pkL ot cl nb li (k + 1) = pkL ot cl nb li k := if_neg hp
          refine wk_weq (ws' := (wMd m cI tx sz ap pt rk cd fr mc mg mz nc nt ld qap qpt qrk qcd qfr qmc qmg qmz qnc qnt qld nb cl gr sp ot na aw nx bg bb ab fd pv bx (cpN (k + 1) (wyI ot cl nb) wy) ((pkL ot cl nb li k).1) fm en nu td lf lk)) (by rw [← cp_up k (wyI ot cl nb) wy, show wyI ot cl nb k = 0 from if_neg hp]) ?_
          refine wk_weq (ws' := (wMd m cI tx sz ap pt rk cd fr mc mg mz nc nt ld qap qpt qrk qcd qfr qmc qmg qmz qnc qnt qld nb cl gr sp ot na aw nx bg bb ab fd pv bx (cpN (k + 1) (wyI ot cl nb) wy) ((pkL ot cl nb li (k + 1)).1) fm en nu td lf lk)) (by rw [hpk]) ?_
          refine wk_lveq (lv' := [(6, .int (nI (k + 1))), (0, .ref (m 0)), (1, .long (x)), (3, .int (nI ((pkL ot cl nb li (k + 1)).2))), (4, .long (lN (nx ^ (pkL ot cl nb li k).2)))]) (by rw [hpk]) ?_
          refine wk_lveq (lv' := [(6, .int (nI (k + 1))), (0, .ref (m 0)), (1, .long (x)), (3, .int (nI ((pkL ot cl nb li (k + 1)).2))), (4, .long (lN (nx ^ (pkL ot cl nb li (k + 1)).2)))]) (by rw [hpk]) ?_
          refine wk_lv [1, 2, 3, 4, 0] ?_ (ih8 (k + 1) (by omega) (by omega))
          rfl
        · -- on
          refine wk_aload_n (pc := 32) S_ 0 d_Md_pack_32 rfl rfl ?_
          refine wk_iload (pc := 33) S_ 4 d_Md_pack_33 rfl ?_
          refine wk_run (pc := 35) (rest := []) (wr := []) (wN := fun _ => (wMd m cI tx sz ap pt rk cd fr mc mg mz nc nt ld qap qpt qrk qcd qfr qmc qmg qmz qnc qnt qld nb cl gr sp ot na aw nx bg bb ab fd pv bx (va_up (cpN k (wyI ot cl nb) wy) (k) (0)) ((pkL ot cl nb li k).1) fm en nu td lf lk)) S_ (wk_rV S_ (c_Md_isToBePacked l D cI z (m) (tx) (sz) (ap) (pt) (rk) (cd) (fr) (mc) (mg) (mz) (nc) (nt) (ld) (qap) (qpt) (qrk) (qcd) (qfr) (qmc) (qmg) (qmz) (qnc) (qnt) (qld) (nb) (cl) (gr) (sp) (ot) (na) (aw) (nx) (bg) (bb) (ab) (fd) (pv) (bx) (va_up (cpN k (wyI ot cl nb) wy) (k) (0)) ((pkL ot cl nb li k).1) (fm) (en) (nu) (td) (lf) (lk) (k) (by omega) (by have := hcl k; omega)) mv_Md_228 (wk_rcv S_ 0 6 rfl rfl rfl) rfl rfl (Nat.le_of_ble_eq_true rfl) (by rw [hR_]; decide) (by rw [hR_]; decide) d_Md_pack_35) [0, 1, 2, 3, 4, 5, 6, 7, 8, 9, 10, 11, 12, 13, 14, 15, 16, 17, 18, 19, 20, 21, 22, 23, 24, 25, 26, 27, 28, 29, 30, 31, 32, 33] [] [0, 1, 2, 3, 4, 5, 6, 7, 8, 9, 10, 11, 12, 13, 14, 15, 16, 17, 18, 19, 20, 21, 22, 23, 24, 25, 26, 27, 28, 29, 30, 31, 32, 33] rfl rfl rfl (by decide) (by decide) (by decide) (by decide) (fun _ => rfl) (fun _ => rfl) (fun r35 _ hw35 => ?_)
          refine wk_st (st' := [.int (r35)]) rfl ?_
          refine wk_top (y := (bI (decide ((ot) (k) = false ∧ (cl) (k) ≠ 0)))) hw35 ?_
          refine wk_if_eqB (pc := 38) (tgt := 70) S_ d_Md_pack_38 (by decide) (fun h38 => ?_) (fun h38 => ?_)
          · -- taken
            refine wk_iincN (pc := 70) (d := 1) (lv' := [(6, .int (nI (k + 1))), (0, .ref (m 0)), (1, .long (x)), (3, .int (nI ((pkL ot cl nb li k).2))), (4, .long (lN (nx ^ (pkL ot cl nb li k).2)))]) S_ 4 d_Md_pack_70 (by decide) rfl (by decide) rfl ?_
            refine wk_goto (pc := 73) (tgt := 8) S_ d_Md_pack_73 (by decide) ?_
            have hp : ¬ (k < nb ∧ ot k = false ∧ cl k ≠ 0) := fun z => of_decide_eq_false h38 z.2
            have hpk : pkL ot cl nb li (k + 1) = pkL ot cl nb li k := if_neg hp
            refine wk_weq (ws' := (wMd m cI tx sz ap pt rk cd fr mc mg mz nc nt ld qap qpt qrk qcd qfr qmc qmg qmz qnc qnt qld nb cl gr sp ot na aw nx bg bb ab fd pv bx (cpN (k + 1) (wyI ot cl nb) wy) ((pkL ot cl nb li k).1) fm en nu td lf lk)) (by rw [← cp_up k (wyI ot cl nb) wy, show wyI ot cl nb k = 0 from if_neg hp]) ?_
            refine wk_weq (ws' := (wMd m cI tx sz ap pt rk cd fr mc mg mz nc nt ld qap qpt qrk qcd qfr qmc qmg qmz qnc qnt qld nb cl gr sp ot na aw nx bg bb ab fd pv bx (cpN (k + 1) (wyI ot cl nb) wy) ((pkL ot cl nb li (k + 1)).1) fm en nu td lf lk)) (by rw [hpk]) ?_
            refine wk_lveq (lv' := [(6, .int (nI (k + 1))), (0, .ref (m 0)), (1, .long (x)), (3, .int (nI ((pkL ot cl nb li (k + 1)).2))), (4, .long (lN (nx ^ (pkL ot cl nb li k).2)))]) (by rw [hpk]) ?_
            refine wk_lveq (lv' := [(6, .int (nI (k + 1))), (0, .ref (m 0)), (1, .long (x)), (3, .int (nI ((pkL ot cl nb li (k + 1)).2))), (4, .long (lN (nx ^ (pkL ot cl nb li (k + 1)).2)))]) (by rw [hpk]) ?_
            refine wk_lv [1, 2, 3, 4, 0] ?_ (ih8 (k + 1) (by omega) (by omega))
            rfl
          · -- on
            refine wk_aload_n (pc := 41) S_ 0 d_Md_pack_41 rfl rfl ?_
            refine wk_get (pc := 42) (v := .ref (m 31)) S_ 6 38 0 in_Md rfl (by decide) rfl fl_Md_102 d_Md_pack_42 rfl rfl ?_
            refine wk_iload (pc := 45) S_ 4 d_Md_pack_45 rfl ?_
            refine wk_iconst (pc := 47) (v := (nI (0))) S_ d_Md_pack_47 (by decide) ?_
            refine wk_iastYN (pc := 48) (g := va_up (cpN k (wyI ot cl nb) wy) (k) (0)) (ws' := (wMd m cI tx sz ap pt rk cd fr mc mg mz nc nt ld qap qpt qrk qcd qfr qmc qmg qmz qnc qnt qld nb cl gr sp ot na aw nx bg bb ab fd pv bx (va_up (va_up (cpN k (wyI ot cl nb) wy) (k) (0)) (k) ((0) + 1)) ((pkL ot cl nb li k).1) fm en nu td lf lk)) S_ 31 0 d_Md_pack_48 rfl rfl (by omega) (by decide) rfl ?_
            refine wk_aload_n (pc := 49) S_ 0 d_Md_pack_49 rfl rfl ?_
            refine wk_get (pc := 50) (v := .ref (m 32)) S_ 6 39 0 in_Md rfl (by decide) rfl fl_Md_105 d_Md_pack_50 rfl rfl ?_
            refine wk_iload_n (pc := 53) S_ 2 d_Md_pack_53 rfl rfl ?_
            refine wk_iload (pc := 54) S_ 4 d_Md_pack_54 rfl ?_
            refine wk_iastN (pc := 56) (g := (pkL ot cl nb li k).1) (ws' := (wMd m cI tx sz ap pt rk cd fr mc mg mz nc nt ld qap qpt qrk qcd qfr qmc qmg qmz qnc qnt qld nb cl gr sp ot na aw nx bg bb ab fd pv bx (va_up (va_up (cpN k (wyI ot cl nb) wy) (k) (0)) (k) ((0) + 1)) (va_up ((pkL ot cl nb li k).1) ((pkL ot cl nb li k).2) (k)) fm en nu td lf lk)) S_ 32 0 d_Md_pack_56 rfl rfl (by omega) (by decide) rfl ?_
            refine wk_iincN (pc := 57) (d := 1) (lv' := [(3, .int (nI ((pkL ot cl nb li k).2 + 1))), (0, .ref (m 0)), (1, .long (x)), (4, .long (lN (nx ^ (pkL ot cl nb li k).2))), (6, .int (nI (k)))]) S_ 2 d_Md_pack_57 (by decide) rfl (by decide) rfl ?_
            refine wk_lload (pc := 60) S_ 3 d_Md_pack_60 rfl ?_
            refine wk_aload_n (pc := 62) S_ 1 d_Md_pack_62 rfl rfl ?_
            refine wk_get (pc := 63) (v := .int (nI (nx))) S_ 6 31 0 in_Md rfl (by decide) rfl fl_Md_213 d_Md_pack_63 rfl rfl ?_
            refine wk_i2lN (pc := 66) S_ d_Md_pack_66 (by omega) ?_
            refine wk_lmulN (pc := 67) S_ d_Md_pack_67 ?_
            refine wk_lstore (pc := 68) (lv' := [(4, .long (lN ((nx ^ (pkL ot cl nb li k).2) * (nx)))), (3, .int (nI ((pkL ot cl nb li k).2 + 1))), (0, .ref (m 0)), (1, .long (x)), (6, .int (nI (k)))]) S_ d_Md_pack_68 (by decide) rfl ?_
            refine wk_iincN (pc := 70) (d := 1) (lv' := [(6, .int (nI (k + 1))), (4, .long (lN ((nx ^ (pkL ot cl nb li k).2) * (nx)))), (3, .int (nI ((pkL ot cl nb li k).2 + 1))), (0, .ref (m 0)), (1, .long (x))]) S_ 4 d_Md_pack_70 (by decide) rfl (by decide) rfl ?_
            refine wk_goto (pc := 73) (tgt := 8) S_ d_Md_pack_73 (by decide) ?_
            have hp : k < nb ∧ ot k = false ∧ cl k ≠ 0 := ⟨by omega, of_decide_eq_true h38⟩
            have hpk : pkL ot cl nb li (k + 1) = (va_up (pkL ot cl nb li k).1 (pkL ot cl nb li k).2 k, (pkL ot cl nb li k).2 + 1) := if_pos hp
            refine wk_weq (ws' := (wMd m cI tx sz ap pt rk cd fr mc mg mz nc nt ld qap qpt qrk qcd qfr qmc qmg qmz qnc qnt qld nb cl gr sp ot na aw nx bg bb ab fd pv bx (cpN (k + 1) (wyI ot cl nb) wy) (va_up ((pkL ot cl nb li k).1) ((pkL ot cl nb li k).2) (k)) fm en nu td lf lk)) (by rw [bx_uu, Nat.zero_add, ← cp_up k (wyI ot cl nb) wy, show wyI ot cl nb k = 1 from if_pos hp]) ?_
            refine wk_weq (ws' := (wMd m cI tx sz ap pt rk cd fr mc mg mz nc nt ld qap qpt qrk qcd qfr qmc qmg qmz qnc qnt qld nb cl gr sp ot na aw nx bg bb ab fd pv bx (cpN (k + 1) (wyI ot cl nb) wy) ((pkL ot cl nb li (k + 1)).1) fm en nu td lf lk)) (by rw [hpk]) ?_
            refine wk_lveq (lv' := [(6, .int (nI (k + 1))), (4, .long (lN ((nx ^ (pkL ot cl nb li k).2) * (nx)))), (3, .int (nI ((pkL ot cl nb li (k + 1)).2))), (0, .ref (m 0)), (1, .long (x))]) (by rw [hpk]) ?_
            refine wk_lveq (lv' := [(6, .int (nI (k + 1))), (4, .long (lN (nx ^ (pkL ot cl nb li (k + 1)).2))), (3, .int (nI ((pkL ot cl nb li (k + 1)).2))), (0, .ref (m 0)), (1, .long (x))]) (by rw [hpk]; rw [Nat.pow_succ]) ?_
            refine wk_lv [3, 4, 2, 1, 0] ?_ (ih8 (k + 1) (by omega) (by omega))
            rfl
  refine wk_weq (ws' := (wMd m cI tx sz ap pt rk cd fr mc mg mz nc nt ld qap qpt qrk qcd qfr qmc qmg qmz qnc qnt qld nb cl gr sp ot na aw nx bg bb ab fd pv bx (cpN 0 (wyI ot cl nb) wy) li fm en nu td lf lk)) (by rw [← cp_0]) ?_
  refine wk_lv [3, 4, 2, 1, 0] ?_ (hL8 _ (0) (Nat.lt_succ_self _) (by omega))
  rfl
