theorem g_ne0 : Cond.methodLinkNest "PackLists" 11 ⟨"PackLists$Text", "<init>", "()V"⟩ "PackLists" ∈ lw_tbl := by decide +kernel
theorem g_ne1 : Cond.methodLinkNest "PackLists" 18 ⟨"PackLists$Stock", "<init>", "()V"⟩ "PackLists" ∈ lw_tbl := by decide +kernel
theorem g_ne2 : Cond.methodLinkNest "PackLists" 32 ⟨"PackLists$Load", "<init>", "()V"⟩ "PackLists" ∈ lw_tbl := by decide +kernel
theorem g_ne3 : Cond.fieldLinkNest "PackLists$Text" 90 "PackLists" "KINDS" "[LPackLists$Kind;" "PackLists" ∈ lw_tbl := by decide +kernel
/-! what the start gives of the things outside the world -/
abbrev gv1 : List Cond := flatC (Jvm.Cond.and given_1 narrow_1)
def kIx : List Nat := [68, 74, 77, 80, 84, 87, 90, 93, 96]
def kSt (i : Nat) : Term := .static "PackLists$Kind" (kNm.getD i "") "LPackLists$Kind;"
def kTx (i : Nat) : Term := .string "PackLists$Kind" (kIx.getD i 0)
theorem g_lay : ∀ i, i < 9 → Cond.laysStatic "PackLists$Kind" (kNm.getD i "") "LPackLists$Kind;" ∈ lw_tbl := by decide +kernel
theorem g_ini : Cond.initialized "PackLists$Kind" ∈ lw_tbl := by decide +kernel
theorem g_exa : ∀ i, i < 9 → Cond.exactly (.static "PackLists$Kind" (kNm.getD i "") "LPackLists$Kind;") "PackLists$Kind" ∈ gv1 := by decide +kernel
theorem g_fld : ∀ q ∈ kFl, ∀ i, i < 9 → Cond.eq (.field (.static "PackLists$Kind" (kNm.getD i "") "LPackLists$Kind;") q.1 q.2.1 q.2.2.1) (.int (q.2.2.2.getD i 0)) ∈ gv1 := by decide +kernel
theorem g_dif : ∀ i, i < 9 → ∀ j, j < 9 → i ≠ j → (Cond.not (.eq (.static "PackLists$Kind" (kNm.getD i "") "LPackLists$Kind;") (.static "PackLists$Kind" (kNm.getD j "") "LPackLists$Kind;")) ∈ gv1 ∨ Cond.not (.eq (.static "PackLists$Kind" (kNm.getD j "") "LPackLists$Kind;") (.static "PackLists$Kind" (kNm.getD i "") "LPackLists$Kind;")) ∈ gv1) := by decide +kernel
theorem g_wrd : ∀ i, i < 9 → Cond.eq (.field (.static "PackLists$Kind" (kNm.getD i "") "LPackLists$Kind;") "PackLists$Kind" "word" "Ljava/lang/String;") (kTx i) ∈ gv1 := by decide +kernel
theorem g_sex : ∀ i, i < 9 → Cond.exactly (kTx i) "java/lang/String" ∈ gv1 := by decide +kernel
theorem g_sco : ∀ i, i < 9 → Cond.eq (.field (kTx i) "java/lang/String" "coder" "B") (.int 0) ∈ gv1 := by decide +kernel
theorem g_sar : ∀ i, i < 9 → Cond.arrayOf (.field (kTx i) "java/lang/String" "value" "[B") .byte ∈ gv1 := by decide +kernel
theorem g_sle : ∀ i, i < 9 → Cond.eq (.length (.field (kTx i) "java/lang/String" "value" "[B")) (.int (Int32.ofNat (kLn.getD i 0))) ∈ gv1 := by decide +kernel
theorem g_sel : ∀ i, i < 9 → ∀ j, j < kLn.getD i 0 → Cond.eq (.elem (.field (kTx i) "java/lang/String" "value" "[B") (.int (Int32.ofNat j))) (.int ((kBy.getD i []).getD j 0)) ∈ gv1 := by decide +kernel
theorem g_sdi : ∀ i, i < 9 → ∀ j, j < 9 → i ≠ j → (Cond.not (Cond.eq (kTx i) (kTx j)) ∈ gv1 ∨ Cond.not (Cond.eq (kTx j) (kTx i)) ∈ gv1) := by decide +kernel
theorem g_kel : ∀ j, j < 9 → Cond.eq (.elem (.static "PackLists" "KINDS" "[LPackLists$Kind;") (.int (Int32.ofNat j))) (.static "PackLists$Kind" (kNm.getD j "") "LPackLists$Kind;") ∈ gv1 := by decide +kernel
theorem g_mel : ∀ j, j < 9 → Cond.eq (.elem (.static "PackLists$1" "$SwitchMap$PackLists$Kind" "[I") (.int (Int32.ofNat j))) (.int (nI (j + 1))) ∈ gv1 := by decide +kernel
theorem g_kle : Cond.eq (.length (.static "PackLists" "KINDS" "[LPackLists$Kind;")) (.int 9) ∈ gv1 := by decide +kernel
theorem g_mle : Cond.eq (.length (.static "PackLists$1" "$SwitchMap$PackLists$Kind" "[I")) (.int 9) ∈ gv1 := by decide +kernel
theorem g_kar : Cond.arrayOf (.static "PackLists" "KINDS" "[LPackLists$Kind;") (.object "PackLists$Kind") ∈ gv1 := by decide +kernel
theorem g_mar : Cond.arrayOf (.static "PackLists$1" "$SwitchMap$PackLists$Kind" "[I") .int ∈ gv1 := by decide +kernel
theorem g_com : Cond.eq (.static "java/lang/String" "COMPACT_STRINGS" "Z") (.int 1) ∈ gv1 := by decide +kernel
theorem g_ls1 : Cond.laysStatic "java/lang/String" "COMPACT_STRINGS" "Z" ∈ lw_tbl ∧ Cond.initialized "java/lang/String" ∈ lw_tbl := by decide +kernel
theorem g_ls2 : Cond.laysStatic "PackLists" "KINDS" "[LPackLists$Kind;" ∈ lw_tbl ∧ Cond.initialized "PackLists" ∈ lw_tbl := by decide +kernel
theorem g_ls3 : Cond.laysStatic "PackLists$1" "$SwitchMap$PackLists$Kind" "[I" ∈ lw_tbl ∧ Cond.initialized "PackLists$1" ∈ lw_tbl := by decide +kernel
theorem g_fmt : Cond.isRef (.static "jdk/internal/util/Preconditions" "SIOOBE_FORMATTER" "Ljava/util/function/BiFunction;") ∈ gv1 := by decide +kernel
theorem g_ls4 : Cond.laysStatic "jdk/internal/util/Preconditions" "SIOOBE_FORMATTER" "Ljava/util/function/BiFunction;" ∈ lw_tbl ∧ Cond.initialized "jdk/internal/util/Preconditions" ∈ lw_tbl := by decide +kernel
set_option maxHeartbeats 4000000 in
theorem gx_start {s : State} {b : Nat} (hts : ∀ w ∈ lw_tbl, w.before #[Value.ref b] s = true) (hgv : (Jvm.Cond.and given_1 narrow_1).before #[Value.ref b] s = true) : ∃ z : GzT, gX z (fun q : Nat => s.heap.size ≤ q) s s.heap := by
  have hA : ∀ a : Nat, a < s.heap.size → ¬ (fun q : Nat => s.heap.size ≤ q) a := fun a h => Nat.not_le.mpr h
  have hs : ∀ w ∈ gv1, w.before #[Value.ref b] s = true := flat_of_before _ hgv
  obtain ⟨ad, hE, hev⟩ := va_Enof2 (args := #[Value.ref b]) (s := s) (E := "PackLists$Kind") (d := "LPackLists$Kind;") (nm := kNm) (F := kFl) (A := fun q : Nat => s.heap.size ≤ q) (fun i hi => hts _ (g_lay i hi)) (hts _ g_ini) (fun i hi => hs _ (g_exa i hi)) (fun q hq i hi => hs _ (g_fld q hq i hi)) (fun i j hi hj hij => (g_dif i hi j hj hij).imp (hs _) (hs _)) hA
  obtain ⟨adK, adV, hK, hkv⟩ := vk_Sof (args := #[Value.ref b]) (s := s) (N := 9) (tm := kTx) (len := kLn) (byt := kBy) (A := fun q : Nat => s.heap.size ≤ q) (by decide) (fun i hi => hs _ (g_sex i hi)) (fun i hi => hs _ (g_sco i hi)) (fun i hi => hs _ (g_sar i hi)) (fun i hi => hs _ (g_sle i hi)) (fun i hi j hj => hs _ (g_sel i hi j hj)) (fun i j hi hj hij => (g_sdi i hi j hj hij).imp (hs _) (hs _)) hA
  have hW := va_Efof (args := #[Value.ref b]) (s := s) (N := 9) (E := "PackLists$Kind") (d0 := "LPackLists$Kind;") (o := "PackLists$Kind") (n := "word") (d := "Ljava/lang/String;") (nm := kNm) (v := fun i => .ref (adK i)) (tm := kTx) (ad := ad) (A := fun q : Nat => s.heap.size ≤ q) (fun i hi => hev i hi) (fun i hi => hs _ (g_wrd i hi)) hkv hA
  obtain ⟨kt, hkt, hKT⟩ := va_Tof (args := #[Value.ref b]) (s := s) (tm := .static "PackLists" "KINDS" "[LPackLists$Kind;") (ty := .object "PackLists$Kind") (N := 9) (f := fun j => .ref (ad j)) (A := fun q : Nat => s.heap.size ≤ q) (by decide) (hs _ g_kar) (va_eqt (hs _ g_kle)) (fun j hj => va_eqv (hs _ (g_kel j hj)) (hev j hj)) hA
  obtain ⟨mt, hmt, hMT⟩ := va_Tof (args := #[Value.ref b]) (s := s) (tm := .static "PackLists$1" "$SwitchMap$PackLists$Kind" "[I") (ty := .int) (N := 9) (f := fun j => .int (nI (j + 1))) (A := fun q : Nat => s.heap.size ≤ q) (by decide) (hs _ g_mar) (va_eqt (hs _ g_mle)) (fun j hj => va_eqt (hs _ (g_mel j hj))) hA
  exact ⟨(ad, adK, adV, kt, mt), hE, hW, hK, va_Zof (hts _ g_ls1.1) (hts _ g_ls1.2) (va_eqi (hs _ g_com)) hA, va_Zof (hts _ g_ls2.1) (hts _ g_ls2.2) hkt hA, hKT, va_Zof (hts _ g_ls3.1) (hts _ g_ls3.2) hmt hA, hMT, va_Zqof (hts _ g_ls4.1) (hts _ g_ls4.2) (hs _ g_fmt) hA, va_Nw.of rfl (hts _ g_ne0), va_Nw.of rfl (hts _ g_ne1), va_Nw.of rfl (hts _ g_ne2), va_Nw.of rfl (hts _ g_ne3)⟩
theorem arr_i {args : Array Value} {s : State} (h : (Cond.arrayClass .int).before args s = true) : ∃ cA : ClassId, ArrOfT s cA .int ∧ va_RA s cA .int := by
  obtain ⟨cA, kA, comp, h1, h2, h3⟩ := Cond.arrayClass_spec h
  exact ⟨cA, fun n z => ⟨fun k h => (by cases h), kA, h2, comp, h3⟩, h1⟩
theorem arr_z {args : Array Value} {s : State} (h : (Cond.arrayClass .boolean).before args s = true) : ∃ cA : ClassId, ArrOfT s cA .boolean ∧ va_RA s cA .boolean := by
  obtain ⟨cA, kA, comp, h1, h2, h3⟩ := Cond.arrayClass_spec h
  exact ⟨cA, fun n z => ⟨fun k h => (by cases h), kA, h2, comp, h3⟩, h1⟩
theorem arr_l {args : Array Value} {s : State} (h : (Cond.arrayClass .long).before args s = true) : ∃ cA : ClassId, ArrOfT s cA .long ∧ va_RA s cA .long := by
  obtain ⟨cA, kA, comp, h1, h2, h3⟩ := Cond.arrayClass_spec h
  exact ⟨cA, fun n z => ⟨fun k h => (by cases h), kA, h2, comp, h3⟩, h1⟩
