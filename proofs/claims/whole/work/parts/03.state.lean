/-! what the worlds hold: statics, constant objects; classes of arrays; index tests -/
/-- outside the world: the kinds, their words, the words' bytes, the array of kinds, the switch's table -/
abbrev GzT : Type := (Nat → Nat) × (Nat → Nat) × (Nat → Nat) × Nat × Nat
abbrev zA (z : GzT) : Nat → Nat := z.1
abbrev zK (z : GzT) : Nat → Nat := z.2.1
abbrev zV (z : GzT) : Nat → Nat := z.2.2.1
abbrev zT (z : GzT) : Nat := z.2.2.2.1
abbrev zM (z : GzT) : Nat := z.2.2.2.2
def kNm : List String := ["APART", "POINTS", "RANK", "FREE", "MARK", "TUNNEL", "NOTE", "STEP", "CLASS"]
def kFl : List (String × String × String × List Int32) := [("java/lang/Enum", "ordinal", "I", [0, 1, 2, 3, 4, 5, 6, 7, 8]), ("PackLists$Kind", "numbers", "I", [2, 2, 2, 1, 3, 2, 2, 3, 3]), ("PackLists$Kind", "mostFirst", "I", [8, 8, 8, 999999, 8, 8, 3, 9, 9]), ("PackLists$Kind", "mostSecond", "I", [8, 1000, 99, 0, 999999, 5, 999999, 3, 3]), ("PackLists$Kind", "mostThird", "I", [0, 0, 0, 0, 9, 0, 0, 9, 8])]
def kLn : List Nat := [5, 6, 4, 4, 4, 6, 4, 4, 5]
def kBy : List (List Int32) := [[97, 112, 97, 114, 116], [112, 111, 105, 110, 116, 115], [114, 97, 110, 107], [102, 114, 101, 101], [109, 97, 114, 107], [116, 117, 110, 110, 101, 108], [110, 111, 116, 101], [115, 116, 101, 112], [99, 108, 97, 115, 115]]
def gX (z : GzT) : (Nat → Prop) → State → Heap → Prop := fun A U H => va_En "PackLists$Kind" "LPackLists$Kind;" kNm kFl (zA z) A U H ∧ va_Ef 9 "PackLists$Kind" "word" "Ljava/lang/String;" (fun i => .ref (zK z i)) (zA z) A U H ∧ vk_S 9 kLn kBy (zK z) (zV z) A U H ∧ va_Z "java/lang/String" "COMPACT_STRINGS" "Z" (.int 1) A U H ∧ va_Z "PackLists" "KINDS" "[LPackLists$Kind;" (.ref (zT z)) A U H ∧ va_T (.object "PackLists$Kind") (zT z) 9 (fun j => .ref (zA z j)) A U H ∧ va_Z "PackLists$1" "$SwitchMap$PackLists$Kind" "[I" (.ref (zM z)) A U H ∧ va_T .int (zM z) 9 (fun j => .int (nI (j + 1))) A U H ∧ va_Zq "jdk/internal/util/Preconditions" "SIOOBE_FORMATTER" "Ljava/util/function/BiFunction;" A U H ∧ va_Nw (Cond.methodLinkNest "PackLists" 11 ⟨"PackLists$Text", "<init>", "()V"⟩ "PackLists") U ∧ va_Nw (Cond.methodLinkNest "PackLists" 18 ⟨"PackLists$Stock", "<init>", "()V"⟩ "PackLists") U ∧ va_Nw (Cond.methodLinkNest "PackLists" 32 ⟨"PackLists$Load", "<init>", "()V"⟩ "PackLists") U ∧ va_Nw (Cond.fieldLinkNest "PackLists$Text" 90 "PackLists" "KINDS" "[LPackLists$Kind;" "PackLists") U
theorem gX_ok (z : GzT) : wk_ok (gX z) := by
  refine ⟨⟨fun A u U H hW h => ?_, fun A u U H hv h => ?_⟩, fun A U H H1 h hq => ?_, fun A B U H h hAB => ?_⟩
  · exact ⟨va_En.moved hW.alike h.1, va_Ef.moved hW.alike h.2.1, vk_S.moved hW.alike h.2.2.1, va_Z.moved hW.alike h.2.2.2.1, va_Z.moved hW.alike h.2.2.2.2.1, va_T.moved hW.alike h.2.2.2.2.2.1, va_Z.moved hW.alike h.2.2.2.2.2.2.1, va_T.moved hW.alike h.2.2.2.2.2.2.2.1, va_Zq.moved hW.alike h.2.2.2.2.2.2.2.2.1, va_Nw.warmM hW h.2.2.2.2.2.2.2.2.2.1, va_Nw.warmM hW h.2.2.2.2.2.2.2.2.2.2.1, va_Nw.warmM hW h.2.2.2.2.2.2.2.2.2.2.2.1, va_Nw.warmF hW h.2.2.2.2.2.2.2.2.2.2.2.2⟩
  · have ha : u.vm.Alike U.vm := by rw [hv]; exact Vm.Alike.refl _
    exact ⟨va_En.moved ha h.1, va_Ef.moved ha h.2.1, vk_S.moved ha h.2.2.1, va_Z.moved ha h.2.2.2.1, va_Z.moved ha h.2.2.2.2.1, va_T.moved ha h.2.2.2.2.2.1, va_Z.moved ha h.2.2.2.2.2.2.1, va_T.moved ha h.2.2.2.2.2.2.2.1, va_Zq.moved ha h.2.2.2.2.2.2.2.2.1, va_Nw.same rfl hv.symm h.2.2.2.2.2.2.2.2.2.1, va_Nw.same rfl hv.symm h.2.2.2.2.2.2.2.2.2.2.1, va_Nw.same rfl hv.symm h.2.2.2.2.2.2.2.2.2.2.2.1, va_Nw.same rfl hv.symm h.2.2.2.2.2.2.2.2.2.2.2.2⟩
  · exact ⟨h.1.kept hq, h.2.1.kept hq, h.2.2.1.kept hq, h.2.2.2.1.kept hq, h.2.2.2.2.1.kept hq, h.2.2.2.2.2.1.kept hq, h.2.2.2.2.2.2.1.kept hq, h.2.2.2.2.2.2.2.1.kept hq, h.2.2.2.2.2.2.2.2.1.kept hq, h.2.2.2.2.2.2.2.2.2.1, h.2.2.2.2.2.2.2.2.2.2.1, h.2.2.2.2.2.2.2.2.2.2.2.1, h.2.2.2.2.2.2.2.2.2.2.2.2⟩
  · exact ⟨h.1.narrow hAB, h.2.1.narrow hAB, h.2.2.1.narrow hAB, h.2.2.2.1.narrow hAB, h.2.2.2.2.1.narrow hAB, h.2.2.2.2.2.1.narrow hAB, h.2.2.2.2.2.2.1.narrow hAB, h.2.2.2.2.2.2.2.1.narrow hAB, h.2.2.2.2.2.2.2.2.1.narrow hAB, h.2.2.2.2.2.2.2.2.2.1, h.2.2.2.2.2.2.2.2.2.2.1, h.2.2.2.2.2.2.2.2.2.2.2.1, h.2.2.2.2.2.2.2.2.2.2.2.2⟩
abbrev CiT : Type := ClassId × ClassId × ClassId
abbrev tyK (cI : CiT) : List (ClassId × FieldType) := [(cI.1, .int), (cI.2.1, .boolean), (cI.2.2, .long)]
/-- whether b is a place below n -/
def ixI (n : Nat) (b : Int32) : Bool := decide (¬ b < 0) && decide (¬ nI n ≤ b)
theorem ixI_a {n : Nat} {b : Int32} (h : b < 0) : ixI n b = false := by simp [ixI, h]
theorem ixI_b {n : Nat} {b : Int32} (h : nI n ≤ b) : ixI n b = false := by simp [ixI, h]
theorem ixI_c {n : Nat} {b : Int32} (h1 : ¬ b < 0) (h2 : ¬ nI n ≤ b) : ixI n b = true := by simp [ixI, h1, h2]
theorem ix_of {n : Nat} {b : Int32} (h1 : ¬ b < 0) (h2 : ¬ nI n ≤ b) (hn : n < 2 ^ 31) : ∃ j, j < n ∧ b = nI j := by
  rcases pk_ix b hn with h | h | h
  · exact absurd h h1
  · exact absurd h h2
  · exact h
theorem ixI_of {n : Nat} {b : Int32} (h : ixI n b = true) (hn : n < 2 ^ 31) : ∃ j, j < n ∧ b = nI j := by
  by_cases h1 : b < 0
  · rw [ixI_a h1] at h; cases h
  · by_cases h2 : nI n ≤ b
    · rw [ixI_b h2] at h; cases h
    · exact ix_of h1 h2 hn
theorem ixI_nI {n j : Nat} (hn : n < 2 ^ 31) (hj : j < 2 ^ 31) : ixI n (nI j) = decide (j < n) := by
  by_cases h : j < n
  · rw [ixI_c (nI_pos hj) (nI_ge h hn)]; simp [h]
  · rw [ixI_b (nI_le (by omega) hj)]; simp [h]
theorem bI_f {b : Bool} (h : b = false) : nI 0 = bI b := by rw [h]; rfl
theorem bI_t {b : Bool} (h : b = true) : nI 1 = bI b := by rw [h]; rfl
/-! pure numbers: what both sides come to -/
/-- whether v is within least .. most -/
def lxI (v l m : Int64) : Bool := decide (l ≤ v) && decide (v ≤ m)
theorem lx_ix {u : Int32} {k : Nat} (hk : k + 1 < 2 ^ 31) : lxI u.toInt64 (lN 0) (lN k) = ixI (k + 1) u := by
  have e0 : (lN 0).toInt = 0 := lN_toInt (by omega)
  have e1 : (lN k).toInt = (k : Int) := lN_toInt (by omega)
  have e2 : u.toInt64.toInt = u.toInt := Int32.toInt_toInt64 u
  have e3 : (nI (k + 1)).toInt = ((k + 1 : Nat) : Int) := nI_toInt (by omega)
  unfold lxI ixI
  rw [Bool.eq_iff_iff]
  simp only [Bool.and_eq_true, decide_eq_true_eq, Int64.le_iff_toInt_le, Int32.le_iff_toInt_le, Int32.lt_iff_toInt_lt, e0, e1, e2, e3]
  have e4 : (0 : Int32).toInt = 0 := rfl
  rw [e4]
  omega
theorem lx_of {v : Int64} {a b : Nat} (h : lxI v (lN a) (lN b) = true) (ha : a < 2 ^ 31) (hb : b < 2 ^ 31) : ∃ n, a ≤ n ∧ n ≤ b ∧ v = lN n := by
  unfold lxI at h
  simp only [Bool.and_eq_true, decide_eq_true_eq] at h
  obtain ⟨h1, h2⟩ := h
  have hp : ¬ v < 0 := by
    rw [Int64.le_iff_toInt_le, lN_toInt ha] at h1
    rw [Int64.lt_iff_toInt_lt]
    have e4 : (0 : Int64).toInt = 0 := rfl
    rw [e4]
    omega
  obtain ⟨k, hk, rfl⟩ := pk_lOf hp
  exact ⟨k, (pk_lLE (by omega) hk).mp h1, (pk_lLE hk (by omega)).mp h2, rfl⟩
/-- the grams of a kind of bottles among the first n that are loaded -/
def goN (cl gr bx : Nat → Nat) (c : Nat) : Nat → Nat
  | 0 => 0
  | n + 1 => goN cl gr bx c n + (if bx n ≠ 0 ∧ cl n = c + 1 then gr n else 0)
theorem goN_le {cl gr bx : Nat → Nat} {c : Nat} (h : ∀ b, gr b ≤ 100000) : ∀ n, goN cl gr bx c n ≤ 100000 * n
  | 0 => Nat.le_refl _
  | n + 1 => by
    have h1 := goN_le (cl := cl) (bx := bx) (c := c) h n
    have h2 := h n
    unfold goN
    split <;> omega
/-- points of the kinds below n -/
def ptN (pt go : Nat → Nat) : Nat → Nat
  | 0 => 0
  | n + 1 => ptN pt go n + (go n + 999) / 1000 * pt n
theorem ptN_le {pt go : Nat → Nat} (h1 : ∀ c, pt c ≤ 1000) (h2 : ∀ c, go c ≤ 800000) : ∀ n, ptN pt go n ≤ 801000 * n
  | 0 => Nat.le_refl _
  | n + 1 => by
    have h3 := ptN_le h1 h2 n
    have h4 := h2 n
    have h5 : (go n + 999) / 1000 * pt n ≤ 801 * 1000 := Nat.mul_le_mul (by omega) (h1 n)
    unfold ptN
    omega
/-- how many kinds of the load stand before c, of those below n -/
def plN (rk go : Nat → Nat) (c : Nat) : Nat → Nat
  | 0 => 0
  | d + 1 => plN rk go c d + (if (rk d < rk c ∨ (rk d = rk c ∧ d < c)) ∧ 0 < go d then 1 else 0)
theorem plN_le {rk go : Nat → Nat} {c : Nat} : ∀ n, plN rk go c n ≤ n
  | 0 => Nat.le_refl _
  | n + 1 => by
    have h3 := plN_le (rk := rk) (go := go) (c := c) n
    unfold plN
    split <;> omega
/-- the kind at place k (0: none, else one more), sought from c on in r steps -/
def nmS (rk go : Nat → Nat) (k : Int32) : Nat → Nat → Nat
  | 0, _ => 0
  | r + 1, c => if 0 < go c ∧ nI (plN rk go c 9) = k then c + 1 else nmS rk go k r (c + 1)
theorem nmS_le {rk go : Nat → Nat} {k : Int32} : ∀ r c, nmS rk go k r c ≤ c + r
  | 0, c => by unfold nmS; omega
  | r + 1, c => by
    have h := nmS_le (rk := rk) (go := go) (k := k) r (c + 1)
    unfold nmS
    split <;> omega
/-- the bottles of a kind x: the k-th from s on -/
def obS (cl bx : Nat → Nat) (x : Nat) (k : Int32) : Nat → Nat → Nat → Nat × Nat
  | 0, _, s => (0, s)
  | r + 1, b, s => if bx b ≠ 0 ∧ cl b = x then (if nI s = k then (b + 1, s) else obS cl bx x k r (b + 1) (s + 1)) else obS cl bx x k r (b + 1) s
def odS (cl bx : Nat → Nat) (nb : Nat) (nm : Nat → Nat) (k : Int32) : Nat → Nat → Nat → Nat
  | 0, _, _ => 0
  | r + 1, i, s => if (obS cl bx (nm i) k nb 0 s).1 ≠ 0 then (obS cl bx (nm i) k nb 0 s).1 else odS cl bx nb nm k r (i + 1) (obS cl bx (nm i) k nb 0 s).2
theorem nmS_y {rk go : Nat → Nat} {k : Int32} : nmS rk go k 9 0 ≤ 9 := nmS_le 9 0
/-- the k-th of n things (0: none, else one more) -/
def pick (n : Nat) (f : Nat → Nat) (k : Int32) : Nat := if ixI n k then f k.toNatClampNeg + 1 else 0
theorem pick_a {n : Nat} {f : Nat → Nat} {k : Int32} (h : k < 0) : pick n f k = 0 := by rw [pick, ixI_a h]; rfl
theorem pick_b {n : Nat} {f : Nat → Nat} {k : Int32} (h : nI n ≤ k) : pick n f k = 0 := by rw [pick, ixI_b h]; rfl
theorem pick_in {n j : Nat} {f : Nat → Nat} (h : j < n) (hn : n < 2 ^ 31) : pick n f (nI j) = f j + 1 := by
  rw [pick, ixI_nI hn (by omega), if_pos (by simpa using h), nI_clamp (by omega)]
/-- the same, of things that are numbers or none already -/
def pickY (n : Nat) (f : Nat → Nat) (k : Int32) : Nat := if ixI n k then f k.toNatClampNeg else 0
theorem pickY_f {n : Nat} {f : Nat → Nat} {k : Int32} (h : ixI n k = false) : pickY n f k = 0 := by rw [pickY, h]; rfl
theorem pickY_in {n j : Nat} {f : Nat → Nat} (h : j < n) (hn : n < 2 ^ 31) : pickY n f (nI j) = f j := by
  rw [pickY, ixI_nI hn (by omega), if_pos (by simpa using h), nI_clamp (by omega)]
/-- a note -/
def ntN (nc nt : Nat → Nat) (l i : Int32) : Nat := if ixI 4 l then pick (nc l.toNatClampNeg) (fun j => nt (8 * l.toNatClampNeg + j)) i else 0
theorem ntN_f {nc nt : Nat → Nat} {l i : Int32} (h : ixI 4 l = false) : ntN nc nt l i = 0 := by rw [ntN, h]; rfl
theorem ntN_in {nc nt : Nat → Nat} {L : Nat} {i : Int32} (h : L < 4) : ntN nc nt (nI L) i = pick (nc L) (fun j => nt (8 * L + j)) i := by
  rw [ntN, ixI_nI (by decide) (by omega), if_pos (by simpa using h), nI_clamp (by omega)]
/-- the last of the first n marks of c that a grams reach -/
def mkS (mg mz : Nat → Nat) (c a : Nat) : Nat → Nat
  | 0 => 0
  | i + 1 => if mg (6 * c + i) ≤ a then mz (6 * c + i) else mkS mg mz c a i
def mkN (mc mg mz go : Nat → Nat) (k : Int32) : Nat := pick 9 (fun c => if 0 < go c then mkS mg mz c (go c) (mc c) else 0) k
/-- the greatest code of the first n kinds -/
def tnS (cd go : Nat → Nat) : Nat → Nat
  | 0 => 0
  | c + 1 => if 0 < go c ∧ tnS cd go c < cd c then cd c else tnS cd go c
theorem tnS_le {cd go : Nat → Nat} (h : ∀ c, cd c ≤ 5) : ∀ n, tnS cd go n ≤ 5
  | 0 => Nat.zero_le _
  | n + 1 => by
    have h3 := tnS_le (go := go) h n
    have h4 := h n
    rw [tnS]
    split <;> omega
/-- a row of bytes is written: how far the one that is looked for still is, and what was met there -/
def putL : Int32 × Int32 → List Nat → Int32 × Int32
  | p, [] => p
  | p, u :: us => putL (p.1 - 1, if p.1 = 0 then nI u else p.2) us
theorem putL_app (p : Int32 × Int32) (a b : List Nat) : putL p (a ++ b) = putL (putL p a) b := by
  induction a generalizing p with
  | nil => rfl
  | cons x xs ih => exact ih _
/-- decimals, from the place k down -/
def dgL (v : Nat) : Nat → List Nat
  | 0 => [48 + v % 10]
  | k + 1 => (48 + v / 10 ^ (k + 1) % 10) :: dgL v k
/-- the first place from k on (f steps) above which nothing stands -/
def dgK (v : Nat) : Nat → Nat → Nat
  | 0, k => k
  | f + 1, k => if 9 < v / 10 ^ k then dgK v f (k + 1) else k
def decs (v : Nat) : List Nat := dgL v (dgK v 9 0)
def lineB (c g p : Nat) : List Nat := decs c ++ (32 :: (decs g ++ (32 :: (decs p ++ [10]))))
/-- the paper from place k on, f lines at most -/
def papL (nm go pt : Nat → Nat) : Nat → Nat → List Nat
  | 0, _ => []
  | f + 1, k => if nm k = 0 then [] else lineB (nm k - 1) (go (nm k - 1)) ((go (nm k - 1) + 999) / 1000 * pt (nm k - 1)) ++ papL nm go pt f (k + 1)
/-- raw numbers as numbers -/
def gN (g : Int64) : Nat := g.toInt.toNat
theorem gN_l {n : Nat} (h : n < 2 ^ 63) : gN (lN n) = n := by rw [gN, pk_lT h]; rfl
def yN (x : Int32) : Nat := (x.toInt + 1).toNat
theorem yN_z {n : Nat} (h : n < 2 ^ 31) : yN (zI n) = n := by
  by_cases h0 : n = 0
  · subst h0; decide
  · rw [yN, zI_p h0, nI_toInt (by omega)]
    omega
def clOk (x : Int32) : Bool := decide (x = -1) || ixI 9 x
theorem clOk_lx (x : Int32) : lxI x.toInt64 (-1) (lN 8) = clOk x := by
  have e1 : (lN 8).toInt = (8 : Int) := lN_toInt (by omega)
  have e2 : x.toInt64.toInt = x.toInt := Int32.toInt_toInt64 x
  have e3 : (nI 9).toInt = ((9 : Nat) : Int) := nI_toInt (by omega)
  have e4 : (0 : Int32).toInt = 0 := rfl
  have e5 : (-1 : Int64).toInt = -1 := rfl
  have e6 : (-1 : Int32).toInt = -1 := rfl
  unfold lxI clOk ixI
  rw [Bool.eq_iff_iff]
  simp only [Bool.and_eq_true, Bool.or_eq_true, decide_eq_true_eq, Int64.le_iff_toInt_le, Int32.le_iff_toInt_le, Int32.lt_iff_toInt_lt, ← Int32.toInt_inj, e1, e2, e3, e4, e5, e6]
  omega
theorem clOk_of {x : Int32} (h : clOk x = true) : ∃ n, n ≤ 9 ∧ x = zI n := by
  unfold clOk at h
  rw [Bool.or_eq_true, decide_eq_true_eq] at h
  rcases h with h | h
  · exact ⟨0, by omega, by rw [h, zI_0]⟩
  · obtain ⟨j, hj, rfl⟩ := ixI_of h (by decide)
    exact ⟨j + 1, by omega, (zI_s j).symm⟩
def unS (tx : Nat → Nat) (sz : Nat) (pv : Bool) (u : Int32) : Bool × (Nat → Nat) × Nat × Bool := if ixI 256 u = true ∧ sz ≠ 1500 then (true, va_up tx sz u.toNatClampNeg, sz + 1, false) else (false, tx, sz, pv)
def boS (cl gr : Nat → Nat) (nb : Nat) (pv : Bool) (x : Int32) (g : Int64) : Nat × (Nat → Nat) × (Nat → Nat) × Nat × Bool := if nb ≠ 8 ∧ clOk x = true ∧ lxI g (lN 1) (lN 100000) = true then (nb + 1, va_up cl nb (yN x), va_up gr nb (gN g), nb + 1, false) else (0, cl, gr, nb, pv)
def bxS (bg bb : Nat → Nat) (nx : Nat) (pv : Bool) (kd : Int32) (g : Int64) (n : Int32) : Nat × (Nat → Nat) × (Nat → Nat) × Nat × Bool := if nx ≠ 5 ∧ ixI 4 kd = true ∧ lxI g (lN 0) (lN 1000000) = true ∧ ixI 9 n = true then (nx + 1, va_up bg nx (gN g), va_up bb nx n.toNatClampNeg, nx + 1, false) else (0, bg, bb, nx, pv)
def abS (ab : Nat → Nat) (pv : Bool) (nx : Nat) (b : Int32) (g : Int64) : Bool × (Nat → Nat) × Bool := if ixI nx b = true ∧ lxI g (lN 0) (lN 1000000) = true then (true, va_up ab b.toNatClampNeg (gN g), false) else (false, ab, pv)
def rsOk (q : Int32) : Bool := lxI q.toInt64 (lN 1) (lN 9)
theorem rsOk_of {q : Int32} (h : rsOk q = true) : ∃ n, (1 ≤ n ∧ n ≤ 9) ∧ q = nI n := by
  obtain ⟨n, h1, h2, h3⟩ := lx_of h (by decide) (by decide)
  refine ⟨n, ⟨h1, h2⟩, ?_⟩
  rw [← lN_i, ← h3]
  exact (Int32.toInt32_toInt64 q).symm
def reS (ot : Nat → Bool) (aw : Nat → Nat) (na : Nat) (pv : Bool) (nb : Nat) (b q : Int32) : Nat × (Nat → Bool) × (Nat → Nat) × Nat × Bool := if ixI nb b = true ∧ rsOk q = true ∧ ot b.toNatClampNeg = false then (na + 2, va_up ot b.toNatClampNeg true, va_up aw na (10 * b.toNatClampNeg + q.toNatClampNeg), na + 1, false) else (0, ot, aw, na, pv)
def tsS (cl sp oc : Nat → Nat) (pv : Bool) (nb : Nat) (b t r : Int32) : Int32 × (Nat → Nat) × (Nat → Nat) × Bool :=
  if ixI nb b = true ∧ cl b.toNatClampNeg = 0 ∧ nI (sp b.toNatClampNeg) = t ∧ ixI 4 r = true ∧ oc (4 * sp b.toNatClampNeg + r.toNatClampNeg) ≠ 0 then
    (lI (oc (4 * sp b.toNatClampNeg + r.toNatClampNeg)), if oc (4 * sp b.toNatClampNeg + r.toNatClampNeg) ≤ 10 then cl else va_up cl b.toNatClampNeg (oc (4 * sp b.toNatClampNeg + r.toNatClampNeg) - 10), if oc (4 * sp b.toNatClampNeg + r.toNatClampNeg) ≤ 10 then va_up sp b.toNatClampNeg (oc (4 * sp b.toNatClampNeg + r.toNatClampNeg) - 1) else sp, false)
  else (-100, cl, sp, pv)
/-- places below k are v, those behind as they were; the same with a copy -/
def fillN {α : Type} (k : Nat) (v : α) (g : Nat → α) : Nat → α := fun j => if j < k then v else g j
theorem fill_0 {α : Type} (v : α) (g : Nat → α) : g = fillN 0 v g := by funext j; simp [fillN]
theorem fill_up {α : Type} (k : Nat) (v : α) (g : Nat → α) : va_up (fillN k v g) k v = fillN (k + 1) v g := by
  funext j
  unfold va_up fillN
  by_cases h : j = k
  · rw [if_pos h, if_pos (by omega)]
  · rw [if_neg h]
    by_cases h2 : j < k
    · rw [if_pos h2, if_pos (by omega)]
    · rw [if_neg h2, if_neg (by omega)]
theorem fill_in {α : Type} {k : Nat} {v : α} {g : Nat → α} {j : Nat} (h : j < k) : fillN k v g j = v := if_pos h
def cpN {α : Type} (k : Nat) (f g : Nat → α) : Nat → α := fun j => if j < k then f j else g j
theorem cp_0 {α : Type} (f g : Nat → α) : g = cpN 0 f g := by funext j; simp [cpN]
theorem cp_up {α : Type} (k : Nat) (f g : Nat → α) : va_up (cpN k f g) k (f k) = cpN (k + 1) f g := by
  funext j
  unfold va_up cpN
  by_cases h : j = k
  · rw [if_pos h, if_pos (by omega), h]
  · rw [if_neg h]
    by_cases h2 : j < k
    · rw [if_pos h2, if_pos (by omega)]
    · rw [if_neg h2, if_neg (by omega)]
theorem cp_in {α : Type} {k : Nat} {f g : Nat → α} {j : Nat} (h : j < k) : cpN k f g j = f j := if_pos h
def nmF (rk go : Nat → Nat) : Nat → Nat := fun i => nmS rk go (nI i) 9 0
theorem plN_lt {rk go : Nat → Nat} {c : Nat} : ∀ n, c < n → plN rk go c n + 1 ≤ n
  | 0, h => absurd h (Nat.not_lt_zero _)
  | n + 1, h => by
    rw [plN]
    by_cases e : c = n
    · have h1 := plN_le (rk := rk) (go := go) (c := c) n
      rw [if_neg (by subst e; omega)]
      omega
    · have h1 := plN_lt (rk := rk) (go := go) (c := c) n (by omega)
      split <;> omega
theorem nmS_lt {rk go : Nat → Nat} {i : Nat} (hi : i < 2 ^ 31) : ∀ r c, c + r ≤ 9 → nmS rk go (nI i) r c ≠ 0 → i < 9
  | 0, _, _, h => absurd rfl h
  | r + 1, c, hc, h => by
    rw [nmS] at h
    by_cases q : 0 < go c ∧ nI (plN rk go c 9) = nI i
    · have h1 := plN_lt (rk := rk) (go := go) (c := c) 9 (by omega)
      have h2 := (nI_eq (by omega) hi).mp q.2
      omega
    · rw [if_neg q] at h
      exact nmS_lt hi r (c + 1) (by omega) h
theorem nmF_lt {rk go : Nat → Nat} {i : Nat} (hi : i < 2 ^ 31) (h : nmF rk go i ≠ 0) : i < 9 := nmS_lt hi 9 0 (by omega) h
theorem nmF_le {rk go : Nat → Nat} {i : Nat} : nmF rk go i ≤ 9 := nmS_le 9 0
def pw : Nat → Nat
  | 0 => 0
  | j + 1 => 10 ^ j
theorem pw_div (j : Nat) : pw (j + 1) / 10 = pw j := by
  cases j with
  | zero => rfl
  | succ j => show 10 ^ (j + 1) / 10 = 10 ^ j; rw [Nat.pow_succ]; exact Nat.mul_div_cancel _ (by decide)
theorem p10 {k : Nat} (h : k ≤ 9) : 10 ^ k ≤ 1000000000 := Nat.pow_le_pow_right (by decide) h
theorem p10_0 (k : Nat) : 0 < 10 ^ k := Nat.pow_pos (by decide)
def dgJ (v : Nat) : Nat → List Nat
  | 0 => []
  | j + 1 => dgL v j
theorem dgJ_s (v j : Nat) : dgJ v (j + 1) = (48 + v / 10 ^ j % 10) :: dgJ v j := by
  cases j with
  | zero => simp [dgJ, dgL]
  | succ j => rfl
theorem dgK_le {v : Nat} : ∀ f k, dgK v f k ≤ k + f
  | 0, _ => Nat.le_refl _
  | f + 1, k => by
    have h := dgK_le (v := v) f (k + 1)
    rw [dgK]
    split <;> omega
abbrev wSt (a : Nat → Nat) (cI : CiT) (cl : (Nat → Nat)) (gr : (Nat → Nat)) (sp : (Nat → Nat)) (rs : (Nat → Nat)) (aw : (Nat → Nat)) (nb : Nat) (na : Nat) (bg : (Nat → Nat)) (bb : (Nat → Nat)) (ab : (Nat → Nat)) (nx : Nat) : va_W := [(a 0, .inr (2, [.ref (a 1), .ref (a 2), .ref (a 3), .ref (a 4), .ref (a 5), .int (nI (nb)), .int (nI (na)), .ref (a 6), .ref (a 7), .ref (a 8), .int (nI (nx))])), (a 1, .inl (cI.1, 8, .inl (zF (cl)))), (a 2, .inl (cI.1, 8, .inl (nF (gr)))), (a 3, .inl (cI.1, 8, .inl (nF (sp)))), (a 4, .inl (cI.1, 8, .inl (nF (rs)))), (a 5, .inl (cI.1, 8, .inl (nF (aw)))), (a 6, .inl (cI.1, 5, .inl (nF (bg)))), (a 7, .inl (cI.1, 5, .inl (nF (bb)))), (a 8, .inl (cI.1, 5, .inl (nF (ab))))]
abbrev wRl (a : Nat → Nat) (cI : CiT) (ap : (Nat → Nat)) (pt : (Nat → Nat)) (rk : (Nat → Nat)) (cd : (Nat → Nat)) (mc : (Nat → Nat)) (mg : (Nat → Nat)) (mz : (Nat → Nat)) (nc : (Nat → Nat)) (nt : (Nat → Nat)) (oc : (Nat → Nat)) (fr : Nat) : va_W := [(a 0, .inr (5, [.ref (a 1), .ref (a 2), .ref (a 3), .ref (a 4), .ref (a 5), .ref (a 6), .ref (a 7), .ref (a 8), .ref (a 9), .ref (a 10), .int (nI (fr))])), (a 1, .inl (cI.1, 9, .inl (nF (ap)))), (a 2, .inl (cI.1, 9, .inl (nF (pt)))), (a 3, .inl (cI.1, 9, .inl (nF (rk)))), (a 4, .inl (cI.1, 9, .inl (nF (cd)))), (a 5, .inl (cI.1, 9, .inl (nF (mc)))), (a 6, .inl (cI.1, 54, .inl (nF (mg)))), (a 7, .inl (cI.1, 54, .inl (nF (mz)))), (a 8, .inl (cI.1, 4, .inl (nF (nc)))), (a 9, .inl (cI.1, 32, .inl (nF (nt)))), (a 10, .inl (cI.1, 40, .inl (zF (oc))))]
abbrev wBx (a : Nat → Nat) (cI : CiT) (bx : (Nat → Nat)) : va_W := [(a 0, .inl (cI.1, 8, .inl (zF (bx))))]
abbrev wPk (a : Nat → Nat) (cI : CiT) (x0 : Nat) (gi : (Nat → Nat)) (bi : (Nat → Nat)) (ki : (Nat → Nat)) (qu : (Nat → Nat)) (wt : Nat) (tr : (Nat → Nat)) (be : (Nat → Nat)) (fw : Nat) (fd : Bool) : va_W := [(a 0, .inr (3, [.ref (a 1), .ref (a 2), .ref (a 3), .ref (a 4), .int (nI (wt)), .ref (a 5), .ref (a 6), .int (nI (fw)), .ref (x0), .int (bI (fd))])), (a 1, .inl (cI.1, 5, .inl (nF (gi)))), (a 2, .inl (cI.1, 5, .inl (nF (bi)))), (a 3, .inl (cI.1, 5, .inl (nF (ki)))), (a 4, .inl (cI.1, 8, .inl (nF (qu)))), (a 5, .inl (cI.1, 8, .inl (zF (tr)))), (a 6, .inl (cI.1, 8, .inl (zF (be))))]
abbrev wLd (a : Nat → Nat) (cI : CiT) (go : (Nat → Nat)) (io : (Nat → Nat)) (ct : Nat) (sh : (Nat → Nat)) (wr : Nat) : va_W := [(a 0, .inr (4, [.ref (a 1), .ref (a 2), .int (nI (ct)), .ref (a 3), .int (nI (wr))])), (a 1, .inl (cI.1, 9, .inl (nF (go)))), (a 2, .inl (cI.1, 9, .inl (nF (io)))), (a 3, .inl (cI.1, 162, .inl (nF (sh))))]
abbrev wPL (a : Nat → Nat) (cI : CiT) (x0 : Nat) (x1 : Nat) (x2 : Nat) (x3 : Nat) (x4 : Nat) (x5 : Nat) (ut : Bool) : va_W := [(a 0, .inr (0, [.ref (x0), .ref (x1), .ref (x2), .ref (x3), .ref (x4), .ref (x5), .int (bI (ut))]))]
abbrev wTx (a : Nat → Nat) (cI : CiT) (x0 : Nat → Nat) (ty : (Nat → Nat)) (nu : (Nat → Nat)) (ln : Nat) (gt : Nat) (ok : Nat) (sn : Nat) : va_W := [(a 0, .inr (1, [.ref (a 1), .int (nI (ln)), .ref (a 2), .int (nI (gt)), (kdV x0 (ok)), .int (nI (sn))])), (a 1, .inl (cI.1, 1500, .inl (nF (ty)))), (a 2, .inl (cI.1, 3, .inl (nF (nu))))]
abbrev wAi (a : Nat → Nat) (cI : CiT) (n : Nat) (f : (Nat → Int32)) : va_W := [(a 0, .inl (cI.1, n, .inl (f)))]
abbrev wMd (a : Nat → Nat) (cI : CiT) (tx : (Nat → Nat)) (sz : Nat) (ap : (Nat → Bool)) (pt : (Nat → Nat)) (rk : (Nat → Nat)) (cd : (Nat → Nat)) (fr : Nat) (mc : (Nat → Nat)) (mg : (Nat → Nat)) (mz : (Nat → Nat)) (nc : (Nat → Nat)) (nt : (Nat → Nat)) (ld : (Nat → Nat)) (qap : (Nat → Bool)) (qpt : (Nat → Nat)) (qrk : (Nat → Nat)) (qcd : (Nat → Nat)) (qfr : Nat) (qmc : (Nat → Nat)) (qmg : (Nat → Nat)) (qmz : (Nat → Nat)) (qnc : (Nat → Nat)) (qnt : (Nat → Nat)) (qld : (Nat → Nat)) (nb : Nat) (cl : (Nat → Nat)) (gr : (Nat → Nat)) (sp : (Nat → Nat)) (ot : (Nat → Bool)) (na : Nat) (aw : (Nat → Nat)) (nx : Nat) (bg : (Nat → Nat)) (bb : (Nat → Nat)) (ab : (Nat → Nat)) (fd : Bool) (pv : Bool) (bx : (Nat → Nat)) (wy : (Nat → Nat)) (li : (Nat → Nat)) (fm : Nat) (en : Nat) (nu : Nat) (td : (Nat → Nat)) (lf : Int32) (lk : Int32) : va_W := [(a 0, .inr (6, [.ref (a 1), .int (nI (sz)), .ref (a 2), .ref (a 3), .ref (a 4), .ref (a 5), .int (nI (fr)), .ref (a 6), .ref (a 7), .ref (a 8), .ref (a 9), .ref (a 10), .ref (a 11), .ref (a 12), .ref (a 13), .ref (a 14), .ref (a 15), .int (nI (qfr)), .ref (a 16), .ref (a 17), .ref (a 18), .ref (a 19), .ref (a 20), .ref (a 21), .int (nI (nb)), .ref (a 22), .ref (a 23), .ref (a 24), .ref (a 25), .int (nI (na)), .ref (a 26), .int (nI (nx)), .ref (a 27), .ref (a 28), .ref (a 29), .int (bI (fd)), .int (bI (pv)), .ref (a 30), .ref (a 31), .ref (a 32), .int (nI (fm)), .int (nI (en)), .int (nI (nu)), .ref (a 33), .int (lf), .int (lk)])), (a 1, .inl (cI.1, 1500, .inl (nF (tx)))), (a 2, .inl (cI.2.1, 81, .inl (bF (ap)))), (a 3, .inl (cI.1, 9, .inl (nF (pt)))), (a 4, .inl (cI.1, 9, .inl (nF (rk)))), (a 5, .inl (cI.1, 9, .inl (nF (cd)))), (a 6, .inl (cI.1, 9, .inl (nF (mc)))), (a 7, .inl (cI.1, 54, .inl (nF (mg)))), (a 8, .inl (cI.1, 54, .inl (nF (mz)))), (a 9, .inl (cI.1, 4, .inl (nF (nc)))), (a 10, .inl (cI.1, 32, .inl (nF (nt)))), (a 11, .inl (cI.1, 40, .inl (lI_F (ld)))), (a 12, .inl (cI.2.1, 81, .inl (bF (qap)))), (a 13, .inl (cI.1, 9, .inl (nF (qpt)))), (a 14, .inl (cI.1, 9, .inl (nF (qrk)))), (a 15, .inl (cI.1, 9, .inl (nF (qcd)))), (a 16, .inl (cI.1, 9, .inl (nF (qmc)))), (a 17, .inl (cI.1, 54, .inl (nF (qmg)))), (a 18, .inl (cI.1, 54, .inl (nF (qmz)))), (a 19, .inl (cI.1, 4, .inl (nF (qnc)))), (a 20, .inl (cI.1, 32, .inl (nF (qnt)))), (a 21, .inl (cI.1, 40, .inl (lI_F (qld)))), (a 22, .inl (cI.1, 8, .inl (zF (cl)))), (a 23, .inl (cI.2.2, 8, .inr (.inl (lF (gr))))), (a 24, .inl (cI.1, 8, .inl (nF (sp)))), (a 25, .inl (cI.2.1, 8, .inl (bF (ot)))), (a 26, .inl (cI.1, 8, .inl (nF (aw)))), (a 27, .inl (cI.2.2, 5, .inr (.inl (lF (bg))))), (a 28, .inl (cI.1, 5, .inl (nF (bb)))), (a 29, .inl (cI.2.2, 5, .inr (.inl (lF (ab))))), (a 30, .inl (cI.1, 8, .inl (zF (bx)))), (a 31, .inl (cI.1, 8, .inl (zF (wy)))), (a 32, .inl (cI.1, 8, .inl (nF (li)))), (a 33, .inl (cI.1, 3, .inl (zF (td))))]
