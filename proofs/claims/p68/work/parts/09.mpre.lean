theorem zz_nar {r : Int32} (h : r = 0 ∨ r = 1) : narrow .boolean (.int r) = .int r := by
  rcases h with h | h <;> rw [h] <;> rfl
theorem bo_zz {P : Prop} [Decidable P] : bo P = 0 ∨ bo P = 1 := by
  by_cases h : P
  · exact Or.inr (bo_t h)
  · exact Or.inl (bo_f h)
-- ---- words of the text
def isW (fk tok : Int32) (a f : Nat) (tape : Nat → Int32) (i : Nat) : Prop := fk = 0 ∧ tok = 1 ∧ nI a - nI f = nI (sl i) ∧ ∀ q, q < sl i → tape (f + q) = chr i q
noncomputable def isB (fk tok : Int32) (a f : Nat) (tape : Nat → Int32) (i : Nat) : Int32 := @ite _ (isW fk tok a f tape i) (Classical.propDecidable _) 1 0
section ISW
variable {fk tok : Int32} {a f : Nat} {tape : Nat → Int32} {i : Nat}
theorem isB_t (h : isW fk tok a f tape i) : isB fk tok a f tape i = 1 := @if_pos _ (Classical.propDecidable _) h _ _ _
theorem isB_f (h : ¬ isW fk tok a f tape i) : isB fk tok a f tape i = 0 := @if_neg _ (Classical.propDecidable _) h _ _ _
theorem isB_0 : isB fk tok a f tape i = 0 ↔ ¬ isW fk tok a f tape i := ⟨fun h q => by rw [isB_t q] at h; exact absurd h (by decide), isB_f⟩
theorem isB_1 : ¬ isB fk tok a f tape i = 0 ↔ isW fk tok a f tape i := ⟨fun h => Classical.byContradiction fun q => h (isB_f q), fun h q => isB_0.mp q h⟩
theorem isB_zz : isB fk tok a f tape i = 0 ∨ isB fk tok a f tape i = 1 := by
  by_cases h : isW fk tok a f tape i
  · exact Or.inr (isB_t h)
  · exact Or.inl (isB_f h)
theorem isB_nar : narrow .boolean (.int (isB fk tok a f tape i)) = .int (isB fk tok a f tape i) := zz_nar isB_zz
theorem sl_pos : ∀ i, i < 11 → 1 ≤ sl i := by decide
theorem isW_lt (h : isW fk tok a f tape i) (hi : i < 11) (ha : a ≤ 600) (hf : f ≤ 600) : f < a := by
  have h1 := sub_len (v := nI a - nI f) (c := sl i) rfl h.2.2.1 ha hf (by have := sl_lt i; omega)
  have h2 := sl_pos i hi
  omega
theorem isW_step {j : Nat} (h : ∀ q, q < j → tape (f + q) = chr i q) (e : tape (f + j) = chr i j) : ∀ q, q < j + 1 → tape (f + q) = chr i q := by
  intro q hq
  by_cases c : q = j
  · rw [c]; exact e
  · exact h q (by omega)
end ISW
-- ---- numbers between two
theorem nIl_toInt {b : Nat} (hb : b < 2147483648) : (nI b).toInt64.toInt = (b : Int) := by rw [Int32.toInt_toInt64, nI_toInt hb]
theorem nat64g {x : Int32} {lo B : Int64} {b : Nat} (h : lo ≤ x.toInt64 ∧ x.toInt64 ≤ B) (h0 : 0 ≤ lo) (hB : B.toInt = b) : ∃ j : Nat, j < b + 1 ∧ x = nI j := by
  have h1 := h.1
  have h2 := h.2
  rw [fa_le64, Int32.toInt_toInt64] at h1 h2
  rw [fa_le64, tl_0] at h0
  obtain ⟨j, hj, e⟩ := nI_of (x := x) (by rw [fa_lt, tz_0]; omega)
  refine ⟨j, ?_, e⟩
  rw [e, nI_toInt hj] at h2
  omega
theorem nat64i {x : Int32} {b : Nat} (h : 0 ≤ x.toInt64 ∧ x.toInt64 ≤ (nI b).toInt64) (hb : b < 2147483648) : ∃ j : Nat, x = nI j ∧ j ≤ b := by
  obtain ⟨j, hj, e⟩ := nat64g h (by decide) (nIl_toInt hb)
  exact ⟨j, e, by omega⟩
theorem nat64n {x : Int32} {a b : Nat} (h : (nI a).toInt64 ≤ x.toInt64 ∧ x.toInt64 ≤ (nI b).toInt64) (ha : a < 2147483648) (hb : b < 2147483648) : ∃ q : Nat, x = nI q ∧ q ≤ b := by
  obtain ⟨j, hj, e⟩ := nat64g h (by rw [fa_le64, tl_0, nIl_toInt ha]; omega) (nIl_toInt hb)
  exact ⟨j, e, by omega⟩
theorem sub1_toInt {v : Int32} {a : Nat} (ev : v = nI a - 1) (ha : a < 1073741824) : v.toInt64.toInt = (a : Int) - 1 := by
  rw [Int32.toInt_toInt64, ev, show (1 : Int32) = nI 1 from rfl]
  exact pk_sub_toInt ha (by decide)
theorem bo_sub {x v : Int32} {a : Nat} (ev : v = nI a - 1) (ha : a < 1073741824) : bo (0 ≤ x.toInt64 ∧ x.toInt64 ≤ v.toInt64) = 0 ∨ ∃ j : Nat, x = nI j ∧ j < a := by
  by_cases h : 0 ≤ x.toInt64 ∧ x.toInt64 ≤ v.toInt64
  · right
    have h1 := h.1
    have h2 := h.2
    rw [fa_le64, Int32.toInt_toInt64, tl_0] at h1
    rw [fa_le64, Int32.toInt_toInt64, sub1_toInt ev ha] at h2
    obtain ⟨j, hj, e⟩ := nI_of (x := x) (by rw [fa_lt, tz_0]; omega)
    refine ⟨j, e, ?_⟩
    rw [e, nI_toInt hj] at h2
    omega
  · exact Or.inl (bo_f h)
theorem nat64s {x v : Int32} {q : Nat} (h : 0 ≤ x.toInt64 ∧ x.toInt64 ≤ v.toInt64) (ev : v = nI q - 1) (hq : q < 1073741824) : ∃ j : Nat, j < q ∧ x = nI j := by
  rcases bo_sub (x := x) ev hq with h1 | ⟨j, e, hj⟩
  · exact absurd h (bo_0.mp h1)
  · exact ⟨j, hj, e⟩
theorem add64 {v : Int64} {a b c : Nat} (e : v = (nI a).toInt64 + (nI b).toInt64) (h : ¬ (nI c).toInt64 < v) (ha : a < 2147483648) (hb : b < 2147483648) (hc : c < 2147483648) : a + b ≤ c := by
  rw [nI_l ha, nI_l hb, lN_add] at e
  rw [e, nI_l hc] at h
  have h3 : ¬ c < a + b := fun q => h ((pk_lLT (a := c) (b := a + b) (by omega) (by omega)).mpr q)
  omega
-- ---- bits
theorem bit_N' : ∀ s, s < 256 → ∀ t, t < 16 → nI s >>> (nI t &&& 31) &&& 1 = nI (s / 2 ^ t % 2) := by decide +kernel
theorem bit_N {s t : Nat} (hs : s ≤ 255) (ht : t ≤ 15) : nI s >>> (nI t &&& 31) &&& 1 = nI (s / 2 ^ t % 2) := bit_N' s (by omega) t (by omega)
def bt (x : Int32) (k : Nat) : Nat := (x >>> (nI k &&& 31) &&& 1).toBitVec.toNat
def pcn (x : Int32) : Nat → Nat
  | 0 => 0
  | k + 1 => pcn x k + bt x k
theorem nI_nat (z : Int32) : z = nI z.toBitVec.toNat := by
  apply Int32.toBitVec_inj.mp
  show z.toBitVec = BitVec.ofNat 32 z.toBitVec.toNat
  rw [BitVec.ofNat_toNat, BitVec.setWidth_eq]
theorem bt_le (x : Int32) (k : Nat) : bt x k ≤ 1 := by
  unfold bt
  rw [pk_and (x >>> (nI k &&& 31)) (m := 1) 1 (by decide), pk_tn (Nat.lt_of_lt_of_le (Nat.mod_lt _ (by decide)) (by decide))]
  omega
theorem pcn_le (x : Int32) (k : Nat) : pcn x k ≤ k := by
  induction k with
  | zero => exact Nat.le_refl 0
  | succ k ih =>
    have := bt_le x k
    show pcn x k + bt x k ≤ k + 1
    omega
theorem pcn_step {x n v v2 v3 : Int32} {k : Nat} (h : n = nI (pcn x k)) (e3 : v3 = x >>> (nI k &&& 31)) (e2 : v2 = v3 &&& 1) (e : v = n + v2) (hk : k < 16) : v = nI (pcn x (k + 1)) := by
  rw [e, h, e2, e3, nI_nat (x >>> (nI k &&& 31) &&& 1)]
  exact nI_add _ _
theorem bits_end {x n : Int32} {k : Nat} (h : n = nI (pcn x k)) (h1 : k ≤ 16) (h2 : 16 ≤ k) : n = nI (pcn x 16) := by
  rw [h, show k = 16 by omega]
theorem bt_lsb (x : Int32) : ∀ k, k < 16 → bt x k = (x.toBitVec.getLsbD k).toNat := by
  intro k hk
  have hs : ∀ k, k < 16 → ((nI k &&& 31).toBitVec.smod 32).toNat = k := by decide +kernel
  have e1 : (x >>> (nI k &&& 31)).toBitVec = x.toBitVec.sshiftRight k := by
    show x.toBitVec.sshiftRight' ((nI k &&& 31).toBitVec.smod 32) = _
    rw [BitVec.sshiftRight_eq', hs k hk]
  unfold bt
  rw [pk_and (x >>> (nI k &&& 31)) (m := 1) 1 (by decide), pk_tn (Nat.lt_of_lt_of_le (Nat.mod_lt _ (by decide)) (by decide)), e1]
  have e2 : (x.toBitVec.sshiftRight k).getLsbD 0 = x.toBitVec.getLsbD k := by
    rw [BitVec.getLsbD_sshiftRight, if_pos (show k + 0 < 32 by omega), Nat.add_zero]
    first | rfl | simp
  rw [← e2]
  show _ = ((x.toBitVec.sshiftRight k).toNat.testBit 0).toNat
  rw [Nat.testBit_zero]
  rcases Nat.mod_two_eq_zero_or_one (x.toBitVec.sshiftRight k).toNat with h | h <;> simp [h]
def stT (S g : Int32) : Int32 := S &&& (g ^^^ -1)
theorem bt_cov (S o t : Int32) (k : Nat) (hk : k < 16) : bt S k ≤ bt o k + bt t k + bt (stT S (o ||| t)) k := by
  rw [bt_lsb S k hk, bt_lsb o k hk, bt_lsb t k hk, bt_lsb (stT S (o ||| t)) k hk]
  have e : (stT S (o ||| t)).toBitVec.getLsbD k = (S.toBitVec.getLsbD k && !(o.toBitVec.getLsbD k || t.toBitVec.getLsbD k)) := by
    show (S.toBitVec &&& ((o.toBitVec ||| t.toBitVec) ^^^ (-1 : Int32).toBitVec)).getLsbD k = _
    have e1 : (-1 : Int32).toBitVec = BitVec.allOnes 32 := by decide
    rw [e1, BitVec.getLsbD_and, BitVec.getLsbD_xor, BitVec.getLsbD_or, BitVec.getLsbD_allOnes]
    have : k < 32 := by omega
    simp [this]
  rw [e]
  cases S.toBitVec.getLsbD k <;> cases o.toBitVec.getLsbD k <;> cases t.toBitVec.getLsbD k <;> decide
theorem pcn_cov (S o t : Int32) : pcn S 16 ≤ pcn o 16 + pcn t 16 + pcn (stT S (o ||| t)) 16 := by
  have h : ∀ k, k ≤ 16 → pcn S k ≤ pcn o k + pcn t k + pcn (stT S (o ||| t)) k := by
    intro k
    induction k with
    | zero => intro _; exact Nat.zero_le _
    | succ k ih =>
      intro hk
      have h1 := ih (by omega)
      have h2 := bt_cov S o t k (by omega)
      show pcn S k + bt S k ≤ (pcn o k + bt o k) + (pcn t k + bt t k) + (pcn (stT S (o ||| t)) k + bt (stT S (o ||| t)) k)
      omega
  exact h 16 (by omega)
theorem stT_of {v y g S G : Int32} (e : v = S &&& y) (ey : y = g ^^^ -1) (eg : g = G) : v = stT S G := by rw [e, ey, eg]; rfl
theorem hoT_of {v y w a b S A B : Int32} (e : v = S &&& y) (ey : y = w ^^^ -1) (ew : w = a ||| b) (ea : a = A) (eb : b = B) : v = stT S (A ||| B) := by rw [e, ey, ew, ea, eb]; rfl
theorem sh1p' : ∀ n, n < 31 → (1 : Int32) <<< (nI n &&& 31) = nI (2 ^ n) := by decide +kernel
theorem sh1p {n : Nat} (h : n < 31) : (1 : Int32) <<< (nI n &&& 31) = nI (2 ^ n) := sh1p' n h
theorem sh2p' : ∀ n, n < 30 → (2 : Int32) <<< (nI n &&& 31) = nI (2 ^ (n + 1)) := by decide +kernel
theorem sh2p {n : Nat} (h : n < 30) : (2 : Int32) <<< (nI n &&& 31) = nI (2 ^ (n + 1)) := sh2p' n h
-- ---- products, choices, divisors
def fct : Nat → Nat
  | 0 => 1
  | n + 1 => fct n * (n + 1)
theorem fct_step {x v : Int64} {k : Nat} (h : x = lN (fct (k - 1))) (hk : 2 ≤ k ∧ k < 2147483648) (e : v = x * (nI k).toInt64) : v = lN (fct (k + 1 - 1)) := by
  rw [e, h, nI_l hk.2, lN_mul]
  obtain ⟨q, rfl⟩ : ∃ q, k = q + 1 := ⟨k - 1, by omega⟩
  rfl
theorem fct_end {x : Int64} {k p : Nat} (h : x = lN (fct (k - 1))) (hk : k = p + 1 ∨ (k = 2 ∧ p ≤ 1)) : x = lN (fct p) := by
  rcases hk with rfl | ⟨rfl, hp⟩
  · exact h
  · rcases (show p = 0 ∨ p = 1 by omega) with rfl | rfl
    · exact h
    · exact h
theorem fct_ne' : ∀ n, n < 9 → ¬ lN (fct n) = 0 := by decide +kernel
theorem fct_ne {n : Nat} (h : n ≤ 8) : ¬ lN (fct n) = 0 := fct_ne' n (by omega)
theorem rem_lt {x y r : Int64} (e : r = x - x / y * y) (hy : ¬ y = 0) : r.toInt.natAbs < y.toInt.natAbs := by
  have hy0 : y.toInt ≠ 0 := fun q => hy (Int64.toInt_inj.mp (q.trans tl_0.symm))
  have hlt : (x.toInt.tmod y.toInt).natAbs < y.toInt.natAbs := by
    rw [Int.natAbs_tmod]
    exact Nat.mod_lt _ (by omega)
  have hy1 := y.le_toInt
  have hy2 := y.toInt_lt
  have h1 : r.toInt = x.toInt.tmod y.toInt := by
    rw [e, Int64.toInt_sub, Int64.toInt_mul, Int64.toInt_div, Int.bmod_mul_bmod, Int.sub_bmod_bmod, show x.toInt - x.toInt.tdiv y.toInt * y.toInt = x.toInt.tmod y.toInt by rw [Int.tmod_def, Int.mul_comm]]
    exact Int.bmod_eq_of_le (by omega) (by omega)
  rw [h1]
  exact hlt
def chs (n : Nat) : Nat → Nat
  | 0 => 1
  | k + 1 => chs n k * (n - k) / (k + 1)
theorem chs_i (n : Nat) : (1 : Int64) = lN (chs n 0) := rfl
theorem chs_b : ∀ n, n < 49 → ∀ k, k < 17 → chs n k * (n - k) < 2 ^ 62 ∧ chs n k < 2 ^ 62 ∧ (k ≤ n → 0 < chs n k) := by decide +kernel
theorem chs_step {x v v2 : Int64} {v0 : Int32} {n k : Nat} (h : x = lN (chs n k)) (e0 : v0 = nI n - nI k) (e2 : v2 = x * v0.toInt64) (e : v = v2 / (nI (k + 1)).toInt64) (hk : k < 16) (hn : n ≤ 48) (hkn : k ≤ n) : v = lN (chs n (k + 1)) := by
  obtain ⟨b1, b2, -⟩ := chs_b n (by omega) k (by omega)
  rw [e, e2, h, e0, pk_sub hkn, nI_l (by omega), nI_l (by omega), lN_mul]
  exact pk_lDiv (by omega) (by omega) (by omega)
theorem chs_ne {x : Int64} {n k : Nat} (h : x = lN (chs n k)) (h1 : k ≤ n) (h2 : n ≤ 48) (h3 : k ≤ 16) : ¬ x = 0 := by
  obtain ⟨-, b2, b3⟩ := chs_b n (by omega) k (by omega)
  have := b3 h1
  intro q
  have q2 := (pk_lEQ (a := chs n k) (b := 0) (by omega) (by decide)).mp (h.symm.trans q)
  omega
def prd (o s : Nat) : Nat → Nat
  | 0 => 1
  | t + 1 => prd o s t * (if s / 2 ^ t % 2 = 1 then o else 10 - o)
theorem prd_i (o s : Nat) : (1 : Int64) = lN (prd o s 0) := rfl
theorem prd_y {x v : Int64} {o s t : Nat} (h : x = lN (prd o s t)) (e : v = x * (nI o).toInt64) (c : s / 2 ^ t % 2 = 1) (ho : o < 2147483648) : v = lN (prd o s (t + 1)) := by
  rw [e, h, nI_l ho, lN_mul]
  show _ = lN (prd o s t * (if s / 2 ^ t % 2 = 1 then o else 10 - o))
  rw [if_pos c]
theorem prd_n {x v : Int64} {o s t : Nat} (h : x = lN (prd o s t)) (e : v = x * (nI (10 - o)).toInt64) (c : ¬ s / 2 ^ t % 2 = 1) (ho : o < 2147483648) : v = lN (prd o s (t + 1)) := by
  rw [e, h, nI_l (by omega), lN_mul]
  show _ = lN (prd o s t * (if s / 2 ^ t % 2 = 1 then o else 10 - o))
  rw [if_neg c]
def smm (o : Nat) : Nat → Nat → Nat
  | 0, _ => 0
  | s + 1, n => smm o s n + prd o s n
theorem smm_i (o n : Nat) : (0 : Int64) = lN (smm o 0 n) := rfl
theorem smm_1 {A B v : Int64} {o s n t : Nat} (hs : A = lN (smm o s n)) (hp : v = lN (prd o s t)) (e : B = A + v) (ht : t = n) : B = lN (smm o (s + 1) n) := by
  rw [e, hs, hp, ht]
  exact lN_add _ _
theorem smm_0 {A v : Int64} {o s n t : Nat} (hs : A = lN (smm o s n)) (hp : v = lN (prd o s t)) (c : v = 0) (ht : t = n) : A = lN (smm o (s + 1) n) := smm_1 hs hp (by rw [c]; exact (Int64.add_zero A).symm) ht
theorem smm_b : ∀ o, o < 11 → ∀ h, h < 8 → ¬ lN (smm o (2 ^ (h + 1)) (h + 1)) = 0 := by decide +kernel
theorem smm_ne {A : Int64} {o s h : Nat} (hs : A = lN (smm o s (h + 1))) (e : s = 2 ^ (h + 1)) (ho : o ≤ 10) (hh : h ≤ 7) : ¬ A = 0 := by
  rw [hs, e]
  exact smm_b o (by omega) h (by omega)
-- ---- the world's row of numbers
def wn (f : Nat → Int32) (i : Nat) : Nat := (f i).toNatClampNeg
def okW (f : Nat → Int32) : Prop := (∀ i, (i < 13 ∧ i ≠ 1 ∧ i ≠ 8) → 0 ≤ f i) ∧ (wn f 0 ≤ 16 ∧ wn f 2 ≤ 10 ∧ wn f 3 ≤ 4 ∧ wn f 4 ≤ 12 ∧ wn f 5 ≤ 8 ∧ wn f 6 ≤ 4 ∧ wn f 7 ≤ 30 ∧ wn f 9 + wn f 10 + wn f 11 + wn f 12 = wn f 4)
theorem okW_bd {f : Nat → Int32} (h : okW f) : wn f 0 ≤ 16 ∧ wn f 2 ≤ 10 ∧ wn f 3 ≤ 4 ∧ wn f 4 ≤ 12 ∧ wn f 5 ≤ 8 ∧ wn f 6 ≤ 4 ∧ wn f 7 ≤ 30 ∧ wn f 9 + wn f 10 + wn f 11 + wn f 12 = wn f 4 := h.2
theorem okW_at {f : Nat → Int32} (h : okW f) {i : Nat} (hi : i < 13 ∧ i ≠ 1 ∧ i ≠ 8) : f i = nI (wn f i) := by
  obtain ⟨j, hj, e⟩ := nI_of (Int32.not_lt.mpr (h.1 i hi))
  unfold wn
  rw [e, nI_clamp hj]
theorem okW_row {f : Nat → Int32} (h : okW f) {j : Nat} (hj : j < 4) : wn f (9 + j) ≤ 12 := by
  have := h.2
  rcases (show j = 0 ∨ j = 1 ∨ j = 2 ∨ j = 3 by omega) with rfl | rfl | rfl | rfl <;> simp only [Nat.add_zero, Nat.reduceAdd] <;> omega
def lows (f g : Nat → Int32) : Prop := wn g 0 = wn f 0 ∧ wn g 2 = wn f 2 ∧ wn g 3 = wn f 3 ∧ wn g 4 = wn f 4 ∧ wn g 5 = wn f 5 ∧ wn g 6 = wn f 6 ∧ wn g 7 = wn f 7 ∧ wn g 9 = wn f 9 ∧ wn g 10 = wn f 10 ∧ wn g 11 = wn f 11 ∧ wn g 12 = wn f 12
theorem okW_low {f g : Nat → Int32} (h : okW f) (hc : ∀ i, (i < 13 ∧ i ≠ 1 ∧ i ≠ 8) → g i = f i) : okW g ∧ (wn g 0 = wn f 0 ∧ wn g 2 = wn f 2 ∧ wn g 3 = wn f 3 ∧ wn g 4 = wn f 4 ∧ wn g 5 = wn f 5 ∧ wn g 6 = wn f 6 ∧ wn g 7 = wn f 7 ∧ wn g 9 = wn f 9 ∧ wn g 10 = wn f 10 ∧ wn g 11 = wn f 11 ∧ wn g 12 = wn f 12) := by
  have e : ∀ i, (i < 13 ∧ i ≠ 1 ∧ i ≠ 8) → wn g i = wn f i := fun i hi => by unfold wn; rw [hc i hi]
  have e0 := e 0 (by omega)
  have e2 := e 2 (by omega)
  have e3 := e 3 (by omega)
  have e4 := e 4 (by omega)
  have e5 := e 5 (by omega)
  have e6 := e 6 (by omega)
  have e7 := e 7 (by omega)
  have e9 := e 9 (by omega)
  have e10 := e 10 (by omega)
  have e11 := e 11 (by omega)
  have e12 := e 12 (by omega)
  have hb := h.2
  refine ⟨⟨fun i hi => by rw [hc i hi]; exact h.1 i hi, ?_⟩, ?_⟩
  · omega
  · omega
theorem okW_congr {f g : Nat → Int32} (h : okW f) (hc : ∀ i, i < 13 → g i = f i) : okW g := (okW_low h (fun i hi => hc i hi.1)).1
theorem okW_hi {f g : Nat → Int32} {x v : Int32} (e : g = upd f x.toNatClampNeg v) (h : okW f) {a : Nat} (hx : x = nI a) (ha : a < 2147483648) (hi : 13 ≤ a ∨ a = 1 ∨ a = 8) : okW g ∧ (wn g 0 = wn f 0 ∧ wn g 2 = wn f 2 ∧ wn g 3 = wn f 3 ∧ wn g 4 = wn f 4 ∧ wn g 5 = wn f 5 ∧ wn g 6 = wn f 6 ∧ wn g 7 = wn f 7 ∧ wn g 9 = wn f 9 ∧ wn g 10 = wn f 10 ∧ wn g 11 = wn f 11 ∧ wn g 12 = wn f 12) := by
  rw [hx, nI_clamp ha] at e
  exact okW_low h (fun i hi2 => by rw [e]; exact pk_un (by omega))
theorem wn_s {f g : Nat → Int32} {k q : Nat} (e : g = upd f k (nI q)) (hq : q < 2147483648) : wn g k = q := by
  unfold wn
  rw [e, pk_us, nI_clamp hq]
theorem wn_o {f g : Nat → Int32} {k i : Nat} {v : Int32} (e : g = upd f k v) (hi : i ≠ k) : wn g i = wn f i := by
  unfold wn
  rw [e, pk_un hi]
theorem nn_s {f g : Nat → Int32} {k q : Nat} (e : g = upd f k (nI q)) (hq : q < 2147483648) (h : ∀ i, (i < 13 ∧ i ≠ 1 ∧ i ≠ 8) → 0 ≤ f i) : ∀ i, (i < 13 ∧ i ≠ 1 ∧ i ≠ 8) → 0 ≤ g i := by
  intro i hi
  by_cases c : i = k
  · rw [e, c, pk_us]; exact nI_pos' hq
  · rw [e, pk_un c]; exact h i hi
theorem okW_s0 {f g : Nat → Int32} {x v : Int32} (e : g = upd f x.toNatClampNeg v) (h : okW f) (hx : x = nI 0) {q : Nat} (hv : v = nI q) (hq : q ≤ 16) : okW g ∧ (wn g 0 = q ∧ wn g 2 = wn f 2 ∧ wn g 3 = wn f 3 ∧ wn g 4 = wn f 4 ∧ wn g 5 = wn f 5 ∧ wn g 6 = wn f 6 ∧ wn g 7 = wn f 7 ∧ wn g 9 = wn f 9 ∧ wn g 10 = wn f 10 ∧ wn g 11 = wn f 11 ∧ wn g 12 = wn f 12) := by
  rw [hx, hv, nI_clamp (by decide)] at e
  have es := wn_s e (by omega)
  have e2 := wn_o (i := 2) e (by omega)
  have e3 := wn_o (i := 3) e (by omega)
  have e4 := wn_o (i := 4) e (by omega)
  have e5 := wn_o (i := 5) e (by omega)
  have e6 := wn_o (i := 6) e (by omega)
  have e7 := wn_o (i := 7) e (by omega)
  have e9 := wn_o (i := 9) e (by omega)
  have e10 := wn_o (i := 10) e (by omega)
  have e11 := wn_o (i := 11) e (by omega)
  have e12 := wn_o (i := 12) e (by omega)
  have hb := h.2
  refine ⟨⟨nn_s e (by omega) h.1, ?_⟩, ?_⟩ <;> omega
theorem okW_s2 {f g : Nat → Int32} {x v : Int32} (e : g = upd f x.toNatClampNeg v) (h : okW f) (hx : x = nI 2) {q : Nat} (hv : v = nI q) (hq : q ≤ 10) : okW g ∧ (wn g 0 = wn f 0 ∧ wn g 2 = q ∧ wn g 3 = wn f 3 ∧ wn g 4 = wn f 4 ∧ wn g 5 = wn f 5 ∧ wn g 6 = wn f 6 ∧ wn g 7 = wn f 7 ∧ wn g 9 = wn f 9 ∧ wn g 10 = wn f 10 ∧ wn g 11 = wn f 11 ∧ wn g 12 = wn f 12) := by
  rw [hx, hv, nI_clamp (by decide)] at e
  have es := wn_s e (by omega)
  have e0 := wn_o (i := 0) e (by omega)
  have e3 := wn_o (i := 3) e (by omega)
  have e4 := wn_o (i := 4) e (by omega)
  have e5 := wn_o (i := 5) e (by omega)
  have e6 := wn_o (i := 6) e (by omega)
  have e7 := wn_o (i := 7) e (by omega)
  have e9 := wn_o (i := 9) e (by omega)
  have e10 := wn_o (i := 10) e (by omega)
  have e11 := wn_o (i := 11) e (by omega)
  have e12 := wn_o (i := 12) e (by omega)
  have hb := h.2
  refine ⟨⟨nn_s e (by omega) h.1, ?_⟩, ?_⟩ <;> omega
theorem okW_s3 {f g : Nat → Int32} {x v : Int32} (e : g = upd f x.toNatClampNeg v) (h : okW f) (hx : x = nI 3) {q : Nat} (hv : v = nI q) (hq : q ≤ 4) : okW g ∧ (wn g 0 = wn f 0 ∧ wn g 2 = wn f 2 ∧ wn g 3 = q ∧ wn g 4 = wn f 4 ∧ wn g 5 = wn f 5 ∧ wn g 6 = wn f 6 ∧ wn g 7 = wn f 7 ∧ wn g 9 = wn f 9 ∧ wn g 10 = wn f 10 ∧ wn g 11 = wn f 11 ∧ wn g 12 = wn f 12) := by
  rw [hx, hv, nI_clamp (by decide)] at e
  have es := wn_s e (by omega)
  have e0 := wn_o (i := 0) e (by omega)
  have e2 := wn_o (i := 2) e (by omega)
  have e4 := wn_o (i := 4) e (by omega)
  have e5 := wn_o (i := 5) e (by omega)
  have e6 := wn_o (i := 6) e (by omega)
  have e7 := wn_o (i := 7) e (by omega)
  have e9 := wn_o (i := 9) e (by omega)
  have e10 := wn_o (i := 10) e (by omega)
  have e11 := wn_o (i := 11) e (by omega)
  have e12 := wn_o (i := 12) e (by omega)
  have hb := h.2
  refine ⟨⟨nn_s e (by omega) h.1, ?_⟩, ?_⟩ <;> omega
theorem okW_s5 {f g : Nat → Int32} {x v : Int32} (e : g = upd f x.toNatClampNeg v) (h : okW f) (hx : x = nI 5) {q : Nat} (hv : v = nI q) (hq : q ≤ 8) : okW g ∧ (wn g 0 = wn f 0 ∧ wn g 2 = wn f 2 ∧ wn g 3 = wn f 3 ∧ wn g 4 = wn f 4 ∧ wn g 5 = q ∧ wn g 6 = wn f 6 ∧ wn g 7 = wn f 7 ∧ wn g 9 = wn f 9 ∧ wn g 10 = wn f 10 ∧ wn g 11 = wn f 11 ∧ wn g 12 = wn f 12) := by
  rw [hx, hv, nI_clamp (by decide)] at e
  have es := wn_s e (by omega)
  have e0 := wn_o (i := 0) e (by omega)
  have e2 := wn_o (i := 2) e (by omega)
  have e3 := wn_o (i := 3) e (by omega)
  have e4 := wn_o (i := 4) e (by omega)
  have e6 := wn_o (i := 6) e (by omega)
  have e7 := wn_o (i := 7) e (by omega)
  have e9 := wn_o (i := 9) e (by omega)
  have e10 := wn_o (i := 10) e (by omega)
  have e11 := wn_o (i := 11) e (by omega)
  have e12 := wn_o (i := 12) e (by omega)
  have hb := h.2
  refine ⟨⟨nn_s e (by omega) h.1, ?_⟩, ?_⟩ <;> omega
theorem okW_s6 {f g : Nat → Int32} {x v : Int32} (e : g = upd f x.toNatClampNeg v) (h : okW f) (hx : x = nI 6) {q : Nat} (hv : v = nI q) (hq : q ≤ 4) : okW g ∧ (wn g 0 = wn f 0 ∧ wn g 2 = wn f 2 ∧ wn g 3 = wn f 3 ∧ wn g 4 = wn f 4 ∧ wn g 5 = wn f 5 ∧ wn g 6 = q ∧ wn g 7 = wn f 7 ∧ wn g 9 = wn f 9 ∧ wn g 10 = wn f 10 ∧ wn g 11 = wn f 11 ∧ wn g 12 = wn f 12) := by
  rw [hx, hv, nI_clamp (by decide)] at e
  have es := wn_s e (by omega)
  have e0 := wn_o (i := 0) e (by omega)
  have e2 := wn_o (i := 2) e (by omega)
  have e3 := wn_o (i := 3) e (by omega)
  have e4 := wn_o (i := 4) e (by omega)
  have e5 := wn_o (i := 5) e (by omega)
  have e7 := wn_o (i := 7) e (by omega)
  have e9 := wn_o (i := 9) e (by omega)
  have e10 := wn_o (i := 10) e (by omega)
  have e11 := wn_o (i := 11) e (by omega)
  have e12 := wn_o (i := 12) e (by omega)
  have hb := h.2
  refine ⟨⟨nn_s e (by omega) h.1, ?_⟩, ?_⟩ <;> omega
theorem okW_s7 {f g : Nat → Int32} {x v : Int32} (e : g = upd f x.toNatClampNeg v) (h : okW f) (hx : x = nI 7) {q : Nat} (hv : v = nI q) (hq : q ≤ 30) : okW g ∧ (wn g 0 = wn f 0 ∧ wn g 2 = wn f 2 ∧ wn g 3 = wn f 3 ∧ wn g 4 = wn f 4 ∧ wn g 5 = wn f 5 ∧ wn g 6 = wn f 6 ∧ wn g 7 = q ∧ wn g 9 = wn f 9 ∧ wn g 10 = wn f 10 ∧ wn g 11 = wn f 11 ∧ wn g 12 = wn f 12) := by
  rw [hx, hv, nI_clamp (by decide)] at e
  have es := wn_s e (by omega)
  have e0 := wn_o (i := 0) e (by omega)
  have e2 := wn_o (i := 2) e (by omega)
  have e3 := wn_o (i := 3) e (by omega)
  have e4 := wn_o (i := 4) e (by omega)
  have e5 := wn_o (i := 5) e (by omega)
  have e6 := wn_o (i := 6) e (by omega)
  have e9 := wn_o (i := 9) e (by omega)
  have e10 := wn_o (i := 10) e (by omega)
  have e11 := wn_o (i := 11) e (by omega)
  have e12 := wn_o (i := 12) e (by omega)
  have hb := h.2
  refine ⟨⟨nn_s e (by omega) h.1, ?_⟩, ?_⟩ <;> omega
theorem okW_e9 {f g : Nat → Int32} {x v : Int32} {j : Nat} (e : g = upd f x.toNatClampNeg v) (hx : x = nI (9 + j)) (hj : 9 + j < 2147483648) {q : Nat} (hv : v = nI q) : g = upd f (9 + j) (nI q) := by rw [e, hx, hv, nI_clamp hj]
theorem okW_p4 {f g : Nat → Int32} {j : Nat} {w : Int32} (e : g = upd f (9 + j) w) (h : okW f) (hj : j < 4) : g 4 = nI (wn f 4) := by
  rw [e, pk_un (by omega)]
  exact okW_at h (by omega)
theorem okW_head {f g1 g2 : Nat → Int32} {x v : Int32} {j : Nat} (h : okW f) (e1 : g1 = upd f (9 + j) (nI (wn f (9 + j) + 1))) (e2 : g2 = upd g1 x.toNatClampNeg v) (hx : x = nI 4) (hv : v = nI (wn f 4 + 1)) (hj : j < 4) (hlt : wn f 4 < 12) : okW g2 ∧ (wn g2 0 = wn f 0 ∧ wn g2 2 = wn f 2 ∧ wn g2 3 = wn f 3 ∧ wn g2 4 = wn f 4 + 1 ∧ wn g2 5 = wn f 5 ∧ wn g2 6 = wn f 6 ∧ wn g2 7 = wn f 7) := by
  rw [hx, hv, nI_clamp (by decide)] at e2
  have hb := h.2
  have hr := okW_row h hj
  have n1 := nn_s e1 (by omega) h.1
  have n2 := nn_s e2 (by omega) n1
  have q4 := wn_s e2 (by omega)
  have qj := wn_s e1 (by omega)
  have a0 := wn_o (i := 0) e2 (by omega)
  have a2 := wn_o (i := 2) e2 (by omega)
  have a3 := wn_o (i := 3) e2 (by omega)
  have a5 := wn_o (i := 5) e2 (by omega)
  have a6 := wn_o (i := 6) e2 (by omega)
  have a7 := wn_o (i := 7) e2 (by omega)
  have a9 := wn_o (i := 9) e2 (by omega)
  have a10 := wn_o (i := 10) e2 (by omega)
  have a11 := wn_o (i := 11) e2 (by omega)
  have a12 := wn_o (i := 12) e2 (by omega)
  have b0 := wn_o (i := 0) e1 (by omega)
  have b2 := wn_o (i := 2) e1 (by omega)
  have b3 := wn_o (i := 3) e1 (by omega)
  have b4 := wn_o (i := 4) e1 (by omega)
  have b5 := wn_o (i := 5) e1 (by omega)
  have b6 := wn_o (i := 6) e1 (by omega)
  have b7 := wn_o (i := 7) e1 (by omega)
  rcases (show j = 0 ∨ j = 1 ∨ j = 2 ∨ j = 3 by omega) with rfl | rfl | rfl | rfl
  · have b10 := wn_o (i := 10) e1 (by omega)
    have b11 := wn_o (i := 11) e1 (by omega)
    have b12 := wn_o (i := 12) e1 (by omega)
    simp only [Nat.add_zero, Nat.reduceAdd] at qj
    refine ⟨⟨n2, ?_⟩, ?_⟩ <;> omega
  · have b9 := wn_o (i := 9) e1 (by omega)
    have b11 := wn_o (i := 11) e1 (by omega)
    have b12 := wn_o (i := 12) e1 (by omega)
    simp only [Nat.add_zero, Nat.reduceAdd] at qj
    refine ⟨⟨n2, ?_⟩, ?_⟩ <;> omega
  · have b9 := wn_o (i := 9) e1 (by omega)
    have b10 := wn_o (i := 10) e1 (by omega)
    have b12 := wn_o (i := 12) e1 (by omega)
    simp only [Nat.add_zero, Nat.reduceAdd] at qj
    refine ⟨⟨n2, ?_⟩, ?_⟩ <;> omega
  · have b9 := wn_o (i := 9) e1 (by omega)
    have b10 := wn_o (i := 10) e1 (by omega)
    have b11 := wn_o (i := 11) e1 (by omega)
    simp only [Nat.add_zero, Nat.reduceAdd] at qj
    refine ⟨⟨n2, ?_⟩, ?_⟩ <;> omega
theorem okW_zero {f : Nat → Int32} {j : Nat} (h : ∀ i, i < j → f i = 0) (hj : 99 ≤ j) : okW f := by
  have e : ∀ i, i < 13 → wn f i = 0 := fun i hi => by unfold wn; rw [h i (by omega)]; rfl
  refine ⟨fun i hi => by rw [h i (by omega)]; decide, ?_⟩
  have e0 := e 0 (by omega)
  have e2 := e 2 (by omega)
  have e3 := e 3 (by omega)
  have e4 := e 4 (by omega)
  have e5 := e 5 (by omega)
  have e6 := e 6 (by omega)
  have e7 := e 7 (by omega)
  have e9 := e 9 (by omega)
  have e10 := e 10 (by omega)
  have e11 := e 11 (by omega)
  have e12 := e 12 (by omega)
  omega
theorem zr_step {g g' : Nat → Int32} {x : Int32} {j : Nat} (h : ∀ i, i < j → g i = 0) (e : g' = upd g x.toNatClampNeg 0) (hx : x = nI j) (hj : j < 2147483648) : ∀ i, i < j + 1 → g' i = 0 := by
  rw [hx, nI_clamp hj] at e
  intro i hi
  by_cases c : i = j
  · rw [e, c, pk_us]
  · rw [e, pk_un c]; exact h i (by omega)
theorem cp_step {f g g' : Nat → Int32} {x v : Int32} {j : Nat} (h : ∀ i, i < j → g i = f i) (e : g' = upd g x.toNatClampNeg v) (hx : x = nI j) (hv : v = f j) (hj : j < 2147483648) : ∀ i, i < j + 1 → g' i = f i := by
  rw [hx, nI_clamp hj] at e
  intro i hi
  by_cases c : i = j
  · rw [e, c, pk_us]; exact hv
  · rw [e, pk_un c]; exact h i (by omega)
theorem ci_step {f g g' : Nat → Int32} {x v : Int32} {b j : Nat} (h : ∀ i, i < j → g (b + i) = f i) (e : g' = upd g x.toNatClampNeg v) (hx : x = nI (b + j)) (hv : v = f j) (hj : b + j < 2147483648) : ∀ i, i < j + 1 → g' (b + i) = f i := by
  rw [hx, nI_clamp hj] at e
  intro i hi
  by_cases c : i = j
  · rw [e, c, pk_us]; exact hv
  · rw [e, pk_un (by omega)]; exact h i (by omega)
theorem co_step {f g g' : Nat → Int32} {x v : Int32} {b j : Nat} (h : ∀ a, (a < b ∨ b + 99 ≤ a) → g a = f a) (e : g' = upd g x.toNatClampNeg v) (hx : x = nI (b + j)) (hj : j < 99) (hb : b + j < 2147483648) : ∀ a, (a < b ∨ b + 99 ≤ a) → g' a = f a := by
  rw [hx, nI_clamp hb] at e
  intro a ha
  rw [e, pk_un (by omega)]
  exact h a ha
def okI (f : Nat → Int32) : Prop := ∀ k, k < 3 → okW (fun i => f (99 * k + i))
theorem okI_img {im im' w : Nat → Int32} {k j : Nat} (h : okI im) (hw : okW w) (h1 : ∀ i, i < j → im' (99 * k + i) = w i) (h2 : ∀ a, (a < 99 * k ∨ 99 * k + 99 ≤ a) → im' a = im a) (hj : 99 ≤ j) : okI im' := by
  intro q hq
  by_cases c : q = k
  · rw [c]; exact okW_congr hw (fun i hi => h1 i (by omega))
  · exact okW_congr (h q hq) (fun i hi => h2 (99 * q + i) (by omega))
theorem okI_zero : okI (fun _ => 0) := fun _ _ => okW_zero (j := 99) (fun _ _ => rfl) (by omega)
-- ---- what was seen
theorem soundM_step {f : Nat → Int64} {j h : Nat} (hs : sound f (j + 1) h) (hj : j % 3 = 0) (c : ¬ f (j + 1) < 0 ∧ f (j + 1) ≤ (nI h).toInt64) : sound f (j + 3 + 1) h := by
  intro i hi hm
  by_cases e : i = j + 1
  · rw [e]; exact c
  · exact hs i (by omega) hm
theorem soundM_at {f : Nat → Int64} {q h i : Nat} (hs : sound f q h) (hi : i + 1 < q) (hm : i % 3 = 1) (hh : h ≤ 16) (hb : i < 2147483648) {w : Int32} (ew : w = (f i).toInt32) : ∃ b : Nat, w = nI b ∧ b ≤ 16 :=
  sound_at hs hi hm hh (x := nI i) (v := f i) (by rw [nI_clamp hb]) rfl hb ew
def seenM (p : Int32) (many : Nat → Int32) (num : Nat → Int64) (h : Nat) : Prop := ∃ j q : Nat, p = nI j ∧ j ≤ 3 ∧ many j = nI q ∧ q ≤ 60 ∧ q % 3 = 0 ∧ sound (fun i => num (60 * j + i)) q h
