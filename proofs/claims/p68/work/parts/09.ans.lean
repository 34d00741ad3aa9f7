theorem fa_lt (a b : Int32) : a < b ↔ a.toInt < b.toInt := Int32.lt_iff_toInt_lt
theorem fa_le (a b : Int32) : a ≤ b ↔ a.toInt ≤ b.toInt := Int32.le_iff_toInt_le
theorem fa_eq (a b : Int32) : a = b ↔ a.toInt = b.toInt := Int32.toInt_inj.symm
theorem fa_lt64 (a b : Int64) : a < b ↔ a.toInt < b.toInt := Int64.lt_iff_toInt_lt
theorem fa_le64 (a b : Int64) : a ≤ b ↔ a.toInt ≤ b.toInt := Int64.le_iff_toInt_le
theorem fa_eq64 (a b : Int64) : a = b ↔ a.toInt = b.toInt := Int64.toInt_inj.symm
theorem tz_0 : (0 : Int32).toInt = 0 := by decide
theorem tl_0 : (0 : Int64).toInt = 0 := by decide
theorem tz_1 : (1 : Int32).toInt = 1 := by decide
theorem tl_1 : (1 : Int64).toInt = 1 := by decide
theorem tz_2 : (2 : Int32).toInt = 2 := by decide
theorem tl_2 : (2 : Int64).toInt = 2 := by decide
theorem tz_3 : (3 : Int32).toInt = 3 := by decide
theorem tl_3 : (3 : Int64).toInt = 3 := by decide
theorem tz_4 : (4 : Int32).toInt = 4 := by decide
theorem tl_4 : (4 : Int64).toInt = 4 := by decide
theorem tz_5 : (5 : Int32).toInt = 5 := by decide
theorem tl_5 : (5 : Int64).toInt = 5 := by decide
theorem tz_6 : (6 : Int32).toInt = 6 := by decide
theorem tl_6 : (6 : Int64).toInt = 6 := by decide
theorem tz_7 : (7 : Int32).toInt = 7 := by decide
theorem tl_7 : (7 : Int64).toInt = 7 := by decide
theorem tz_8 : (8 : Int32).toInt = 8 := by decide
theorem tl_8 : (8 : Int64).toInt = 8 := by decide
theorem tz_9 : (9 : Int32).toInt = 9 := by decide
theorem tl_9 : (9 : Int64).toInt = 9 := by decide
theorem tz_10 : (10 : Int32).toInt = 10 := by decide
theorem tl_10 : (10 : Int64).toInt = 10 := by decide
theorem tz_60 : (60 : Int32).toInt = 60 := by decide
theorem tl_60 : (60 : Int64).toInt = 60 := by decide
theorem tz_m1 : (-1 : Int32).toInt = -1 := by decide
theorem tl_m1 : (-1 : Int64).toInt = -1 := by decide
def endAns (n : Int32) : Int32 := if n = 0 then 0 else -1
def faultAns (w : Int32) : Int32 := if w = 0 then 0 else -1
def countAns (w : Int32) : Int32 := if 0 ≤ w ∧ w ≤ 10 then 0 else -1
def imageAns (k : Int32) : Int32 := if 0 ≤ k ∧ k ≤ 2 then 0 else -2
def backAns (k : Int32) : Int32 := if 0 ≤ k ∧ k ≤ 2 then -6 else -2
def rowAns (s w n : Int32) : Int32 := if s < 0 ∨ 3 < s ∨ w < 0 ∨ 3 < w ∨ 60 < n then -2 else if n < 0 then -3 else 0
def writeAns (s : Int32) : Int32 := if s < 0 ∨ 3 < s then -2 else -6
def pasteAns (s t : Int32) : Int32 := if s < 0 ∨ 3 < s ∨ t < 0 ∨ 3 < t then -2 else -6
def sby (i j : Nat) : Int32 := (sByt.getD i []).getD j 0
theorem sby_at {i j : Nat} {x : Int32} (h : x = nI j) (hj : j < 2147483648) : (sByt.getD i []).getD x.toNatClampNeg 0 = sby i j := by rw [h, nI_clamp hj]; rfl
def chr (i j : Nat) : Int32 := ((sby i j &&& 255).toUInt32 % 65536).toInt32
theorem chr_nar (i j : Nat) : narrow .char (.int (chr i j)) = .int (chr i j) := pk_nc _
theorem i32_ne {x y : Int32} (h : y < x) : ¬ x = y := fun q => Int32.lt_irrefl (a := y) (q ▸ h)
theorem nx_or9 (a b : Nat) : nI a ||| nI b = nI (a ||| b) := by
  apply Int32.toBitVec_inj.mp
  show (BitVec.ofNat 32 a ||| BitVec.ofNat 32 b) = BitVec.ofNat 32 (a ||| b)
  exact (BitVec.ofNat_or ..).symm
theorem and63 {v x : Int32} (h : v = x &&& 63) : ∃ q : Nat, v = nI q ∧ q ≤ 63 := by
  obtain ⟨j, hj, e⟩ := pk_andE x (m := 63) 6 (by decide)
  exact ⟨j, h.trans e, by omega⟩
theorem ne0l {j : Nat} (h : 0 < j) (h2 : j < 2147483648) : ¬ (nI j).toInt64 = 0 := by
  rw [nI_l h2]
  intro e
  have := (lN_eq h2 (by decide)).mp (e.trans (show (0 : Int64) = lN 0 from rfl))
  omega
theorem natq {x : Int32} (h : 0 < x) : ∃ q : Nat, x = nI q ∧ q ≤ 2147483647 := by
  obtain ⟨j, hj, e⟩ := nI_of (x := x) (fun q => absurd (Int32.lt_trans h q) (by decide))
  exact ⟨j, e, by omega⟩
theorem max0 {v y : Int32} (h : v = (if (0 : Int32) < y then y else 0)) : ∃ q : Nat, v = nI q ∧ q ≤ 2147483647 := by
  by_cases c : (0 : Int32) < y
  · rw [if_pos c] at h
    rw [h]
    exact natq c
  · rw [if_neg c] at h
    exact ⟨0, h, by omega⟩
theorem sub63 : ∀ a, a < 13 → ∀ b, b < 64 → nI a - 1 - nI b ≤ 63 := by decide +kernel
theorem sub63b {a b c : Nat} (ha : a < 64) (hb : b < 64) (hc : c < 64) : nI a - nI b - nI c ≤ 63 := by
  have h1 : (nI a - nI b).toInt = (a : Int) - b := pk_sub_toInt (by omega) (by omega)
  have h2 : (nI c).toInt = (c : Int) := nI_toInt (by omega)
  rw [Int32.le_iff_toInt_le, Int32.toInt_sub, h1, h2, show (63 : Int32).toInt = 63 by decide]
  rw [Int.bmod_eq_of_le (by omega) (by omega)]
  omega
theorem ev12 : ∀ n, n < 13 → (1 : Int32) <<< (nI n &&& 31) - 1 = nI (2 ^ n - 1) := by decide +kernel
theorem pow8 : ∀ n, n < 9 → 2 ^ n ≤ 256 := by decide +kernel
theorem pow12 : ∀ n, n < 13 → 2 ^ n ≤ 4096 := by decide +kernel
theorem sh8 : ∀ n, n < 8 → (1 : Int32) <<< (nI n &&& 31) = nI (2 ^ n) ∧ 2 ^ n < 2 ^ 8 := by decide +kernel
theorem or256 {j h : Nat} {v w : Int32} (e1 : v = (1 : Int32) <<< (nI h &&& 31)) (e2 : w = nI j ||| v) (hj : j < 256) (hh : h < 8) : vp_in w 256 := by
  obtain ⟨h1, h2⟩ := sh8 h hh
  rw [e2, e1, h1, show nI j ||| nI (2 ^ h) = nI (j ||| 2 ^ h) from nx_or9 j (2 ^ h)]
  exact vp_in_nI (Nat.or_lt_two_pow (n := 8) (by omega) h2) (by decide)
theorem ni_nem {x : Int32} {a : Nat} (hx : x = nI a) (ha : a < 2147483648) : ¬ x = -1 := fun q => nI_pos ha (hx ▸ q ▸ (by decide))
theorem rng16 {x : Int32} (h : ¬ x < 1 ∧ ¬ 16 < x) : ∃ a : Nat, x = nI a ∧ a ≤ 16 := by
  obtain ⟨j, hj, e⟩ := nI_of (x := x) (fun q => h.1 (Int32.lt_trans q (by decide)))
  refine ⟨j, e, ?_⟩
  have := h.2
  rw [e] at this
  have h3 : ¬ 16 < j := fun q => this ((ni_lt (a := 16) rfl rfl (by decide) (by omega)).mpr q)
  omega
theorem ne0_1 {x y : Int32} (h : ¬ x < 1 ∧ ¬ y < x) : ¬ x = 0 := fun q => h.1 (q ▸ (by decide))
theorem nat_lt {x : Int32} {b : Nat} (h0 : ¬ x < 0) (h : x < nI b) (hb : b < 2147483648) : ∃ j : Nat, x = nI j ∧ j < b := by
  obtain ⟨j, hj, e⟩ := nI_of h0
  exact ⟨j, e, (ni_lt e rfl (by omega) hb).mp h⟩
theorem nat_le {x : Int32} {b : Nat} (h0 : ¬ x < 0) (h : x ≤ nI b) (hb : b < 2147483648) : ∃ j : Nat, x = nI j ∧ j ≤ b := by
  obtain ⟨j, hj, e⟩ := nI_of h0
  exact ⟨j, e, (ni_le e rfl (by omega) hb).mp h⟩
theorem nat_in {x y : Int32} {b : Nat} (h0 : ¬ x < 0) (h : x ≤ y) (hy : y = nI b) (hb : b < 2147483647) : ∃ j : Nat, j < b + 1 ∧ x = nI j := by
  obtain ⟨j, e, hj⟩ := nat_le h0 (hy ▸ h) (by omega)
  exact ⟨j, by omega, e⟩
theorem nat_inl {x y : Int32} {b : Nat} (h0 : ¬ x < 0) (h : x < y) (hy : y = nI b) (hb : b < 2147483647) : ∃ j : Nat, j < b ∧ x = nI j := by
  obtain ⟨j, e, hj⟩ := nat_lt h0 (hy ▸ h) (by omega)
  exact ⟨j, hj, e⟩
theorem nn1 {x : Int32} (h : ¬ x < 1) : ¬ x < 0 := fun q => h (Int32.lt_trans q (by decide))
theorem v_4 {x : Int32} (h : 0 ≤ x ∧ x < 4) : x = 0 ∨ x = 1 ∨ x = 2 ∨ x = 3 := by
  simp only [fa_lt, fa_le, fa_eq, tz_0, tz_1, tz_2, tz_3, tz_4] at *
  omega
theorem v_3 {x : Int32} (h0 : ¬ x < 0) (h : x < 3) : x = 0 ∨ x = 1 ∨ x = 2 := by
  simp only [fa_lt, fa_le, fa_eq, tz_0, tz_1, tz_2, tz_3] at *
  omega
def ansRow (s w n : Int32) : Int32 := if ¬ (0 ≤ s ∧ s < 4) ∨ w < 0 ∨ 4 ≤ w ∨ 60 < n then -2 else if n < 0 then -3 else 0
theorem cl_at {α : Type} {f : Nat → α} {x : Int32} {a : Nat} (h : x = nI a) (ha : a < 2147483648) : f x.toNatClampNeg = f a := by rw [h, nI_clamp ha]
def okL (f : Nat → Int32) : Prop := ∀ i, i < 4 → f i = -1 ∨ ∃ q : Nat, f i = nI q ∧ q ≤ 60
theorem okL_up {f g : Nat → Int32} {i : Nat} {x : Int32} (e : g = upd f i x) (h : okL f) {q : Nat} (hx : x = nI q) (hq : q ≤ 60) : okL g := by
  intro j hj
  by_cases c : j = i
  · exact Or.inr ⟨q, by rw [e, c, pk_us]; exact hx, hq⟩
  · rw [e, pk_un c]; exact h j hj
theorem okL_ne {f : Nat → Int32} (h : okL f) {i : Nat} (hi : i < 4) (c : ¬ f i = -1) : ∃ q : Nat, f i = nI q ∧ q ≤ 60 := (h i hi).resolve_left c
theorem gr_at {r : Nat → Nat} {n a : Nat} {x : Int32} (hx : x = nI a) (h : a < n) (hb : a < 2147483648) : (fun i => if i < n then some (r i) else none) x.toNatClampNeg = some (r a) := by
  show (if x.toNatClampNeg < n then some (r x.toNatClampNeg) else none) = _
  rw [hx, nI_clamp hb, if_pos h]
theorem ni_gtn {x : Int32} {a : Nat} (hx : x = nI a) (ha : a < 2147483648) {y : Int32} (hy : y < 0) : y < x := by
  rw [hx]; exact Int32.lt_of_lt_of_le hy (Int32.not_lt.mp (nI_pos ha))
theorem sub_len {v : Int32} {a b c : Nat} (e : v = nI a - nI b) (h : v = nI c) (ha : a ≤ 600) (hb : b ≤ 600) (hc : c ≤ 1000) : b + c = a := by
  have h1 : (nI a - nI b).toInt = (a : Int) - b := pk_sub_toInt (by omega) (by omega)
  have h2 : (nI c).toInt = (c : Int) := nI_toInt (by omega)
  rw [← e, h, h2] at h1
  omega
/-- of every third number behind the first: within 0 .. h -/
def sound (f : Nat → Int64) (n h : Nat) : Prop := ∀ i, i + 1 < n → i % 3 = 1 → ¬ f i < 0 ∧ f i ≤ (nI h).toInt64
theorem sound_step {f : Nat → Int64} {j h : Nat} (hs : sound f (j + 1) h) (hj : j % 3 = 0) {x1 x2 : Int32} {v1 v2 : Int64} (e1 : v1 = f x1.toNatClampNeg) (c1 : ¬ v1 < 0) (e2 : v2 = f x2.toNatClampNeg) (c2 : v2 ≤ (nI h).toInt64) (h1 : x1 = nI (j + 1)) (h2 : x2 = nI (j + 1)) (hb : j + 1 < 2147483648) : sound f (j + 3 + 1) h := by
  intro i hi hm
  by_cases c : i = j + 1
  · rw [e1, h1, nI_clamp hb] at c1
    rw [e2, h2, nI_clamp hb] at c2
    rw [c]; exact ⟨c1, c2⟩
  · exact hs i (by omega) hm
theorem sound_end {f : Nat → Int64} {j q h : Nat} (hs : sound f (j + 1) h) (hj : j % 3 = 0) (hq : ¬ j + 2 < q) : sound f q h := fun i hi hm => hs i (by omega) hm
theorem sound_at {f : Nat → Int64} {q h i : Nat} (hs : sound f q h) (hi : i + 1 < q) (hm : i % 3 = 1) (hh : h ≤ 16) {x : Int32} {v : Int64} {w : Int32} (e : v = f x.toNatClampNeg) (ex : x = nI i) (hb : i < 2147483648) (ew : w = v.toInt32) : ∃ b : Nat, w = nI b ∧ b ≤ 16 := by
  obtain ⟨c1, c2⟩ := hs i hi hm
  rw [ex, nI_clamp hb] at e
  rw [← e] at c1 c2
  have h0 : (0 : Int) ≤ v.toInt := by
    have := Int64.not_lt.mp c1
    rw [Int64.le_iff_toInt_le] at this
    simpa using this
  have h1 : v.toInt ≤ h := by
    rw [Int64.le_iff_toInt_le, Int32.toInt_toInt64, nI_toInt (by omega)] at c2
    exact c2
  refine ⟨v.toInt.toNat, ?_, by omega⟩
  rw [ew]
  apply Int32.toInt_inj.mp
  rw [Int64.toInt_toInt32, nI_toInt (by omega), Int.toNat_of_nonneg h0]
  exact Int.bmod_eq_of_le (by omega) (by omega)
def seenOk (f79 : Nat → Int32) (i : Nat) (f : Nat → Int64) (h : Nat) : Prop := ∃ q : Nat, f79 i = nI q ∧ q ≤ 60 ∧ sound f q h
theorem natp {x : Int32} (h : ¬ x < 0) : ∃ j : Nat, j < 2147483648 ∧ x = nI j := by
  obtain ⟨j, hj, e⟩ := nI_of h
  exact ⟨j, by omega, e⟩
