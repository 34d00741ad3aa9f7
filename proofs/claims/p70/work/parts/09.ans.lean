theorem fa_lt (a b : Int32) : a < b ↔ a.toInt < b.toInt := Int32.lt_iff_toInt_lt
theorem fa_le (a b : Int32) : a ≤ b ↔ a.toInt ≤ b.toInt := Int32.le_iff_toInt_le
theorem fa_eq (a b : Int32) : a = b ↔ a.toInt = b.toInt := Int32.toInt_inj.symm
theorem fa_lt64 (a b : Int64) : a < b ↔ a.toInt < b.toInt := Int64.lt_iff_toInt_lt
theorem fa_le64 (a b : Int64) : a ≤ b ↔ a.toInt ≤ b.toInt := Int64.le_iff_toInt_le
theorem fa_eq64 (a b : Int64) : a = b ↔ a.toInt = b.toInt := Int64.toInt_inj.symm
theorem tz_0 : (0 : Int32).toInt = 0 := by decide
theorem tl_0 : (0 : Int64).toInt = 0 := by decide
theorem tz_1 : (1 : Int32).toInt = 1 := by decide
theorem tl_1 : (1 : Int64).toInt = 1 := by decide
theorem tz_2 : (2 : Int32).toInt = 2 := by decide
theorem tl_2 : (2 : Int64).toInt = 2 := by decide
theorem tz_3 : (3 : Int32).toInt = 3 := by decide
theorem tl_3 : (3 : Int64).toInt = 3 := by decide
theorem tz_4 : (4 : Int32).toInt = 4 := by decide
theorem tl_4 : (4 : Int64).toInt = 4 := by decide
theorem tz_5 : (5 : Int32).toInt = 5 := by decide
theorem tl_5 : (5 : Int64).toInt = 5 := by decide
theorem tz_6 : (6 : Int32).toInt = 6 := by decide
theorem tl_6 : (6 : Int64).toInt = 6 := by decide
theorem tz_7 : (7 : Int32).toInt = 7 := by decide
theorem tl_7 : (7 : Int64).toInt = 7 := by decide
theorem tz_8 : (8 : Int32).toInt = 8 := by decide
theorem tl_8 : (8 : Int64).toInt = 8 := by decide
theorem tz_9 : (9 : Int32).toInt = 9 := by decide
theorem tl_9 : (9 : Int64).toInt = 9 := by decide
theorem tz_10 : (10 : Int32).toInt = 10 := by decide
theorem tl_10 : (10 : Int64).toInt = 10 := by decide
theorem tz_60 : (60 : Int32).toInt = 60 := by decide
theorem tl_60 : (60 : Int64).toInt = 60 := by decide
theorem tz_m1 : (-1 : Int32).toInt = -1 := by decide
theorem tl_m1 : (-1 : Int64).toInt = -1 := by decide
def endAns (n : Int32) : Int32 := if n = 0 then 0 else -1
def faultAns (w : Int32) : Int32 := if w = 0 then 0 else -1
def countAns (w : Int32) : Int32 := if 0 ≤ w ∧ w ≤ 10 then 0 else -1
def imageAns (k : Int32) : Int32 := if 0 ≤ k ∧ k ≤ 2 then 0 else -2
def backAns (k : Int32) : Int32 := if 0 ≤ k ∧ k ≤ 2 then -6 else -2
def rowAns (s w n : Int32) : Int32 := if s < 0 ∨ 3 < s ∨ w < 0 ∨ 3 < w ∨ 60 < n then -2 else if n < 0 then -3 else 0
def writeAns (s : Int32) : Int32 := if s < 0 ∨ 3 < s then -2 else -6
def pasteAns (s t : Int32) : Int32 := if s < 0 ∨ 3 < s ∨ t < 0 ∨ 3 < t then -2 else -6
theorem and63 {v x : Int32} (h : v = x &&& 63) : ∃ q : Nat, v = nI q ∧ q ≤ 63 := by
  obtain ⟨j, hj, e⟩ := pk_andE x (m := 63) 6 (by decide)
  exact ⟨j, h.trans e, by omega⟩
theorem ne0l {j : Nat} (h : 0 < j) (h2 : j < 2147483648) : ¬ (nI j).toInt64 = 0 := by
  rw [nI_l h2]
  intro e
  have := (lN_eq h2 (by decide)).mp (e.trans (show (0 : Int64) = lN 0 from rfl))
  omega
theorem natq {x : Int32} (h : 0 < x) : ∃ q : Nat, x = nI q ∧ q ≤ 2147483647 := by
  obtain ⟨j, hj, e⟩ := nI_of (x := x) (fun q => absurd (Int32.lt_trans h q) (by decide))
  exact ⟨j, e, by omega⟩
theorem max0 {v y : Int32} (h : v = (if (0 : Int32) < y then y else 0)) : ∃ q : Nat, v = nI q ∧ q ≤ 2147483647 := by
  by_cases c : (0 : Int32) < y
  · rw [if_pos c] at h
    rw [h]
    exact natq c
  · rw [if_neg c] at h
    exact ⟨0, h, by omega⟩
theorem natp {x : Int32} (h : ¬ x < 0) : ∃ j : Nat, j < 2147483648 ∧ x = nI j := by
  obtain ⟨j, hj, e⟩ := nI_of h
  exact ⟨j, by omega, e⟩
