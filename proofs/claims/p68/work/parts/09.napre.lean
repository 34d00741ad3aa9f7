theorem upd_cl {f : Nat → Int32} {x v : Int32} {a : Nat} (hx : x = nI a) (ha : a < 2147483648) : upd f x.toNatClampNeg v = upd f a v := by rw [hx, nI_clamp ha]
theorem nI_rng {x : Int32} {j b : Nat} (hx : x = nI j) (hj : j ≤ b) (hb : b < 2147483648) : 0 ≤ x ∧ x ≤ nI b := by
  rw [hx]; exact ⟨nI_pos' (by omega), nI_le hj hb⟩
theorem nI_rngl {x : Int32} {j b : Nat} (hx : x = nI j) (hj : j < b) (hb : b < 2147483648) : 0 ≤ x ∧ x < nI b := by
  rw [hx]; exact ⟨nI_pos' (by omega), nI_lt hj hb⟩
theorem nI_in3 {x : Int32} {j : Nat} (hx : x = nI j) (hj : j < 3) : 0 ≤ x ∧ x ≤ 2 := nI_rng (b := 2) hx (by omega) (by decide)
theorem nI_in4 {x : Int32} {j : Nat} (hx : x = nI j) (hj : j < 4) : 0 ≤ x ∧ x < 4 := nI_rngl (b := 4) hx hj (by decide)
theorem i64_in {x : Int32} {b : Int32} : (0 ≤ x.toInt64 ∧ x.toInt64 ≤ b.toInt64) ↔ (0 ≤ x ∧ x ≤ b) := by
  simp only [fa_le64, fa_le, Int32.toInt_toInt64, tl_0, tz_0]
theorem i64_2 {x : Int32} : (0 ≤ x.toInt64 ∧ x.toInt64 ≤ 2) ↔ (0 ≤ x ∧ x ≤ 2) := i64_in (b := 2)
theorem i64_3 {x : Int32} : (0 ≤ x.toInt64 ∧ x.toInt64 ≤ 3) ↔ (0 ≤ x ∧ x < 4) := by
  simp only [fa_le64, fa_le, fa_lt, Int32.toInt_toInt64, tl_0, tl_3, tz_0, tz_4]
  omega
-- ---- images
def ansImg (k : Int32) : Int32 := if 0 ≤ k ∧ k ≤ 2 then 0 else -2
theorem aim_n {k : Int32} (h : ¬ (0 ≤ k ∧ k ≤ 2)) : (-2 : Int32) = ansImg k := (if_neg h).symm
theorem aim_y {k : Int32} {j : Nat} (hk : k = nI j) (hj : j < 3) : (0 : Int32) = ansImg k := (if_pos (nI_in3 hk hj)).symm
def imgK (K : Nat → Int32) (k : Int32) : Nat → Int32 := if 0 ≤ k ∧ k ≤ 2 then upd K k.toNatClampNeg 1 else K
theorem imgK_n {K : Nat → Int32} {k : Int32} (h : ¬ (0 ≤ k ∧ k ≤ 2)) : K = imgK K k := (if_neg h).symm
theorem imgK_y {K g : Nat → Int32} {k x : Int32} {j : Nat} (hk : k = nI j) (hj : j < 3) (e : g = upd K x.toNatClampNeg (vp_nar .boolean 1)) (hx : x = nI j) : g = imgK K k := by
  unfold imgK
  rw [if_pos (nI_in3 hk hj), e, hx, hk]
  rfl
def ansBack (K : Nat → Int32) (k : Int32) : Int32 := if 0 ≤ k ∧ k ≤ 2 then (if K k.toNatClampNeg = 0 then -6 else 0) else -2
theorem abk_n {K : Nat → Int32} {k : Int32} (h : ¬ (0 ≤ k ∧ k ≤ 2)) : (-2 : Int32) = ansBack K k := (if_neg h).symm
theorem abk_6 {K : Nat → Int32} {k v : Int32} {j : Nat} (hk : k = nI j) (hj : j < 3) (e : v = K j) (h : v = 0) : (-6 : Int32) = ansBack K k := by
  unfold ansBack
  rw [if_pos (nI_in3 hk hj), hk, nI_clamp (by omega), if_pos (e.symm.trans h)]
theorem abk_0 {K : Nat → Int32} {k v : Int32} {j : Nat} (hk : k = nI j) (hj : j < 3) (e : v = K j) (h : ¬ v = 0) : (0 : Int32) = ansBack K k := by
  unfold ansBack
  rw [if_pos (nI_in3 hk hj), hk, nI_clamp (by omega), if_neg (fun q => h (e.trans q))]
-- ---- rows of numbers
def rowL (L : Nat → Int32) (s w n : Int32) : Nat → Int32 := if ansRow s w n = 0 then upd L s.toNatClampNeg n else L
def rowW (W : Nat → Int32) (s w n : Int32) : Nat → Int32 := if ansRow s w n = 0 then upd W s.toNatClampNeg w else W
theorem rowL_n {L : Nat → Int32} {s w n r : Int32} (h : r = ansRow s w n) (hr : ¬ r = 0) : L = rowL L s w n := (if_neg (fun q => hr (h.trans q))).symm
theorem rowW_n {L : Nat → Int32} {s w n r : Int32} (h : r = ansRow s w n) (hr : ¬ r = 0) : L = rowW L s w n := (if_neg (fun q => hr (h.trans q))).symm
theorem rowL_y {L : Nat → Int32} {s w n : Int32} {j q : Nat} (h : 0 = ansRow s w n) (hs : s = nI j) (hj : j < 2147483648) (hn : n = nI q) : upd L j (nI q) = rowL L s w n := by
  unfold rowL
  rw [if_pos h.symm, hs, nI_clamp hj, hn]
theorem rowW_y {L : Nat → Int32} {s w n : Int32} {j : Nat} (h : 0 = ansRow s w n) (hs : s = nI j) (hj : j < 2147483648) : upd L j w = rowW L s w n := by
  unfold rowW
  rw [if_pos h.symm, hs, nI_clamp hj]
def ansWrite (L : Nat → Int32) (s i : Int32) : Int32 := if 0 ≤ s ∧ s < 4 then (if L s.toNatClampNeg = -1 then -6 else if i < 0 ∨ L s.toNatClampNeg ≤ i then -7 else 0) else -2
theorem awr_2 {L : Nat → Int32} {s i : Int32} (h : ¬ (0 ≤ s ∧ s < 4)) : (-2 : Int32) = ansWrite L s i := (if_neg h).symm
theorem awr_6 {L : Nat → Int32} {s i : Int32} {j : Nat} (hs : s = nI j) (hj : j < 4) (h : L j = -1) : (-6 : Int32) = ansWrite L s i := by
  unfold ansWrite
  rw [if_pos (nI_in4 hs hj), hs, nI_clamp (by omega), if_pos h]
theorem awr_7 {L : Nat → Int32} {s i : Int32} {j : Nat} (hs : s = nI j) (hj : j < 4) (h0 : ¬ L j = -1) (h : i < 0 ∨ L j ≤ i) : (-7 : Int32) = ansWrite L s i := by
  unfold ansWrite
  rw [if_pos (nI_in4 hs hj), hs, nI_clamp (by omega), if_neg h0, if_pos h]
theorem awr_0 {L : Nat → Int32} {s i : Int32} {j : Nat} (hs : s = nI j) (hj : j < 4) (h0 : ¬ L j = -1) (h : ¬ (i < 0 ∨ L j ≤ i)) : (0 : Int32) = ansWrite L s i := by
  unfold ansWrite
  rw [if_pos (nI_in4 hs hj), hs, nI_clamp (by omega), if_neg h0, if_neg h]
theorem wr_iff {i v l : Int32} {q : Nat} (ev : v = nI q - 1) (el : l = nI q) (hq : q ≤ 60) : (0 ≤ i.toInt64 ∧ i.toInt64 ≤ v.toInt64) ↔ ¬ (i < 0 ∨ l ≤ i) := by
  have e1 : v.toInt = (q : Int) - 1 := by
    rw [ev, show (1 : Int32) = nI 1 from rfl]
    exact pk_sub_toInt (by omega) (by decide)
  have e2 : l.toInt = (q : Int) := by rw [el, nI_toInt (by omega)]
  simp only [fa_le64, fa_le, fa_lt, Int32.toInt_toInt64, tl_0, tz_0, e1, e2]
  omega
abbrev rch (l a n : Int32) : Prop := ¬ a < 0 ∧ ¬ n < 0 ∧ a.toInt + n.toInt ≤ l.toInt
theorem rch_le {l a n : Int32} {q ka kn : Nat} (hl : l = nI q) (ha : a = nI ka) (hn : n = nI kn) (h1 : q < 2147483648) (h2 : ka < 2147483648) (h3 : kn < 2147483648) : a.toInt + n.toInt ≤ l.toInt ↔ ka + kn ≤ q := by
  rw [hl, ha, hn, nI_toInt h1, nI_toInt h2, nI_toInt h3]
  omega
theorem add64i {v : Int64} {a b c : Nat} (e : v = (nI a).toInt64 + (nI b).toInt64) (ha : a < 2147483648) (hb : b < 2147483648) (hc : c < 2147483648) : v ≤ (nI c).toInt64 ↔ a + b ≤ c := by
  rw [nI_l ha, nI_l hb, lN_add] at e
  rw [e, nI_l hc]
  exact pk_lLE (by omega) (by omega)
def ansPaste (L W : Nat → Int32) (s i t k n : Int32) : Int32 := if ¬ ((0 ≤ s ∧ s < 4) ∧ (0 ≤ t ∧ t < 4)) then -2 else if L s.toNatClampNeg = -1 ∨ L t.toNatClampNeg = -1 then -6 else if ¬ W s.toNatClampNeg = W t.toNatClampNeg then -8 else if rch (L s.toNatClampNeg) i n ∧ rch (L t.toNatClampNeg) k n then 0 else -7
section APA
variable {L W : Nat → Int32} {s i t k n : Int32} {a b : Nat}
theorem apa_2a (h : ¬ (0 ≤ s ∧ s < 4)) : (-2 : Int32) = ansPaste L W s i t k n := (if_pos (fun q => h q.1)).symm
theorem apa_2b (h : ¬ (0 ≤ t ∧ t < 4)) : (-2 : Int32) = ansPaste L W s i t k n := (if_pos (fun q => h q.2)).symm
theorem apa_w (hs : s = nI a) (ha : a < 4) (ht : t = nI b) (hb : b < 4) : ansPaste L W s i t k n = if L a = -1 ∨ L b = -1 then -6 else if ¬ W a = W b then -8 else if rch (L a) i n ∧ rch (L b) k n then 0 else -7 := by
  unfold ansPaste
  rw [if_neg (fun q => q ⟨nI_in4 hs ha, nI_in4 ht hb⟩), hs, ht, nI_clamp (by omega), nI_clamp (by omega)]
theorem apa_6 (hs : s = nI a) (ha : a < 4) (ht : t = nI b) (hb : b < 4) (h : L a = -1 ∨ L b = -1) : (-6 : Int32) = ansPaste L W s i t k n := by
  rw [apa_w hs ha ht hb, if_pos h]
theorem apa_8 (hs : s = nI a) (ha : a < 4) (ht : t = nI b) (hb : b < 4) (h0 : ¬ L a = -1) (h1 : ¬ L b = -1) (h : ¬ W a = W b) : (-8 : Int32) = ansPaste L W s i t k n := by
  rw [apa_w hs ha ht hb, if_neg (fun q => q.elim h0 h1), if_pos h]
theorem apa_7 (hs : s = nI a) (ha : a < 4) (ht : t = nI b) (hb : b < 4) (h0 : ¬ L a = -1) (h1 : ¬ L b = -1) (hw : W a = W b) (h : ¬ (rch (L a) i n ∧ rch (L b) k n)) : (-7 : Int32) = ansPaste L W s i t k n := by
  rw [apa_w hs ha ht hb, if_neg (fun q => q.elim h0 h1), if_neg (fun q => q hw), if_neg h]
theorem apa_0 (hs : s = nI a) (ha : a < 4) (ht : t = nI b) (hb : b < 4) (h0 : ¬ L a = -1) (h1 : ¬ L b = -1) (hw : W a = W b) (h : rch (L a) i n ∧ rch (L b) k n) : (0 : Int32) = ansPaste L W s i t k n := by
  rw [apa_w hs ha ht hb, if_neg (fun q => q.elim h0 h1), if_neg (fun q => q hw), if_pos h]
end APA
