/-! asked: switches, what is told of one, of a place, of all -/
theorem sw_or (n : Nat) (x : Int32) : (∃ k : Nat, k ≤ n ∧ x = nI k) ∨ (x.toInt < 0 ∨ (n : Int) < x.toInt) := by
  by_cases h : x < 0
  · rw [Int32.lt_iff_toInt_lt, Int32.toInt_zero] at h
    exact Or.inr (Or.inl h)
  · obtain ⟨k, hk, rfl⟩ := nI_of h
    by_cases q : k ≤ n
    · exact Or.inl ⟨k, q, rfl⟩
    · rw [nI_toInt hk]; exact Or.inr (Or.inr (by omega))
theorem sw_ne {n j : Nat} {x : Int32} (h : x.toInt < 0 ∨ (n : Int) < x.toInt) (hj : j ≤ n) (hn : n < 2 ^ 31) : ¬ x = nI j := by
  intro q
  subst q
  rw [nI_toInt (by omega)] at h
  omega
def g_wisher (wy : Nat → Nat) (r : Row) (w what : Int32) : Int32 :=
  if nI 0 ≤ w ∧ w ≤ nI (r 5) - nI 1 then (if what = nI 0 then nI (r (17 + 8 * w.toNatClampNeg)) else if what = nI 1 then nI (r (18 + 8 * w.toNatClampNeg)) else if what = nI 2 then nI (r (19 + 8 * w.toNatClampNeg)) else if what = nI 3 then nI (r (22 + 8 * w.toNatClampNeg)) else if what = nI 4 then nI (r (23 + 8 * w.toNatClampNeg)) else if what = nI 5 then (if s_wiB r w.toNatClampNeg = true then nI (s_wish wy r w.toNatClampNeg) else nI 0) else -1000001) else -1000001
def g_place (wy : Nat → Nat) (r : Row) (p what : Int32) : Int32 :=
  if nI 0 ≤ p ∧ p ≤ nI (r 0) - nI 1 then (if what = nI 0 then s_pull wy r 63 0 (nI 0) p.toNatClampNeg else if what = nI 1 then nI (r 9 / 2 ^ p.toNatClampNeg % 2) else if what = nI 2 then nI (r (10 + p.toNatClampNeg)) else -1000001) else -1000001
def g_far (wy : Nat → Nat) (r : Row) (a b : Int32) : Int32 :=
  if nI 0 ≤ a ∧ a ≤ nI (r 0) - nI 1 then (if nI 0 ≤ b ∧ b ≤ nI (r 0) - nI 1 then nI (wy (6 * a.toNatClampNeg + b.toNatClampNeg)) else -1000001) else -1000001
def g_kind (r : Row) (w : Int32) : Int32 := if nI 0 ≤ w ∧ w ≤ nI (r 5) - nI 1 then nI (r (16 + 8 * w.toNatClampNeg)) else -1000001
def s_isA (a k : Nat) : Bool := decide (k = 0) || decide (a = k) || (decide (k = 1) && decide (a < 4)) || (decide (k = 4) && decide (a = 5))
def g_as (r : Row) (w k st : Int32) : Int32 × Int32 :=
  if nI 0 ≤ w ∧ w ≤ nI (r 5) - nI 1 then (if nI 0 ≤ k ∧ k ≤ nI 5 then (if s_isA (r (16 + 8 * w.toNatClampNeg)) k.toNatClampNeg = true then (w, nI 0) else (-1000013, nI 3)) else (-1000001, st)) else (-1000001, st)
def g_trace (tn : Nat) (tr : Nat → Int32) (i : Int32) : Int32 := if nI 0 ≤ i ∧ i ≤ nI tn - nI 1 then tr i.toNatClampNeg else -1000000
def g_count (w : RWS) (r : Row) (kp tl : Nat) (what : Int32) : Int32 :=
  if what = nI 0 then nI (s_rows w 8) else if what = nI 1 then nI (r 0) else if what = nI 2 then nI (r 4) else if what = nI 3 then nI (r 5) else if what = nI 4 then nI (r 6) else if what = nI 5 then (if 0 < r 0 then nI (r 1) else -1) else if what = nI 6 then nI (r 7) else if what = nI 7 then nI (r 8) else if what = nI 8 then nI kp else if what = nI 9 then nI tl else -1000001
