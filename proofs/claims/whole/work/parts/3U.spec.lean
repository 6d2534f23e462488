theorem MA_set {D : DD} {q i j v : Nat} {r : Row} (h : MA D q r) (e : i = j) : MA (up2 D q i (nI v)) q (rset r j v) := by
  subst e
  intro k hk
  by_cases c : k = i
  · subst c; exact up2_s.trans (congrArg nI rset_s.symm)
  · exact (up2_n (fun q => c q.2)).trans ((h k hk).trans (congrArg nI (rset_n c).symm))
theorem s_hour_8le {wy : Nat → Nat} {r : Row} : r 8 ≤ s_hour wy r 8 := by
  unfold s_hour
  simp only [if_neg (show ¬ (8 = 6) by decide), if_neg (show ¬ (8 = 1) by decide), if_neg (show ¬ (8 = 7) by decide), if_true]
  split <;> omega
def s_bk (c : Nat) : Nat → Nat
  | 0 => 0
  | k + 1 => s_bk c k + c / 2 ^ k % 2
theorem s_bk_6 {c : Nat} : s_bk c 6 = s_bits c := by
  unfold s_bits
  show 0 + c / 2 ^ 0 % 2 + c / 2 ^ 1 % 2 + c / 2 ^ 2 % 2 + c / 2 ^ 3 % 2 + c / 2 ^ 4 % 2 + c / 2 ^ 5 % 2 = _
  rw [show (2 : Nat) ^ 0 = 1 by rfl, show (2 : Nat) ^ 1 = 2 by rfl, show (2 : Nat) ^ 2 = 4 by rfl, show (2 : Nat) ^ 3 = 8 by rfl, show (2 : Nat) ^ 4 = 16 by rfl, show (2 : Nat) ^ 5 = 32 by rfl]
  omega
theorem s_bk_le {c : Nat} : ∀ k, s_bk c k ≤ k := by
  intro k
  induction k with
  | zero => exact Nat.le_refl 0
  | succ k ih =>
    have := Nat.mod_lt (c / 2 ^ k) (show 0 < 2 by decide)
    show s_bk c k + c / 2 ^ k % 2 ≤ k + 1
    omega
