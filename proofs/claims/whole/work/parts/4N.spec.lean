/-! the reference's chances of a set, and of all sets together -/
def s_cw (p T c : Nat) : Nat → Nat
  | 0 => 1
  | k + 1 => s_cw p T c k * (if T / 2 ^ k % 2 = 0 then 1 else if c / 2 ^ k % 2 = 1 then p else 10 - p)
theorem sub_bit1 : ∀ T, T < 64 → ∀ c, c < 64 → c &&& (63 ^^^ T) = 0 → ∀ k, k < 6 → c / 2 ^ k % 2 ≤ T / 2 ^ k % 2 := by decide +kernel
theorem cw_k {p T c : Nat} (h : ∀ k, k < 6 → c / 2 ^ k % 2 ≤ T / 2 ^ k % 2) : ∀ k, k ≤ 6 → s_bk c k ≤ s_bk T k ∧ s_cw p T c k = p ^ s_bk c k * (10 - p) ^ (s_bk T k - s_bk c k) := by
  intro k
  induction k with
  | zero => intro _; exact ⟨Nat.le_refl 0, rfl⟩
  | succ k ih =>
    intro hk
    obtain ⟨h1, h2⟩ := ih (by omega)
    have h3 := h k (by omega)
    have e1 : s_bk c (k + 1) = s_bk c k + c / 2 ^ k % 2 := rfl
    have e2 : s_bk T (k + 1) = s_bk T k + T / 2 ^ k % 2 := rfl
    have e3 : s_cw p T c (k + 1) = s_cw p T c k * (if T / 2 ^ k % 2 = 0 then 1 else if c / 2 ^ k % 2 = 1 then p else 10 - p) := rfl
    rw [e1, e2, e3, h2]
    refine ⟨by omega, ?_⟩
    have m1 := Nat.mod_lt (c / 2 ^ k) (show 0 < 2 by decide)
    have m2 := Nat.mod_lt (T / 2 ^ k) (show 0 < 2 by decide)
    by_cases q : T / 2 ^ k % 2 = 0
    · rw [if_pos q, q, show c / 2 ^ k % 2 = 0 by omega, Nat.mul_one, Nat.add_zero, Nat.add_zero]
    · have q1 : T / 2 ^ k % 2 = 1 := by omega
      rw [if_neg q, q1]
      by_cases u : c / 2 ^ k % 2 = 1
      · rw [if_pos u, u, Nat.pow_succ, show s_bk T k + 1 - (s_bk c k + 1) = s_bk T k - s_bk c k by omega, Nat.mul_assoc, Nat.mul_comm _ p, ← Nat.mul_assoc]
      · rw [if_neg u, show c / 2 ^ k % 2 = 0 by omega, Nat.add_zero, show s_bk T k + 1 - s_bk c k = s_bk T k - s_bk c k + 1 by omega, Nat.pow_succ, Nat.mul_assoc]
theorem cw_ch {p T c : Nat} (hT : T < 64) (hc : c < 64) (h : c &&& (63 ^^^ T) = 0) : s_cw p T c 6 = s_ch p T c := by
  have := (cw_k (p := p) (sub_bit1 T hT c hc h) 6 (Nat.le_refl 6)).2
  rw [s_bk_6, s_bk_6] at this
  exact this
theorem cw_le {p T c : Nat} (hp : p ≤ 10) : ∀ k, s_cw p T c k ≤ 10 ^ k := by
  intro k
  induction k with
  | zero => exact Nat.le_refl 1
  | succ k ih =>
    have e3 : s_cw p T c (k + 1) = s_cw p T c k * (if T / 2 ^ k % 2 = 0 then 1 else if c / 2 ^ k % 2 = 1 then p else 10 - p) := rfl
    rw [e3, Nat.pow_succ]
    refine Nat.mul_le_mul ih ?_
    split
    · omega
    · split <;> omega
def s_bl (p T : Nat) : Nat → Nat
  | 0 => 0
  | n + 1 => if n &&& (63 ^^^ T) = 0 then s_bl p T n + s_ch p T n else s_bl p T n
theorem bl_all : ∀ p, p < 11 → ∀ T, T < 64 → s_bl p T 64 = 10 ^ s_bits T := by decide +kernel
theorem s_wg_lt32 {r : Row} {n : Nat} (hn : n ≤ 6) : s_wg r n < 2 ^ 30 := Nat.lt_trans (wg_lt n hn) (by decide)
theorem wg_t {r : Row} {n : Nat} (h : s_wiB r n = true) : s_wg r n ||| 2 ^ n = s_wg r (n + 1) := (if_pos h).symm
theorem wg_f {r : Row} {n : Nat} (h : ¬ s_wiB r n = true) : s_wg r n ||| 0 = s_wg r (n + 1) := (Nat.or_zero _).trans (if_neg h).symm
theorem gb_9 {wy : Nat → Nat} {r : Row} {c : Nat} (h : s_to (s_pull wy r c 0 (nI 0)) (r 1) (r 0) = 9) : ¬ s_gb wy r c = true := by unfold s_gb; simp [h]
theorem gb_a {wy : Nat → Nat} {r : Row} {c : Nat} (h : s_to (s_pull wy r c 0 (nI 0)) (r 1) (r 0) = r 1) : ¬ s_gb wy r c = true := by unfold s_gb; simp [h]
theorem gb_t {wy : Nat → Nat} {r : Row} {c : Nat} (h : ¬ s_to (s_pull wy r c 0 (nI 0)) (r 1) (r 0) = 9) (h2 : ¬ s_to (s_pull wy r c 0 (nI 0)) (r 1) (r 0) = r 1) : s_gb wy r c = true := by unfold s_gb; simp [h, h2]
