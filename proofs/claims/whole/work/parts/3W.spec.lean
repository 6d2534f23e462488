/-- of the first n wishers all but those of a set rest -/
def s_rn (r : Row) (c n : Nat) : Row := fun k => if 16 ≤ k ∧ k % 8 = 7 ∧ (k - 16) / 8 < n ∧ c / 2 ^ ((k - 16) / 8) % 2 = 0 then 1 else r k
theorem s_rn_0 {r : Row} {c : Nat} : s_rn r c 0 = r := by
  funext k
  exact if_neg (fun q => absurd q.2.2.1 (Nat.not_lt_zero _))
theorem s_rn_e {r : Row} {c : Nat} : s_rn r c (r 5) = s_rest r c := rfl
theorem s_rn_t {r : Row} {c n : Nat} (h : ¬ c / 2 ^ n % 2 = 1) : rset (s_rn r c n) (23 + 8 * n) 1 = s_rn r c (n + 1) := by
  funext k
  unfold rset s_rn
  by_cases q : k = 23 + 8 * n
  · subst q
    have e : (23 + 8 * n - 16) / 8 = n := by omega
    rw [if_pos rfl, e, if_pos ⟨by omega, by omega, by omega, by omega⟩]
  · rw [if_neg q]
    by_cases p : 16 ≤ k ∧ k % 8 = 7 ∧ (k - 16) / 8 < n ∧ c / 2 ^ ((k - 16) / 8) % 2 = 0
    · rw [if_pos p, if_pos ⟨p.1, p.2.1, by omega, p.2.2.2⟩]
    · rw [if_neg p, if_neg (fun p2 => p ⟨p2.1, p2.2.1, by omega, p2.2.2.2⟩)]
theorem s_rn_f {r : Row} {c n : Nat} (h : c / 2 ^ n % 2 = 1) : rset (s_rn r c n) (23 + 8 * n) (s_rn r c n (23 + 8 * n)) = s_rn r c (n + 1) := by
  funext k
  unfold rset
  by_cases q : k = 23 + 8 * n
  · subst q
    have e : (23 + 8 * n - 16) / 8 = n := by omega
    rw [if_pos rfl]
    unfold s_rn
    rw [e, if_neg (fun p => by omega), if_neg (fun p => by omega)]
  · rw [if_neg q]
    unfold s_rn
    by_cases p : 16 ≤ k ∧ k % 8 = 7 ∧ (k - 16) / 8 < n ∧ c / 2 ^ ((k - 16) / 8) % 2 = 0
    · rw [if_pos p, if_pos ⟨p.1, p.2.1, by omega, p.2.2.2⟩]
    · rw [if_neg p, if_neg (fun p2 => p ⟨p2.1, p2.2.1, by
        have h1 := p2.2.2.1
        by_cases h2 : (k - 16) / 8 = n
        · have := p2.2.2.2; rw [h2] at this; omega
        · omega, p2.2.2.2⟩)]
theorem opt_none {o : Option Nat} (h : ∀ b, o = some b → b < 64) : s_opt o = -1000000 ↔ o = none := by
  cases o with
  | none => exact ⟨fun _ => rfl, fun _ => rfl⟩
  | some b =>
    have hb := h b rfl
    have : ∀ b, b < 64 → ¬ nI b = -1000000 := by decide
    exact ⟨fun q => absurd q (this b hb), fun q => by cases q⟩
