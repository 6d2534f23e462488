theorem LA_dd {D : DD} {p x : Nat} {wy : Nat → Nat} {r q : Row} (h : LA D p wy q) : LA D p wy (if 0 < r 5 then rset q (18 + 8 * (x % r 5)) (x % r 0) else q) := by
  split
  · exact LA_set h (by omega)
  · exact h
theorem LA_dr {D : DD} {p seed : Nat} {wy : Nat → Nat} {r : Row} (h : LA D p wy r) : ∀ k, LA D p wy (s_dr wy r seed k).2 := by
  intro k
  induction k with
  | zero => exact h
  | succ k ih => exact LA_hour (wy := wy) (r := s_dd wy r seed k) (LA_dd ih)
theorem gb_keep {D : DD} {f g5 : Nat → Int32} {v : Int32} {r : Row} (hC : CA (upo D 173 f) 173 r) (hf : ∀ j, j ≠ 5 → D 173 j = f j) : CA (upo (upo (upo D 173 (upd (D 173) 5 v)) 178 g5) 173 f) 173 r ∧ ∀ j, j ≠ 5 → (upo (upo D 173 (upd (D 173) 5 v)) 178 g5) 173 j = f j := by
  refine ⟨CA_eq hC (fun j hj => ?_), fun j hj => ?_⟩
  · by_cases q : j = 0
    · subst q; rw [Nat.add_zero, upo_s, upo_s]
    · rw [upo_n (by omega), upo_n (by omega), upo_n (by omega), upo_n (by omega)]
  · rw [upo_n (by decide), upo_s]
    exact (pk_un hj).trans (hf j hj)
