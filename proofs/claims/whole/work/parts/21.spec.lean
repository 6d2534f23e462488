def v1 (D : DD) (wy : Nat → Nat) (r : Row) (pl : Nat) (mo : Int32) (k : Nat) : Nat → Int32 := fun p => if p < k then s_base wy r pl mo p else D 229 p
theorem v1_0 {D : DD} {wy : Nat → Nat} {r : Row} {pl : Nat} {mo : Int32} : upo D 229 (v1 D wy r pl mo 0) = D := by
  have : v1 D wy r pl mo 0 = D 229 := by
    funext p
    exact if_neg (Nat.not_lt_zero p)
  rw [this, upo_id]
theorem v1_s {D : DD} {wy : Nat → Nat} {r : Row} {pl k : Nat} {mo v : Int32} (h : v = s_base wy r pl mo k) : upd (v1 D wy r pl mo k) k v = v1 D wy r pl mo (k + 1) := by
  subst h
  funext p
  unfold upd v1
  by_cases h : p = k
  · subst h; simp
  · have : (p < k + 1) = (p < k) := by simp; omega
    simp [h, this]
theorem MA_upo {D : DD} {q j : Nat} {r : Row} {f : Nat → Int32} (h : MA D q r) (hj : q ≠ j) : MA (upo D j f) q r := fun k hk => (congrFun (upo_n hj) k).trans (h k hk)
/-- the row behind the move, ahead of the tired and the hour's count -/
def s_mv (wy : Nat → Nat) (r : Row) : Row := fun k =>
  if k = 1 then (if s_goes wy r = 9 then r 1 else s_goes wy r)
  else if k = 7 then (if s_goes wy r ≠ 9 ∧ s_goes wy r ≠ r 1 then r 7 + 1 else r 7)
  else if k = 8 then (if s_goes wy r = 9 then r 8 + 1 else r 8)
  else if k = 9 then (if s_goes wy r ≠ 9 ∧ s_goes wy r ≠ r 1 then s_milk (r 9) (r 1) (s_goes wy r) else r 9)
  else r k
/-- .. and of n wishers the tired are done -/
def s_tn (wy : Nat → Nat) (r : Row) (n : Nat) : Row := fun k => if 16 ≤ k ∧ k % 8 = 6 ∧ (k - 16) / 8 < n then s_tire r ((k - 16) / 8) else s_mv wy r k
theorem s_mv_o {wy : Nat → Nat} {r : Row} {k : Nat} (h : k ≠ 1 ∧ k ≠ 7 ∧ k ≠ 8 ∧ k ≠ 9) : s_mv wy r k = r k := by
  unfold s_mv
  rw [if_neg h.1, if_neg h.2.1, if_neg h.2.2.1, if_neg h.2.2.2]
theorem s_tn_o {wy : Nat → Nat} {r : Row} {n k : Nat} (h : k < 16 ∨ k % 8 ≠ 6) : s_tn wy r n k = s_mv wy r k := by
  unfold s_tn
  rw [if_neg (by omega)]
theorem s_tn_e {wy : Nat → Nat} {r : Row} {k : Nat} : (if k = 6 then r 6 + 1 else s_tn wy r (r 5) k) = s_hour wy r k := by
  unfold s_tn s_hour s_mv
  by_cases h6 : k = 6
  · rw [if_pos h6, if_pos h6]
  · rw [if_neg h6, if_neg h6]
    by_cases h1 : k = 1
    · subst h1; rfl
    · by_cases h7 : k = 7
      · subst h7; rfl
      · by_cases h8 : k = 8
        · subst h8; rfl
        · by_cases h9 : k = 9
          · subst h9; rfl
          · simp only [if_neg h1, if_neg h7, if_neg h8, if_neg h9]
theorem s_wiB_congr {r r' : Row} {w : Nat} (h6 : r 6 = r' 6) (h1 : r (20 + 8 * w) = r' (20 + 8 * w)) (h2 : r (21 + 8 * w) = r' (21 + 8 * w)) (h3 : r (23 + 8 * w) = r' (23 + 8 * w)) : s_wiB r w = s_wiB r' w := by
  unfold s_wiB
  rw [h6, h1, h2, h3]
theorem WF_tn {wy : Nat → Nat} {r : Row} {n : Nat} (hW : WF r) (hn : n ≤ r 5) : WF (s_tn wy r n) := by
  have hg := s_goes_ok (wy := wy) hW
  obtain ⟨⟨b1, b2, b3, b4, b5, b6, b7, b8⟩, b9, b10, b11⟩ := hW
  have e : ∀ k, (k < 16 ∨ k % 8 ≠ 6) → k ≠ 1 → k ≠ 7 → k ≠ 8 → k ≠ 9 → s_tn wy r n k = r k := fun k h h1 h2 h3 h4 => (s_tn_o h).trans (s_mv_o ⟨h1, h2, h3, h4⟩)
  unfold WF
  rw [e 0 (by omega) (by omega) (by omega) (by omega) (by omega), e 5 (by omega) (by omega) (by omega) (by omega) (by omega), e 2 (by omega) (by omega) (by omega) (by omega) (by omega), e 3 (by omega) (by omega) (by omega) (by omega) (by omega), e 4 (by omega) (by omega) (by omega) (by omega) (by omega)]
  refine ⟨⟨b1, b2, ?_, b4, b5, b6, b7, ?_⟩, fun j hj => ?_, fun w hw => ?_, fun k hk => ?_⟩
  · rw [s_tn_o (by omega)]
    unfold s_mv
    rw [if_pos rfl]
    split <;> omega
  · rw [s_tn_o (by omega)]
    unfold s_mv
    simp only [if_neg (show ¬ (9 = 1) by decide), if_neg (show ¬ (9 = 7) by decide), if_neg (show ¬ (9 = 8) by decide), if_true]
    split
    · exact milk_lt _ (or_lt64 b8 (pw_lt64 (by omega))) _ (by omega)
    · exact b8
  · rw [e _ (by omega) (by omega) (by omega) (by omega) (by omega)]
    exact b9 j hj
  · obtain ⟨d1, d3, d4, d5, d6, d7, d9, d10⟩ := b10 w hw
    rw [e _ (by omega) (by omega) (by omega) (by omega) (by omega), e _ (by omega) (by omega) (by omega) (by omega) (by omega), e _ (by omega) (by omega) (by omega) (by omega) (by omega), e _ (by omega) (by omega) (by omega) (by omega) (by omega), e _ (by omega) (by omega) (by omega) (by omega) (by omega), e _ (by omega) (by omega) (by omega) (by omega) (by omega), e (23 + 8 * w) (by omega) (by omega) (by omega) (by omega) (by omega)]
    refine ⟨d1, d3, d4, d5, d6, d7, ?_, d10⟩
    unfold s_tn
    split
    · have e9 : (22 + 8 * w - 16) / 8 = w := by omega
      rw [e9]
      unfold s_tire
      split
      · omega
      · split <;> omega
    · rw [s_mv_o (by omega)]; exact d9
  · have hk2 : 16 ≤ k := by omega
    unfold s_tn
    rw [if_neg (by omega), s_mv_o (by omega)]
    exact b11 k hk
theorem HB_tn {wy : Nat → Nat} {r : Row} {n b : Nat} (h : HB r b) : HB (s_tn wy r n) (b + 1) := by
  obtain ⟨h1, h2, h3⟩ := h
  refine ⟨by rw [s_tn_o (by omega), s_mv_o (by omega)]; omega, ?_, ?_⟩
  · rw [s_tn_o (by omega)]
    unfold s_mv
    simp only [if_neg (show ¬ (7 = 1) by decide), if_true]
    split <;> omega
  · rw [s_tn_o (by omega)]
    unfold s_mv
    simp only [if_neg (show ¬ (8 = 1) by decide), if_neg (show ¬ (8 = 7) by decide), if_true]
    split <;> omega
theorem WY_tn {wy : Nat → Nat} {r : Row} {n : Nat} (h : WY wy r) : WY wy (s_tn wy r n) := by
  unfold WY
  rw [s_tn_o (by omega), s_mv_o (by omega)]
  exact h
/-- the reference's numbers behind the move -/
theorem mv_half {wy : Nat → Nat} {r : Row} {D : DD} {q : Nat} (hM : MA D q r) (h : s_goes wy r = 9) : ∀ k, k < 64 → upd (D q) 8 (nI (r 8 + 1)) k = nI (s_mv wy r k) := by
  intro k hk
  unfold upd s_mv
  have := hM k hk
  by_cases h8 : k = 8
  · subst h8; simp [h]
  · by_cases h1 : k = 1
    · subst h1; simp [h, this]
    · by_cases h7 : k = 7
      · subst h7; simp [h, this]
      · by_cases h9 : k = 9
        · subst h9; simp [h, this]
        · simp [h8, h1, h7, h9, this]
theorem mv_stay {wy : Nat → Nat} {r : Row} {D : DD} {q : Nat} (hM : MA D q r) (h9 : ¬ s_goes wy r = 9) (h : s_goes wy r = r 1) : ∀ k, k < 64 → upd (D q) 8 (nI (r 8 + 0)) k = nI (s_mv wy r k) := by
  intro k hk
  unfold upd s_mv
  have := hM k hk
  have h9' : ¬ r 1 = 9 := h ▸ h9
  by_cases h8 : k = 8
  · subst h8; simp [h, h9']
  · by_cases h1 : k = 1
    · subst h1; simp [h, h9', this]
    · by_cases h7 : k = 7
      · subst h7; simp [h, h9', this]
      · by_cases h9 : k = 9
        · subst h9; simp [h, h9', this]
        · simp [h8, h1, h7, h9, this]
theorem mv_move {wy : Nat → Nat} {r : Row} {D : DD} {q : Nat} (hM : MA D q r) (h9 : ¬ s_goes wy r = 9) (h : ¬ s_goes wy r = r 1) : ∀ k, k < 64 → upd (upd (upd (upd (D q) 8 (nI (r 8 + 0))) 9 (nI (s_milk (r 9) (r 1) (s_goes wy r)))) 1 (nI (s_goes wy r))) 7 (nI (r 7 + 1)) k = nI (s_mv wy r k) := by
  intro k hk
  unfold upd s_mv
  have := hM k hk
  by_cases h8 : k = 8
  · subst h8; simp [h, h9]
  · by_cases h1 : k = 1
    · subst h1; simp [h, h9]
    · by_cases h7 : k = 7
      · subst h7; simp [h, h9]
      · by_cases h9' : k = 9
        · subst h9'; simp [h, h9]
        · simp [h8, h1, h7, h9', this]
theorem code_none {t : Nat} (h : t ≤ 9) : (if t = 9 then (-1000000 : Int32) else nI t) = (-1000000) ↔ t = 9 := by
  by_cases h9 : t = 9
  · simp [h9]
  · rw [if_neg h9]
    have : ∀ t, t < 9 → ¬ nI t = (-1000000) := by decide
    exact ⟨fun q => absurd q (this t (by omega)), fun q => absurd q h9⟩
theorem s_tire_20 {r : Row} {w : Nat} (h : r (22 + 8 * w) ≤ 20) : s_tire r w ≤ 20 := by
  unfold s_tire
  split
  · omega
  · split <;> omega
/-- the tired of wisher k done in the reference's row -/
theorem tn_s {wy : Nat → Nat} {r : Row} {f : Nat → Int32} {k : Nat} {v : Int32} (h : ∀ j, j < 64 → f j = nI (s_tn wy r k j)) (hv : v = nI (s_tire r k)) : ∀ j, j < 64 → upd f (22 + 8 * k) v j = nI (s_tn wy r (k + 1) j) := by
  intro j hj
  unfold upd
  by_cases e : j = 22 + 8 * k
  · subst e
    rw [if_pos rfl, hv]
    unfold s_tn
    have e9 : (22 + 8 * k - 16) / 8 = k := by omega
    rw [e9, if_pos ⟨by omega, by omega, by omega⟩]
  · rw [if_neg e, h j hj]
    unfold s_tn
    by_cases h6 : 16 ≤ j ∧ j % 8 = 6 ∧ (j - 16) / 8 < k
    · rw [if_pos h6, if_pos ⟨h6.1, h6.2.1, by omega⟩]
    · rw [if_neg h6, if_neg (by omega)]
theorem s_best_le {f : Nat → Int32} {a : Nat} : ∀ n, (s_best f a n).2 ≤ n + 1 := by
  intro n
  induction n with
  | zero => exact Nat.le_refl 1
  | succ n ih =>
    unfold s_best
    split
    · show 1 ≤ n + 1 + 1; omega
    · split
      · show (s_best f a n).2 + 1 ≤ n + 1 + 1; omega
      · omega
theorem tm1_le : ∀ {t : Nat}, t ≤ 20 → nI t - nI 1 ≤ nI 20 := by
  have h : ∀ t, t < 21 → nI t - nI 1 ≤ nI 20 := by decide
  intro t ht
  exact h t (by omega)
