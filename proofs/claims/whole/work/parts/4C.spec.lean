theorem fits_succ {wy : Nat → Nat} {r : Row} {it : Nat → Int32} {k : Nat} : s_fits wy r it (k + 1) = true ↔ s_fits wy r it k = true ∧ s_told wy r it k = true := by
  unfold s_fits
  rw [List.range_succ, List.all_append, Bool.and_eq_true]
  simp
theorem kd_hour {wy : Nat → Nat} {r : Row} {w kd : Nat} (h5 : r 5 ≤ 6) (hw : w < r 5) : s_hour wy (rset r (16 + 8 * w) kd) = s_hour wy (s_kd r w kd) := by
  by_cases h2 : kd = 2
  · have ew : ∀ i, i < r 5 → s_wiB (rset r (16 + 8 * w) kd) i = s_wiB (s_kd r w kd) i := fun i _ => by
      unfold s_wiB
      rw [rset_n (by omega), rset_n (by omega), rset_n (by omega), rset_n (by omega), s_kd_o (by omega) (by omega), s_kd_o (by omega) (by omega), s_kd_o (by omega) (by omega), s_kd_o (by omega) (by omega)]
    have es : ∀ i, s_wish wy (rset r (16 + 8 * w) kd) i = s_wish wy (s_kd r w kd) i := fun i => by
      by_cases e : i = w
      · subst e
        unfold s_wish
        rw [rset_s, s_kd_k, h2]
        simp only [if_neg (show ¬ (2 = 1) by decide), if_true]
        rw [rset_n (by omega), rset_n (by omega), rset_n (by omega), s_kd_o (by omega) (by omega), s_kd_o (by omega) (by omega), s_kd_o (by omega) (by omega)]
      · unfold s_wish
        rw [rset_n (by omega), rset_n (by omega), rset_n (by omega), rset_n (by omega), rset_n (by omega), rset_n (by omega), rset_n (by omega), s_kd_o (by omega) (by omega), s_kd_o (by omega) (by omega), s_kd_o (by omega) (by omega), s_kd_o (by omega) (by omega), s_kd_o (by omega) (by omega), s_kd_o (by omega) (by omega), s_kd_o (by omega) (by omega)]
    have ep : ∀ b n, n ≤ r 5 → s_pl wy (rset r (16 + 8 * w) kd) 63 b n = s_pl wy (s_kd r w kd) 63 b n := fun b n => by
      induction n with
      | zero => intro _; rfl
      | succ n ih =>
        intro hn
        unfold s_pl
        rw [ih (by omega), ew n (by omega), es n, rset_n (by omega), s_kd_o (k := 18 + 8 * n) (by omega) (by omega)]
    have eg : s_goes wy (rset r (16 + 8 * w) kd) = s_goes wy (s_kd r w kd) := by
      have eb : s_base wy (rset r (16 + 8 * w) kd) 0 (nI 0) = s_base wy (s_kd r w kd) 0 (nI 0) := by
        funext p
        unfold s_base
        rw [rset_n (by omega), rset_n (by omega), s_kd_o (by omega) (by omega), s_kd_o (by omega) (by omega)]
      unfold s_goes s_pull
      rw [eb, rset_n (k := 16 + 8 * w) (j := 5) (by omega), s_kd_o (k := 5) (by omega) (by omega), ep _ _ (Nat.le_refl _), rset_n (by omega), rset_n (by omega), s_kd_o (by omega) (by omega), s_kd_o (by omega) (by omega)]
    have et : ∀ i, i < r 5 → s_tire (rset r (16 + 8 * w) kd) i = s_tire (s_kd r w kd) i := fun i hi => by
      unfold s_tire
      rw [ew i hi]
      by_cases e : i = w
      · subst e; rw [rset_s, s_kd_k, if_pos h2, if_pos h2]
      · rw [rset_n (by omega), rset_n (by omega), rset_n (by omega), s_kd_o (by omega) (by omega), s_kd_o (by omega) (by omega), s_kd_o (by omega) (by omega)]
    funext k
    unfold s_hour
    rw [eg, rset_n (j := 6) (by omega), rset_n (j := 1) (by omega), rset_n (j := 7) (by omega), rset_n (j := 8) (by omega), rset_n (j := 9) (by omega), rset_n (j := 5) (by omega), s_kd_o (k := 6) (by omega) (by omega), s_kd_o (k := 1) (by omega) (by omega), s_kd_o (k := 7) (by omega) (by omega), s_kd_o (k := 8) (by omega) (by omega), s_kd_o (k := 9) (by omega) (by omega), s_kd_o (k := 5) (by omega) (by omega)]
    by_cases q : 16 ≤ k ∧ k % 8 = 6 ∧ (k - 16) / 8 < r 5
    · rw [if_pos q, if_pos q, et _ q.2.2]
    · rw [if_neg q, if_neg q]
      have hk : k ≠ 22 + 8 * w := fun e => q (by omega)
      have e1 : s_kd r w kd k = rset r (16 + 8 * w) kd k := rset_n hk
      rw [e1]
  · have e : s_kd r w kd = rset r (16 + 8 * w) kd := by
      funext k
      unfold s_kd
      rw [if_neg h2]
      by_cases q : k = 22 + 8 * w
      · subst q; rw [rset_s, rset_n (by omega)]
      · exact rset_n q
    rw [e]
theorem s_hours_w {wy : Nat → Nat} {r : Row} {b : Nat} (hW : WF r) (hH : HB r b) (hY : WY wy r) : ∀ n, WF (s_hours wy n r) ∧ HB (s_hours wy n r) (b + n) ∧ WY wy (s_hours wy n r) := by
  intro n
  induction n with
  | zero => exact ⟨hW, hH, hY⟩
  | succ n ih => exact ⟨WF_hour ih.1, HB_hour ih.2.1, WY_hour ih.2.2⟩
