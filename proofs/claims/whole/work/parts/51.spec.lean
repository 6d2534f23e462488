theorem byI_n {t : TPt} {i : Nat} (h : i < t.1) : byI t i = nI (s_by t i) := by
  unfold byI s_by
  rw [if_pos h, if_pos h]
theorem by_255 {t : TPt} {i : Nat} (ht : ∀ j, j < t.1 → t.2 j ≤ 255) (h : i < t.1) : s_by t i ≤ 255 := by
  unfold s_by
  rw [if_pos h]
  exact ht i h
theorem mk_rows {D : DD} {t : TPt} {x : PSt × Row} (h : CS D t x) (hP : PI t x) : ∃ r9 : Row, (∀ j, j < 6 → D 180 j = nI (r9 (10 + j)) ∧ r9 (10 + j) < 64) ∧ (x.1.2.1 = 0 → s_far r9 = s_far x.2) := by
  by_cases q : x.1.2.1 = 0
  · exact ⟨x.2, fun j hj => ⟨(h.2.2 q).1.2.1 j hj, (hP.2 q).1.1.2.1 j hj⟩, fun _ => rfl⟩
  · obtain ⟨f, hf⟩ := h.2.1.1
    exact ⟨fun k => f (k - 10), fun j hj => by show D 180 j = nI (f (10 + j - 10)) ∧ f (10 + j - 10) < 64; rw [show 10 + j - 10 = j by omega]; exact hf j hj, fun u => absurd u q⟩
theorem text_end {D D' : DD} {r : Row} {wy : Nat → Nat} (hL : DLr D r) (hC : CA D 185 r) (h0 : r 0 ≤ 6) (hF : ∀ q, q ≠ 181 → D' q = D q) (hW : ∀ j, j < 36 → D' 181 j = nI (wy j)) : LA D' 179 wy r ∧ CA D' 185 r := by
  obtain ⟨a, b, c⟩ := hL
  refine ⟨?_, CA_eq hC (fun j hj => hF _ (by omega))⟩
  unfold LA
  rw [hF 179 (by decide), hF (179 + 1) (by decide), hF (179 + 3) (by decide), hF (179 + 4) (by decide), hF (179 + 5) (by decide)]
  exact ⟨a, b, fun j hj => hW j (by omega), c⟩
def a_land (y : PSt × Row) (lf : Int32) (r : Row) (kp : Nat) (A : Nat → Row) (wy : Nat → Nat) : Int32 × Int32 × AST × (Nat → Nat) :=
  if y.1.2.1 = 0 then (nI (y.2 5), lf, (y.2, 0, A), s_far y.2) else (-1000100 - nI y.1.2.2, nI y.1.2.1, (r, kp, A), wy)
def ldD (D : DD) : DD := upo (takeD (takeL D 15 179) 21 185) 27 (upd (D 27) 2 (nI 0))
theorem ldD_fr {D : DD} {q : Nat} (hq : q < 15 ∨ 25 < q) (h27 : q ≠ 27) : ldD D q = D q := (upo_n h27).trans ((take_fr (fun j hj => by omega)).trans (takeL_fr (fun j hj => by omega)))
theorem XLK_ld {D : DD} {wy : Nat → Nat} {r : Row} {A : Nat → Row} {nx : Nat} (hk1 : D 27 1 = nI nx) (hnx : nx < 24) (a : LK r) (b : WY wy r) (c : CA D 185 r) (d : LA D 179 wy r) : XLK (ldD D) wy r 0 A := by
  have h57 := a.1.1.2.2.2.2.2.2.1
  have h06 := a.1.1.2.1
  have f27 : ldD D 27 = upd (D 27) 2 (nI 0) := upo_s
  refine ⟨Or.inr a, ?_, ?_, fun _ => b, nx, ?_⟩
  · exact CA_eq (CA_CP h57 take_CP (CA_eq c (fun j hj => takeL_fr (fun j' hj' => by omega)))) (fun j hj => upo_n (by omega))
  · exact LA_eq (LA_LPP h06 h57 takeL_LP d) (fun j hj => (upo_n (by omega)).trans (take_fr (fun j' hj' => by omega)))
  · exact ⟨by rw [f27]; exact (pk_un (by decide)).trans hk1, by rw [f27]; exact pk_us, hnx, by decide, fun i hi => absurd hi (Nat.not_lt_zero i)⟩
theorem wis_end2 {D D' : DD} {r : Row} {kd h a g f l : Nat} {vh va vg vf vl : Int32} (hO : OKR r) (h6 : r 5 < 6) (hL : DLr D r) (hC : CA D 185 r) (hF : F13 (wiC D (r 5) (nI kd) vh va vg vf vl) D') (e1 : vh = nI h) (e2 : va = nI a) (e3 : vg = nI g) (e4 : vf = nI f) (e5 : vl = nI l) : DLr D' (s_wis r kd h a g f l) ∧ CA D' 185 (s_wis r kd h a g f l) := by
  subst e1 e2 e3 e4 e5
  exact wis_end hO h6 hL hC hF
