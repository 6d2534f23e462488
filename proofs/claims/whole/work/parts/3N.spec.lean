/-! images: a land and how it was, two of them -/
abbrev IMS : Type := Nat → Option (Row × (Nat → Nat))
def XI1 (D : DD) (k : Nat) (o : Option (Row × (Nat → Nat))) : Prop := match o with
  | none => True
  | some p => LK p.1 ∧ WY p.2 p.1 ∧ CA D (201 + 12 * k) p.1 ∧ LA D (195 + 12 * k) p.2 p.1
def s_im (im : IMS) : Nat := (if (im 0).isSome then 1 else 0) + (if (im 1).isSome then 2 else 0)
def XI (D : DD) (im : IMS) : Prop := D 0 10 = nI (s_im im) ∧ ∀ k, k < 2 → XI1 D k (im k)
theorem imgL_at : ∀ k, k < 2 → Z0.2.2 191 (nI k).toNatClampNeg = some (195 + 12 * k) := by decide +kernel
theorem imgC_at : ∀ k, k < 2 → Z0.2.2 192 (nI k).toNatClampNeg = some (201 + 12 * k) := by decide +kernel
theorem imgL : ∀ k, k < 2 → isL (195 + 12 * k) := fun k hk => isL_in _ (by
  have : ∀ k, k < 2 → (195 + 12 * k) ∈ lIds := by decide
  exact this k hk)
theorem imgC : ∀ k, k < 2 → isC (201 + 12 * k) := fun k hk => isC_in _ (by
  have : ∀ k, k < 2 → (201 + 12 * k) ∈ cIds := by decide
  exact this k hk)
theorem dj_iL {k : Nat} : DJ (195 + 12 * k) 15 := fun i j hi hj => by omega
theorem dj_iC {k : Nat} : DJ (201 + 12 * k) 21 := fun i j hi hj => by omega
theorem dj_Li {k : Nat} : DJ 15 (195 + 12 * k) := fun i j hi hj => by omega
theorem dj_Ci {k : Nat} : DJ 21 (201 + 12 * k) := fun i j hi hj => by omega
theorem s_im_bit {im : IMS} {k : Nat} (hk : k < 2) : s_im im / 2 ^ k % 2 = if (im k).isSome then 1 else 0 := by
  unfold s_im
  rcases (show k = 0 ∨ k = 1 by omega) with rfl | rfl <;> cases h0 : (im 0).isSome <;> cases h1 : (im 1).isSome <;> simp
theorem s_im_lt {im : IMS} : s_im im < 4 := by
  unfold s_im
  cases h0 : (im 0).isSome <;> cases h1 : (im 1).isSome <;> simp
theorem s_im_up {im : IMS} {k : Nat} {v : Row × (Nat → Nat)} (hk : k < 2) : s_im im ||| 2 ^ k = s_im (upo im k (some v)) := by
  unfold s_im
  rcases (show k = 0 ∨ k = 1 by omega) with rfl | rfl
  · rw [upo_s, upo_n (show (1 : Nat) ≠ 0 by decide)]
    cases h0 : (im 0).isSome <;> cases h1 : (im 1).isSome <;> simp
  · rw [upo_s, upo_n (show (0 : Nat) ≠ 1 by decide)]
    cases h0 : (im 0).isSome <;> cases h1 : (im 1).isSome <;> simp
theorem XI1_eq {D D' : DD} {k : Nat} {o : Option (Row × (Nat → Nat))} (h : XI1 D k o) (e : ∀ q, 195 + 12 * k ≤ q → q < 207 + 12 * k → D' q = D q) : XI1 D' k o := by
  cases o with
  | none => exact trivial
  | some p =>
    obtain ⟨a, b, c, d⟩ := h
    exact ⟨a, b, CA_eq c (fun j hj => e _ (by omega) (by omega)), LA_eq d (fun j hj => e _ (by omega) (by omega))⟩
theorem XI_eq {D D' : DD} {im : IMS} (h : XI D im) (e0 : D' 0 10 = D 0 10) (e : ∀ q, 195 ≤ q → q < 219 → D' q = D q) : XI D' im := ⟨e0.trans h.1, fun k hk => XI1_eq (h.2 k hk) (fun q h1 h2 => e q (by omega) (by omega))⟩
def g_image (r : Row) (wy : Nat → Nat) (im : IMS) (k : Int32) : Int32 × IMS :=
  if nI 0 ≤ k ∧ k ≤ nI 1 then (if 0 < r 0 then (nI 1, upo im k.toNatClampNeg (some (r, wy))) else (-1000002, im)) else (-1000001, im)
def imD (D : DD) (k : Nat) (v : Int32) : DD := upo (takeD (takeL D (195 + 12 * k) 15) (201 + 12 * k) 21) 0 (upd (D 0) 10 v)
theorem imD_fr {D : DD} {k q : Nat} {v : Int32} (h0 : q ≠ 0) (hq : q < 195 + 12 * k ∨ 206 + 12 * k < q) : imD D k v q = D q := (upo_n h0).trans ((take_fr (fun j hj => by omega)).trans (takeL_fr (fun j hj => by omega)))
theorem XI_img {D : DD} {im : IMS} {k : Nat} {r : Row} {wy : Nat → Nat} (hk : k < 2) (h : XI D im) (hr : LK r) (hY : WY wy r) (hC : CA D 21 r) (hL : LA D 15 wy r) : XI (imD D k (nI (s_im (upo im k (some (r, wy)))))) (upo im k (some (r, wy))) := by
  have h57 := hr.1.1.2.2.2.2.2.2.1
  have h06 := hr.1.1.2.1
  refine ⟨(congrFun upo_s 10).trans pk_us, fun i hi => ?_⟩
  by_cases q : i = k
  · subst q
    rw [upo_s]
    refine ⟨hr, hY, ?_, ?_⟩
    · exact CA_eq (CA_CP h57 take_CP (CA_eq hC (fun j hj => takeL_fr (fun j' hj' => by omega)))) (fun j hj => upo_n (by omega))
    · exact LA_eq (LA_LPP h06 h57 takeL_LP hL) (fun j hj => (upo_n (by omega)).trans (take_fr (fun j' hj' => by omega)))
  · rw [upo_n q]
    exact XI1_eq (h.2 i hi) (fun q' h1 h2 => imD_fr (by omega) (by omega))
/-- a restored image -/
def reD (D : DD) (k : Nat) : DD := upo (takeD (takeL D 15 (195 + 12 * k)) 21 (201 + 12 * k)) 27 (upd (D 27) 2 (nI 0))
theorem reD_fr {D : DD} {k q : Nat} (hq : q < 15 ∨ 25 < q) (h27 : q ≠ 27) : reD D k q = D q := (upo_n h27).trans ((take_fr (fun j hj => by omega)).trans (takeL_fr (fun j hj => by omega)))
theorem XLK_re {D : DD} {k : Nat} {p : Row × (Nat → Nat)} {A : Nat → Row} {nx : Nat} (h : XI1 D k (some p)) (hk1 : D 27 1 = nI nx) (hnx : nx < 24) : XLK (reD D k) p.2 p.1 0 A := by
  obtain ⟨a, b, c, d⟩ := h
  have h57 := a.1.1.2.2.2.2.2.2.1
  have h06 := a.1.1.2.1
  have f27 : reD D k 27 = upd (D 27) 2 (nI 0) := upo_s
  refine ⟨Or.inr a, ?_, ?_, fun _ => b, nx, ?_⟩
  · exact CA_eq (CA_CP h57 take_CP (CA_eq c (fun j hj => takeL_fr (fun j' hj' => by omega)))) (fun j hj => upo_n (by omega))
  · exact LA_eq (LA_LPP h06 h57 takeL_LP d) (fun j hj => (upo_n (by omega)).trans (take_fr (fun j' hj' => by omega)))
  · exact ⟨by rw [f27]; exact (pk_un (by decide)).trans hk1, by rw [f27]; exact pk_us, hnx, by decide, fun i hi => absurd hi (Nat.not_lt_zero i)⟩
def a_restore (r : Row) (kp : Nat) (A : Nat → Row) (wy : Nat → Nat) (im : IMS) (k : Int32) : Int32 × AST × (Nat → Nat) :=
  if nI 0 ≤ k ∧ k ≤ nI 1 then (match im k.toNatClampNeg with
    | none => (-1000002, (r, kp, A), wy)
    | some p => (nI 1, (p.1, 0, A), p.2)) else (-1000001, (r, kp, A), wy)
theorem s_ak_le {wy : Nat → Nat} {r : Row} {kp : Nat} {A : Nat → Row} (h : kp ≤ 24) : ∀ k, (s_ak wy r kp A k).1 ≤ 24 := by
  intro k
  cases k with
  | zero => exact h
  | succ k => exact Nat.min_le_left _ _
theorem HS_hours {wy : Nat → Nat} {r : Row} (h : HS r) : ∀ k, r 6 + k ≤ 999 → HS (s_hours wy k r) ∧ s_hours wy k r 6 = r 6 + k := by
  intro k
  induction k with
  | zero => intro _; exact ⟨h, rfl⟩
  | succ k ih =>
    intro hk
    obtain ⟨i1, i2⟩ := ih (by omega)
    exact ⟨HS_hour i1 (by omega), by show s_hour wy (s_hours wy k r) 6 = _; rw [s_hour_6, i2]; omega⟩
