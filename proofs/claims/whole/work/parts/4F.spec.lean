/-! the reference's images -/
def KI1 (D : DD) (k : Nat) (o : Option (Row × (Nat → Nat))) : Prop := match o with
  | none => D 231 k = nI 0
  | some p => D 231 k = nI 1 ∧ ∀ j, j < 64 → D 232 (64 * k + j) = nI (p.1 j)
def KI (D : DD) (im : IMS) : Prop := ∀ k, k < 2 → KI1 D k (im k)
theorem KI1_eq {D D' : DD} {k : Nat} {o : Option (Row × (Nat → Nat))} (h : KI1 D k o) (e1 : D' 231 k = D 231 k) (e2 : ∀ j, j < 64 → D' 232 (64 * k + j) = D 232 (64 * k + j)) : KI1 D' k o := by
  cases o with
  | none => exact e1.trans h
  | some p => exact ⟨e1.trans h.1, fun j hj => (e2 j hj).trans (h.2 j hj)⟩
def CI (D1 D2 : DD) (a k : Nat) (r : Row) : Prop := (∀ q, q ≠ 232 → D2 q = D1 q) ∧ (∀ j, j < k → D2 232 (64 * a + j) = nI (r j)) ∧ ∀ i, i ≠ a → ∀ j, j < 64 → D2 232 (64 * i + j) = D1 232 (64 * i + j)
theorem CI_0 {D1 : DD} {a : Nat} {r : Row} : CI D1 D1 a 0 r := ⟨fun _ _ => rfl, fun j hj => absurd hj (Nat.not_lt_zero j), fun _ _ _ _ => rfl⟩
theorem CI_s {D1 D2 D3 : DD} {a k : Nat} {r : Row} (hk : k < 64) (h : CI D1 D2 a k r) (e : D3 = up2 D2 232 (64 * a + k) (nI (r k))) : CI D1 D3 a (k + 1) r := by
  subst e
  obtain ⟨h1, h2, h3⟩ := h
  refine ⟨fun q hq => (up2_o hq).trans (h1 q hq), fun j hj => ?_, fun i hi j hj => (up2_n (fun q => by omega)).trans (h3 i hi j hj)⟩
  by_cases q : j = k
  · subst q; exact up2_s
  · exact (up2_n (fun q => by omega)).trans (h2 j (by omega))
theorem img_end {D1 D2 D3 : DD} {im : IMS} {a : Nat} {r : Row} {wy : Nat → Nat} (hK : KI D1 im) (h : CI D1 D2 a 64 r) (e : D3 = up2 D2 231 a (nI 1)) : KI D3 (upo im a (some (r, wy))) ∧ ∀ q, q ≠ 231 → q ≠ 232 → D3 q = D1 q := by
  subst e
  obtain ⟨h1, h2, h3⟩ := h
  refine ⟨fun k hk => ?_, fun q a b => (up2_o a).trans (h1 q b)⟩
  by_cases q : k = a
  · subst q
    rw [upo_s]
    exact ⟨up2_s, fun j hj => (congrFun (up2_o (by decide)) _).trans (h2 j hj)⟩
  · rw [upo_n q]
    exact KI1_eq (hK k hk) ((up2_n (fun e => q e.2)).trans (congrFun (h1 231 (by decide)) k)) (fun j hj => (congrFun (up2_o (by decide)) _).trans (h3 k q j hj))
