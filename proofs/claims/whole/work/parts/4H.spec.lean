/-! the tape -/
abbrev TPt : Type := Nat × (Nat → Nat)
def TP (D : DD) (t : TPt) : Prop := D 13 1 = nI t.1 ∧ t.1 ≤ 120 ∧ ∀ j, j < t.1 → D 14 j = nI (t.2 j) ∧ t.2 j ≤ 255
def TPm (D : DD) (t : TPt) : Prop := D 219 11 = nI t.1 ∧ t.1 ≤ 120 ∧ ∀ j, j < t.1 → D 227 j = nI (t.2 j) ∧ t.2 j ≤ 255
def g_feed (x : Int32) (t : TPt) : Int32 × TPt := if nI 0 ≤ x ∧ x ≤ nI 255 then (if t.1 < 120 then (nI (t.1 + 1), t.1 + 1, upo t.2 t.1 x.toNatClampNeg) else (-1000003, t)) else (-1000001, t)
theorem TP_up {D D1 D2 : DD} {t : TPt} {c : Nat} (h : TP D t) (h1 : t.1 < 120) (hc : c ≤ 255) (e1 : D1 = up2 D 14 t.1 (nI c)) (e2 : D2 = up2 D1 13 1 (nI (t.1 + 1))) : TP D2 (t.1 + 1, upo t.2 t.1 c) ∧ (∀ q, q ≠ 13 → q ≠ 14 → D2 q = D q) := by
  subst e1 e2
  obtain ⟨a, b, d⟩ := h
  refine ⟨⟨up2_s, by show t.1 + 1 ≤ 120; omega, fun j hj => ?_⟩, fun q q1 q2 => (up2_o q1).trans (up2_o q2)⟩
  have hj2 : j < t.1 + 1 := hj
  show up2 (up2 D 14 t.1 (nI c)) 13 1 (nI (t.1 + 1)) 14 j = nI (upo t.2 t.1 c j) ∧ upo t.2 t.1 c j ≤ 255
  rw [up2_o (show (14 : Nat) ≠ 13 by decide)]
  by_cases q : j = t.1
  · subst q; rw [upo_s]; exact ⟨up2_s, hc⟩
  · rw [upo_n q]; exact ⟨(up2_n (fun e => q e.2)).trans (d j (by omega)).1, (d j (by omega)).2⟩
theorem TPm_up {D D1 D2 : DD} {t : TPt} {c : Nat} (h : TPm D t) (h1 : t.1 < 120) (hc : c ≤ 255) (e1 : D1 = up2 D 227 t.1 (nI c)) (e2 : D2 = up2 D1 219 11 (nI (t.1 + 1))) : TPm D2 (t.1 + 1, upo t.2 t.1 c) ∧ (∀ q, q ≠ 219 → q ≠ 227 → D2 q = D q) ∧ ∀ f, f ≠ 11 → D2 219 f = D 219 f := by
  subst e1 e2
  obtain ⟨a, b, d⟩ := h
  refine ⟨⟨up2_s, by show t.1 + 1 ≤ 120; omega, fun j hj => ?_⟩, fun q q1 q2 => (up2_o q1).trans (up2_o q2), fun f hf => (up2_n (fun e => hf e.2)).trans (congrFun (up2_o (by decide)) f)⟩
  have hj2 : j < t.1 + 1 := hj
  show up2 (up2 D 227 t.1 (nI c)) 219 11 (nI (t.1 + 1)) 227 j = nI (upo t.2 t.1 c j) ∧ upo t.2 t.1 c j ≤ 255
  rw [up2_o (show (227 : Nat) ≠ 219 by decide)]
  by_cases q : j = t.1
  · subst q; rw [upo_s]; exact ⟨up2_s, hc⟩
  · rw [upo_n q]; exact ⟨(up2_n (fun e => q e.2)).trans (d j (by omega)).1, (d j (by omega)).2⟩
