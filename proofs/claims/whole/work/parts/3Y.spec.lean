def TRm (D : DD) (t : TRt) : Prop := D 219 25 = nI t.1 ∧ t.1 ≤ 16 ∧ ∀ j, j < t.1 → D 233 j = t.2 j
theorem MX.tr {D D1 : DD} {t : TRt} (h : MX D D1) (ht : TRm D t) : TRm D1 t := ⟨(h.2 25 (by decide)).trans ht.1, ht.2.1, fun j hj => (congrFun (h.1 233 (by decide) (by decide) (by decide)) j).trans (ht.2.2 j hj)⟩
theorem MX.mrw {D D1 : DD} {w : RWS} (h : MX D D1) (hw : MRW D w) : MRW D1 w := by
  refine ⟨fun i hi => ?_, (h.2 1 (by decide)).trans hw.2⟩
  have q := hw.1 i hi
  have e0 := congrFun (h.1 220 (by decide) (by decide) (by decide)) i
  have e1 := congrFun (h.1 221 (by decide) (by decide) (by decide)) i
  have e2 := h.1 222 (by decide) (by decide) (by decide)
  unfold MW1 at *
  cases o : w.1 i with
  | none => rw [o] at q; exact e0.trans q
  | some p => obtain ⟨l, s⟩ := p; rw [o] at q; simp only [e0, e1, e2]; exact q
theorem mrow_n {D : DD} {w : RWS} {k : Nat} (h : MW1 D k (w.1 k) (w.2.1 k)) (c : D 220 k < 0) : s_rows w (k + 1) = s_rows w k := by
  show (if (w.1 k).isSome then s_rows w k + 1 else s_rows w k) = _
  cases e : w.1 k with
  | none => rfl
  | some p =>
    rw [e] at h
    obtain ⟨l, s⟩ := p
    obtain ⟨h1, h2, h3, h4, h5⟩ := h
    rw [h3] at c
    exact absurd c (nI_pos (by omega))
theorem mrow_s {D : DD} {w : RWS} {k : Nat} (h : MW1 D k (w.1 k) (w.2.1 k)) (c : ¬ D 220 k < 0) : s_rows w (k + 1) = s_rows w k + 1 := by
  show (if (w.1 k).isSome then s_rows w k + 1 else s_rows w k) = _
  cases e : w.1 k with
  | none => rw [e] at h; exact absurd (show D 220 k < 0 by rw [show D 220 k = -1 from h]; decide) c
  | some p => rfl
