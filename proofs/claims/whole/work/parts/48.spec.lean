/-! the reference's rows -/
def FRm (D D' : DD) : Prop := (∀ q, q ≠ 219 → q ≠ 220 → q ≠ 221 → q ≠ 222 → D' q = D q) ∧ ∀ f, f ≠ 0 → f ≠ 1 → D' 219 f = D 219 f
theorem FRm.th {D : DD} : FRm D (thD D) := ⟨fun q a _ _ _ => upo_n a, fun f a _ => (congrFun upo_s f).trans (pk_un a)⟩
theorem FRm.st {D D1 : DD} {v : Int32} (h : FRm D D1) : FRm D (stM D1 v) := ⟨fun q a b c d => (upo_n a).trans (h.1 q a b c d), fun f a b => (congrFun upo_s f).trans ((pk_un b).trans (h.2 f a b))⟩
theorem FRm.up {D D1 : DD} {o k : Nat} {v : Int32} (h : FRm D D1) (ho : o = 220 ∨ o = 221 ∨ o = 222) : FRm D (up2 D1 o k v) := ⟨fun q a b c d => (up2_o (by omega)).trans (h.1 q a b c d), fun f a b => (congrFun (up2_o (by omega)) f).trans (h.2 f a b)⟩
theorem MW1_eq {D D' : DD} {i : Nat} {o : Option (Nat × Nat)} {f : Nat → Int32} (h : MW1 D i o f) (h2 : D' 220 i = D 220 i) (h3 : D' 221 i = D 221 i) (h5 : ∀ j, j < 40 → D' 222 (40 * i + j) = D 222 (40 * i + j)) : MW1 D' i o f := by
  unfold MW1 at *
  cases o with
  | none => exact h2.trans h
  | some p =>
    obtain ⟨l, s⟩ := p
    obtain ⟨a, b, c, d, e⟩ := h
    exact ⟨a, b, h2.trans c, h3.trans d, fun j hj => (h5 j (by omega)).trans (e j hj)⟩
theorem MRW.st {D : DD} {w : RWS} {v : Int32} (h : MRW D w) : MRW (stM D v) (w.1, w.2.1, v) := ⟨fun i hi => MW1_eq (h.1 i hi) (congrFun (stM_q (by decide)) i) (congrFun (stM_q (by decide)) i) (fun j _ => congrFun (stM_q (by decide)) _), stM_at⟩
theorem mlane_n {D : DD} {i : Nat} {o : Option (Nat × Nat)} {f : Nat → Int32} (h : MW1 D i o f) (c : D 220 i < 0) : o = none := by
  cases o with
  | none => rfl
  | some p =>
    obtain ⟨l, s⟩ := p
    obtain ⟨h1, h2, h3, h4, h5⟩ := h
    rw [h3] at c
    exact absurd c (nI_pos (by omega))
theorem mlane_s {D : DD} {i : Nat} {o : Option (Nat × Nat)} {f : Nat → Int32} (h : MW1 D i o f) (c : ¬ D 220 i < 0) : ∃ l s, o = some (l, s) := by
  cases o with
  | none => exact absurd (show D 220 i < 0 by rw [show D 220 i = -1 from h]; decide) c
  | some p => exact ⟨p.1, p.2, rfl⟩
theorem MRW_set {D D' : DD} {w : RWS} {ρ : Nat} {v : Int32} {o : Option (Nat × Nat)} {f : Nat → Int32} (h : MRW D w) (h1 : MW1 D' ρ o f) (h2 : ∀ i, i ≠ ρ → D' 220 i = D 220 i ∧ D' 221 i = D 221 i) (h3 : ∀ i, i ≠ ρ → ∀ j, j < 40 → D' 222 (40 * i + j) = D 222 (40 * i + j)) (h4 : D' 219 1 = v) : MRW D' (upo w.1 ρ o, upo w.2.1 ρ f, v) := by
  refine ⟨fun i hi => ?_, h4⟩
  by_cases e : i = ρ
  · subst e; show MW1 D' i (upo w.1 i o i) (upo w.2.1 i f i); rw [upo_s, upo_s]; exact h1
  · show MW1 D' i (upo w.1 ρ o i) (upo w.2.1 ρ f i)
    rw [upo_n e, upo_n e]
    exact MW1_eq (h.1 i hi) (h2 i e).1 (h2 i e).2 (h3 i e)
def ZR (D1 D2 : DD) (ρ k : Nat) : Prop := (∀ q, q ≠ 222 → D2 q = D1 q) ∧ (∀ j, j < k → D2 222 (40 * ρ + j) = nI 0) ∧ ∀ i, i ≠ ρ → ∀ j, j < 40 → D2 222 (40 * i + j) = D1 222 (40 * i + j)
theorem ZR_0 {D1 : DD} {ρ : Nat} : ZR D1 D1 ρ 0 := ⟨fun _ _ => rfl, fun j hj => absurd hj (Nat.not_lt_zero j), fun _ _ _ _ => rfl⟩
theorem ZR_s {D1 D2 D3 : DD} {ρ k : Nat} (hk : k < 40) (h : ZR D1 D2 ρ k) (e : D3 = up2 D2 222 (40 * ρ + k) (nI 0)) : ZR D1 D3 ρ (k + 1) := by
  subst e
  obtain ⟨h1, h2, h3⟩ := h
  refine ⟨fun q hq => (up2_o hq).trans (h1 q hq), fun j hj => ?_, fun i hi j hj => (up2_n (fun q => by omega)).trans (h3 i hi j hj)⟩
  by_cases q : j = k
  · subst q; exact up2_s
  · exact (up2_n (fun q => by omega)).trans (h2 j (by omega))
theorem row_end {D0 D1 D2 D3 D : DD} {w : RWS} {ρ l n : Nat} (hR : MRW D0 w) (hl : l ≤ 2) (hn : n ≤ 40) (e1 : D1 = up2 D0 220 ρ (nI l)) (e2 : D2 = up2 D1 221 ρ (nI n)) (h : ZR D2 D3 ρ 40) (hF : FRm D D0) : MRW D3 (upo w.1 ρ (some (l, n)), upo w.2.1 ρ (fun _ => nI 0), w.2.2) ∧ FRm D D3 := by
  have f20 : D3 220 = upd (D0 220) ρ (nI l) := by
    rw [h.1 220 (by decide), e2, up2_o (by decide), e1, up2_eq, upo_s]
  have f21 : D3 221 = upd (D0 221) ρ (nI n) := by
    rw [h.1 221 (by decide), e2, up2_eq, upo_s, e1, up2_o (by decide)]
  have fo : ∀ q, q ≠ 220 → q ≠ 221 → D2 q = D0 q := fun q a b => by rw [e2, up2_o b, e1, up2_o a]
  refine ⟨MRW_set hR ⟨hl, hn, by rw [f20]; exact pk_us, by rw [f21]; exact pk_us, fun j hj => h.2.1 j (by omega)⟩ (fun i hi => ⟨by rw [f20]; exact pk_un hi, by rw [f21]; exact pk_un hi⟩) (fun i hi j hj => (h.2.2 i hi j hj).trans (congrFun (fo 222 (by decide) (by decide)) _)) ((congrFun ((h.1 219 (by decide)).trans (fo 219 (by decide) (by decide))) 1).trans hR.2), fun q a b c d => (h.1 q d).trans ((fo q b c).trans (hF.1 q a b c d)), fun f a b => (congrFun ((h.1 219 (by decide)).trans (fo 219 (by decide) (by decide))) f).trans (hF.2 f a b)⟩
