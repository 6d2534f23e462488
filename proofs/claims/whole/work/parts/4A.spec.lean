theorem ok1 {s : Nat} {i : Int32} (hs : s ≤ 40) : okInB s i (nI 1) = true ↔ nI 0 ≤ i ∧ i ≤ nI s - nI 1 := by
  rw [okInB_iff]
  constructor
  · intro h; exact ⟨h.1, h.2.2.2⟩
  · intro h
    obtain ⟨k, hk, hk2⟩ := gd_n (by omega) h
    exact ⟨h.1, nI_pos' (by decide), nI_le (by omega) (by omega), h.2⟩
theorem set_end {D0 D1 D : DD} {w : RWS} {ρ l s k : Nat} {v : Int32} (hR : MRW D0 w) (hρ : ρ < 8) (hls : w.1 ρ = some (l, s)) (hk : k < s) (e : D1 = up2 D0 222 (40 * ρ + k) v) (hF : FRm D D0) : MRW D1 (w.1, upo w.2.1 ρ (upd (w.2.1 ρ) k v), w.2.2) ∧ FRm D D1 := by
  subst e
  have h0 := hR.1 ρ hρ
  rw [hls] at h0
  obtain ⟨h1, h2, h3, h4, h5⟩ := h0
  have hE : MRW (up2 D0 222 (40 * ρ + k) v) (upo w.1 ρ (some (l, s)), upo w.2.1 ρ (upd (w.2.1 ρ) k v), w.2.2) := by
    refine MRW_set hR ⟨h1, h2, (congrFun (up2_o (by decide)) _).trans h3, (congrFun (up2_o (by decide)) _).trans h4, fun j hj => ?_⟩ (fun i hi => ⟨congrFun (up2_o (by decide)) _, congrFun (up2_o (by decide)) _⟩) (fun i hi j hj => up2_n (fun q => by omega)) ((congrFun (up2_o (by decide)) _).trans hR.2)
    unfold upd
    by_cases q : j = k
    · subst q; rw [if_pos rfl]; exact up2_s
    · rw [if_neg q]; exact (up2_n (fun q2 => by omega)).trans (h5 j hj)
  rw [← upo_self hls] at hE
  exact ⟨hE, hF.up (Or.inr (Or.inr rfl))⟩
