/-! what is told of rows, in the reference's words; copies of items -/
theorem nG_le {a b : Nat} (ha : a < 2 ^ 63) (hb : b < 2 ^ 63) : nG a ≤ nG b ↔ a ≤ b := by
  rw [Int64.le_iff_toInt_le, nG_toInt ha, nG_toInt hb]
  omega
theorem lgs {y n : Int32} {s : Nat} (hs : s ≤ 40) (hy : ¬ y < 0) (hn : ¬ n < 0) : lg_cmp (y.toInt64 + n.toInt64) ((nI s).toInt64) ≤ 0 ↔ okInB s y n = true := by
  obtain ⟨a, ha, rfl⟩ := nI_of hy
  obtain ⟨b, hb, rfl⟩ := nI_of hn
  rw [lg_cmp_le, nI_G ha, nI_G hb, nI_G (show s < 2 ^ 31 by omega), nG_add, nG_le (by omega) (by omega), okInB_iff]
  constructor
  · intro h; exact okIn_of (by omega) h
  · intro h
    obtain ⟨a', b', h1, h2, h3⟩ := okIn_n (by omega) h
    obtain ⟨o1, o2, o3, o4⟩ := h
    have hbs := (nI_leI hb (by omega)).mp o3
    rw [nI_sub hbs] at o4
    have := (nI_leI ha (by omega)).mp o4
    omega
theorem MXs.mx {D D1 D2 : DD} (h : MXs D D1) (h2 : MX D1 D2) : MXs D D2 := ⟨fun q a b c => (h2.1 q a b c).trans (h.1 q a b c), fun f a b => (h2.2 f a).trans (h.2 f a b)⟩
theorem kd_hours {wy : Nat → Nat} {r : Row} {w kd : Nat} (h5 : r 5 ≤ 6) (hw : w < r 5) : ∀ n, s_hours wy (n + 1) (rset r (16 + 8 * w) kd) = s_hours wy (n + 1) (s_kd r w kd) := by
  intro n
  induction n with
  | zero => exact kd_hour h5 hw
  | succ n ih => exact congrArg (s_hour wy) ih
theorem fits_kd {wy : Nat → Nat} {r : Row} {w kd : Nat} {it : Nat → Int32} {n : Nat} (h5 : r 5 ≤ 6) (hw : w < r 5) : s_fits wy (rset r (16 + 8 * w) kd) it n = s_fits wy (s_kd r w kd) it n := by
  have e : ∀ k, s_told wy (rset r (16 + 8 * w) kd) it k = s_told wy (s_kd r w kd) it k := fun k => by unfold s_told; rw [kd_hours h5 hw]
  unfold s_fits
  congr 1
  funext k
  exact e k
/-- items copied by ones: those from lo to hi are done -/
def CPW (D1 D2 : DD) (ρ σ a c lo hi : Nat) : Prop := (∀ q, q ≠ 222 → D2 q = D1 q) ∧ (∀ t, lo ≤ t → t < hi → D2 222 (40 * σ + c + t) = D1 222 (40 * ρ + a + t)) ∧ ∀ p, (p < 40 * σ + c + lo ∨ 40 * σ + c + hi ≤ p) → D2 222 p = D1 222 p
def cpLo (a c n k : Nat) : Nat := if c ≤ a then 0 else n - k
def cpHi (a c n k : Nat) : Nat := if c ≤ a then k else n
def cpAt (a c n k : Nat) : Nat := if c ≤ a then k else n - 1 - k
theorem CPW_0 {D1 : DD} {ρ σ a c n : Nat} : CPW D1 D1 ρ σ a c (cpLo a c n 0) (cpHi a c n 0) := by
  refine ⟨fun _ _ => rfl, fun t h1 h2 => ?_, fun _ _ => rfl⟩
  unfold cpLo at h1
  unfold cpHi at h2
  split at h1
  · rename_i h; rw [if_pos h] at h2; omega
  · rename_i h; rw [if_neg h] at h2; omega
theorem CPW_s {D1 D2 D3 : DD} {ρ σ a c n k : Nat} {v : Int32} (hk : k < n) (ha : a + n ≤ 40) (hc : c + n ≤ 40) (h : CPW D1 D2 ρ σ a c (cpLo a c n k) (cpHi a c n k)) (hv : v = D2 222 (40 * ρ + a + cpAt a c n k)) (e : D3 = up2 D2 222 (40 * σ + c + cpAt a c n k) v) : CPW D1 D3 ρ σ a c (cpLo a c n (k + 1)) (cpHi a c n (k + 1)) := by
  subst e hv
  obtain ⟨h1, h2, h3⟩ := h
  unfold cpLo cpHi at h2 h3 ⊢
  unfold cpAt
  by_cases u : c ≤ a
  · simp only [if_pos u] at h2 h3 ⊢
    refine ⟨fun q hq => (up2_o hq).trans (h1 q hq), fun t t1 t2 => ?_, fun p hp => (up2_n (fun q => by omega)).trans (h3 p (by omega))⟩
    by_cases q : t = k
    · subst q
      exact up2_s.trans (h3 _ (by omega))
    · exact (up2_n (fun q => by omega)).trans (h2 t t1 (by omega))
  · simp only [if_neg u] at h2 h3 ⊢
    refine ⟨fun q hq => (up2_o hq).trans (h1 q hq), fun t t1 t2 => ?_, fun p hp => (up2_n (fun q => by omega)).trans (h3 p (by omega))⟩
    by_cases q : t = n - 1 - k
    · subst q
      exact up2_s.trans (h3 _ (by omega))
    · exact (up2_n (fun q => by omega)).trans (h2 t (by omega) t2)
theorem CPW_e {D0 D1 D2 : DD} {w : RWS} {ρ σ a c n l s l' s' : Nat} (hR : MRW D1 w) (hρ : ρ < 8) (hσ : σ < 8) (hls : w.1 ρ = some (l, s)) (hls' : w.1 σ = some (l', s')) (ha : a + n ≤ s) (hc : c + n ≤ s') (h : CPW D1 D2 ρ σ a c (cpLo a c n n) (cpHi a c n n)) (hF : FRm D0 D1) : MRW D2 (w.1, upo w.2.1 σ (va_cpy (w.2.1 ρ) (w.2.1 σ) a c n), w.2.2) ∧ FRm D0 D2 := by
  have h0 := hR.1 ρ hρ
  have g0 := hR.1 σ hσ
  rw [hls] at h0
  rw [hls'] at g0
  obtain ⟨h1, h2, h3, h4, h5⟩ := h0
  obtain ⟨g1, g2, g3, g4, g5⟩ := g0
  have hE' : CPW D1 D2 ρ σ a c 0 n := by
    unfold cpLo cpHi at h
    by_cases u : c ≤ a
    · simp only [if_pos u] at h; exact h
    · simp only [if_neg u, Nat.sub_self] at h; exact h
  obtain ⟨k1, k2, k3⟩ := hE'
  have hE : MRW D2 (upo w.1 σ (some (l', s')), upo w.2.1 σ (va_cpy (w.2.1 ρ) (w.2.1 σ) a c n), w.2.2) := by
    refine MRW_set hR ⟨g1, g2, (congrFun (k1 220 (by decide)) _).trans g3, (congrFun (k1 221 (by decide)) _).trans g4, fun j hj => ?_⟩ (fun i hi => ⟨congrFun (k1 220 (by decide)) _, congrFun (k1 221 (by decide)) _⟩) (fun i hi j hj => k3 _ (by omega)) ((congrFun (k1 219 (by decide)) _).trans hR.2)
    by_cases q : c ≤ j ∧ j < c + n
    · rw [pk_cpy_in q.1 q.2]
      have := k2 (j - c) (by omega) (by omega)
      rw [show 40 * σ + c + (j - c) = 40 * σ + j by omega] at this
      rw [this, show 40 * ρ + a + (j - c) = 40 * ρ + (a + (j - c)) by omega]
      exact h5 _ (by omega)
    · rw [pk_cpy_out (by omega)]
      exact (k3 _ (by omega)).trans (g5 j hj)
  rw [← upo_self hls'] at hE
  exact ⟨hE, fun q a1 a2 a3 a4 => (k1 q a4).trans (hF.1 q a1 a2 a3 a4), fun f a1 a2 => (congrFun (k1 219 (by decide)) f).trans (hF.2 f a1 a2)⟩
theorem lgs_n {y n : Int32} {s : Nat} (hs : s ≤ 40) (hy : ¬ y < 0) (hn : ¬ n < 0) : 0 < lg_cmp (y.toInt64 + n.toInt64) ((nI s).toInt64) ↔ ¬ okInB s y n = true := by
  rw [← lgs hs hy hn]
  exact Int32.not_le.symm
