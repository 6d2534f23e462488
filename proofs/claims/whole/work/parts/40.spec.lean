/-! the reference's acts -/
def KM (D : DD) (kp : Nat) (A : Nat → Row) : Prop := D 219 9 = nI kp ∧ kp ≤ 24 ∧ ∀ i, i < kp → ∀ j, j < 64 → D 226 (64 * i + j) = nI (A i j)
def KX (D D' : DD) : Prop := (∀ q, q ≠ 219 → q ≠ 226 → D' q = D q) ∧ ∀ f, f ≠ 9 → D' 219 f = D 219 f
theorem KX.rf {D : DD} : KX D D := ⟨fun _ _ _ => rfl, fun _ _ => rfl⟩
def SV (D1 D2 : DD) (a k : Nat) (r : Row) : Prop := (∀ q, q ≠ 226 → D2 q = D1 q) ∧ (∀ j, j < k → D2 226 (64 * a + j) = nI (r j)) ∧ ∀ j, (j < 64 * a ∨ 64 * a + k ≤ j) → D2 226 j = D1 226 j
theorem SV_0 {D1 : DD} {a : Nat} {r : Row} : SV D1 D1 a 0 r := ⟨fun _ _ => rfl, fun j hj => absurd hj (Nat.not_lt_zero j), fun _ _ => rfl⟩
theorem SV_s {D1 D2 : DD} {a k : Nat} {r : Row} (h : SV D1 D2 a k r) : SV D1 (up2 D2 226 (64 * a + k) (nI (r k))) a (k + 1) r := by
  obtain ⟨h1, h2, h3⟩ := h
  refine ⟨fun q hq => (up2_o hq).trans (h1 q hq), fun j hj => ?_, fun j hj => (up2_n (fun q => by omega)).trans (h3 j (by omega))⟩
  by_cases e : j = k
  · subst e; exact up2_s
  · exact (up2_n (fun q => by omega)).trans (h2 j (by omega))
theorem keepM_end {D D1 D2 : DD} {a kp : Nat} {A : Nat → Row} {r : Row} (h : SV D1 D2 a 64 r) (hB : ∀ i, i < a → ∀ j, j < 64 → D1 226 (64 * i + j) = nI (s_push kp A r i j)) (hK : KX D D1) (ha : a + 1 = min 24 (kp + 1)) (hr : s_push kp A r a = r) : KM (up2 D2 219 9 (nI (a + 1))) (min 24 (kp + 1)) (s_push kp A r) ∧ KX D (up2 D2 219 9 (nI (a + 1))) := by
  obtain ⟨h1, h2, h3⟩ := h
  refine ⟨⟨by rw [← ha]; exact up2_s, Nat.min_le_left _ _, fun i hi j hj => ?_⟩, fun q a1 a2 => (up2_o a1).trans ((h1 q a2).trans (hK.1 q a1 a2)), fun f hf => (up2_n (fun q => hf q.2)).trans ((congrFun (h1 219 (by decide)) f).trans (hK.2 f hf))⟩
  rw [up2_o (show (226 : Nat) ≠ 219 by decide)]
  by_cases e : i = a
  · subst e; rw [hr]; exact h2 j hj
  · exact (h3 _ (by omega)).trans (hB i (by omega) j hj)
def SH (D D2 : DD) (k : Nat) : Prop := (∀ q, q ≠ 226 → D2 q = D q) ∧ (∀ j, j < k → D2 226 j = D 226 (j + 64)) ∧ ∀ j, k ≤ j → D2 226 j = D 226 j
theorem SH_0 {D : DD} : SH D D 0 := ⟨fun _ _ => rfl, fun j hj => absurd hj (Nat.not_lt_zero j), fun _ _ => rfl⟩
theorem SH_s {D D2 : DD} {k : Nat} {v : Int32} (h : SH D D2 k) (hv : v = D2 226 (k + 64)) : SH D (up2 D2 226 k v) (k + 1) := by
  obtain ⟨h1, h2, h3⟩ := h
  refine ⟨fun q hq => (up2_o hq).trans (h1 q hq), fun j hj => ?_, fun j hj => (up2_n (fun q => by omega)).trans (h3 j (by omega))⟩
  by_cases e : j = k
  · subst e; exact up2_s.trans (hv.trans (h3 _ (by omega)))
  · exact (up2_n (fun q => e q.2)).trans (h2 j (by omega))
theorem keepM_sh {D D2 : DD} {kp : Nat} {A : Nat → Row} {r : Row} (e24 : kp = 24) (hK : KM D kp A) (h : SH D D2 1472) : (∀ i, i < 23 → ∀ j, j < 64 → up2 D2 219 9 (nI 23) 226 (64 * i + j) = nI (s_push kp A r i j)) ∧ KX D (up2 D2 219 9 (nI 23)) := by
  subst e24
  obtain ⟨h1, h2, h3⟩ := h
  refine ⟨fun i hi j hj => ?_, fun q a1 a2 => (up2_o a1).trans (h1 q a2), fun f hf => (up2_n (fun q => hf q.2)).trans (congrFun (h1 219 (by decide)) f)⟩
  rw [up2_o (show (226 : Nat) ≠ 219 by decide), h2 _ (by omega)]
  have e : 64 * i + j + 64 = 64 * (i + 1) + j := by omega
  rw [e, hK.2.2 (i + 1) (by omega) j hj]
  unfold s_push
  rw [if_pos rfl, if_neg (by omega)]
