/-! the reference's tokens -/
def s_t0 (t : TPt) (c : Nat) : Nat := if t.1 ≤ c then 1 else if 97 ≤ s_by t c ∧ s_by t c ≤ 122 then 2 else if 48 ≤ s_by t c ∧ s_by t c ≤ 57 then 3 else if s_by t c = 44 ∨ s_by t c = 59 then 4 else 0
def s_tk (t : TPt) (c : Nat) : Nat := if s_t0 t c = 3 ∧ 2 < s_ln t c then 0 else s_t0 t c
def s_rv (t : TPt) (c : Nat) : Int32 := if c < t.1 then nI (t.2 c) else -1000000
def s_vn (t : TPt) (c : Nat) : Nat := if s_t0 t c = 3 then s_v t c (s_ln t c) else s_by t c
def s_nx (t : TPt) (c : Nat) : Nat := if s_t0 t c = 3 then c + s_ln t c else c + 1
theorem s_t0_le {t : TPt} {c : Nat} : s_t0 t c ≤ 4 := by unfold s_t0; split <;> (try split) <;> (try split) <;> (try split) <;> omega
theorem s_tk_le {t : TPt} {c : Nat} : s_tk t c ≤ 4 := by have := s_t0_le (t := t) (c := c); unfold s_tk; split <;> omega
theorem t0_3 {t : TPt} {c : Nat} : s_t0 t c = 3 ↔ s_fg t c := by
  unfold s_t0 s_fg s_by
  by_cases h : c < t.1
  · rw [if_neg (by omega), if_pos h]
    by_cases a : 97 ≤ t.2 c ∧ t.2 c ≤ 122
    · rw [if_pos a]; omega
    · rw [if_neg a]
      by_cases b : 48 ≤ t.2 c ∧ t.2 c ≤ 57
      · rw [if_pos b]; exact ⟨fun _ => b, fun _ => rfl⟩
      · rw [if_neg b]
        refine ⟨fun q => ?_, fun q => absurd q b⟩
        split at q <;> omega
  · rw [if_pos (by omega), if_neg h]; omega
/-- what a token is, in the reference's fields -/
def MTK (g : Nat → Int32) (t : TPt) (c : Nat) : Prop := g 13 = nI c ∧ g 14 = nI (s_tk t c) ∧ (2 ≤ s_tk t c → g 15 = nI (s_vn t c)) ∧ ∃ c', g 12 = nI c' ∧ c' ≤ t.1 ∧ (2 ≤ s_tk t c → c' = s_nx t c)
def TFm (D D' : DD) : Prop := (∀ q, q ≠ 219 → D' q = D q) ∧ ∀ f, (f < 12 ∨ 15 < f) → D' 219 f = D 219 f
theorem nt_a {t : TPt} {c c1 : Nat} {f : Nat → Int32} (hc : c ≤ t.1) (h1 : c1 = if c < t.1 then c + 1 else c) (h : ¬ s_t0 t c = 3) : MTK (upd (upd (upd (upd f 13 (nI c)) 15 (s_rv t c)) 14 (nI (s_t0 t c))) 12 (nI c1)) t c := by
  have e : s_tk t c = s_t0 t c := if_neg (fun q => h q.1)
  have lt : 2 ≤ s_t0 t c → c < t.1 := fun q => by
    unfold s_t0 at q
    by_cases u : t.1 ≤ c
    · rw [if_pos u] at q; omega
    · omega
  refine ⟨rfl, by rw [e]; rfl, fun q => ?_, c1, rfl, ?_, fun q => ?_⟩
  · have l := lt (e ▸ q)
    show s_rv t c = _
    unfold s_rv s_vn s_by
    rw [if_pos l, if_neg h, if_pos l]
  · rw [h1]; split <;> omega
  · have l := lt (e ▸ q)
    unfold s_nx
    rw [h1, if_pos l, if_neg h]
def NTI (D : DD) (t : TPt) (c k : Nat) (g : Nat → Int32) : Prop := g 12 = nI (c + 1 + k) ∧ c + 1 + k ≤ t.1 ∧ (∀ i, i < k + 1 → s_fg t (c + i)) ∧ g 15 = nI (s_v t c (min 2 (k + 1))) ∧ g 13 = nI c ∧ ∀ f, (f < 12 ∨ 15 < f) → g f = D 219 f
theorem NTI_s {D : DD} {t : TPt} {c k : Nat} {g : Nat → Int32} (h : NTI D t c k g) (hl : c + 1 + k < t.1) (hf : s_fg t (c + 1 + k)) : NTI D t c (k + 1) (upd (upd g 15 (nI (s_v t c (min 2 (k + 2))))) 12 (nI (c + 1 + k + 1))) := by
  obtain ⟨h1, h2, h3, h4, h5, h6⟩ := h
  refine ⟨rfl, by omega, fun i hi => ?_, rfl, h5, fun f hf => ?_⟩
  · by_cases q : i < k + 1
    · exact h3 i q
    · obtain rfl : i = k + 1 := by omega
      rw [show c + (k + 1) = c + 1 + k by omega]
      exact hf
  · exact (pk_un (by omega)).trans ((pk_un (by omega)).trans (h6 f hf))
theorem v_step {t : TPt} {c k : Nat} (hk : k + 1 < 2) (hf : s_fg t (c + 1 + k)) : 10 * s_v t c (min 2 (k + 1)) + s_by t (c + 1 + k) - 48 = s_v t c (min 2 (k + 2)) := by
  obtain rfl : k = 0 := by omega
  show 10 * s_v t c 1 + s_by t (c + 1) - 48 = 10 * s_v t c 1 + (s_by t (c + 1) - 48)
  have := hf.1
  have e : c + 1 + 0 = c + 1 := rfl
  rw [e] at this
  omega
theorem ln_run {t : TPt} {c k : Nat} (h : ∀ i, i < k + 1 → s_fg t (c + i)) (hn : ¬ s_fg t (c + (k + 1))) : s_ln t c = min 3 (k + 1) := by
  by_cases q : k + 1 < 3
  · rw [show min 3 (k + 1) = k + 1 by omega]
    exact ln_of h (Or.inr ⟨q, hn⟩)
  · rw [show min 3 (k + 1) = 3 by omega]
    exact ln_of (fun i hi => h i (by omega)) (Or.inl rfl)
theorem nt_b {D : DD} {t : TPt} {c k : Nat} {g : Nat → Int32} (h : NTI D t c k g) (hn : ¬ s_fg t (c + (k + 1))) (hk : k + 1 ≤ 2) : MTK (upd g 14 (nI 3)) t c := by
  obtain ⟨h1, h2, h3, h4, h5, h6⟩ := h
  have e3 : s_t0 t c = 3 := t0_3.mpr (h3 0 (by omega))
  have el := ln_run h3 hn
  rw [show min 3 (k + 1) = k + 1 by omega] at el
  have e : s_tk t c = 3 := by unfold s_tk; rw [if_neg (fun q => by omega), e3]
  refine ⟨h5, by rw [e]; rfl, fun _ => ?_, c + 1 + k, h1, h2, fun _ => ?_⟩
  · show g 15 = _
    unfold s_vn
    rw [h4, if_pos e3, el, show min 2 (k + 1) = k + 1 by omega]
  · unfold s_nx; rw [if_pos e3, el]; omega
theorem nt_c {D : DD} {t : TPt} {c k : Nat} {g : Nat → Int32} (h : NTI D t c k g) (hn : ¬ s_fg t (c + (k + 1))) (hk : ¬ k + 1 ≤ 2) : MTK (upd g 14 (nI 0)) t c := by
  obtain ⟨h1, h2, h3, h4, h5, h6⟩ := h
  have e3 : s_t0 t c = 3 := t0_3.mpr (h3 0 (by omega))
  have el := ln_run h3 hn
  have e : s_tk t c = 0 := by unfold s_tk; rw [if_pos ⟨e3, by omega⟩]
  refine ⟨h5, by rw [e]; rfl, fun q => by omega, c + 1 + k, h1, h2, fun q => by omega⟩
theorem NTI_0 {D : DD} {t : TPt} {c c1 : Nat} {v w : Int32} (h1 : c1 = c + 1) (hl : c < t.1) (hf : s_fg t c) (hb : s_by t c = t.2 c) : NTI D t c 0 (upd (upd (upd (upd (upd (D 219) 13 (nI c)) 15 v) 14 w) 12 (nI c1)) 15 (nI (t.2 c - 48))) := by
  refine ⟨?_, by omega, fun i hi => ?_, ?_, rfl, fun f hf => ?_⟩
  · rw [h1]; rfl
  · obtain rfl : i = 0 := by omega
    exact hf
  · show nI (t.2 c - 48) = nI (10 * 0 + (s_by t (c + 0) - 48))
    rw [show c + 0 = c from rfl, hb, Nat.mul_zero, Nat.zero_add]
  · exact (pk_un (by omega)).trans ((pk_un (by omega)).trans ((pk_un (by omega)).trans ((pk_un (by omega)).trans (pk_un (by omega)))))
