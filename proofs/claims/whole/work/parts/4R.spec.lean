/-! the ways, as both lay them -/
theorem mn_n {x y : Nat} (hx : x < 2 ^ 31) (hy : y < 2 ^ 31) : (if nI y < nI x then nI y else nI x) = nI (min x y) := by
  by_cases h : y < x
  · rw [if_pos (nI_lt h hx), Nat.min_eq_right (by omega)]
  · rw [if_neg (fun q => h ((nI_ltI hy hx).mp q)), Nat.min_eq_left (by omega)]
def W0I (D D2 : DD) (r : Row) (i : Nat) : Prop := (∀ q, q ≠ 181 → D2 q = D q) ∧ ∀ j, j < i → D2 181 j = nI (s_w0 r (j / 6) (j % 6))
theorem W0I_0 {D : DD} {r : Row} : W0I D D r (6 * 0) := ⟨fun _ _ => rfl, fun j hj => absurd hj (Nat.not_lt_zero j)⟩
theorem W0I_s {D D2 D3 : DD} {r : Row} {a b : Nat} {v : Int32} (h : W0I D D2 r (6 * a + b)) (hb : b < 6) (hv : v = nI (s_w0 r a b)) (e : D3 = up2 D2 181 (6 * a + b) v) : W0I D D3 r (6 * a + (b + 1)) := by
  subst e hv
  refine ⟨fun q hq => (up2_o hq).trans (h.1 q hq), fun j hj => ?_⟩
  by_cases q : j = 6 * a + b
  · subst q
    rw [show (6 * a + b) / 6 = a by omega, show (6 * a + b) % 6 = b by omega]
    exact up2_s
  · exact (up2_n (fun u => q u.2)).trans (h.2 j (by omega))
def WMI (D D2 : DD) (r : Row) (m i : Nat) : Prop := (∀ q, q ≠ 181 → D2 q = D q) ∧ ∀ j, j < 36 → D2 181 j = nI (if j < i then s_fw r (m + 1) (j / 6) (j % 6) else s_fw r m (j / 6) (j % 6))
theorem WMI_0 {D D2 : DD} {r : Row} (h : W0I D D2 r 36) : WMI D D2 r 0 0 := ⟨h.1, fun j hj => (h.2 j hj).trans (by rw [if_neg (Nat.not_lt_zero j)]; rfl)⟩
theorem WMI_n {D D2 : DD} {r : Row} {m : Nat} (h : WMI D D2 r m 36) : WMI D D2 r (m + 1) 0 := ⟨h.1, fun j hj => (h.2 j hj).trans (by rw [if_pos hj, if_neg (Nat.not_lt_zero j)])⟩
theorem WMI_at {D D2 : DD} {r : Row} {m i x y : Nat} (h : WMI D D2 r m i) (hx : x < 6) (hy : y < 6) (e : i ≤ 6 * x + y ∨ x = m ∨ y = m) : D2 181 (6 * x + y) = nI (s_fw r m x y) := by
  rw [h.2 _ (by omega), show (6 * x + y) / 6 = x by omega, show (6 * x + y) % 6 = y by omega]
  by_cases q : 6 * x + y < i
  · rw [if_pos q, fw_s]
    have z := fw_0 (r := r) m m
    rcases e with e | rfl | rfl
    · omega
    · rw [z]; congr 1; omega
    · congr 1; omega
  · rw [if_neg q]
theorem WMI_s {D D2 D3 : DD} {r : Row} {m a b : Nat} {v : Int32} (h : WMI D D2 r m (6 * a + b)) (hb : b < 6) (hv : v = nI (s_fw r (m + 1) a b)) (e : D3 = up2 D2 181 (6 * a + b) v) : WMI D D3 r m (6 * a + (b + 1)) := by
  subst e hv
  refine ⟨fun q hq => (up2_o hq).trans (h.1 q hq), fun j hj => ?_⟩
  by_cases q : j = 6 * a + b
  · subst q
    rw [if_pos (by omega), show (6 * a + b) / 6 = a by omega, show (6 * a + b) % 6 = b by omega]
    exact up2_s
  · rw [up2_n (fun u => q u.2), h.2 j hj]
    congr 1
    by_cases u : j < 6 * a + b
    · rw [if_pos u, if_pos (by omega)]
    · rw [if_neg u, if_neg (by omega)]
theorem WMI_e {D D2 : DD} {r : Row} (h : WMI D D2 r 6 0) : (∀ q, q ≠ 181 → D2 q = D q) ∧ ∀ j, j < 36 → D2 181 j = nI (s_far r j) := ⟨h.1, fun j hj => (h.2 j hj).trans (by rw [if_neg (Nat.not_lt_zero j)]; rfl)⟩
/-- the reference's ways: the places ahead of a are done -/
def LFI (D D2 : DD) (r : Row) (a : Nat) : Prop := (∀ q, q ≠ 228 → D2 q = D q) ∧ ∀ j, j < 6 * a → D2 228 j = nI (s_far r j)
theorem LFI_0 {D : DD} {r : Row} : LFI D D r 0 := ⟨fun _ _ => rfl, fun j hj => absurd hj (Nat.not_lt_zero j)⟩
/-- .. and of place a those ahead of t at g, the others at f -/
def LFT (D D2 : DD) (r : Row) (a t : Nat) (g f : Nat → Nat) : Prop := LFI D D2 r a ∧ ∀ u, u < 6 → D2 228 (6 * a + u) = nI (if u < t then g u else f u)
def LFB (D D2 : DD) (r : Row) (a t : Nat) : Prop := LFI D D2 r a ∧ ∀ u, u < t → D2 228 (6 * a + u) = nI (s_bv r a u 0)
theorem LFB_s {D D2 D3 : DD} {r : Row} {a t : Nat} {v : Int32} (h : LFB D D2 r a t) (hv : v = nI (if a = t then 0 else 9)) (e : D3 = up2 D2 228 (6 * a + t) v) : LFB D D3 r a (t + 1) := by
  subst e hv
  obtain ⟨⟨h1, h2⟩, h3⟩ := h
  refine ⟨⟨fun q hq => (up2_o hq).trans (h1 q hq), fun j hj => (up2_n (fun q => by omega)).trans (h2 j hj)⟩, fun u hu => ?_⟩
  by_cases q : u = t
  · subst q; exact up2_s
  · exact (up2_n (fun w => by omega)).trans (h3 u (by omega))
theorem LFT_s {D D2 D3 : DD} {r : Row} {a t : Nat} {g f : Nat → Nat} {v : Int32} (h : LFT D D2 r a t g f) (hv : v = nI (g t)) (e : D3 = up2 D2 228 (6 * a + t) v) : LFT D D3 r a (t + 1) g f := by
  subst e hv
  obtain ⟨⟨h1, h2⟩, h3⟩ := h
  refine ⟨⟨fun q hq => (up2_o hq).trans (h1 q hq), fun j hj => (up2_n (fun q => by omega)).trans (h2 j hj)⟩, fun u hu => ?_⟩
  by_cases q : u = t
  · subst q; rw [if_pos (by omega)]; exact up2_s
  · rw [up2_n (fun w => by omega), h3 u hu]
    by_cases w : u < t
    · rw [if_pos w, if_pos (by omega)]
    · rw [if_neg w, if_neg (by omega)]
theorem LFT_0 {D D2 : DD} {r : Row} {a : Nat} {g f : Nat → Nat} (h : LFI D D2 r a ∧ ∀ u, u < 6 → D2 228 (6 * a + u) = nI (f u)) : LFT D D2 r a 0 g f := ⟨h.1, fun u hu => (h.2 u hu).trans (by rw [if_neg (Nat.not_lt_zero u)])⟩
theorem LFT_e {D D2 : DD} {r : Row} {a k : Nat} (hR : RG r) (h : LFT D D2 r a (r 0) (fun u => s_bv r a u (k + 1)) (fun u => s_bv r a u k)) : LFI D D2 r a ∧ ∀ u, u < 6 → D2 228 (6 * a + u) = nI (s_bv r a u (k + 1)) := by
  refine ⟨h.1, fun u hu => (h.2 u hu).trans ?_⟩
  by_cases w : u < r 0
  · rw [if_pos w]
  · rw [if_neg w]
    show nI (s_bv r a u k) = nI (s_bv r a u (k + 1))
    rw [bv_out hR (by omega) (k + 1), bv_out hR (by omega) k]
theorem LFI_s {D D2 : DD} {r : Row} {a : Nat} (hR : RG r) (ha : a < 6) (h : LFI D D2 r a ∧ ∀ u, u < 6 → D2 228 (6 * a + u) = nI (s_bv r a u 5)) : LFI D D2 r (a + 1) := by
  refine ⟨h.1.1, fun j hj => ?_⟩
  by_cases q : j < 6 * a
  · exact h.1.2 j q
  · have := h.2 (j - 6 * a) (by omega)
    rw [show 6 * a + (j - 6 * a) = j by omega, bv_end hR ha (by omega), ← far_at (by omega), show 6 * a + (j - 6 * a) = j by omega] at this
    exact this
