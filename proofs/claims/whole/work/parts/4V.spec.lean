/-! a text is read: where one stands, the fault, its place -/
abbrev PSt : Type := Nat × Nat × Nat
def s_by (t : TPt) (i : Nat) : Nat := if i < t.1 then t.2 i else 256
def s_fg (t : TPt) (i : Nat) : Prop := 48 ≤ s_by t i ∧ s_by t i ≤ 57
def s_fgB (t : TPt) (i : Nat) : Bool := decide (48 ≤ s_by t i) && decide (s_by t i ≤ 57)
theorem s_fgB_iff {t : TPt} {i : Nat} : s_fgB t i = true ↔ s_fg t i := by simp [s_fgB, s_fg]
/-- how many figures stand there, 3 at most; the number that k figures tell -/
def s_ln (t : TPt) (c : Nat) : Nat := if s_fgB t c = true then (if s_fgB t (c + 1) = true then (if s_fgB t (c + 2) = true then 3 else 2) else 1) else 0
def s_v (t : TPt) (c : Nat) : Nat → Nat
  | 0 => 0
  | k + 1 => 10 * s_v t c k + (s_by t (c + k) - 48)
theorem ln_of {t : TPt} {c k : Nat} (h : ∀ i, i < k → s_fg t (c + i)) (h2 : k = 3 ∨ k < 3 ∧ ¬ s_fg t (c + k)) : s_ln t c = k := by
  unfold s_ln
  have hk : k = 0 ∨ k = 1 ∨ k = 2 ∨ k = 3 := by omega
  rcases hk with rfl | rfl | rfl | rfl
  · rw [if_neg (fun q => (h2.resolve_left (by decide)).2 (show s_fg t c from s_fgB_iff.mp q))]
  · rw [if_pos (s_fgB_iff.mpr (show s_fg t c from h 0 (by decide))), if_neg (fun q => (h2.resolve_left (by decide)).2 (s_fgB_iff.mp q))]
  · rw [if_pos (s_fgB_iff.mpr (show s_fg t c from h 0 (by decide))), if_pos (s_fgB_iff.mpr (h 1 (by decide))), if_neg (fun q => (h2.resolve_left (by decide)).2 (s_fgB_iff.mp q))]
  · rw [if_pos (s_fgB_iff.mpr (show s_fg t c from h 0 (by decide))), if_pos (s_fgB_iff.mpr (h 1 (by decide))), if_pos (s_fgB_iff.mpr (h 2 (by decide)))]
theorem ln_fg {t : TPt} {c i : Nat} (h : i < s_ln t c) : s_fg t (c + i) := by
  unfold s_ln at h
  by_cases h0 : s_fgB t c = true
  · rw [if_pos h0] at h
    by_cases h1 : s_fgB t (c + 1) = true
    · rw [if_pos h1] at h
      by_cases h2 : s_fgB t (c + 2) = true
      · rw [if_pos h2] at h
        rcases (show i = 0 ∨ i = 1 ∨ i = 2 by omega) with rfl | rfl | rfl
        · exact s_fgB_iff.mp h0
        · exact s_fgB_iff.mp h1
        · exact s_fgB_iff.mp h2
      · rw [if_neg h2] at h
        rcases (show i = 0 ∨ i = 1 by omega) with rfl | rfl
        · exact s_fgB_iff.mp h0
        · exact s_fgB_iff.mp h1
    · rw [if_neg h1] at h
      obtain rfl : i = 0 := by omega
      exact s_fgB_iff.mp h0
  · rw [if_neg h0] at h; omega
theorem fg_lt {t : TPt} {i : Nat} (h : s_fg t i) : i < t.1 := by
  unfold s_fg s_by at h
  by_cases q : i < t.1
  · exact q
  · rw [if_neg q] at h; omega
theorem ln_le {t : TPt} {c : Nat} (h : c ≤ t.1) : c + s_ln t c ≤ t.1 := by
  by_cases q : s_ln t c = 0
  · omega
  · have := fg_lt (ln_fg (t := t) (c := c) (i := s_ln t c - 1) (by omega))
    omega
theorem ln_3 {t : TPt} {c : Nat} : s_ln t c ≤ 3 := by
  unfold s_ln
  split
  · split
    · split <;> omega
    · omega
  · omega
theorem v_lt {t : TPt} {c : Nat} : ∀ k, (∀ i, i < k → s_fg t (c + i)) → s_v t c k < 10 ^ k := by
  intro k
  induction k with
  | zero => intro _; exact Nat.one_pos
  | succ k ih =>
    intro h
    have h1 := ih (fun i hi => h i (by omega))
    have h2 := h k (by omega)
    unfold s_fg at h2
    show 10 * s_v t c k + (s_by t (c + k) - 48) < 10 ^ (k + 1)
    rw [Nat.pow_succ]
    omega
theorem v_999 {t : TPt} {c k : Nat} (hk : k ≤ 3) (h : ∀ i, i < k → s_fg t (c + i)) : s_v t c k ≤ 999 := by
  have h1 := v_lt k h
  have h2 : 10 ^ k ≤ 10 ^ 3 := Nat.pow_le_pow_right (by decide) hk
  omega
/-- a fault is told; a letter must stand there; a number -/
def p_fl (n : Nat) (s : PSt) : PSt := if s.2.1 = 0 then (s.1, n, s.1) else s
def p_ex (t : TPt) (c : Nat) (s : PSt) : PSt := if s.2.1 = 0 then (if s_by t s.1 = c then (s.1 + 1, 0, s.2.2) else (s.1, 1, s.1)) else s
def p_nm (t : TPt) (lo hi : Nat) (s : PSt) : PSt := if s.2.1 = 0 then (if s_ln t s.1 = 0 ∨ 2 < s_ln t s.1 then (s.1, 1, s.1) else if lo ≤ s_v t s.1 (s_ln t s.1) ∧ s_v t s.1 (s_ln t s.1) ≤ hi then (s.1 + s_ln t s.1, 0, s.2.2) else (s.1, 2, s.1)) else s
def p_vl (t : TPt) (s : PSt) : Nat := s_v t s.1 (s_ln t s.1)
def PK (t : TPt) (s : PSt) : Prop := s.1 ≤ t.1 ∧ s.2.1 ≤ 3 ∧ s.2.2 ≤ 120
theorem PK_fl {t : TPt} {n : Nat} {s : PSt} (ht : t.1 ≤ 120) (hn : n ≤ 3) (h : PK t s) : PK t (p_fl n s) := by
  unfold p_fl
  split
  · exact ⟨h.1, hn, Nat.le_trans h.1 ht⟩
  · exact h
theorem by_lt {t : TPt} {i c : Nat} (hc : c ≤ 255) (h : s_by t i = c) : i < t.1 := by
  unfold s_by at h
  by_cases q : i < t.1
  · exact q
  · rw [if_neg q] at h; omega
theorem PK_ex {t : TPt} {c : Nat} {s : PSt} (ht : t.1 ≤ 120) (hc : c ≤ 255) (h : PK t s) : PK t (p_ex t c s) := by
  unfold p_ex
  split
  · split
    · rename_i q; have := by_lt hc q; exact ⟨by show s.1 + 1 ≤ t.1; omega, by show 0 ≤ 3; omega, h.2.2⟩
    · exact ⟨h.1, by show 1 ≤ 3; omega, Nat.le_trans h.1 ht⟩
  · exact h
theorem PK_nm {t : TPt} {lo hi : Nat} {s : PSt} (ht : t.1 ≤ 120) (h : PK t s) : PK t (p_nm t lo hi s) := by
  unfold p_nm
  split
  · split
    · exact ⟨h.1, by show 1 ≤ 3; omega, Nat.le_trans h.1 ht⟩
    · split
      · exact ⟨ln_le h.1, by show 0 ≤ 3; omega, h.2.2⟩
      · exact ⟨h.1, by show 2 ≤ 3; omega, Nat.le_trans h.1 ht⟩
  · exact h
theorem nm_ok {t : TPt} {lo hi : Nat} {s : PSt} (h : (p_nm t lo hi s).2.1 = 0) : s.2.1 = 0 ∧ lo ≤ p_vl t s ∧ p_vl t s ≤ hi ∧ p_nm t lo hi s = (s.1 + s_ln t s.1, 0, s.2.2) ∧ 1 ≤ s_ln t s.1 := by
  unfold p_nm at h ⊢
  by_cases q : s.2.1 = 0
  · rw [if_pos q] at h ⊢
    by_cases u : s_ln t s.1 = 0 ∨ 2 < s_ln t s.1
    · rw [if_pos u] at h; exact absurd (show (1 : Nat) = 0 from h) (by decide)
    · rw [if_neg u] at h ⊢
      by_cases w : lo ≤ s_v t s.1 (s_ln t s.1) ∧ s_v t s.1 (s_ln t s.1) ≤ hi
      · rw [if_pos w]; exact ⟨q, w.1, w.2, rfl, by omega⟩
      · rw [if_neg w] at h; exact absurd (show (2 : Nat) = 0 from h) (by decide)
  · rw [if_neg q] at h; exact absurd h q
theorem ex_ok {t : TPt} {c : Nat} {s : PSt} (h : (p_ex t c s).2.1 = 0) : s.2.1 = 0 ∧ s_by t s.1 = c ∧ p_ex t c s = (s.1 + 1, 0, s.2.2) := by
  unfold p_ex at h ⊢
  by_cases q : s.2.1 = 0
  · rw [if_pos q] at h ⊢
    by_cases u : s_by t s.1 = c
    · rw [if_pos u]; exact ⟨q, u, rfl⟩
    · rw [if_neg u] at h; exact absurd (show (1 : Nat) = 0 from h) (by decide)
  · rw [if_neg q] at h; exact absurd h q
theorem ex_f {t : TPt} {c : Nat} {s : PSt} (h : ¬ s.2.1 = 0) : p_ex t c s = s := if_neg h
theorem nm_f {t : TPt} {lo hi : Nat} {s : PSt} (h : ¬ s.2.1 = 0) : p_nm t lo hi s = s := if_neg h
theorem fl_f {n : Nat} {s : PSt} (h : ¬ s.2.1 = 0) : p_fl n s = s := if_neg h
/-! the class's tape -/
def TS (D : DD) (t : TPt) (s : PSt) : Prop := TP D t ∧ D 13 2 = nI s.1 ∧ D 13 3 = nI s.2.1 ∧ (s.2.1 = 0 ∨ D 13 4 = nI s.2.2) ∧ PK t s
def F13 (D D' : DD) : Prop := ∀ q, q ≠ 13 → D' q = D q
theorem F13.rf {D : DD} : F13 D D := fun _ _ => rfl
theorem F13.trans {D D1 D2 : DD} (h : F13 D D1) (h2 : F13 D1 D2) : F13 D D2 := fun q a => (h2 q a).trans (h q a)
theorem F13.up {D D1 : DD} {k : Nat} {v : Int32} (h : F13 D D1) : F13 D (up2 D1 13 k v) := fun q a => (up2_o a).trans (h q a)
def byI (t : TPt) (i : Nat) : Int32 := if i < t.1 then nI (t.2 i) else -1
theorem byI_eq {t : TPt} {i c : Nat} (ht : ∀ j, j < t.1 → t.2 j ≤ 255) (hc : c ≤ 255) : byI t i = nI c ↔ s_by t i = c := by
  unfold byI s_by
  by_cases q : i < t.1
  · rw [if_pos q, if_pos q]; exact nI_eq (by have := ht i q; omega) (by omega)
  · rw [if_neg q, if_neg q]
    have : ∀ c, c < 256 → ¬ (-1 : Int32) = nI c := by decide +kernel
    exact ⟨fun h => absurd h (this c (by omega)), fun h => by omega⟩
theorem byI_fg {t : TPt} {i : Nat} (ht : ∀ j, j < t.1 → t.2 j ≤ 255) : (nI 48 ≤ byI t i ∧ byI t i ≤ nI 57) ↔ s_fgB t i = true := by
  rw [s_fgB_iff]
  unfold byI s_fg s_by
  by_cases q : i < t.1
  · have := ht i q
    rw [if_pos q, if_pos q, nI_leI (by decide) (by omega), nI_leI (by omega) (by decide)]
  · rw [if_neg q, if_neg q]
    exact ⟨fun h => absurd h.1 (by decide), fun h => by omega⟩
theorem byI_v {t : TPt} {i : Nat} (ht : ∀ j, j < t.1 → t.2 j ≤ 255) (h : s_fg t i) : byI t i = nI (s_by t i) := by
  have := fg_lt h
  unfold byI s_by
  rw [if_pos this, if_pos this]
theorem TS_at {D D1 : DD} {t : TPt} {s : PSt} {x : Nat} (h : TS D t s) (hx : x ≤ t.1) (e : D1 = up2 D 13 2 (nI x)) : TS D1 t (x, s.2.1, s.2.2) := by
  subst e
  obtain ⟨⟨a, b, c⟩, d, f, g, k⟩ := h
  exact ⟨⟨(up2_n (by decide)).trans a, b, fun j hj => ⟨(congrFun (up2_o (by decide)) j).trans (c j hj).1, (c j hj).2⟩⟩, up2_s, (up2_n (by decide)).trans f, g.imp id (fun q => (up2_n (by decide)).trans q), hx, k.2.1, k.2.2⟩
theorem TS_fl {D D1 D2 : DD} {t : TPt} {s : PSt} {n pl : Nat} (h : TS D t s) (hn : n ≤ 3) (hp : pl ≤ 120) (e : D1 = up2 D 13 3 (nI n)) (e2 : D2 = up2 D1 13 4 (nI pl)) : TS D2 t (s.1, n, pl) := by
  subst e e2
  obtain ⟨⟨a, b, c⟩, d, f, g, k⟩ := h
  exact ⟨⟨(up2_n (by decide)).trans ((up2_n (by decide)).trans a), b, fun j hj => ⟨(congrFun ((up2_o (by decide)).trans (up2_o (by decide))) j).trans (c j hj).1, (c j hj).2⟩⟩, (up2_n (by decide)).trans ((up2_n (by decide)).trans d), (up2_n (by decide)).trans up2_s, Or.inr up2_s, k.1, hn, hp⟩
theorem TS_0 {D D1 D2 : DD} {t : TPt} (h : TP D t) (e : D1 = up2 D 13 2 (nI 0)) (e2 : D2 = up2 D1 13 3 (nI 0)) : TS D2 t (0, 0, 0) ∧ F13 D D2 := by
  subst e e2
  obtain ⟨a, b, c⟩ := h
  exact ⟨⟨⟨(up2_n (by decide)).trans ((up2_n (by decide)).trans a), b, fun j hj => ⟨(congrFun ((up2_o (by decide)).trans (up2_o (by decide))) j).trans (c j hj).1, (c j hj).2⟩⟩, (up2_n (by decide)).trans up2_s, up2_s, Or.inl rfl, Nat.zero_le _, by show 0 ≤ 3; decide, by show 0 ≤ 120; decide⟩, (F13.rf.up).up⟩
def p_fp (n pl : Nat) (s : PSt) : PSt := if s.2.1 = 0 then (s.1, n, pl) else s
