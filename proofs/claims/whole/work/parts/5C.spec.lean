/-! the reference's land -/
def p_fin (t : TPt) (s : PSt) : PSt := if s.2.1 = 0 ∧ ¬ s_tk t s.1 = 1 then (s.1, 1, s.1) else s
theorem ite_nI {c : Prop} [Decidable c] {a b : Nat} : (if c then nI a else nI b) = nI (if c then a else b) := by split <;> rfl
theorem kb_none {k : Nat} (h : k ≤ 5) : (if k = 0 then (-1000000 : Int32) else nI k) = (-1000000) ↔ k = 0 := by
  by_cases q : k = 0
  · rw [if_pos q]; exact ⟨fun _ => q, fun _ => rfl⟩
  · rw [if_neg q]
    have : ∀ k, k < 6 → ¬ nI k = -1000000 := by decide
    exact ⟨fun u => absurd u (this k (by omega)), fun u => absurd u q⟩
theorem pt_0 {t : TPt} {x : PSt × Row} (h0 : x.1.2.1 = 0) (hk : s_kb (s_by t x.1.1) = 0) (hw : s_by t x.1.1 = 114 → ¬ x.2 5 = 0) : p_pt t x = ((x.1.1, 1, x.1.1), x.2) := by
  rw [pt_w (fun q => hw q.1 q.2), wi_0 hk, fp_f h0]
theorem fin_end {t : TPt} {m : Nat} (ht : t.1 ≤ 120) (hm : m ≤ 120) (h : ¬ (s_pk t m).1.2.1 = 0 ∨ ((s_pk t m).1.2.1 = 0 ∧ s_kb (s_by t (s_pk t m).1.1) = 0 ∧ (s_by t (s_pk t m).1.1 = 114 → ¬ (s_pk t m).2 5 = 0))) : (p_fin t (s_pk t m).1).2 = (s_pk t 120).1.2 ∧ ((p_fin t (s_pk t m).1).2.1 = 0 → s_pk t 120 = s_pk t m) := by
  have hP := PI_pk ht m
  have e0 : s_pk t (m + 1) = if (s_pk t m).1.2.1 = 0 ∧ (s_pk t m).1.1 < t.1 then p_pt t (s_pk t m) else s_pk t m := rfl
  have ee : ¬ ((s_pk t m).1.2.1 = 0 ∧ (s_pk t m).1.1 < t.1) → s_pk t 120 = s_pk t m := fun q => pk_e hm q
  have en : (s_pk t m).1.2.1 = 0 ∧ (s_pk t m).1.1 < t.1 → m + 1 ≤ 120 := fun q => by
    have := hP.2 q.1
    omega
  have e2 : m + 1 ≤ 120 → ¬ ((s_pk t (m + 1)).1.2.1 = 0 ∧ (s_pk t (m + 1)).1.1 < t.1) → s_pk t 120 = s_pk t (m + 1) := fun q u => pk_e q u
  generalize s_pk t 120 = y at *
  generalize s_pk t (m + 1) = z at *
  generalize s_pk t m = x at *
  rcases h with h | ⟨h, hk, hw⟩
  · have e : p_fin t x.1 = x.1 := if_neg (fun q => h q.1)
    rw [e, ee (fun q => h q.1)]
    exact ⟨rfl, fun _ => rfl⟩
  · by_cases q : s_tk t x.1.1 = 1
    · have e : p_fin t x.1 = x.1 := if_neg (fun u => u.2 q)
      have q1 := tk_1.mp q
      rw [e, ee (fun u => by omega)]
      exact ⟨rfl, fun _ => rfl⟩
    · have e : p_fin t x.1 = (x.1.1, 1, x.1.1) := if_pos ⟨h, q⟩
      have q1 : x.1.1 < t.1 := by
        rcases Nat.lt_or_ge x.1.1 t.1 with u | u
        · exact u
        · exact absurd (tk_1.mpr u) q
      rw [if_pos ⟨h, q1⟩, pt_0 h hk hw] at e0
      have hn : ¬ (1 : Nat) = 0 := by decide
      have e3 := e2 (en ⟨h, q1⟩) (by rw [e0]; exact fun u => hn u.1)
      rw [e, e3, e0]
      exact ⟨rfl, fun u => absurd u hn⟩
def RL4 (n0 n1 n2 n3 : Nat) : Row := rset (rset (rset (rset (fun _ => 0) 0 n0) 1 n1) 2 n2) 3 n3
theorem RL_e {t : TPt} : RL4 (p_vl t (l_1 t)) (p_vl t (l_2 t)) (p_vl t (l_3 t)) (p_vl t (l_4 t)) = p_lawR t := by
  funext k
  unfold RL4 rset p_lawR
  by_cases h0 : k = 0
  · subst h0; rfl
  · by_cases h1 : k = 1
    · subst h1; rfl
    · by_cases h2 : k = 2
      · subst h2; rfl
      · by_cases h3 : k = 3
        · subst h3; rfl
        · simp only [if_neg h0, if_neg h1, if_neg h2, if_neg h3]
def FRL (D D' : DD) : Prop := (∀ q, q ≠ 219 → q ≠ 223 → q ≠ 224 → q ≠ 228 → D' q = D q) ∧ ∀ f, f ≠ 0 → f ≠ 9 → (f < 11 ∨ 18 < f) → D' 219 f = D 219 f
theorem lt_flags {t : TPt} (q : (p_lawS t).2.1 = 0) : (p_nm t 2 6 (l_1 t)).2.1 = 0 ∧ (p_nm t 0 (p_vl t (l_1 t) - 1) (l_2 t)).2.1 = 0 ∧ (p_nm t 0 20 (l_3 t)).2.1 = 0 ∧ (p_nm t 0 5 (l_4 t)).2.1 = 0 := by
  obtain ⟨h9, -, -⟩ := ex_ok' (show p_lawS t = p_ex t 59 (p_nm t 0 5 (l_4 t)) from rfl) q
  obtain ⟨h8, -, -⟩ := nm_ok h9
  obtain ⟨h7, -, -⟩ := ex_ok' (show l_4 t = p_ex t 44 (p_nm t 0 20 (l_3 t)) from rfl) h8
  obtain ⟨h6, -, -⟩ := nm_ok h7
  obtain ⟨h5, -, -⟩ := ex_ok' (show l_3 t = p_ex t 44 (p_nm t 0 (p_vl t (l_1 t) - 1) (l_2 t)) from rfl) h6
  obtain ⟨h4, -, -⟩ := nm_ok h5
  obtain ⟨h3, -, -⟩ := ex_ok' (show l_2 t = p_ex t 44 (p_nm t 2 6 (l_1 t)) from rfl) h4
  exact ⟨h3, h5, h7, h9⟩
theorem by_256 {t : TPt} {i : Nat} (ht : ∀ j, j < t.1 → t.2 j ≤ 255) : s_by t i ≤ 256 := by
  unfold s_by
  split
  · rename_i q; have := ht i q; omega
  · omega
theorem lawR_5 {t : TPt} : p_lawR t 5 = 0 := by
  unfold p_lawR
  rw [if_neg (by decide), if_neg (by decide), if_neg (by decide), if_neg (by decide)]
theorem XMK_fr {D D' : DD} {wy : Nat → Nat} {r : Row} {kp : Nat} {A : Nat → Row} (h : XMK D wy r kp A) (e1 : D' 223 = D 223) (e2 : D' 226 = D 226) (e3 : D' 228 = D 228) (e4 : D' 219 9 = D 219 9) : XMK D' wy r kp A := by
  obtain ⟨a, b, c, d, ⟨f, g, i⟩, j⟩ := h
  refine ⟨a, fun k hk => by rw [e1]; exact b k hk, fun k hk => by rw [e3]; exact c k hk, d, ⟨e4.trans f, g, fun x hx y hy => by rw [e2]; exact i x hx y hy⟩, j⟩
theorem XMK_ld {D : DD} {r : Row} {A : Nat → Row} (hO : OKR r) (h1 : ∀ k, k < 64 → D 223 k = nI (r k)) (h2 : ∀ j, j < 6 * r 0 → D 228 j = nI (s_far r j)) (h3 : D 219 9 = nI 0) : XMK D (s_far r) r 0 A := ⟨Or.inr hO.1, h1, h2, fun _ => far_WY hO.2.1, ⟨h3, by decide, fun i hi => absurd hi (Nat.not_lt_zero i)⟩, fun i hi => absurd hi (Nat.not_lt_zero i)⟩
