/-! the reference has read so far -/
def MP (D : DD) (t : TPt) (s : PSt) : Prop := TPm D t ∧ PK t s ∧ (s.2.1 = 0 → D 219 16 = nI 0 ∧ MTK (D 219) t s.1) ∧ (¬ s.2.1 = 0 → D 219 16 = nI s.2.1 ∧ D 219 17 = nI s.2.2)
def PFm (D D' : DD) : Prop := (∀ q, q ≠ 219 → D' q = D q) ∧ ∀ f, (f < 12 ∨ 17 < f) → D' 219 f = D 219 f
theorem PFm.rf {D : DD} : PFm D D := ⟨fun _ _ => rfl, fun _ _ => rfl⟩
theorem PFm.trans {D D1 D2 : DD} (h : PFm D D1) (h2 : PFm D1 D2) : PFm D D2 := ⟨fun q a => (h2.1 q a).trans (h.1 q a), fun f a => (h2.2 f a).trans (h.2 f a)⟩
theorem PFm.of {D D' : DD} (h : TFm D D') : PFm D D' := ⟨h.1, fun f hf => h.2 f (by omega)⟩
theorem MP_f {D : DD} {t : TPt} {s : PSt} (h : MP D t s) : D 219 16 = nI s.2.1 := by
  by_cases q : s.2.1 = 0
  · rw [q]; exact (h.2.2.1 q).1
  · exact (h.2.2.2 q).1
theorem MP_at {D : DD} {t : TPt} {x x' n y : Nat} (h : MP D t (x, n, y)) (hn : ¬ n = 0) (hx : x' ≤ t.1) : MP D t (x', n, y) := ⟨h.1, ⟨hx, h.2.1.2.1, h.2.1.2.2⟩, fun q => absurd q hn, fun _ => h.2.2.2 hn⟩
theorem TPm_fr {D D' : DD} {t : TPt} (h : TPm D t) (e : PFm D D') : TPm D' t := ⟨(e.2 11 (by decide)).trans h.1, h.2.1, fun j hj => ⟨(congrFun (e.1 227 (by decide)) j).trans (h.2.2 j hj).1, (h.2.2 j hj).2⟩⟩
theorem bad_end {D D1 D2 : DD} {t : TPt} {s : PSt} {n : Nat} (h : MP D t s) (hn : 1 ≤ n ∧ n ≤ 3) (e1 : D1 = up2 D 219 16 (nI n)) (e2 : D2 = up2 D1 219 17 (nI s.1)) : MP D2 t (s.1, n, s.1) ∧ PFm D D2 := by
  have hf : PFm D D2 := by
    subst e1 e2
    exact ⟨fun q a => (up2_o a).trans (up2_o a), fun f a => (up2_n (by omega)).trans (up2_n (by omega))⟩
  refine ⟨⟨TPm_fr h.1 hf, ⟨h.2.1.1, hn.2, Nat.le_trans h.2.1.1 h.1.2.1⟩, fun q => absurd (show n = 0 from q) (by omega), fun _ => ⟨?_, ?_⟩⟩, hf⟩
  · subst e1 e2; exact (up2_n (by decide)).trans up2_s
  · subst e2; exact up2_s
theorem next_end {D D2 : DD} {t : TPt} {s : PSt} (h : MP D t s) (h0 : s.2.1 = 0) (hk : 2 ≤ s_tk t s.1) (hx : s_nx t s.1 ≤ t.1) (h1 : MTK (D2 219) t (s_nx t s.1)) (h2 : TFm D D2) : MP D2 t (s_nx t s.1, 0, s.2.2) ∧ PFm D D2 := by
  have hf := PFm.of h2
  exact ⟨⟨TPm_fr h.1 hf, ⟨hx, Nat.zero_le 3, h.2.1.2.2⟩, fun _ => ⟨(h2.2 16 (by decide)).trans (h.2.2.1 h0).1, h1⟩, fun q => absurd rfl q⟩, hf⟩
/-- what tokens are letters, signs, numbers -/
theorem tk_e {t : TPt} {c : Nat} (h : s_tk t c ≠ 0 ∨ True) : s_tk t c = 2 ↔ 97 ≤ s_by t c ∧ s_by t c ≤ 122 := by
  have hb : t.1 ≤ c → s_by t c = 256 := fun q => if_neg (by omega)
  unfold s_tk
  constructor
  · intro q
    split at q
    · omega
    · unfold s_t0 at q
      split at q
      · omega
      · split at q
        · assumption
        · split at q
          · omega
          · split at q <;> omega
  · intro q
    have e : s_t0 t c = 2 := by
      unfold s_t0
      rw [if_neg (fun u => by have := hb u; omega), if_pos q]
    rw [if_neg (fun u => by omega), e]
theorem tk_4 {t : TPt} {c : Nat} : s_tk t c = 4 ↔ s_by t c = 44 ∨ s_by t c = 59 := by
  have hb : t.1 ≤ c → s_by t c = 256 := fun q => if_neg (by omega)
  unfold s_tk
  constructor
  · intro q
    split at q
    · omega
    · unfold s_t0 at q
      split at q
      · omega
      · split at q
        · omega
        · split at q
          · omega
          · split at q
            · assumption
            · omega
  · intro q
    have e : s_t0 t c = 4 := by
      unfold s_t0
      rw [if_neg (fun u => by have := hb u; omega), if_neg (by omega), if_neg (by omega), if_pos q]
    rw [if_neg (fun u => by omega), e]
theorem tk_3 {t : TPt} {c : Nat} : s_tk t c = 3 ↔ ¬ (s_ln t c = 0 ∨ 2 < s_ln t c) := by
  have hl : s_fg t c ↔ ¬ s_ln t c = 0 := by
    constructor
    · intro q u
      have e : s_fgB t c = true := s_fgB_iff.mpr q
      unfold s_ln at u
      rw [if_pos e] at u
      split at u
      · split at u <;> omega
      · omega
    · intro q
      exact ln_fg (t := t) (c := c) (i := 0) (by omega)
  unfold s_tk
  constructor
  · intro q
    split at q
    · omega
    · rename_i u
      have := hl.mp (t0_3.mp q)
      omega
  · intro q
    have e := t0_3.mpr (hl.mpr (by omega))
    rw [if_neg (fun u => by omega), e]
theorem tk_1 {t : TPt} {c : Nat} : s_tk t c = 1 ↔ t.1 ≤ c := by
  unfold s_tk
  constructor
  · intro q
    split at q
    · omega
    · unfold s_t0 at q
      split at q
      · assumption
      · split at q
        · omega
        · split at q
          · omega
          · split at q <;> omega
  · intro q
    have e : s_t0 t c = 1 := if_pos q
    rw [if_neg (fun u => by omega), e]
theorem nx_1 {t : TPt} {c : Nat} (h : ¬ s_tk t c = 3) (h2 : 2 ≤ s_tk t c) : s_nx t c = c + 1 ∧ s_vn t c = s_by t c := by
  have e : ¬ s_t0 t c = 3 := fun q => by
    unfold s_tk at h h2
    split at h
    · rename_i u; rw [if_pos u] at h2; omega
    · exact h q
  exact ⟨if_neg e, if_neg e⟩
theorem nx_3 {t : TPt} {c : Nat} (h : s_tk t c = 3) : s_nx t c = c + s_ln t c ∧ s_vn t c = s_v t c (s_ln t c) := by
  have e : s_t0 t c = 3 := by
    unfold s_tk at h
    split at h
    · omega
    · exact h
  exact ⟨if_pos e, if_pos e⟩
theorem MP_nx {D : DD} {t : TPt} {s : PSt} (h : MP D t s) (h0 : s.2.1 = 0) (hk : 2 ≤ s_tk t s.1) : D 219 12 = nI (s_nx t s.1) ∧ s_nx t s.1 ≤ t.1 := by
  obtain ⟨a, b, c, d, c', e, f, g⟩ := h.2.2.1 h0
  have := g hk
  subst this
  exact ⟨e, f⟩
theorem vn_999 {t : TPt} {c : Nat} (ht : ∀ j, j < t.1 → t.2 j ≤ 255) : s_vn t c ≤ 999 := by
  unfold s_vn
  split
  · exact v_999 ln_3 (fun i hi => ln_fg hi)
  · unfold s_by
    split
    · rename_i q; have := ht c q; omega
    · omega
theorem kb_ch {c : Nat} (h : ¬ s_kb c = 0) : 97 ≤ c ∧ c ≤ 122 := by
  unfold s_kb at h
  by_cases a : c = 97
  · omega
  · rw [if_neg a] at h
    by_cases b : c = 119
    · omega
    · rw [if_neg b] at h
      by_cases d : c = 116
      · omega
      · rw [if_neg d] at h
        by_cases e : c = 107
        · omega
        · rw [if_neg e] at h
          by_cases f : c = 98
          · omega
          · rw [if_neg f] at h; exact absurd rfl h

def MP1 (D : DD) (t : TPt) (s : PSt) : Prop := D 219 16 = nI 0 ∧ D 219 13 = nI s.1 ∧ D 219 14 = nI (s_tk t s.1) ∧ (2 ≤ s_tk t s.1 → D 219 15 = nI (s_vn t s.1))
theorem MP_1 {D : DD} {t : TPt} {s : PSt} (h : MP D t s) (h0 : s.2.1 = 0) : MP1 D t s := by
  obtain ⟨a, b, c, d, -⟩ := h.2.2.1 h0
  exact ⟨a, b, c, d⟩
theorem sg_t {t : TPt} {c : Nat} {s : PSt} (h0 : s.2.1 = 0) (hc : c = 44 ∨ c = 59) (h : s_tk t s.1 = 4) (h2 : s_vn t s.1 = c) : p_ex t c s = (s_nx t s.1, 0, s.2.2) := by
  obtain ⟨e1, e2⟩ := nx_1 (t := t) (c := s.1) (by omega) (by omega)
  exact (if_pos h0).trans ((if_pos (e2.symm.trans h2)).trans (by rw [e1]))
theorem sg_f {t : TPt} {c : Nat} {s : PSt} (h0 : s.2.1 = 0) (hc : c = 44 ∨ c = 59) (h : ¬ (s_tk t s.1 = 4 ∧ s_vn t s.1 = c)) : p_ex t c s = (s.1, 1, s.1) := by
  refine (if_pos h0).trans (if_neg (fun q => h ?_))
  have e := tk_4.mpr (show s_by t s.1 = 44 ∨ s_by t s.1 = 59 by omega)
  exact ⟨e, (nx_1 (t := t) (c := s.1) (by omega) (by omega)).2.trans q⟩
theorem lt_t {t : TPt} {c i : Nat} (h : s_tk t i = 2) (h2 : s_vn t i = c) : s_by t i = c := (nx_1 (t := t) (c := i) (by omega) (by omega)).2.symm.trans h2
theorem lt_f {t : TPt} {c i : Nat} (hc : 97 ≤ c ∧ c ≤ 122) (h : s_by t i = c) : s_tk t i = 2 ∧ s_vn t i = c := by
  have e := (tk_e (t := t) (c := i) (Or.inr trivial)).mpr (by omega)
  exact ⟨e, (nx_1 (t := t) (c := i) (by omega) (by omega)).2.trans h⟩
theorem ex_lt {t : TPt} {c : Nat} {s : PSt} (h0 : s.2.1 = 0) (hc : 97 ≤ c ∧ c ≤ 122) (h : s_by t s.1 = c) : p_ex t c s = (s_nx t s.1, 0, s.2.2) := by
  have e := lt_f hc h
  rw [(nx_1 (t := t) (c := s.1) (by omega) (by omega)).1]
  exact (if_pos h0).trans (if_pos h)
theorem nm_1 {t : TPt} {l h : Nat} {s : PSt} (h0 : s.2.1 = 0) (hk : ¬ s_tk t s.1 = 3) : p_nm t l h s = (s.1, 1, s.1) := (if_pos h0).trans (if_pos (Classical.byContradiction (fun q => hk (tk_3.mpr q))))
theorem nm_2 {t : TPt} {l h : Nat} {s : PSt} (h0 : s.2.1 = 0) (hk : s_tk t s.1 = 3) (hr : ¬ (l ≤ s_vn t s.1 ∧ s_vn t s.1 ≤ h)) : p_nm t l h s = (s.1, 2, s.1) := by
  rw [(nx_3 hk).2] at hr
  exact (if_pos h0).trans ((if_neg (tk_3.mp hk)).trans (if_neg hr))
theorem nm_3 {t : TPt} {l h : Nat} {s : PSt} (h0 : s.2.1 = 0) (hk : s_tk t s.1 = 3) (hr : l ≤ s_vn t s.1 ∧ s_vn t s.1 ≤ h) : p_nm t l h s = (s_nx t s.1, 0, s.2.2) ∧ p_vl t s = s_vn t s.1 := by
  rw [(nx_3 hk).2] at hr ⊢
  exact ⟨(if_pos h0).trans ((if_neg (tk_3.mp hk)).trans ((if_pos hr).trans (by rw [(nx_3 hk).1]))), rfl⟩
