/-! the ways: how far it is from each place to each, by a row's roads -/
def s_w0 (r : Row) (a b : Nat) : Nat := if a = b then 0 else if a < 6 ∧ r (10 + a) / 2 ^ b % 2 = 1 then 1 else 9
def s_fw (r : Row) : Nat → Nat → Nat → Nat
  | 0 => s_w0 r
  | m + 1 => fun a b => min (s_fw r m a b) (s_fw r m a m + s_fw r m m b)
def s_far (r : Row) : Nat → Nat := fun j => s_fw r 6 (j / 6) (j % 6)
/-- roads lead from places to places -/
def RG (r : Row) : Prop := r 0 ≤ 6 ∧ ∀ a, a < 6 → r (10 + a) < 2 ^ r 0 ∧ (r 0 ≤ a → r (10 + a) = 0)
theorem fw_s {r : Row} {m a b : Nat} : s_fw r (m + 1) a b = min (s_fw r m a b) (s_fw r m a m + s_fw r m m b) := rfl
theorem fw_9 {r : Row} : ∀ m a b, s_fw r m a b ≤ 9 := by
  intro m
  induction m with
  | zero =>
    intro a b
    show s_w0 r a b ≤ 9
    unfold s_w0
    split
    · omega
    · split <;> omega
  | succ m ih => intro a b; have := ih a b; rw [fw_s]; omega
theorem fw_0 {r : Row} : ∀ m a, s_fw r m a a = 0 := by
  intro m
  induction m with
  | zero => intro a; exact if_pos rfl
  | succ m ih => intro a; have := ih a; rw [fw_s]; omega
theorem fw_e {r : Row} {a b : Nat} (ha : a < 6) (h : r (10 + a) / 2 ^ b % 2 = 1) : ∀ m, s_fw r m a b ≤ 1 := by
  intro m
  induction m with
  | zero =>
    show s_w0 r a b ≤ 1
    unfold s_w0
    rw [if_pos (show a < 6 ∧ _ from ⟨ha, h⟩)]
    split <;> omega
  | succ m ih => rw [fw_s]; omega
theorem fw_tri {r : Row} : ∀ m c, c < m → ∀ a b, s_fw r m a b ≤ s_fw r m a c + s_fw r m c b := by
  intro m
  induction m with
  | zero => intro c hc; omega
  | succ m ih =>
    intro c hc a b
    have z := fw_0 (r := r) m m
    rw [fw_s, fw_s, fw_s]
    by_cases q : c = m
    · subst q
      omega
    · have h1 := ih c (by omega) a b
      have h2 := ih c (by omega) a m
      have h3 := ih c (by omega) m b
      have h4 := ih c (by omega) m m
      omega
/-- what is one road behind a set; what is reached by k roads -/
def s_mo (r : Row) (s : Nat) : Nat → Nat
  | 0 => 0
  | n + 1 => s_mo r s n ||| (if s / 2 ^ n % 2 = 1 then r (10 + n) else 0)
def s_ba (r : Row) (a : Nat) : Nat → Nat
  | 0 => 2 ^ a
  | k + 1 => s_ba r a k ||| s_mo r (s_ba r a k) (r 0)
theorem tb_iff {x i : Nat} : x.testBit i = true ↔ x / 2 ^ i % 2 = 1 := by
  rw [Nat.testBit_eq_decide_div_mod_eq]
  exact decide_eq_true_iff
theorem mo_test {r : Row} {s b : Nat} : ∀ n, (s_mo r s n).testBit b = true ↔ ∃ c, c < n ∧ s.testBit c = true ∧ (r (10 + c)).testBit b = true := by
  intro n
  induction n with
  | zero =>
    show (0 : Nat).testBit b = true ↔ _
    rw [Nat.zero_testBit]
    exact ⟨fun h => Bool.noConfusion h, fun ⟨c, hc, _⟩ => absurd hc (Nat.not_lt_zero c)⟩
  | succ n ih =>
    show (s_mo r s n ||| (if s / 2 ^ n % 2 = 1 then r (10 + n) else 0)).testBit b = true ↔ _
    rw [Nat.testBit_or, Bool.or_eq_true, ih]
    constructor
    · rintro (⟨c, hc, h1, h2⟩ | h)
      · exact ⟨c, by omega, h1, h2⟩
      · by_cases q : s / 2 ^ n % 2 = 1
        · rw [if_pos q] at h; exact ⟨n, by omega, tb_iff.mpr q, h⟩
        · rw [if_neg q, Nat.zero_testBit] at h; cases h
    · rintro ⟨c, hc, h1, h2⟩
      by_cases e : c = n
      · subst e; rw [if_pos (tb_iff.mp h1)]; exact Or.inr h2
      · exact Or.inl ⟨c, by omega, h1, h2⟩
theorem ba_s {r : Row} {a k b : Nat} : (s_ba r a (k + 1)).testBit b = true ↔ (s_ba r a k).testBit b = true ∨ ∃ c, c < r 0 ∧ (s_ba r a k).testBit c = true ∧ (r (10 + c)).testBit b = true := by
  show (s_ba r a k ||| s_mo r (s_ba r a k) (r 0)).testBit b = true ↔ _
  rw [Nat.testBit_or, Bool.or_eq_true, mo_test]
theorem ba_0 {r : Row} {a b : Nat} : (s_ba r a 0).testBit b = true ↔ a = b := by
  show (2 ^ a).testBit b = true ↔ _
  rw [Nat.testBit_two_pow]
  exact decide_eq_true_iff
theorem ba_mono {r : Row} {a k b : Nat} (h : (s_ba r a k).testBit b = true) : ∀ j, (s_ba r a (k + j)).testBit b = true := by
  intro j
  induction j with
  | zero => exact h
  | succ j ih => exact ba_s.mpr (Or.inl ih)
theorem ba_comp {r : Row} {a i m : Nat} (h : (s_ba r a i).testBit m = true) : ∀ j b, (s_ba r m j).testBit b = true → (s_ba r a (i + j)).testBit b = true := by
  intro j
  induction j with
  | zero => intro b hb; have := ba_0.mp hb; subst this; exact h
  | succ j ih =>
    intro b hb
    rcases ba_s.mp hb with h1 | ⟨c, hc, h1, h2⟩
    · exact ba_s.mpr (Or.inl (ih b h1))
    · exact ba_s.mpr (Or.inr ⟨c, hc, ih c h1, h2⟩)
theorem fw_ba {r : Row} (hR : RG r) : ∀ m, m ≤ 6 → ∀ a b, a < 6 → s_fw r m a b ≤ 8 → (s_ba r a (s_fw r m a b)).testBit b = true := by
  intro m
  induction m with
  | zero =>
    intro _ a b ha h
    show (s_ba r a (s_w0 r a b)).testBit b = true
    have h' : s_w0 r a b ≤ 8 := h
    unfold s_w0 at h' ⊢
    by_cases q : a = b
    · rw [if_pos q]; exact ba_0.mpr q
    · rw [if_neg q] at h' ⊢
      by_cases u : a < 6 ∧ r (10 + a) / 2 ^ b % 2 = 1
      · rw [if_pos u]
        refine ba_s.mpr (Or.inr ⟨a, ?_, ba_0.mpr rfl, tb_iff.mpr u.2⟩)
        rcases Nat.lt_or_ge a (r 0) with h1 | h1
        · exact h1
        · have := (hR.2 a ha).2 h1
          rw [this, Nat.zero_div] at u
          exact absurd u.2 (by decide)
      · rw [if_neg u] at h'; omega
  | succ m ih =>
    intro hm a b ha h
    rw [fw_s] at h ⊢
    rcases Nat.le_total (s_fw r m a b) (s_fw r m a m + s_fw r m m b) with h1 | h1
    · rw [Nat.min_eq_left h1] at h ⊢
      exact ih (by omega) a b ha h
    · rw [Nat.min_eq_right h1] at h ⊢
      exact ba_comp (ih (by omega) a m ha (by omega)) _ _ (ih (by omega) m b (by omega) (by omega))
theorem ba_fw {r : Row} (hR : RG r) {a : Nat} : ∀ k b, (s_ba r a k).testBit b = true → s_fw r 6 a b ≤ k := by
  intro k
  induction k with
  | zero => intro b h; have := ba_0.mp h; subst this; rw [fw_0]; omega
  | succ k ih =>
    intro b h
    rcases ba_s.mp h with h1 | ⟨c, hc, h1, h2⟩
    · have := ih b h1; omega
    · have g1 := ih c h1
      have g2 := fw_e (r := r) (a := c) (b := b) (by have := hR.1; omega) (tb_iff.mp h2) 6
      have g3 := fw_tri (r := r) 6 c (by have := hR.1; omega) a b
      omega
theorem rg_64 {r : Row} (hR : RG r) {a : Nat} (ha : a < 6) : r (10 + a) < 64 := Nat.lt_of_lt_of_le (hR.2 a ha).1 (pw2_le hR.1)
theorem mo_lt {r : Row} (hR : RG r) {s : Nat} : ∀ n, n ≤ 6 → s_mo r s n < 64 := by
  intro n
  induction n with
  | zero => intro _; show 0 < 64; decide
  | succ n ih =>
    intro hn
    refine or_lt64 (ih (by omega)) ?_
    split
    · exact rg_64 hR (by omega)
    · decide
theorem ba_lt {r : Row} (hR : RG r) {a : Nat} (ha : a < 6) : ∀ k, s_ba r a k < 64 := by
  intro k
  induction k with
  | zero => exact pw_lt64 ha
  | succ k ih => exact or_lt64 ih (mo_lt hR _ hR.1)
theorem pop_lt : ∀ x, x < 64 → ∀ z, z < 64 → x ||| z = x ∨ s_bits x < s_bits (x ||| z) := by decide +kernel
theorem pop_6 : ∀ x, x < 64 → 6 ≤ s_bits x → x = 63 := by decide +kernel
theorem pop_2 : ∀ a, a < 6 → 1 ≤ s_bits (2 ^ a) := by decide
theorem or_63 : ∀ z, z < 64 → 63 ||| z = 63 := by decide
theorem ba_grow {r : Row} (hR : RG r) {a : Nat} (ha : a < 6) : ∀ k, k + 1 ≤ s_bits (s_ba r a k) ∨ s_ba r a (k + 1) = s_ba r a k := by
  intro k
  induction k with
  | zero => exact Or.inl (pop_2 a ha)
  | succ k ih =>
    rcases ih with h | h
    · rcases pop_lt _ (ba_lt hR ha k) _ (mo_lt hR (s := s_ba r a k) (r 0) hR.1) with g | g
      · have e : s_ba r a (k + 1) = s_ba r a k := g
        exact Or.inr (by show s_ba r a (k + 1) ||| s_mo r (s_ba r a (k + 1)) (r 0) = s_ba r a (k + 1); rw [e]; exact g)
      · have g' : s_bits (s_ba r a k) < s_bits (s_ba r a (k + 1)) := g
        exact Or.inl (by omega)
    · exact Or.inr (by show s_ba r a (k + 1) ||| s_mo r (s_ba r a (k + 1)) (r 0) = s_ba r a (k + 1); rw [h]; exact h)
theorem ba_6 {r : Row} (hR : RG r) {a : Nat} (ha : a < 6) : s_ba r a 6 = s_ba r a 5 := by
  rcases ba_grow hR ha 5 with h | h
  · have e := pop_6 _ (ba_lt hR ha 5) h
    show s_ba r a 5 ||| s_mo r (s_ba r a 5) (r 0) = s_ba r a 5
    rw [e]
    exact or_63 _ (mo_lt hR _ hR.1)
  · exact h
theorem ba_up {r : Row} (hR : RG r) {a : Nat} (ha : a < 6) : ∀ j, s_ba r a (5 + j) = s_ba r a 5 := by
  intro j
  induction j with
  | zero => rfl
  | succ j ih =>
    show s_ba r a (5 + j) ||| s_mo r (s_ba r a (5 + j)) (r 0) = _
    rw [ih]
    exact ba_6 hR ha
theorem fw_5 {r : Row} (hR : RG r) {a b : Nat} (ha : a < 6) (h : s_fw r 6 a b ≤ 8) : s_fw r 6 a b ≤ 5 := by
  have h1 := ba_mono (fw_ba hR 6 (Nat.le_refl 6) a b ha h) (8 - s_fw r 6 a b)
  rw [show s_fw r 6 a b + (8 - s_fw r 6 a b) = 5 + 3 by omega, ba_up hR ha] at h1
  exact ba_fw hR 5 b h1
/-- what the reference lays, behind k roads -/
def s_bv (r : Row) (a b : Nat) : Nat → Nat
  | 0 => if a = b then 0 else 9
  | k + 1 => if (s_mo r (s_ba r a k) (r 0) &&& (63 ^^^ s_ba r a k)) / 2 ^ b % 2 = 0 then s_bv r a b k else k + 1
theorem bv_bit {x y b : Nat} (hb : b < 6) : ¬ (x &&& (63 ^^^ y)) / 2 ^ b % 2 = 0 ↔ x.testBit b = true ∧ ¬ y.testBit b = true := by
  have e : ¬ (x &&& (63 ^^^ y)) / 2 ^ b % 2 = 0 ↔ (x &&& (63 ^^^ y)).testBit b = true := by
    rw [tb_iff]
    have := Nat.mod_lt ((x &&& (63 ^^^ y)) / 2 ^ b) (show 0 < 2 by decide)
    omega
  have h63 : (63 : Nat).testBit b = true := by
    have : ∀ w, w < 6 → (63 : Nat).testBit w = true := by decide
    exact this b hb
  rw [e, Nat.testBit_and, Nat.testBit_xor, h63]
  cases x.testBit b <;> cases y.testBit b <;> simp
theorem bv_fw {r : Row} (hR : RG r) {a b : Nat} (ha : a < 6) (hb : b < 6) : ∀ k, k ≤ 8 → s_bv r a b k = if s_fw r 6 a b ≤ k then s_fw r 6 a b else 9 := by
  intro k
  have so : ∀ k, k ≤ 8 → s_fw r 6 a b ≤ k → (s_ba r a k).testBit b = true := fun k hk h => by
    have h1 := ba_mono (fw_ba hR 6 (Nat.le_refl 6) a b ha (by omega)) (k - s_fw r 6 a b)
    rw [show s_fw r 6 a b + (k - s_fw r 6 a b) = k by omega] at h1
    exact h1
  induction k with
  | zero =>
    intro _
    show (if a = b then 0 else 9) = _
    by_cases q : a = b
    · subst q; rw [if_pos rfl, fw_0]; rfl
    · rw [if_neg q, if_neg (fun h => q (ba_0.mp (so 0 (by omega) h)))]
  | succ k ih =>
    intro hk
    show (if (s_mo r (s_ba r a k) (r 0) &&& (63 ^^^ s_ba r a k)) / 2 ^ b % 2 = 0 then s_bv r a b k else k + 1) = _
    have h9 := fw_9 (r := r) 6 a b
    by_cases q : (s_mo r (s_ba r a k) (r 0) &&& (63 ^^^ s_ba r a k)) / 2 ^ b % 2 = 0
    · rw [if_pos q, ih (by omega)]
      by_cases u : s_fw r 6 a b ≤ k
      · rw [if_pos u, if_pos (by omega)]
      · rw [if_neg u, if_neg (fun h => ?_)]
        rcases ba_s.mp (so (k + 1) hk h) with g | g
        · exact u (ba_fw hR k b g)
        · refine (bv_bit hb).mpr ⟨(mo_test _).mpr g, fun g2 => u (ba_fw hR k b g2)⟩ q
    · rw [if_neg q]
      obtain ⟨g1, g2⟩ := (bv_bit hb).mp q
      have g3 := ba_fw hR (k + 1) b (ba_s.mpr (Or.inr ((mo_test _).mp g1)))
      have g4 : ¬ s_fw r 6 a b ≤ k := fun h => g2 (so k (by omega) h)
      rw [if_pos g3]
      omega
theorem bv_end {r : Row} (hR : RG r) {a b : Nat} (ha : a < 6) (hb : b < 6) : s_bv r a b 5 = s_fw r 6 a b := by
  rw [bv_fw hR ha hb 5 (by decide)]
  by_cases u : s_fw r 6 a b ≤ 5
  · rw [if_pos u]
  · rw [if_neg u]
    have h9 := fw_9 (r := r) 6 a b
    have := fw_5 hR (b := b) ha
    omega
theorem bv_out {r : Row} (hR : RG r) {a b : Nat} (hb : r 0 ≤ b) : ∀ k, s_bv r a b k = s_bv r a b 0 := by
  intro k
  induction k with
  | zero => rfl
  | succ k ih =>
    have hm : ¬ (s_mo r (s_ba r a k) (r 0)).testBit b = true := fun h => by
      obtain ⟨c, hc, h1, h2⟩ := (mo_test _).mp h
      have hx := (hR.2 c (by have := hR.1; omega)).1
      have hx2 : 2 ^ r 0 ≤ 2 ^ b := Nat.pow_le_pow_right (by decide) hb
      rw [Nat.testBit_lt_two_pow (by omega)] at h2
      cases h2
    have e : (s_mo r (s_ba r a k) (r 0) &&& (63 ^^^ s_ba r a k)) / 2 ^ b % 2 = 0 := by
      have e1 : (s_mo r (s_ba r a k) (r 0) &&& (63 ^^^ s_ba r a k)).testBit b = false := by
        rw [Nat.testBit_and]
        cases h : (s_mo r (s_ba r a k) (r 0)).testBit b
        · rfl
        · exact absurd h hm
      have e2 : ¬ (s_mo r (s_ba r a k) (r 0) &&& (63 ^^^ s_ba r a k)) / 2 ^ b % 2 = 1 := fun q => by
        rw [tb_iff.mpr q] at e1; cases e1
      have := Nat.mod_lt ((s_mo r (s_ba r a k) (r 0) &&& (63 ^^^ s_ba r a k)) / 2 ^ b) (show 0 < 2 by decide)
      omega
    show (if (s_mo r (s_ba r a k) (r 0) &&& (63 ^^^ s_ba r a k)) / 2 ^ b % 2 = 0 then s_bv r a b k else k + 1) = _
    rw [if_pos e]
    exact ih
theorem far_at {r : Row} {a b : Nat} (hb : b < 6) : s_far r (6 * a + b) = s_fw r 6 a b := by
  unfold s_far
  rw [show (6 * a + b) / 6 = a by omega, show (6 * a + b) % 6 = b by omega]
theorem far_WY {r : Row} (h0 : r 0 ≤ 6) : WY (s_far r) r := ⟨fun j _ => fw_9 6 _ _, fun a ha => (far_at (by omega)).trans (fw_0 6 a)⟩
theorem far_congr {r r' : Row} (h : ∀ j, j < 6 → r (10 + j) = r' (10 + j)) : s_far r = s_far r' := by
  have e0 : s_w0 r = s_w0 r' := by
    funext a b
    unfold s_w0
    by_cases q : a < 6
    · rw [h a q]
    · have : ¬ (a < 6 ∧ r (10 + a) / 2 ^ b % 2 = 1) := fun u => q u.1
      have g : ¬ (a < 6 ∧ r' (10 + a) / 2 ^ b % 2 = 1) := fun u => q u.1
      rw [if_neg this, if_neg g]
  have e : ∀ m, s_fw r m = s_fw r' m := by
    intro m
    induction m with
    | zero => exact e0
    | succ m ih => funext a b; rw [fw_s, fw_s, ih]
  funext j
  unfold s_far
  rw [e]
