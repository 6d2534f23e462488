/-! who may be awake: sets, chances, a common divisor -/
theorem wg_test {r : Row} (w : Nat) : ∀ n, (s_wg r n).testBit w = (decide (w < n) && s_wiB r w) := by
  intro n
  induction n with
  | zero => show (0 : Nat).testBit w = _; rw [Nat.zero_testBit]; simp
  | succ n ih =>
    show (if s_wiB r n = true then s_wg r n ||| 2 ^ n else s_wg r n).testBit w = _
    by_cases h : s_wiB r n = true
    · rw [if_pos h, Nat.testBit_or, ih, Nat.testBit_two_pow]
      by_cases e : n = w
      · subst e; simp [h]
      · have : (w < n + 1) = (w < n) := by simp; omega
        simp [e, this]
    · rw [if_neg h, ih]
      by_cases e : w = n
      · subst e; simp [h]
      · have : (w < n + 1) = (w < n) := by simp; omega
        simp [this]
theorem wg_lt {r : Row} : ∀ n, n ≤ 6 → s_wg r n < 64 := by
  intro n
  induction n with
  | zero => intro _; show 0 < 64; decide
  | succ n ih =>
    intro hn
    show (if s_wiB r n = true then s_wg r n ||| 2 ^ n else s_wg r n) < 64
    split
    · exact or_lt64 (ih (by omega)) (pw_lt64 (by omega))
    · exact ih (by omega)
theorem rest_wi {r : Row} {c w : Nat} (hw : w < r 5) : s_wiB (s_rest r c) w = (decide (c / 2 ^ w % 2 = 1) && s_wiB r w) := by
  unfold s_wiB
  rw [s_rest_w hw, s_rest_o (k := 6) (by omega), s_rest_o (k := 20 + 8 * w) (by omega), s_rest_o (k := 21 + 8 * w) (by omega)]
  by_cases h : c / 2 ^ w % 2 = 0
  · have : ¬ c / 2 ^ w % 2 = 1 := by omega
    simp [h]
  · have h1 : c / 2 ^ w % 2 = 1 := by omega
    simp [h1]
theorem sub_bit : ∀ T, T < 64 → ∀ c, c < 64 → c &&& (63 ^^^ T) = 0 → c &&& T = c := by decide +kernel
theorem sub_le : ∀ T, T < 64 → ∀ c, c < 64 → c &&& (63 ^^^ T) = 0 → c ≤ T ∧ s_bits c ≤ s_bits T := by decide +kernel
theorem or_self : ∀ n, n < 7 → ∀ m, m < 2 ^ n → ∀ c, c < 64 → m &&& c = 0 → m ||| ((2 ^ n - 1) &&& (63 ^^^ c)) = (2 ^ n - 1) &&& (63 ^^^ c) := by decide +kernel
theorem awk_mask {r : Row} {c : Nat} (h : WF r) (hc : c < 64) (hs : c &&& (63 ^^^ s_wg r (r 5)) = 0) : (2 ^ r 5 - 1) &&& (63 ^^^ c) = rmask r (r 5) ||| ((2 ^ r 5 - 1) &&& (63 ^^^ c)) := by
  have h7 := h.1.2.2.2.2.2.2.1
  have hr : ∀ w, w < r 5 → r (23 + 8 * w) ≤ 1 := fun w hw => (h.2.2.1 w hw).2.2.2.2.2.2.2
  have e0 : rmask r (r 5) &&& s_wg r (r 5) = 0 := by
    apply Nat.eq_of_testBit_eq
    intro w
    rw [Nat.testBit_and, rmask_test _ hr, wg_test, Nat.zero_testBit]
    unfold s_wiB
    by_cases q : r (23 + 8 * w) = 0 <;> simp [q]
  have e1 := sub_bit _ (wg_lt (r := r) _ h7) c hc hs
  refine (or_self (r 5) (by omega) _ (rmask_lt _ hr) c hc ?_).symm
  rw [← e1, Nat.and_comm c, ← Nat.and_assoc, e0, Nat.zero_and]
theorem pl_rest {wy : Nat → Nat} {r : Row} {c : Nat} {f : Nat → Int32} : ∀ n, n ≤ r 5 → r 5 ≤ 6 → s_pl wy (s_rest r c) 63 f n = s_pl wy r c f n := by
  intro n
  induction n with
  | zero => intro _ _; rfl
  | succ n ih =>
    intro hn h6
    have e := ih (by omega) h6
    have h63 : 63 / 2 ^ n % 2 = 1 := by
      have : ∀ n, n < 6 → 63 / 2 ^ n % 2 = 1 := by decide
      exact this n (by omega)
    have ew : s_wish wy (s_rest r c) n = s_wish wy r n := by
      unfold s_wish
      rw [s_rest_o (k := 16 + 8 * n) (by omega), s_rest_o (k := 17 + 8 * n) (by omega), s_rest_o (k := 18 + 8 * n) (by omega), s_rest_o (k := 19 + 8 * n) (by omega), s_rest_o (k := 21 + 8 * n) (by omega), s_rest_o (k := 22 + 8 * n) (by omega), s_rest_o (k := 6) (by omega)]
    unfold s_pl
    rw [e, ew, rest_wi (by omega), s_rest_o (k := 18 + 8 * n) (by omega), h63]
    by_cases q : c / 2 ^ n % 2 = 1 <;> simp [q]
theorem pull_rest {wy : Nat → Nat} {r : Row} {c pl : Nat} {mo : Int32} (h6 : r 5 ≤ 6) : s_pull wy (s_rest r c) 63 pl mo = s_pull wy r c pl mo := by
  have eb : s_base wy (s_rest r c) pl mo = s_base wy r pl mo := by
    funext p
    unfold s_base
    rw [s_rest_o (k := 1) (by omega), s_rest_o (k := 2) (by omega)]
  unfold s_pull
  rw [s_rest_o (k := 5) (by omega), eb, pl_rest _ (Nat.le_refl _) h6]
/-- whether it goes, if but a set is awake -/
def s_gb (wy : Nat → Nat) (r : Row) (c : Nat) : Bool := decide (¬ s_to (s_pull wy r c 0 (nI 0)) (r 1) (r 0) = 9) && decide (¬ s_to (s_pull wy r c 0 (nI 0)) (r 1) (r 0) = r 1)
def s_ch (p T c : Nat) : Nat := p ^ s_bits c * (10 - p) ^ (s_bits T - s_bits c)
def s_ab (wy : Nat → Nat) (r : Row) (p : Nat) : Nat → Nat
  | 0 => 0
  | n + 1 => if n &&& (63 ^^^ s_wg r (r 5)) = 0 ∧ s_gb wy r n = true then s_ab wy r p n + s_ch p (s_wg r (r 5)) n else s_ab wy r p n
theorem s_ab_t {wy : Nat → Nat} {r : Row} {p n : Nat} (h : n &&& (63 ^^^ s_wg r (r 5)) = 0) (h2 : s_gb wy r n = true) : s_ab wy r p (n + 1) = s_ab wy r p n + s_ch p (s_wg r (r 5)) n := if_pos ⟨h, h2⟩
theorem s_ab_f {wy : Nat → Nat} {r : Row} {p n : Nat} (h : ¬ (n &&& (63 ^^^ s_wg r (r 5)) = 0 ∧ s_gb wy r n = true)) : s_ab wy r p (n + 1) = s_ab wy r p n := if_neg h
theorem s_ch_le {p T c : Nat} (hp : p ≤ 10) (hb : s_bits c ≤ s_bits T) : s_ch p T c ≤ 10 ^ s_bits T := by
  unfold s_ch
  have h1 : p ^ s_bits c ≤ 10 ^ s_bits c := Nat.pow_le_pow_left hp _
  have h2 : (10 - p) ^ (s_bits T - s_bits c) ≤ 10 ^ (s_bits T - s_bits c) := Nat.pow_le_pow_left (by omega) _
  have h3 := Nat.mul_le_mul h1 h2
  rw [← Nat.pow_add, show s_bits c + (s_bits T - s_bits c) = s_bits T by omega] at h3
  exact h3
theorem p10_le {n : Nat} (h : n ≤ 6) : 10 ^ n ≤ 1000000 := Nat.le_trans (Nat.pow_le_pow_right (by decide) h) (by decide)
theorem s_ab_lt {wy : Nat → Nat} {r : Row} {p : Nat} (hp : p ≤ 10) (h6 : r 5 ≤ 6) : ∀ n, n ≤ 64 → s_ab wy r p n ≤ n * 1000000 := by
  intro n
  induction n with
  | zero => intro _; exact Nat.le_refl 0
  | succ n ih =>
    intro hn
    have h1 := ih (by omega)
    by_cases q : n &&& (63 ^^^ s_wg r (r 5)) = 0 ∧ s_gb wy r n = true
    · rw [s_ab_t q.1 q.2]
      have h2 := s_ch_le (p := p) hp (sub_le _ (wg_lt (r := r) _ h6) n (by omega) q.1).2
      have h3 := p10_le (s_bits_le (c := s_wg r (r 5)))
      omega
    · exact Nat.le_trans (Nat.le_of_eq (s_ab_f q)) (Nat.le_trans h1 (Nat.mul_le_mul_right _ (Nat.le_succ n)))
theorem s_ab_end {wy : Nat → Nat} {r : Row} {p : Nat} (h6 : r 5 ≤ 6) : ∀ m, s_wg r (r 5) + 1 + m ≤ 64 → s_ab wy r p (s_wg r (r 5) + 1 + m) = s_ab wy r p (s_wg r (r 5) + 1) := by
  intro m
  induction m with
  | zero => intro _; rfl
  | succ m ih =>
    intro h
    refine (s_ab_f (n := s_wg r (r 5) + 1 + m) (fun q => ?_)).trans (ih (by omega))
    have := (sub_le _ (wg_lt (r := r) _ h6) _ (by omega) q.1).1
    omega
theorem s_ab_all {wy : Nat → Nat} {r : Row} {p : Nat} (h6 : r 5 ≤ 6) : s_ab wy r p (s_wg r (r 5) + 1) = s_ab wy r p 64 := by
  have h := wg_lt (r := r) _ h6
  have := s_ab_end (wy := wy) (r := r) (p := p) h6 (64 - (s_wg r (r 5) + 1)) (by omega)
  rw [← this]
  congr 1
  omega
def g_awake (wy : Nat → Nat) (r : Row) (p what : Int32) : Int64 :=
  if nI 0 ≤ p ∧ p ≤ nI 10 then (if nI 0 ≤ what ∧ what ≤ nI 1 then
    nG ((if what = 0 then s_ab wy r p.toNatClampNeg 64 else 10 ^ s_bits (s_wg r (r 5))) / Nat.gcd (10 ^ s_bits (s_wg r (r 5))) (s_ab wy r p.toNatClampNeg 64)) else -1000001) else -1000001
theorem gcd_st (a b : Nat) : Nat.gcd b (a % b) = Nat.gcd a b := by
  rw [Nat.gcd_comm b (a % b), ← Nat.gcd_rec, Nat.gcd_comm]
/-- two numbers on the way to their common divisor, behind k rests -/
def EU (g k a b : Nat) : Prop := Nat.gcd a b = g ∧ a < 2 ^ 30 ∧ b * 2 ^ (k / 2) < 2 ^ 30 ∧ (1 ≤ k → b < a ∧ a * 2 ^ ((k - 1) / 2) < 2 ^ 30)
theorem EU_s {g k a b : Nat} (h : EU g k a b) (hb : ¬ b = 0) : EU g (k + 1) b (a % b) := by
  obtain ⟨h1, h2, h3, h4⟩ := h
  have hm := Nat.mod_lt a (show 0 < b by omega)
  have hb0 : b < 2 ^ 30 := Nat.lt_of_le_of_lt (Nat.le_mul_of_pos_right b (Nat.two_pow_pos _)) h3
  refine ⟨(gcd_st a b).trans h1, hb0, ?_, fun _ => ⟨hm, ?_⟩⟩
  · by_cases hk : k = 0
    · subst hk; show a % b * 1 < _; omega
    · obtain ⟨h5, h6⟩ := h4 (by omega)
      have e : (k + 1) / 2 = (k - 1) / 2 + 1 := by omega
      have h7 : 2 * (a % b) ≤ a := by
        have h8 := Nat.mod_add_div a b
        have h9 : 1 ≤ a / b := (Nat.one_le_div_iff (by omega)).mpr (by omega)
        have h10 : b * 1 ≤ b * (a / b) := Nat.mul_le_mul_left b h9
        omega
      rw [e, Nat.pow_succ, Nat.mul_comm (2 ^ ((k - 1) / 2)) 2, ← Nat.mul_assoc, Nat.mul_comm (a % b) 2]
      exact Nat.lt_of_le_of_lt (Nat.mul_le_mul_right _ h7) h6
  · rw [Nat.add_sub_cancel]; exact h3
theorem EU_e {g a b : Nat} (h : EU g 100 a b) : b = 0 := by
  have h3 := h.2.2.1
  have : 100 / 2 = 50 := by decide
  rw [this] at h3
  omega
theorem EU_b {g k a b : Nat} (h : EU g k a b) : b < 2 ^ 30 := Nat.lt_of_le_of_lt (Nat.le_mul_of_pos_right b (Nat.two_pow_pos _)) h.2.2.1
theorem EU_g {g k a : Nat} (h : EU g k a 0) : a = g := (Nat.gcd_zero_right a).symm.trans h.1
/-! drawn: by a row of random numbers, one's place is another each hour -/
def s_dr (wy : Nat → Nat) (r : Row) (seed : Nat) : Nat → Nat × Row
  | 0 => (seed, r)
  | k + 1 => ((s_dr wy r seed k).1 * 16807 % 2147483647, s_hour wy (if 0 < r 5 then rset (s_dr wy r seed k).2 (18 + 8 * ((s_dr wy r seed k).1 * 16807 % 2147483647 % r 5)) ((s_dr wy r seed k).1 * 16807 % 2147483647 % r 0) else (s_dr wy r seed k).2))
def s_dd (wy : Nat → Nat) (r : Row) (seed k : Nat) : Row := if 0 < r 5 then rset (s_dr wy r seed k).2 (18 + 8 * ((s_dr wy r seed k).1 * 16807 % 2147483647 % r 5)) ((s_dr wy r seed k).1 * 16807 % 2147483647 % r 0) else (s_dr wy r seed k).2
theorem dd_k {wy : Nat → Nat} {r q : Row} {x b : Nat} (hr0 : 0 < r 0) (h0 : q 0 = r 0) (h5 : q 5 = r 5) (hW : WF q) (hT : T2 q) (hH : HB q b) (hY : WY wy q) : (if 0 < r 5 then rset q (18 + 8 * (x % r 5)) (x % r 0) else q) 0 = r 0 ∧ (if 0 < r 5 then rset q (18 + 8 * (x % r 5)) (x % r 0) else q) 5 = r 5 ∧ WF (if 0 < r 5 then rset q (18 + 8 * (x % r 5)) (x % r 0) else q) ∧ T2 (if 0 < r 5 then rset q (18 + 8 * (x % r 5)) (x % r 0) else q) ∧ HB (if 0 < r 5 then rset q (18 + 8 * (x % r 5)) (x % r 0) else q) b ∧ WY wy (if 0 < r 5 then rset q (18 + 8 * (x % r 5)) (x % r 0) else q) := by
  by_cases h : 0 < r 5
  · have h1 := Nat.mod_lt x h
    have h2 := Nat.mod_lt x hr0
    rw [if_pos h]
    exact ⟨(rset_n (by omega)).trans h0, (rset_n (by omega)).trans h5, WF_set hW (Or.inr ⟨x % r 5, by omega, by omega⟩), T2_set hT (by omega), HB_set hH (by omega), WY_set hY (by omega)⟩
  · rw [if_neg h]
    exact ⟨h0, h5, hW, hT, hH, hY⟩
theorem dr_k {wy : Nat → Nat} {r : Row} {seed b : Nat} (hW : WF r) (hT : T2 r) (hH : HB r b) (hY : WY wy r) (hs : seed < 2 ^ 31) : ∀ k, (s_dr wy r seed k).1 < 2 ^ 31 ∧ (s_dr wy r seed k).2 0 = r 0 ∧ (s_dr wy r seed k).2 5 = r 5 ∧ WF (s_dr wy r seed k).2 ∧ T2 (s_dr wy r seed k).2 ∧ HB (s_dr wy r seed k).2 (b + k) ∧ WY wy (s_dr wy r seed k).2 := by
  intro k
  induction k with
  | zero => exact ⟨hs, rfl, rfl, hW, hT, hH, hY⟩
  | succ k ih =>
    obtain ⟨i1, i2, i3, i4, i5, i6, i7⟩ := ih
    obtain ⟨j1, j2, j3, j4, j5, j6⟩ := dd_k (x := (s_dr wy r seed k).1 * 16807 % 2147483647) (by have := hW.1; omega) i2 i3 i4 i5 i6 i7
    exact ⟨Nat.lt_trans (Nat.mod_lt _ (by decide)) (by decide), (s_hour_0 (wy := wy) (r := s_dd wy r seed k)).trans j1, (s_hour_5 (wy := wy) (r := s_dd wy r seed k)).trans j2, WF_hour (wy := wy) (r := s_dd wy r seed k) j3, T2_hour (wy := wy) (r := s_dd wy r seed k), HB_hour (wy := wy) (r := s_dd wy r seed k) j5, WY_hour (wy := wy) (r := s_dd wy r seed k) j6⟩
def g_drawn (wy : Nat → Nat) (r : Row) (n seed what : Int32) : Int32 :=
  if nI 0 ≤ n ∧ n ≤ nI 60 then (if nI 1 ≤ seed ∧ seed ≤ nI 999999 then (if nI 0 ≤ what ∧ what ≤ nI 1 then
    (if what = 0 then nI ((s_dr wy r seed.toNatClampNeg n.toNatClampNeg).2 1) else nI ((s_dr wy r seed.toNatClampNeg n.toNatClampNeg).2 7) - nI (r 7)) else -1000001) else -1000001) else -1000001
