/-! an hour of a land, in numbers -/
theorem upo_s {α : Type} {D : Nat → α} {o : Nat} {f : α} : upo D o f o = f := if_pos rfl
theorem upo_n {α : Type} {D : Nat → α} {o i : Nat} {f : α} (h : i ≠ o) : upo D o f i = D i := if_neg h
theorem upo_upo {α : Type} {D : Nat → α} {o : Nat} {f g : α} : upo (upo D o f) o g = upo D o g := by
  funext i
  by_cases h : i = o <;> simp [upo, h]
theorem upo_id {α : Type} {D : Nat → α} {o : Nat} : upo D o (D o) = D := by
  funext i
  by_cases h : i = o <;> simp [upo, h]
theorem up2_upo {D : DD} {o k : Nat} {f : Nat → Int32} {v : Int32} : up2 (upo D o f) o k v = upo D o (upd f k v) := by
  funext i j
  by_cases h : i = o
  · subst h
    by_cases hj : j = k <;> simp [up2, upo, upd, hj]
  · simp [up2, upo, h]
theorem up2_eq {D : DD} {o k : Nat} {v : Int32} : up2 D o k v = upo D o (upd (D o) k v) := by
  rw [← up2_upo, upo_id]
def s_base (wy : Nat → Nat) (r : Row) (place : Nat) (more : Int32) (p : Nat) : Int32 := (if p = r 1 then nI (r 2) else (-2) * nI (wy (6 * r 1 + p))) + (if p = place then more else nI 0)
/-- what pulls, by the wishers of a set -/
def s_pl (wy : Nat → Nat) (r : Row) (set : Nat) (base : Nat → Int32) : Nat → Nat → Int32
  | 0 => base
  | n + 1 => if set / 2 ^ n % 2 = 1 ∧ s_wiB r n = true then upd (s_pl wy r set base n) (r (18 + 8 * n)) (s_pl wy r set base n (r (18 + 8 * n)) + nI (s_wish wy r n)) else s_pl wy r set base n
def s_pull (wy : Nat → Nat) (r : Row) (set place : Nat) (more : Int32) : Nat → Int32 := s_pl wy r set (s_base wy r place more) (r 5)
/-- the best so far, and how many are as good -/
def s_best (f : Nat → Int32) (at' : Nat) : Nat → Nat × Nat
  | 0 => (at', 1)
  | n + 1 => if f (s_best f at' n).1 < f n then (n, 1) else if n ≠ (s_best f at' n).1 ∧ f n = f (s_best f at' n).1 then ((s_best f at' n).1, (s_best f at' n).2 + 1) else s_best f at' n
/-- where it goes; 9: it is halved -/
def s_to (f : Nat → Int32) (at' n : Nat) : Nat := if (s_best f at' n).1 = at' ∨ (s_best f at' n).2 = 1 then (s_best f at' n).1 else 9
def s_goes (wy : Nat → Nat) (r : Row) : Nat := s_to (s_pull wy r 63 0 (nI 0)) (r 1) (r 0)
def s_milk (m a t : Nat) : Nat := (m ||| 2 ^ a) &&& (63 ^^^ 2 ^ t)
def s_tire (r : Row) (w : Nat) : Nat := if r (16 + 8 * w) = 2 then 0 else if s_wiB r w = true then min 20 (r (22 + 8 * w) + r 3) else r (22 + 8 * w) - 1
def s_hour (wy : Nat → Nat) (r : Row) : Row := fun k =>
  if k = 6 then r 6 + 1
  else if k = 1 then (if s_goes wy r = 9 then r 1 else s_goes wy r)
  else if k = 7 then (if s_goes wy r ≠ 9 ∧ s_goes wy r ≠ r 1 then r 7 + 1 else r 7)
  else if k = 8 then (if s_goes wy r = 9 then r 8 + 1 else r 8)
  else if k = 9 then (if s_goes wy r ≠ 9 ∧ s_goes wy r ≠ r 1 then s_milk (r 9) (r 1) (s_goes wy r) else r 9)
  else if 16 ≤ k ∧ k % 8 = 6 ∧ (k - 16) / 8 < r 5 then s_tire r ((k - 16) / 8)
  else r k
def s_hours (wy : Nat → Nat) : Nat → Row → Row
  | 0, r => r
  | n + 1, r => s_hour wy (s_hours wy n r)
theorem s_best_ok {f : Nat → Int32} {at' : Nat} : ∀ n, ((s_best f at' n).1 = at' ∨ (s_best f at' n).1 < n) ∧ 1 ≤ (s_best f at' n).2 := by
  intro n
  induction n with
  | zero => exact ⟨Or.inl rfl, Nat.le_refl 1⟩
  | succ n ih =>
    unfold s_best
    split
    · exact ⟨Or.inr (Nat.lt_succ_self n), Nat.le_refl 1⟩
    · split
      · exact ⟨ih.1.imp id (fun h => by show (s_best f at' n).1 < n + 1; omega), by show 1 ≤ (s_best f at' n).2 + 1; omega⟩
      · exact ⟨ih.1.imp id (fun h => by omega), ih.2⟩
theorem s_to_ok {f : Nat → Int32} {at' n : Nat} (h : at' < n) : s_to f at' n = 9 ∨ s_to f at' n < n := by
  unfold s_to
  split
  · rcases (s_best_ok (f := f) (at' := at') n).1 with h1 | h1
    · exact Or.inr (by omega)
    · exact Or.inr h1
  · exact Or.inl rfl
theorem s_best_congr {f g : Nat → Int32} {at' : Nat} : ∀ n, (∀ p, p < n → f p = g p) → (f at' = g at') → s_best f at' n = s_best g at' n := by
  intro n
  induction n with
  | zero => intro _ _; rfl
  | succ n ih =>
    intro h h'
    have e := ih (fun p hp => h p (by omega)) h'
    have e1 : f (s_best g at' n).1 = g (s_best g at' n).1 := by
      rcases (s_best_ok (f := g) (at' := at') n).1 with q | q
      · rw [q]; exact h'
      · exact h _ (by omega)
    unfold s_best
    rw [e, e1, h n (by omega)]
theorem s_to_congr {f g : Nat → Int32} {at' n : Nat} (h : ∀ p, p < n → f p = g p) (ha : at' < n) : s_to f at' n = s_to g at' n := by
  unfold s_to
  rw [s_best_congr n h (h _ ha)]
theorem s_goes_ok {wy : Nat → Nat} {r : Row} (hW : WF r) : s_goes wy r = 9 ∨ s_goes wy r < r 0 := s_to_ok hW.1.2.2.1
theorem mx_1 {a b : Nat} (ha : a < 2 ^ 30) (hb : b < 2 ^ 30) : (if nI 0 < nI a - nI b then nI a - nI b else nI 0) = nI (a - b) := by
  by_cases h : b < a
  · rw [nI_sub (Nat.le_of_lt h), if_pos (nI_lt (by omega) (by omega))]
  · rw [show a - b = 0 by omega]
    by_cases h2 : a = b
    · subst h2; rw [nI_sub (Nat.le_refl a), Nat.sub_self]; simp
    · have h3 := pk_sneg hb (show a < b by omega)
      rw [if_neg (fun q => by have := Int32.lt_trans q (nI_0 ▸ h3); exact Int32.lt_irrefl this)]
theorem mx_2 {a b c : Nat} (ha : a < 2 ^ 28) (hb : b < 2 ^ 28) (hc : c < 2 ^ 28) : (if nI 0 < nI a - nI b - nI c then nI a - nI b - nI c else nI 0) = nI (a - b - c) := by
  have e : nI a - nI b - nI c = nI a - nI (b + c) := by rw [← nI_add, Int32.sub_sub]
  rw [e, mx_1 (by omega) (by omega), Nat.sub_sub]
/-- all places of a Course and of a Land are apart -/
def DJ (o p : Nat) : Prop := ∀ i j, i < 6 → j < 6 → o + i ≠ p + j
def s_wg (r : Row) : Nat → Nat
  | 0 => 0
  | n + 1 => if s_wiB r n = true then s_wg r n ||| 2 ^ n else s_wg r n
theorem nI_or (a b : Nat) : nI a ||| nI b = nI (a ||| b) := by
  apply Int32.toBitVec_inj.mp
  show (nI a).toBitVec ||| (nI b).toBitVec = (nI (a ||| b)).toBitVec
  show BitVec.ofNat 32 a ||| BitVec.ofNat 32 b = BitVec.ofNat 32 (a ||| b)
  rw [BitVec.ofNat_or]
theorem nI_and (a b : Nat) : nI a &&& nI b = nI (a &&& b) := by
  apply Int32.toBitVec_inj.mp
  show BitVec.ofNat 32 a &&& BitVec.ofNat 32 b = BitVec.ofNat 32 (a &&& b)
  rw [BitVec.ofNat_and]
theorem nI_xor (a b : Nat) : nI a ^^^ nI b = nI (a ^^^ b) := by
  apply Int32.toBitVec_inj.mp
  show BitVec.ofNat 32 a ^^^ BitVec.ofNat 32 b = BitVec.ofNat 32 (a ^^^ b)
  rw [BitVec.ofNat_xor]
theorem CA_upo {D : DD} {o q : Nat} {r : Row} {f : Nat → Int32} (h : CA D o r) (hq : ∀ j, j < 5 → o + j ≠ q) : CA (upo D q f) o r := by
  have e0 := upo_n (D := D) (f := f) (hq 0 (by decide))
  have e1 := upo_n (D := D) (f := f) (hq 1 (by decide))
  have e2 := upo_n (D := D) (f := f) (hq 2 (by decide))
  have e3 := upo_n (D := D) (f := f) (hq 3 (by decide))
  have e4 := upo_n (D := D) (f := f) (hq 4 (by decide))
  rw [Nat.add_zero] at e0
  unfold CA
  rw [e0, e1, e2, e3, e4]
  exact h
theorem LA_upo {D : DD} {p q : Nat} {wy : Nat → Nat} {r : Row} {f : Nat → Int32} (h : LA D p wy r) (hq : ∀ j, j < 6 → p + j ≠ q) : LA (upo D q f) p wy r := by
  have e0 := upo_n (D := D) (f := f) (hq 0 (by decide))
  have e1 := upo_n (D := D) (f := f) (hq 1 (by decide))
  have e2 := upo_n (D := D) (f := f) (hq 2 (by decide))
  have e3 := upo_n (D := D) (f := f) (hq 3 (by decide))
  have e4 := upo_n (D := D) (f := f) (hq 4 (by decide))
  have e5 := upo_n (D := D) (f := f) (hq 5 (by decide))
  rw [Nat.add_zero] at e0
  unfold LA
  rw [e0, e1, e2, e3, e4, e5]
  exact h
def w1 (D : DD) (o : Nat) (wy : Nat → Nat) (r : Row) (k : Nat) : Nat → Int32 := fun p => if p < k then (-2) * nI (wy (6 * r 1 + p)) else D (o + 5) p
def w2 (D : DD) (o : Nat) (wy : Nat → Nat) (r : Row) : Nat → Int32 := fun p => if p < r 0 then s_base wy r 0 (nI 0) p else D (o + 5) p
theorem w1_0 {D : DD} {o : Nat} {wy : Nat → Nat} {r : Row} : upo D (o + 5) (w1 D o wy r 0) = D := by
  have : w1 D o wy r 0 = D (o + 5) := by
    funext p
    exact if_neg (Nat.not_lt_zero p)
  rw [this, upo_id]
theorem w1_s {D : DD} {o : Nat} {wy : Nat → Nat} {r : Row} {k : Nat} : upd (w1 D o wy r k) k ((-2) * nI (wy (6 * r 1 + k))) = w1 D o wy r (k + 1) := by
  funext p
  unfold upd w1
  by_cases h : p = k
  · subst h; simp
  · have : (p < k + 1) = (p < k) := by simp; omega
    simp [h, this]
theorem s_base0 {wy : Nat → Nat} {r : Row} {p : Nat} : s_base wy r 0 (nI 0) p = if p = r 1 then nI (r 2) else (-2) * nI (wy (6 * r 1 + p)) := by
  unfold s_base
  have : (if p = 0 then nI 0 else nI 0) = 0 := by simp [nI_0]
  rw [this, Int32.add_zero]
theorem w1_2 {D : DD} {o : Nat} {wy : Nat → Nat} {r : Row} (h : r 1 < r 0) : upd (w1 D o wy r (r 0)) (r 1) (nI (0 + r 2)) = w2 D o wy r := by
  funext p
  unfold upd w1 w2
  by_cases h1 : p = r 1
  · subst h1; rw [if_pos rfl, if_pos h, s_base0, if_pos rfl, Nat.zero_add]
  · rw [if_neg h1]
    by_cases h2 : p < r 0
    · rw [if_pos h2, if_pos h2, s_base0, if_neg h1]
    · rw [if_neg h2, if_neg h2]
theorem s_pl_congr {wy : Nat → Nat} {r : Row} {set m : Nat} {f g : Nat → Int32} (h : ∀ p, p < m → f p = g p) : ∀ n, (∀ w, w < n → r (18 + 8 * w) < m) → ∀ p, p < m → s_pl wy r set f n p = s_pl wy r set g n p := by
  intro n
  induction n with
  | zero => intro _ p hp; exact h p hp
  | succ n ih =>
    intro hw p hp
    have e := ih (fun w hw' => hw w (by omega))
    unfold s_pl
    split
    · unfold upd
      by_cases h1 : p = r (18 + 8 * n)
      · rw [if_pos h1, if_pos h1, e _ (hw n (by omega))]
      · rw [if_neg h1, if_neg h1, e p hp]
    · exact e p hp
theorem b63 : ∀ k, k < 6 → 63 / 2 ^ k % 2 = 1 := by decide
def CW (D : DD) (o : Nat) (r : Row) : Prop := D o 0 = nI (r 6) ∧ D o 5 = nI (rmask r (r 5))
def CT (D : DD) (o : Nat) (r : Row) : Prop := ∀ w, w < r 5 → D (o + 1) w = nI (r (16 + 8 * w)) ∧ D (o + 4) w = nI (r (22 + 8 * w))
theorem CA.w {D : DD} {o : Nat} {r : Row} (h : CA D o r) : CW D o r := ⟨h.1.1, h.1.2.2.2.2.2⟩
theorem CA.t {D : DD} {o : Nat} {r : Row} (h : CA D o r) : CT D o r := fun w hw => ⟨(h.2.1 w hw).1, (h.2.1 w hw).2.2.2⟩
theorem s_to_1 {f : Nat → Int32} {a n : Nat} (h : (s_best f a n).1 = a ∨ (s_best f a n).2 = 1) : s_to f a n = (s_best f a n).1 := if_pos h
theorem s_to_9 {f : Nat → Int32} {a n : Nat} (h : ¬ ((s_best f a n).1 = a ∨ (s_best f a n).2 = 1)) : s_to f a n = 9 := if_neg h
theorem m1_ne : ∀ t, t < 9 → ¬ nI t = (-1) := by decide
theorem code_m1 {t : Nat} (h : t ≤ 9) : (if t = 9 then (-1 : Int32) else nI t) = (-1) ↔ t = 9 := by
  by_cases h9 : t = 9
  · simp [h9]
  · rw [if_neg h9]
    exact ⟨fun q => absurd q (m1_ne t (by omega)), fun q => absurd q h9⟩
theorem mn_1 {a b : Nat} (ha : a < 2 ^ 31) (hb : b < 2 ^ 31) : (if nI b < nI a then nI b else nI a) = nI (min a b) := by
  by_cases h : b < a
  · rw [if_pos (nI_lt h ha), Nat.min_eq_right (Nat.le_of_lt h)]
  · rw [if_neg (nI_nlt (by omega) hb), Nat.min_eq_left (by omega)]
def t1 (D : DD) (o : Nat) (r : Row) (k : Nat) : Nat → Int32 := fun p => if p < k then nI (s_tire r p) else D (o + 4) p
theorem t1_0 {D : DD} {o : Nat} {r : Row} : upo D (o + 4) (t1 D o r 0) = D := by
  have : t1 D o r 0 = D (o + 4) := by
    funext p
    exact if_neg (Nat.not_lt_zero p)
  rw [this, upo_id]
theorem t1_s {D : DD} {o : Nat} {r : Row} {k : Nat} {v : Int32} (h : v = nI (s_tire r k)) : upd (t1 D o r k) k v = t1 D o r (k + 1) := by
  subst h
  funext p
  unfold upd t1
  by_cases h : p = k
  · subst h; simp
  · have : (p < k + 1) = (p < k) := by simp; omega
    simp [h, this]
def T2 (r : Row) : Prop := ∀ w, w < r 5 → r (16 + 8 * w) = 2 → r (22 + 8 * w) = 0
theorem t1_w {D : DD} {o : Nat} {r : Row} {k : Nat} (h : D (o + 4) k = nI (r (22 + 8 * k))) (h0 : r (22 + 8 * k) = 0) (h2 : r (16 + 8 * k) = 2) : t1 D o r (k + 1) = t1 D o r k := by
  funext p
  unfold t1
  by_cases q : p = k
  · subst q
    rw [if_pos (Nat.lt_succ_self p), if_neg (Nat.lt_irrefl p), h, h0]
    unfold s_tire
    rw [if_pos h2]
  · by_cases u : p < k
    · rw [if_pos u, if_pos (by omega)]
    · rw [if_neg u, if_neg (by omega)]
theorem ti_1 {r : Row} {k : Nat} (h2 : ¬ r (16 + 8 * k) = 2) (hw : s_wiB r k = true) : (if nI 0 < nI (min 20 (r (22 + 8 * k) + r 3)) then nI (min 20 (r (22 + 8 * k) + r 3)) else nI 0) = nI (s_tire r k) := by
  unfold s_tire
  rw [if_neg h2, if_pos hw]
  by_cases q : min 20 (r (22 + 8 * k) + r 3) = 0
  · rw [q, if_neg (by decide)]
  · rw [if_pos (nI_lt (by omega) (by omega))]
def ti_z (t : Nat) : Int32 := if t = 0 then -1 else nI (t - 1)
theorem ti_zd {t : Nat} (h : t ≤ 20) : (if nI t + (-1) < nI 20 then nI t + (-1) else nI 20) = ti_z t := by
  have : ∀ t, t < 21 → (if nI t + (-1) < nI 20 then nI t + (-1) else nI 20) = ti_z t := by decide +kernel
  exact this t (by omega)
theorem ti_2 {r : Row} {k : Nat} (h2 : ¬ r (16 + 8 * k) = 2) (hw : ¬ s_wiB r k = true) (ht : r (22 + 8 * k) ≤ 20) : (if nI 0 < ti_z (r (22 + 8 * k)) then ti_z (r (22 + 8 * k)) else nI 0) = nI (s_tire r k) := by
  unfold s_tire
  rw [if_neg h2, if_neg hw]
  have : ∀ t, t < 21 → (if nI 0 < ti_z t then ti_z t else nI 0) = nI (t - 1) := by decide +kernel
  exact this _ (by omega)
theorem s_hour_o {wy : Nat → Nat} {r : Row} {k : Nat} (h : k ≠ 6 ∧ k ≠ 1 ∧ k ≠ 7 ∧ k ≠ 8 ∧ k ≠ 9) (h2 : k < 16 ∨ k % 8 ≠ 6) : s_hour wy r k = r k := by
  obtain ⟨h6, h1, h7, h8, h9⟩ := h
  unfold s_hour
  rw [if_neg h6, if_neg h1, if_neg h7, if_neg h8, if_neg h9, if_neg (by omega)]
theorem s_hour_t {wy : Nat → Nat} {r : Row} {w : Nat} (h : w < r 5) : s_hour wy r (22 + 8 * w) = s_tire r w := by
  have e : (22 + 8 * w - 16) / 8 = w := by omega
  unfold s_hour
  rw [if_neg (by omega), if_neg (by omega), if_neg (by omega), if_neg (by omega), if_neg (by omega), e, if_pos ⟨by omega, by omega, h⟩]
theorem s_hour_z {wy : Nat → Nat} {r : Row} {w : Nat} (h : r 5 ≤ w) : s_hour wy r (22 + 8 * w) = r (22 + 8 * w) := by
  have e : (22 + 8 * w - 16) / 8 = w := by omega
  unfold s_hour
  rw [if_neg (by omega), if_neg (by omega), if_neg (by omega), if_neg (by omega), if_neg (by omega), e, if_neg (by omega)]
theorem s_hour_6 {wy : Nat → Nat} {r : Row} : s_hour wy r 6 = r 6 + 1 := rfl
theorem s_hour_5 {wy : Nat → Nat} {r : Row} : s_hour wy r 5 = r 5 := s_hour_o (by omega) (by omega)
theorem s_hour_0 {wy : Nat → Nat} {r : Row} : s_hour wy r 0 = r 0 := s_hour_o (by omega) (by omega)
theorem rmask_congr {r r' : Row} : ∀ n, (∀ w, w < n → r (23 + 8 * w) = r' (23 + 8 * w)) → rmask r n = rmask r' n := by
  intro n
  induction n with
  | zero => intro _; rfl
  | succ n ih =>
    intro h
    show rmask r n + r (23 + 8 * n) * 2 ^ n = rmask r' n + r' (23 + 8 * n) * 2 ^ n
    rw [ih (fun w hw => h w (by omega)), h n (by omega)]
theorem rmask_hour {wy : Nat → Nat} {r : Row} {n : Nat} : rmask (s_hour wy r) n = rmask r n := rmask_congr n (fun w _ => s_hour_o (by omega) (by omega))
theorem milk_n : ∀ x, x < 64 → ∀ t, t < 6 → nI x &&& (nI (2 ^ t) ^^^ (-1)) = nI (x &&& (63 ^^^ 2 ^ t)) := by decide +kernel
theorem milk_lt : ∀ x, x < 64 → ∀ t, t < 6 → x &&& (63 ^^^ 2 ^ t) < 64 := by decide +kernel
theorem or_lt64 {x y : Nat} (h : x < 64) (h' : y < 64) : x ||| y < 64 := Nat.or_lt_two_pow (n := 6) h h'
theorem pw_lt64 {a : Nat} (h : a < 6) : 2 ^ a < 64 := Nat.pow_lt_pow_right (by decide) h
theorem upo_self {α : Type} {D : Nat → α} {o : Nat} {f : α} (h : D o = f) : D = upo D o f := by rw [← h, upo_id]
/-- the Course's numbers behind the move, ahead of the hour's count -/
def FRP (wy : Nat → Nat) (r : Row) (D : DD) (o : Nat) (fr : Nat → Int32) : Prop := fr 0 = nI (r 6) ∧ fr 1 = nI (s_hour wy r 1) ∧ fr 2 = nI (s_hour wy r 7) ∧ fr 3 = nI (s_hour wy r 8) ∧ fr 4 = nI (s_hour wy r 9) ∧ fr 5 = D o 5
theorem fr_half {wy : Nat → Nat} {r : Row} {D : DD} {o : Nat} (hC : CA D o r) (h : s_goes wy r = 9) : FRP wy r D o (upd (D o) 3 (nI (r 8 + 1))) := by
  obtain ⟨⟨c1, c2, c3, c4, c5, c6⟩, -, -⟩ := hC
  unfold FRP s_hour upd
  simp [h, c1, c2, c3, c4, c5]
theorem fr_stay {wy : Nat → Nat} {r : Row} {D : DD} {o : Nat} (hC : CA D o r) (h9 : ¬ s_goes wy r = 9) (h : s_goes wy r = r 1) : FRP wy r D o (D o) := by
  obtain ⟨⟨c1, c2, c3, c4, c5, c6⟩, -, -⟩ := hC
  have h9' : ¬ r 1 = 9 := h ▸ h9
  unfold FRP s_hour
  simp [h, h9', c1, c2, c3, c4, c5]
theorem fr_move {wy : Nat → Nat} {r : Row} {D : DD} {o : Nat} (hC : CA D o r) (h9 : ¬ s_goes wy r = 9) (h : ¬ s_goes wy r = r 1) : FRP wy r D o (upd (upd (upd (D o) 4 (nI (s_milk (r 9) (r 1) (s_goes wy r)))) 1 (nI (s_goes wy r))) 2 (nI (r 7 + 1))) := by
  obtain ⟨⟨c1, c2, c3, c4, c5, c6⟩, -, -⟩ := hC
  unfold FRP s_hour upd
  simp [h, h9, c1, c4]
theorem pass_end {wy : Nat → Nat} {r : Row} {D : DD} {o : Nat} {g5 g4 fr : Nat → Int32} (hC : CA D o r) (h5 : r 5 ≤ 6) (hf : FRP wy r D o fr) (hg : ∀ w, w < r 5 → g4 w = nI (s_tire r w)) (hg2 : ∀ w, r 5 ≤ w → g4 w = D (o + 4) w) :
    (∀ q, q ≠ o → q ≠ o + 4 → q ≠ o + 5 → up2 (upo (upo (upo D (o + 5) g5) o fr) (o + 4) g4) o 0 (nI (r 6 + 1)) q = D q) ∧ CA (up2 (upo (upo (upo D (o + 5) g5) o fr) (o + 4) g4) o 0 (nI (r 6 + 1))) o (s_hour wy r) := by
  obtain ⟨f0, f1, f2, f3, f4, f5⟩ := hf
  have ho : ∀ j, j ≠ 0 → up2 (upo (upo (upo D (o + 5) g5) o fr) (o + 4) g4) o 0 (nI (r 6 + 1)) o j = fr j := fun j hj => (up2_n (fun q => hj q.2)).trans ((congrFun (upo_n (by omega)) j).trans (congrFun upo_s j))
  have hq : ∀ q, q ≠ o → q ≠ o + 4 → q ≠ o + 5 → up2 (upo (upo (upo D (o + 5) g5) o fr) (o + 4) g4) o 0 (nI (r 6 + 1)) q = D q := fun q h1 h2 h3 => (up2_o h1).trans ((upo_n h2).trans ((upo_n h1).trans (upo_n h3)))
  have h4 : up2 (upo (upo (upo D (o + 5) g5) o fr) (o + 4) g4) o 0 (nI (r 6 + 1)) (o + 4) = g4 := (up2_o (by omega)).trans upo_s
  refine ⟨hq, ⟨up2_s, (ho 1 (by decide)).trans f1, (ho 2 (by decide)).trans f2, (ho 3 (by decide)).trans f3, (ho 4 (by decide)).trans f4, ?_⟩, fun w hw => ?_, fun w hw hw6 => ?_⟩
  · rw [ho 5 (by decide), f5, rmask_hour, s_hour_5]
    exact hC.1.2.2.2.2.2
  · rw [s_hour_5] at hw
    rw [hq _ (by omega) (by omega) (by omega), hq _ (by omega) (by omega) (by omega), hq _ (by omega) (by omega) (by omega), h4, s_hour_o (by omega) (by omega), s_hour_o (by omega) (by omega), s_hour_o (by omega) (by omega), s_hour_t hw]
    exact ⟨(hC.2.1 w hw).1, (hC.2.1 w hw).2.1, (hC.2.1 w hw).2.2.1, hg w hw⟩
  · rw [s_hour_5] at hw
    rw [h4, hg2 w hw]
    exact hC.2.2 w hw hw6
theorem WF_hour {wy : Nat → Nat} {r : Row} (hW : WF r) : WF (s_hour wy r) := by
  have hg := s_goes_ok (wy := wy) hW
  obtain ⟨⟨b1, b2, b3, b4, b5, b6, b7, b8⟩, b9, b10, b11⟩ := hW
  unfold WF
  rw [s_hour_0, s_hour_5, s_hour_o (k := 2) (by omega) (by omega), s_hour_o (k := 3) (by omega) (by omega), s_hour_o (k := 4) (by omega) (by omega)]
  refine ⟨⟨b1, b2, ?_, b4, b5, b6, b7, ?_⟩, fun j hj => ?_, fun w hw => ?_, fun k hk => ?_⟩
  · unfold s_hour
    simp only [if_neg (show ¬ (1 = 6) by decide), if_true]
    split <;> omega
  · unfold s_hour
    simp only [if_neg (show ¬ (9 = 6) by decide), if_neg (show ¬ (9 = 1) by decide), if_neg (show ¬ (9 = 7) by decide), if_neg (show ¬ (9 = 8) by decide), if_true]
    split
    · exact milk_lt _ (or_lt64 b8 (pw_lt64 (by omega))) _ (by omega)
    · exact b8
  · rw [s_hour_o (by omega) (by omega)]
    exact b9 j hj
  · obtain ⟨d1, d3, d4, d5, d6, d7, d9, d10⟩ := b10 w hw
    rw [s_hour_o (by omega) (by omega), s_hour_o (by omega) (by omega), s_hour_o (by omega) (by omega), s_hour_o (by omega) (by omega), s_hour_o (by omega) (by omega), s_hour_o (by omega) (by omega), s_hour_t hw, s_hour_o (by omega) (by omega)]
    refine ⟨d1, d3, d4, d5, d6, d7, ?_, d10⟩
    unfold s_tire
    split
    · omega
    · split <;> omega
  · have hk2 : 16 ≤ k := by omega
    unfold s_hour
    rw [if_neg (by omega), if_neg (by omega), if_neg (by omega), if_neg (by omega), if_neg (by omega), if_neg (fun q => by omega)]
    exact b11 k hk
theorem T2_hour {wy : Nat → Nat} {r : Row} : T2 (s_hour wy r) := by
  intro w hw h
  rw [s_hour_5] at hw
  rw [s_hour_o (by omega) (by omega)] at h
  rw [s_hour_t hw]
  exact if_pos h
theorem HB_hour {wy : Nat → Nat} {r : Row} {b : Nat} (h : HB r b) : HB (s_hour wy r) (b + 1) := by
  obtain ⟨h1, h2, h3⟩ := h
  refine ⟨by rw [s_hour_6]; omega, ?_, ?_⟩
  · unfold s_hour
    simp only [if_neg (show ¬ (7 = 6) by decide), if_neg (show ¬ (7 = 1) by decide), if_true]
    split <;> omega
  · unfold s_hour
    simp only [if_neg (show ¬ (8 = 6) by decide), if_neg (show ¬ (8 = 1) by decide), if_neg (show ¬ (8 = 7) by decide), if_true]
    split <;> omega
theorem LA_hour {wy : Nat → Nat} {r : Row} {D : DD} {p : Nat} (h : LA D p wy r) : LA D p wy (s_hour wy r) := by
  obtain ⟨⟨h1, h2, h3, h4, h5⟩, h6, h7, h8⟩ := h
  unfold LA
  rw [s_hour_0, s_hour_5, s_hour_o (k := 2) (by omega) (by omega), s_hour_o (k := 3) (by omega) (by omega), s_hour_o (k := 4) (by omega) (by omega)]
  refine ⟨⟨h1, h2, h3, h4, h5⟩, fun j hj => ?_, h7, fun w hw => ?_⟩
  · rw [s_hour_o (by omega) (by omega)]; exact h6 j hj
  · rw [s_hour_o (by omega) (by omega), s_hour_o (by omega) (by omega), s_hour_o (by omega) (by omega)]; exact h8 w hw
theorem WY_hour {wy : Nat → Nat} {r : Row} (h : WY wy r) : WY wy (s_hour wy r) := by
  unfold WY
  rw [s_hour_0]
  exact h
theorem s_hours_k {wy : Nat → Nat} {r : Row} {b : Nat} (hW : WF r) (hT : T2 r) (hH : HB r b) (hY : WY wy r) : ∀ n, WF (s_hours wy n r) ∧ T2 (s_hours wy n r) ∧ HB (s_hours wy n r) (b + n) ∧ WY wy (s_hours wy n r) := by
  intro n
  induction n with
  | zero => exact ⟨hW, hT, hH, hY⟩
  | succ n ih => exact ⟨WF_hour ih.1, T2_hour, HB_hour ih.2.2.1, WY_hour ih.2.2.2⟩
theorem LA_hours {wy : Nat → Nat} {r : Row} {D : DD} {p : Nat} (h : LA D p wy r) : ∀ n, LA D p wy (s_hours wy n r) := by
  intro n
  induction n with
  | zero => exact h
  | succ n ih => exact LA_hour ih
theorem LA_eq {wy : Nat → Nat} {r : Row} {D D' : DD} {p : Nat} (h : LA D p wy r) (e : ∀ j, j < 6 → D' (p + j) = D (p + j)) : LA D' p wy r := by
  have e0 := e 0 (by decide)
  rw [Nat.add_zero] at e0
  unfold LA
  rw [e0, e 1 (by decide), e 2 (by decide), e 3 (by decide), e 4 (by decide), e 5 (by decide)]
  exact h
theorem CA_eq {r : Row} {D D' : DD} {o : Nat} (h : CA D o r) (e : ∀ j, j < 5 → D' (o + j) = D (o + j)) : CA D' o r := by
  have e0 := e 0 (by decide)
  rw [Nat.add_zero] at e0
  unfold CA
  rw [e0, e 1 (by decide), e 2 (by decide), e 3 (by decide), e 4 (by decide)]
  exact h
def cpn (n : Nat) (f g : Nat → Int32) : Nat → Int32 := fun j => if j < n then f j else g j
theorem cpy_n {n : Nat} (h : n < 2 ^ 31) {f g : Nat → Int32} : va_cpy f g (nI 0).toNatClampNeg (nI 0).toNatClampNeg (nI n).toNatClampNeg = cpn n f g := by
  rw [nI_clamp (show 0 < 2 ^ 31 by decide), nI_clamp h]
  funext j
  unfold va_cpy cpn
  by_cases hj : j < n
  · rw [if_pos ⟨Nat.zero_le _, by omega⟩, if_pos hj]; congr 1; omega
  · rw [if_neg (fun q => by omega), if_neg hj]
/-- the Course o is as the Course q was -/
def CP (D D' : DD) (o q : Nat) : Prop := (∀ i, i < 6 → D' o i = D q i) ∧ ∀ j, 1 ≤ j → j < 5 → ∀ i, i < 6 → D' (o + j) i = D (q + j) i
def fr6 (f g : Nat → Int32) : Nat → Int32 := upd (upd (upd (upd (upd (upd f 0 (g 0)) 1 (g 1)) 2 (g 2)) 3 (g 3)) 4 (g 4)) 5 (g 5)
theorem fr6_at {f g : Nat → Int32} : ∀ i, i < 6 → fr6 f g i = g i := by
  intro i h
  unfold fr6 upd
  match i, h with
  | 0, _ => rfl
  | 1, _ => rfl
  | 2, _ => rfl
  | 3, _ => rfl
  | 4, _ => rfl
  | 5, _ => rfl
theorem CA_CP {D D' : DD} {o q : Nat} {r : Row} (h5 : r 5 ≤ 6) (h : CP D D' o q) (hC : CA D q r) : CA D' o r := by
  obtain ⟨h1, h2⟩ := h
  obtain ⟨c, d, e⟩ := hC
  refine ⟨?_, fun w hw => ?_, fun w hw hw6 => ?_⟩
  · rw [h1 0 (by decide), h1 1 (by decide), h1 2 (by decide), h1 3 (by decide), h1 4 (by decide), h1 5 (by decide)]
    exact c
  · rw [h2 1 (by decide) (by decide) w (by omega), h2 2 (by decide) (by decide) w (by omega), h2 3 (by decide) (by decide) w (by omega), h2 4 (by decide) (by decide) w (by omega)]
    exact d w hw
  · rw [h2 4 (by decide) (by decide) w hw6]
    exact e w hw hw6
def takeD (D : DD) (o q : Nat) : DD := upo (upo (upo (upo (upo D o (fr6 (D o) (D q))) (o + 1) (cpn 6 (D (q + 1)) (D (o + 1)))) (o + 2) (cpn 6 (D (q + 2)) (D (o + 2)))) (o + 3) (cpn 6 (D (q + 3)) (D (o + 3)))) (o + 4) (cpn 6 (D (q + 4)) (D (o + 4)))
theorem take_fr {D : DD} {o q i : Nat} (h : ∀ j, j < 5 → i ≠ o + j) : takeD D o q i = D i := by
  have h0 := h 0 (by decide)
  rw [Nat.add_zero] at h0
  exact (upo_n (h 4 (by decide))).trans ((upo_n (h 3 (by decide))).trans ((upo_n (h 2 (by decide))).trans ((upo_n (h 1 (by decide))).trans (upo_n h0))))
theorem take_CP {D : DD} {o q : Nat} : CP D (takeD D o q) o q := by
  refine ⟨fun i hi => ?_, fun j h1 h5 i hi => ?_⟩
  · have e : takeD D o q o = fr6 (D o) (D q) := (upo_n (by omega)).trans ((upo_n (by omega)).trans ((upo_n (by omega)).trans ((upo_n (by omega)).trans upo_s)))
    rw [e]
    exact fr6_at i hi
  · have e : takeD D o q (o + j) = cpn 6 (D (q + j)) (D (o + j)) := by
      rcases (show j = 1 ∨ j = 2 ∨ j = 3 ∨ j = 4 by omega) with rfl | rfl | rfl | rfl
      · exact (upo_n (by omega)).trans ((upo_n (by omega)).trans ((upo_n (by omega)).trans upo_s))
      · exact (upo_n (by omega)).trans ((upo_n (by omega)).trans upo_s)
      · exact (upo_n (by omega)).trans upo_s
      · exact upo_s
    rw [e]
    exact if_pos hi
/-- a Land is as another was -/
def LPP (D D' : DD) (p q : Nat) : Prop := (∀ i, i < 5 → D' p i = D q i) ∧ (∀ i, i < 36 → D' (p + 2) i = D (q + 2) i) ∧ ∀ j, j = 1 ∨ j = 3 ∨ j = 4 ∨ j = 5 → ∀ i, i < 6 → D' (p + j) i = D (q + j) i
def fr5 (f g : Nat → Int32) : Nat → Int32 := upd (upd (upd (upd (upd f 0 (g 0)) 1 (g 1)) 2 (g 2)) 3 (g 3)) 4 (g 4)
theorem fr5_at {f g : Nat → Int32} : ∀ i, i < 5 → fr5 f g i = g i := by
  intro i h
  unfold fr5 upd
  match i, h with
  | 0, _ => rfl
  | 1, _ => rfl
  | 2, _ => rfl
  | 3, _ => rfl
  | 4, _ => rfl
theorem LA_LPP {D D' : DD} {p q : Nat} {wy : Nat → Nat} {r : Row} (h0 : r 0 ≤ 6) (h5 : r 5 ≤ 6) (h : LPP D D' p q) (hL : LA D q wy r) : LA D' p wy r := by
  obtain ⟨h1, h2, h3⟩ := h
  obtain ⟨a, b, c, d⟩ := hL
  refine ⟨?_, fun j hj => ?_, fun j hj => ?_, fun w hw => ?_⟩
  · rw [h1 0 (by decide), h1 1 (by decide), h1 2 (by decide), h1 3 (by decide), h1 4 (by decide)]
    exact a
  · rw [h3 1 (by decide) j hj]; exact b j hj
  · rw [h2 j (by omega)]; exact c j hj
  · rw [h3 3 (by decide) w (by omega), h3 4 (by decide) w (by omega), h3 5 (by decide) w (by omega)]
    exact d w hw
def takeL (D : DD) (p q : Nat) : DD := upo (upo (upo (upo (upo (upo D p (fr5 (D p) (D q))) (p + 1) (cpn 6 (D (q + 1)) (D (p + 1)))) (p + 2) (cpn 36 (D (q + 2)) (D (p + 2)))) (p + 3) (cpn 6 (D (q + 3)) (D (p + 3)))) (p + 4) (cpn 6 (D (q + 4)) (D (p + 4)))) (p + 5) (cpn 6 (D (q + 5)) (D (p + 5)))
theorem takeL_fr {D : DD} {p q i : Nat} (h : ∀ j, j < 6 → i ≠ p + j) : takeL D p q i = D i := by
  have h0 := h 0 (by decide)
  rw [Nat.add_zero] at h0
  exact (upo_n (h 5 (by decide))).trans ((upo_n (h 4 (by decide))).trans ((upo_n (h 3 (by decide))).trans ((upo_n (h 2 (by decide))).trans ((upo_n (h 1 (by decide))).trans (upo_n h0)))))
theorem takeL_LP {D : DD} {p q : Nat} : LPP D (takeL D p q) p q := by
  refine ⟨fun i hi => ?_, fun i hi => ?_, fun j hj i hi => ?_⟩
  · have e : takeL D p q p = fr5 (D p) (D q) := (upo_n (by omega)).trans ((upo_n (by omega)).trans ((upo_n (by omega)).trans ((upo_n (by omega)).trans ((upo_n (by omega)).trans upo_s))))
    rw [e]
    exact fr5_at i hi
  · have e : takeL D p q (p + 2) = cpn 36 (D (q + 2)) (D (p + 2)) := (upo_n (by omega)).trans ((upo_n (by omega)).trans ((upo_n (by omega)).trans upo_s))
    rw [e]
    exact if_pos hi
  · have e : takeL D p q (p + j) = cpn 6 (D (q + j)) (D (p + j)) := by
      rcases hj with rfl | rfl | rfl | rfl
      · exact (upo_n (by omega)).trans ((upo_n (by omega)).trans ((upo_n (by omega)).trans ((upo_n (by omega)).trans upo_s)))
      · exact (upo_n (by omega)).trans ((upo_n (by omega)).trans upo_s)
      · exact (upo_n (by omega)).trans upo_s
      · exact upo_s
    rw [e]
    exact if_pos hi
theorem ring_at : ∀ k, k < 24 → Z0.2.2 28 (nI k).toNatClampNeg = some (29 + 6 * k) := by decide +kernel
theorem ring_C : ∀ k, k < 24 → isC (29 + 6 * k) := fun k hk => isC_in _ (by
  have : ∀ k, k < 24 → (29 + 6 * k) ∈ cIds := by decide
  exact this k hk)
theorem pw2_le {n : Nat} (h : n ≤ 6) : 2 ^ n ≤ 64 := Nat.pow_le_pow_right (n := 2) (by decide) h
/-- a row of the reference holds r -/
def MA (D : DD) (q : Nat) (r : Row) : Prop := ∀ k, k < 64 → D q k = nI (r k)
theorem i64_le {a b : Int32} : a.toInt64 ≤ b.toInt64 ↔ a ≤ b := by
  rw [Int64.le_iff_toInt_le, Int32.le_iff_toInt_le, Int32.toInt_toInt64, Int32.toInt_toInt64]
theorem MA_at {D : DD} {q : Nat} {r : Row} (h : MA D q r) {k j : Nat} (hk : k < 64) (e : k = j) : D q k = nI (r j) := e ▸ h k hk
theorem at0_1 {a b : Nat} (ha : a < 2 ^ 30) (hb : b < 2 ^ 30) : (if nI a - nI b < 0 then nI 0 else nI a - nI b) = nI (a - b) := by
  by_cases h : b ≤ a
  · rw [nI_sub h, if_neg (nI_pos (by omega))]
  · rw [if_pos (pk_sneg hb (by omega)), show a - b = 0 by omega]
theorem at0_2 {a b c : Nat} (ha : a < 2 ^ 28) (hb : b < 2 ^ 28) (hc : c < 2 ^ 28) : (if nI a - nI b - nI c < 0 then nI 0 else nI a - nI b - nI c) = nI (a - b - c) := by
  have e : nI a - nI b - nI c = nI a - nI (b + c) := by rw [← nI_add, Int32.sub_sub]
  rw [e, at0_1 (by omega) (by omega), Nat.sub_sub]
