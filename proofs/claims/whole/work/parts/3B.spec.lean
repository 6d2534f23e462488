/-! longs out of numbers -/
def nG (n : Nat) : Int64 := Int64.ofNat n
theorem nG_toInt {n : Nat} (h : n < 2 ^ 63) : (nG n).toInt = (n : Int) := Int64.toInt_ofNat_of_lt h
theorem nI_G {n : Nat} (h : n < 2 ^ 31) : (nI n).toInt64 = nG n := by
  apply Int64.toInt_inj.mp
  rw [Int32.toInt_toInt64, nI_toInt h, nG_toInt (by omega)]
theorem nG_I {n : Nat} : (nG n).toInt32 = nI n := Int64.toInt32_ofNat'
theorem nG_add (a b : Nat) : nG a + nG b = nG (a + b) := (Int64.ofNat_add a b).symm
theorem nG_mul (a b : Nat) : nG a * nG b = nG (a * b) := (Int64.ofNat_mul a b).symm
theorem nG_sub {a b : Nat} (h : b ≤ a) : nG a - nG b = nG (a - b) := (Int64.ofNat_sub a b h).symm
theorem nG_eq {a b : Nat} (ha : a < 2 ^ 63) (hb : b < 2 ^ 63) : nG a = nG b ↔ a = b := by
  rw [← Int64.toInt_inj, nG_toInt ha, nG_toInt hb]; omega
theorem nG_div {a d : Nat} (ha : a < 2 ^ 63) (hd : d < 2 ^ 63) : nG a / nG d = nG (a / d) := by
  apply Int64.toInt_inj.mp
  have e : (nG a).toInt.tdiv (nG d).toInt = ((a / d : Nat) : Int) := by
    rw [nG_toInt ha, nG_toInt hd]
    exact (Int.ofNat_tdiv a d).symm
  rw [Int64.toInt_div_of_ne_left _ _ (fun q => by
    have h1 := congrArg Int64.toInt q
    rw [nG_toInt ha] at h1
    have h2 : (Int64.minValue).toInt = -9223372036854775808 := by decide
    omega), e, nG_toInt (Nat.lt_of_le_of_lt (Nat.div_le_self a d) ha)]
theorem nG_rem {a d : Nat} (ha : a < 2 ^ 63) (hd : d < 2 ^ 63) : nG a - nG a / nG d * nG d = nG (a % d) := by
  rw [nG_div ha hd, nG_mul, nG_sub (Nat.div_mul_le_self a d)]
  exact congrArg nG (by have := Nat.div_add_mod' a d; omega)
theorem nG_z {a : Nat} (h : a < 2 ^ 63) : nG a = 0 ↔ a = 0 := nG_eq (b := 0) h (by decide)
theorem gc_eq {a b : Nat} (ha : a < 2 ^ 63) (hb : b < 2 ^ 63) : lg_cmp (nG a) (nG b) = 0 ↔ a = b := (lg_cmp_eq _ _).trans (nG_eq ha hb)
/-! one number for the hue, the hour and the tired -/
def s_cd (r : Row) : Nat → Nat
  | 0 => 6 * r 1 + r 6 % 6
  | n + 1 => s_cd r n * 21 + r (22 + 8 * n)
theorem s_cd_lt {r : Row} (h1 : r 1 ≤ 5) (ht : ∀ w, r (22 + 8 * w) ≤ 20) : ∀ n, s_cd r n < 36 * 21 ^ n := by
  intro n
  induction n with
  | zero => show 6 * r 1 + r 6 % 6 < 36 * 1; have := Nat.mod_lt (r 6) (show 0 < 6 by decide); omega
  | succ n ih =>
    have := ht n
    show s_cd r n * 21 + r (22 + 8 * n) < 36 * 21 ^ (n + 1)
    rw [Nat.pow_succ, ← Nat.mul_assoc]
    omega
theorem cd_t {r : Row} (hW : WF r) (w : Nat) : r (22 + 8 * w) ≤ 20 := by
  by_cases h : w < r 5
  · exact (hW.2.2.1 w h).2.2.2.2.2.2.1
  · rw [hW.2.2.2 _ (by omega)]; exact Nat.zero_le _
theorem cd_b {r : Row} (hW : WF r) {n : Nat} (hn : n ≤ 6) : s_cd r n < 2 ^ 40 := by
  have h := s_cd_lt (r := r) (by have := hW.1; omega) (cd_t hW) n
  have h2 : 21 ^ n ≤ 21 ^ 6 := Nat.pow_le_pow_right (by decide) hn
  omega
theorem cd_m {r : Row} (hW : WF r) : ∀ m, s_cd r (r 5 + m) = s_cd r (r 5) * 21 ^ m := by
  intro m
  induction m with
  | zero => show s_cd r (r 5) = s_cd r (r 5) * 1; omega
  | succ m ih =>
    show s_cd r (r 5 + m) * 21 + r (22 + 8 * (r 5 + m)) = _
    rw [ih, hW.2.2.2 (22 + 8 * (r 5 + m)) (by omega), Nat.add_zero, Nat.pow_succ, Nat.mul_assoc]
theorem cd_eq {r r' : Row} (hW : WF r) (hW' : WF r') (h : r' 5 = r 5) : s_cd r 6 = s_cd r' 6 ↔ s_cd r (r 5) = s_cd r' (r 5) := by
  have h5 := hW.1.2.2.2.2.2.2.1
  have e : 6 = r 5 + (6 - r 5) := by omega
  have e1 := cd_m hW (6 - r 5)
  have e2 := cd_m hW' (6 - r 5)
  rw [h] at e2
  rw [← e] at e1 e2
  rw [e1, e2]
  exact ⟨fun q => Nat.eq_of_mul_eq_mul_right (Nat.pow_pos (by decide)) q, fun q => by rw [q]⟩
def s_same (wy : Nat → Nat) (r : Row) (k j : Nat) : Bool := decide (s_cd (s_hours wy j r) (r 5) = s_cd (s_hours wy k r) (r 5))
def s_rd (wy : Nat → Nat) (r : Row) : Nat → Option (Nat × Nat)
  | 0 => none
  | n + 1 => match s_rd wy r n with
    | some p => some p
    | none => match s_find (s_same wy r n) n with
      | some k => some (n, k)
      | none => none
theorem s_rd_n {wy : Nat → Nat} {r : Row} {n : Nat} (h : s_rd wy r n = none) (h2 : ∀ j, j < n → s_same wy r n j = false) : s_rd wy r (n + 1) = none := by
  show (match s_rd wy r n with | some p => some p | none => match s_find (s_same wy r n) n with | some k => some (n, k) | none => none) = none
  rw [h, s_find_n n h2]
theorem s_rd_s {wy : Nat → Nat} {r : Row} {n k : Nat} (h : s_rd wy r n = none) (hk : k < n) (h1 : s_same wy r n k = true) (h2 : ∀ j, j < k → s_same wy r n j = false) : ∀ m, n < m → s_rd wy r m = some (n, k) := by
  intro m
  induction m with
  | zero => intro q; omega
  | succ m ih =>
    intro hm
    show (match s_rd wy r m with | some p => some p | none => match s_find (s_same wy r m) m with | some k => some (m, k) | none => none) = _
    by_cases e : n = m
    · subst e
      rw [h, s_find_s h1 h2 n hk]
    · rw [ih (by omega)]
def g_round (wy : Nat → Nat) (r : Row) (what : Int32) : Int32 :=
  if nI 0 ≤ what ∧ what ≤ nI 1 then (match s_rd wy r 101 with
    | some (n, k) => if what = 0 then nI n else nI k
    | none => -1000000) else -1000001
def EX (o : Nat) (E E' : EE) : Prop := ∀ q, q ≠ o → E' q = E q
theorem EX.rf {o : Nat} {E : EE} : EX o E E := fun _ _ => rfl
theorem EX.up {o k : Nat} {E E' : EE} {v : Int64} (h : EX o E E') : EX o E (up2 E' o k v) := fun q hq => by
  funext j
  exact (up2_n (fun e => hq e.1)).trans (congrFun (h q hq) j)
theorem s_hours_5 {wy : Nat → Nat} {r : Row} (n : Nat) : s_hours wy n r 5 = r 5 := s_hours_o (by omega) (by omega) n
theorem s_same_6 {wy : Nat → Nat} {r : Row} (hW : WF r) (hT : T2 r) (hH : HB r 999) (hY : WY wy r) (k j : Nat) : s_same wy r k j = decide (s_cd (s_hours wy j r) 6 = s_cd (s_hours wy k r) 6) := by
  have h1 := (s_hours_k hW hT hH hY j).1
  have h2 := (s_hours_k hW hT hH hY k).1
  have := cd_eq h1 h2 ((s_hours_5 k).trans (s_hours_5 j).symm)
  rw [s_hours_5] at this
  unfold s_same
  exact decide_eq_decide.mpr this.symm
theorem CA_t {D : DD} {o k : Nat} {r : Row} (hW : WF r) (hC : CA D o r) (hk : k < 6) : D (o + 4) k = nI (r (22 + 8 * k)) := by
  by_cases h : k < r 5
  · exact (hC.2.1 k h).2.2.2
  · rw [hC.2.2 k (by omega) hk, hW.2.2.2 _ (by omega)]
