theorem SX.trans {D D1 D2 : DD} (h : SX D D1) (h' : SX D1 D2) : SX D D2 := fun q h1 h2 => (h' q h1 h2).trans (h q h1 h2)
theorem XP.of {D D1 D2 : DD} {r : Row} (h : SX D D1) (h' : XP D1 D2 r) : XP D D2 r := ⟨h'.1, h.trans h'.2⟩
theorem s_hours_o {wy : Nat → Nat} {r : Row} {k : Nat} (h : k ≠ 6 ∧ k ≠ 1 ∧ k ≠ 7 ∧ k ≠ 8 ∧ k ≠ 9) (h2 : k < 16 ∨ k % 8 ≠ 6) : ∀ n, s_hours wy n r k = r k := by
  intro n
  induction n with
  | zero => rfl
  | succ n ih => exact (s_hour_o h h2).trans ih
theorem s_pl_shift {wy : Nat → Nat} {r : Row} {set : Nat} {f g d : Nat → Int32} (h : ∀ p, g p = f p + d p) : ∀ n p, s_pl wy r set g n p = s_pl wy r set f n p + d p := by
  intro n
  induction n with
  | zero => exact h
  | succ n ih =>
    intro p
    unfold s_pl
    split
    · unfold upd
      by_cases e : p = r (18 + 8 * n)
      · rw [if_pos e, if_pos e, ih, ← e, Int32.add_assoc, Int32.add_comm (d p), ← Int32.add_assoc]
      · rw [if_neg e, if_neg e, ih]
    · exact ih p
theorem s_pull_shift {wy : Nat → Nat} {r : Row} {set pl : Nat} {mo : Int32} (p : Nat) : s_pull wy r set pl mo p = s_pull wy r set 0 (nI 0) p + (if p = pl then mo else nI 0) := by
  refine s_pl_shift (wy := wy) (r := r) (set := set) (f := s_base wy r 0 (nI 0)) (g := s_base wy r pl mo) (d := fun p => if p = pl then mo else nI 0) (fun p => ?_) (r 5) p
  unfold s_base
  have : (if p = 0 then nI 0 else nI 0) = 0 := by simp [nI_0]
  rw [this, Int32.add_zero]
/-- where the hue would be behind this hour, with one wish more for a place -/
def s_st (wy : Nat → Nat) (r : Row) (pl : Nat) (mo : Int32) : Nat := if s_to (s_pull wy r 63 pl mo) (r 1) (r 0) = 9 then r 1 else s_to (s_pull wy r 63 pl mo) (r 1) (r 0)
def s_sb (wy : Nat → Nat) (r : Row) (pl : Nat) (mo : Int32) : Nat → Nat
  | 0 => 0
  | k + 1 => if s_st wy (s_hours wy k r) pl mo = pl then s_sb wy r pl mo k ||| 2 ^ k else s_sb wy r pl mo k
def g_stolen (wy : Nat → Nat) (r : Row) (place s n : Int32) : Int32 :=
  if nI 0 ≤ place ∧ place ≤ nI (r 0) - nI 1 then (if nI 0 ≤ s ∧ s ≤ nI 60 then (if nI 1 ≤ n ∧ n ≤ nI 24 then nI (s_sb wy r place.toNatClampNeg s n.toNatClampNeg) else -1000001) else -1000001) else -1000001
/-- whether the hue comes as n items tell: an item is -1 or where it is -/
def s_told (wy : Nat → Nat) (r : Row) (it : Nat → Int32) (k : Nat) : Bool := decide (it k = -1) || decide (it k = nI (s_hours wy (k + 1) r 1))
def s_fits (wy : Nat → Nat) (r : Row) (it : Nat → Int32) (n : Nat) : Bool := (List.range n).all (fun k => s_told wy r it k)
theorem s_fits_t {wy : Nat → Nat} {r : Row} {it : Nat → Int32} {n : Nat} (h : ∀ k, k < n → s_told wy r it k = true) : s_fits wy r it n = true := List.all_eq_true.mpr (fun k hk => h k (List.mem_range.mp hk))
theorem s_fits_f {wy : Nat → Nat} {r : Row} {it : Nat → Int32} {n k : Nat} (hk : k < n) (h : ¬ s_told wy r it k = true) : ¬ s_fits wy r it n = true := fun q => h (List.all_eq_true.mp q k (List.mem_range.mpr hk))
theorem s_told_t {wy : Nat → Nat} {r : Row} {it : Nat → Int32} {k : Nat} (h : it k = -1 ∨ it k = nI (s_hours wy (k + 1) r 1)) : s_told wy r it k = true := by
  unfold s_told
  rcases h with h | h <;> simp [h]
theorem s_told_f {wy : Nat → Nat} {r : Row} {it : Nat → Int32} {k : Nat} (h : ¬ it k = -1) (h' : ¬ it k = nI (s_hours wy (k + 1) r 1)) : ¬ s_told wy r it k = true := by
  unfold s_told
  simp [h, h']
/-- of the places from p on (p, .., places less 1), how many fit, the least -/
def s_sn (wy : Nat → Nat) (r : Row) (it : Nat → Int32) (n : Nat) : Nat → Nat × Option Nat
  | 0 => (0, none)
  | j + 1 => if s_fits wy (rset r 1 (r 0 - 1 - j)) it n = true then ((s_sn wy r it n j).1 + 1, some (r 0 - 1 - j)) else s_sn wy r it n j
def s_who (wy : Nat → Nat) (r : Row) (w : Nat) (it : Nat → Int32) (n : Nat) : Nat → Nat
  | 0 => 0
  | j + 1 => if s_fits wy (rset (rset r (16 + 8 * w) (j + 1)) (22 + 8 * w) (if j + 1 = 2 then 0 else r (22 + 8 * w))) it n = true then s_who wy r w it n j ||| 2 ^ (j + 1) else s_who wy r w it n j
theorem f_many_le {o : Option Nat} : f_many o ≤ 7 := by
  cases o with
  | none => exact Nat.le_refl 7
  | some b => have := s_bits_le (c := b); show s_bits b ≤ 7; omega
theorem f_which_lt {wy : Nat → Nat} {r : Row} {pl n : Nat} (k : Nat) : f_which (s_few wy r pl n k) ≤ k := by
  cases h : s_few wy r pl n k with
  | none => exact Nat.zero_le k
  | some b => exact Nat.le_of_lt (s_few_lt k b h)
