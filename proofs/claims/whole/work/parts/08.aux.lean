/-! small words for the walks: truth as an int, ints out of numbers, locals dropped -/
def bI (P : Prop) [Decidable P] : Int32 := if P then 1 else 0
theorem bI_0 {P : Prop} [Decidable P] : bI P = 0 ↔ ¬ P := by
  unfold bI
  by_cases h : P <;> simp [h]
theorem bI_n0 {P : Prop} [Decidable P] : ¬ bI P = 0 ↔ P := by
  unfold bI
  by_cases h : P <;> simp [h]
theorem bI_t {P : Prop} [Decidable P] (h : P) : nI 1 = bI P := by unfold bI; rw [if_pos h]; rfl
theorem bI_f {P : Prop} [Decidable P] (h : ¬ P) : nI 0 = bI P := by unfold bI; rw [if_neg h]; rfl
theorem bI_c {P P' : Prop} [Decidable P] [Decidable P'] (h : P ↔ P') : bI P = bI P' := by
  unfold bI
  by_cases hp : P
  · rw [if_pos hp, if_pos (h.mp hp)]
  · rw [if_neg hp, if_neg (fun q => hp (h.mpr q))]
theorem narrow_bI (P : Prop) [Decidable P] : narrow .boolean (.int (bI P)) = .int (bI P) := by
  unfold bI
  by_cases h : P <;> simp only [h, if_true, if_false] <;> rfl
theorem nI_z {a : Nat} (h : a < 2 ^ 31) : nI a = 0 ↔ a = 0 := nI_0 ▸ nI_eq h (by decide)
theorem nI_zlt {a : Nat} (h : a < 2 ^ 31) : nI a < 0 ↔ False := ⟨fun q => nI_pos h q, False.elim⟩
theorem nI_zge {a : Nat} (h : a < 2 ^ 31) : 0 ≤ nI a ↔ True := ⟨fun _ => trivial, fun _ => nI_pos' h⟩
theorem nI_zgt {a : Nat} (h : a < 2 ^ 31) : 0 < nI a ↔ 0 < a := nI_0 ▸ nI_ltI (a := 0) (b := a) (by decide) h
theorem nI_zle {a : Nat} (h : a < 2 ^ 31) : nI a ≤ 0 ↔ a = 0 := (nI_0 ▸ nI_leI (a := a) (b := 0) h (by decide)).trans Nat.le_zero
theorem sh_l : ∀ n, n < 32 → ((nI n &&& 31).toBitVec.smod 32).toNat = n := by decide +kernel
theorem bit_n {a i : Nat} (ha : a < 2 ^ 31) (hi : i < 32) : nI a >>> (nI i &&& 31) &&& nI 1 = nI (a / 2 ^ i % 2) := by
  rw [pk_shrN ha _ i (sh_l i hi)]
  exact pk_andN (Nat.lt_of_le_of_lt (Nat.div_le_self _ _) (Nat.lt_trans ha (by decide))) 1 rfl
theorem shl_1 {i : Nat} (hi : i < 31) : nI 1 <<< (nI i &&& 31) = nI (2 ^ i) := by
  rw [pk_shlN (n := 1) _ i (sh_l i (by omega)) (by have := Nat.pow_lt_pow_right (a := 2) (by decide) (show i < 32 by omega); omega)]
  rw [Nat.one_mul]
theorem r_lv {y : MethodName} {cc : ByteArray} {nL : Nat} {ret : Option FieldType} {rm : Room} {B : Nat} {Q : QQ} {Z : ZZ} {D : DD} {E : EE} {ce sl pc : Nat} {lv : List (Nat × Value)} {st : List Value} (lv' : List (Nat × Value)) (h : ∀ q ∈ lv', lv.lookup q.1 = some q.2) (k : RW y cc nL ret rm B Q Z D E ce sl pc lv' st) : RW y cc nL ret rm B Q Z D E ce sl pc lv st := fun p l e s m args below meth c G dA H locs ls C hM hS hl hA => k p l e s m args below meth c G dA H locs ls C hM hS (lv_keep hl h) hA
theorem nI_sub {a b : Nat} (h : b ≤ a) : nI a - nI b = nI (a - b) := pk_sub h
theorem nI_mod {a d : Nat} (ha : a < 2 ^ 31) (h0 : 0 < d) (hd : d < 2 ^ 31) : nI a - nI a / nI d * nI d = nI (a % d) := pk_rem ha h0 hd
/-! what a land is: the row of numbers of the reference -/
abbrev Row : Type := Nat → Nat
def WF (r : Row) : Prop := (2 ≤ r 0 ∧ r 0 ≤ 6 ∧ r 1 < r 0 ∧ r 2 ≤ 20 ∧ r 3 ≤ 5 ∧ r 4 ≤ 10 ∧ r 5 ≤ 6 ∧ r 9 < 64) ∧ (∀ j, j < 6 → r (10 + j) < 64) ∧ (∀ w, w < r 5 → (1 ≤ r (16 + 8 * w) ∧ r (16 + 8 * w) ≤ 5) ∧ r (17 + 8 * w) < r 0 ∧ r (18 + 8 * w) < r 0 ∧ r (19 + 8 * w) ≤ 40 ∧ r (20 + 8 * w) ≤ 5 ∧ (1 ≤ r (21 + 8 * w) ∧ r (21 + 8 * w) ≤ 6) ∧ r (22 + 8 * w) ≤ 20 ∧ r (23 + 8 * w) ≤ 1) ∧ ∀ k, 16 + 8 * r 5 ≤ k → r k = 0
def HB (r : Row) (b : Nat) : Prop := r 6 ≤ b ∧ r 7 ≤ b ∧ r 8 ≤ b
def rmask (r : Row) : Nat → Nat
  | 0 => 0
  | w + 1 => rmask r w + r (23 + 8 * w) * 2 ^ w
/-- the Course o holds the row r; the Land p does, with the ways wy -/
def CA (D : DD) (o : Nat) (r : Row) : Prop := (D o 0 = nI (r 6) ∧ D o 1 = nI (r 1) ∧ D o 2 = nI (r 7) ∧ D o 3 = nI (r 8) ∧ D o 4 = nI (r 9) ∧ D o 5 = nI (rmask r (r 5))) ∧ (∀ w, w < r 5 → D (o + 1) w = nI (r (16 + 8 * w)) ∧ D (o + 2) w = nI (r (18 + 8 * w)) ∧ D (o + 3) w = nI (r (19 + 8 * w)) ∧ D (o + 4) w = nI (r (22 + 8 * w))) ∧ ∀ w, r 5 ≤ w → w < 6 → D (o + 4) w = nI 0
def LA (D : DD) (p : Nat) (wy : Nat → Nat) (r : Row) : Prop := (D p 0 = nI (r 0) ∧ D p 1 = nI (r 2) ∧ D p 2 = nI (r 3) ∧ D p 3 = nI (r 4) ∧ D p 4 = nI (r 5)) ∧ (∀ j, j < 6 → D (p + 1) j = nI (r (10 + j))) ∧ (∀ j, j < 6 * r 0 → D (p + 2) j = nI (wy j)) ∧ ∀ w, w < r 5 → D (p + 3) w = nI (r (17 + 8 * w)) ∧ D (p + 4) w = nI (r (20 + 8 * w)) ∧ D (p + 5) w = nI (r (21 + 8 * w))
def WY (wy : Nat → Nat) (r : Row) : Prop := (∀ j, j < 6 * r 0 → wy j ≤ 9) ∧ ∀ a, a < r 0 → wy (6 * a + a) = 0
/-- one wishes in this hour; its wish -/
def s_wi (r : Row) (w : Nat) : Prop := r (23 + 8 * w) = 0 ∧ (r 6 + 6 - r (20 + 8 * w)) % 6 < r (21 + 8 * w)
def s_wiB (r : Row) (w : Nat) : Bool := decide (r (23 + 8 * w) = 0) && decide ((r 6 + 6 - r (20 + 8 * w)) % 6 < r (21 + 8 * w))
theorem s_wiB_iff {r : Row} {w : Nat} : s_wiB r w = true ↔ s_wi r w := by simp [s_wiB, s_wi]
def s_wish (wy : Nat → Nat) (r : Row) (w : Nat) : Nat :=
  if r (16 + 8 * w) = 1 then r (19 + 8 * w) - wy (6 * r (17 + 8 * w) + r (18 + 8 * w)) - r (22 + 8 * w)
  else if r (16 + 8 * w) = 2 then r (19 + 8 * w) - wy (6 * r (17 + 8 * w) + r (18 + 8 * w))
  else if r (16 + 8 * w) = 3 then (if 3 < r 6 % 6 then 2 * (r (19 + 8 * w) - wy (6 * r (17 + 8 * w) + r (18 + 8 * w)) - r (22 + 8 * w)) else 0)
  else if r (16 + 8 * w) = 4 then r (19 + 8 * w) - r (22 + 8 * w)
  else r (19 + 8 * w) - r (22 + 8 * w) + 2 * (r (21 + 8 * w) - 1)
theorem rmask_lt {r : Row} : ∀ n, (∀ w, w < n → r (23 + 8 * w) ≤ 1) → rmask r n < 2 ^ n := by
  intro n
  induction n with
  | zero => intro _; exact Nat.one_pos
  | succ n ih =>
    intro h
    have h1 := ih (fun w hw => h w (by omega))
    have h2 := h n (by omega)
    show rmask r n + r (23 + 8 * n) * 2 ^ n < 2 ^ (n + 1)
    rw [Nat.pow_succ]
    have : r (23 + 8 * n) * 2 ^ n ≤ 1 * 2 ^ n := Nat.mul_le_mul_right _ h2
    omega
theorem rmask_bit {r : Row} : ∀ n, (∀ w, w < n → r (23 + 8 * w) ≤ 1) → ∀ w, w < n → rmask r n / 2 ^ w % 2 = r (23 + 8 * w) := by
  intro n
  induction n with
  | zero => intro _ w hw; omega
  | succ n ih =>
    intro h w hw
    have h1 := rmask_lt n (fun w hw => h w (by omega))
    have h2 := h n (by omega)
    show (rmask r n + r (23 + 8 * n) * 2 ^ n) / 2 ^ w % 2 = _
    by_cases hwn : w = n
    · subst hwn
      rw [Nat.add_mul_div_right _ _ (Nat.two_pow_pos w), Nat.div_eq_of_lt h1, Nat.zero_add]
      omega
    · have hlt : w < n := by omega
      have he : 2 ^ n = 2 ^ w * (2 * 2 ^ (n - w - 1)) := by
        rw [← Nat.pow_succ', ← Nat.pow_add]
        congr 1
        omega
      have e2 : r (23 + 8 * n) * 2 ^ n = r (23 + 8 * n) * (2 * 2 ^ (n - w - 1)) * 2 ^ w := by
        rw [he, Nat.mul_comm (2 ^ w), ← Nat.mul_assoc]
      rw [e2, Nat.add_mul_div_right _ _ (Nat.two_pow_pos w)]
      have := ih (fun w hw => h w (by omega)) w hlt
      have e3 : r (23 + 8 * n) * (2 * 2 ^ (n - w - 1)) = 2 * (r (23 + 8 * n) * 2 ^ (n - w - 1)) := by
        rw [← Nat.mul_assoc, Nat.mul_comm _ 2, Nat.mul_assoc]
      omega
theorem r_D {y : MethodName} {cc : ByteArray} {nL : Nat} {ret : Option FieldType} {rm : Room} {B : Nat} {Q : QQ} {Z : ZZ} {D D' : DD} {E : EE} {ce sl pc : Nat} {lv : List (Nat × Value)} {st : List Value} (h : D = D') (k : RW y cc nL ret rm B Q Z D' E ce sl pc lv st) : RW y cc nL ret rm B Q Z D E ce sl pc lv st := h ▸ k
theorem r_E {y : MethodName} {cc : ByteArray} {nL : Nat} {ret : Option FieldType} {rm : Room} {B : Nat} {Q : QQ} {Z : ZZ} {D : DD} {E E' : EE} {ce sl pc : Nat} {lv : List (Nat × Value)} {st : List Value} (h : E = E') (k : RW y cc nL ret rm B Q Z D E' ce sl pc lv st) : RW y cc nL ret rm B Q Z D E ce sl pc lv st := h ▸ k
theorem r_ldc2v {y : MethodName} {cc : ByteArray} {nL : Nat} {ret : Option FieldType} {rm : Room} {B : Nat} {Q : QQ} {Z : ZZ} {D : DD} {E : EE} {ce sl pc : Nat} {lv : List (Nat × Value)} {st : List Value} {i : Nat} {v : Int64} (w : Int64) (hw : Cond.constantLong y.cls i v ∈ BW) (hd : decode cc pc = .ok (.ldc2_w i, 3)) (h : v = w) (k : RW y cc nL ret rm B Q Z D E ce sl (pc + 3) lv (.long w :: st)) : RW y cc nL ret rm B Q Z D E ce sl pc lv st := r_ldc2 hw hd (h ▸ k)
