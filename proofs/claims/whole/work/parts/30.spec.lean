/-! what is foretold of a land, in numbers -/
theorem rg {x : Int32} {a b : Nat} (ha : a < 2 ^ 31) (hb : b < 2 ^ 31) (h : nI a ≤ x ∧ x ≤ nI b) : ∃ k : Nat, a ≤ k ∧ k ≤ b ∧ x = nI k := by
  have h0 : ¬ x < 0 := fun q => Int32.not_lt.mpr (Int32.le_trans (nI_pos' ha) h.1) q
  obtain ⟨k, hk, rfl⟩ := nI_of h0
  exact ⟨k, (nI_leI ha hk).mp h.1, (nI_leI hk hb).mp h.2, rfl⟩
theorem gd_n {x : Int32} {n : Nat} (hn : n < 2 ^ 31) (h : nI 0 ≤ x ∧ x ≤ nI n - nI 1) : ∃ k : Nat, k < n ∧ x = nI k := by
  cases n with
  | zero =>
    exfalso
    have h1 : nI 0 ≤ nI 0 - nI 1 := Int32.le_trans h.1 h.2
    exact absurd h1 (by decide)
  | succ m =>
    rw [show nI (m + 1) - nI 1 = nI m from nI_sub (by omega)] at h
    obtain ⟨k, h1, h2, h3⟩ := rg (by decide) (by omega) h
    exact ⟨k, by omega, h3⟩
def LOK (r : Row) : Prop := (r = fun _ => 0) ∨ (WF r ∧ T2 r ∧ HB r 999)
theorem LOK.p {r : Row} (h : LOK r) (h0 : 0 < r 0) : WF r ∧ T2 r ∧ HB r 999 := by
  rcases h with h | h
  · subst h; exact absurd h0 (by decide)
  · exact h
theorem LOK.w {r : Row} (h : LOK r) {w : Nat} (h0 : w < r 5) : WF r ∧ T2 r ∧ HB r 999 := by
  rcases h with h | h
  · subst h; exact absurd h0 (Nat.not_lt_zero w)
  · exact h
theorem LOK.le {r : Row} (h : LOK r) : r 0 ≤ 6 ∧ r 5 ≤ 6 ∧ r 4 ≤ 10 ∧ r 6 ≤ 999 ∧ r 7 ≤ 999 ∧ r 8 ≤ 999 ∧ r 1 ≤ 6 := by
  rcases h with h | ⟨h, -, g⟩
  · subst h; exact ⟨by decide, by decide, by decide, by decide, by decide, by decide, by decide⟩
  · have := h.1; have := g; unfold HB at this; omega
/-- the least k below n with P -/
def s_find (P : Nat → Bool) : Nat → Option Nat
  | 0 => none
  | n + 1 => match s_find P n with
    | some k => some k
    | none => if P n then some n else none
def s_opt (o : Option Nat) : Int32 := match o with
  | some k => nI k
  | none => -1000000
theorem s_find_n {P : Nat → Bool} : ∀ n, (∀ j, j < n → P j = false) → s_find P n = none := by
  intro n
  induction n with
  | zero => intro _; rfl
  | succ n ih =>
    intro h
    unfold s_find
    rw [ih (fun j hj => h j (by omega)), h n (by omega)]
    rfl
theorem s_find_s {P : Nat → Bool} {k : Nat} (hk : P k = true) (h : ∀ j, j < k → P j = false) : ∀ n, k < n → s_find P n = some k := by
  intro n
  induction n with
  | zero => intro q; omega
  | succ n ih =>
    intro hn
    unfold s_find
    by_cases e : k = n
    · subst e
      rw [s_find_n k h, hk]
      rfl
    · rw [ih (by omega)]
theorem s_find_congr {P Q : Nat → Bool} : ∀ n, (∀ j, j < n → P j = Q j) → s_find P n = s_find Q n := by
  intro n
  induction n with
  | zero => intro _; rfl
  | succ n ih =>
    intro h
    unfold s_find
    rw [ih (fun j hj => h j (by omega)), h n (by omega)]
def s_vis (wy : Nat → Nat) (r : Row) : Nat → Nat
  | 0 => 2 ^ r 1
  | k + 1 => s_vis wy r k ||| 2 ^ (s_hours wy (k + 1) r 1)
/-- the public answers, of a land with places -/
def g_ahead (wy : Nat → Nat) (r : Row) (n what : Int32) : Int32 :=
  if nI 0 ≤ n ∧ n ≤ nI 60 then (if nI 0 ≤ what ∧ what ≤ nI 1 then (if what = 0 then nI (s_hours wy n.toNatClampNeg r 1) else nI (s_hours wy n.toNatClampNeg r 7)) else -1000001) else -1000001
def g_comes (wy : Nat → Nat) (r : Row) (place n : Int32) : Int32 :=
  if nI 0 ≤ place ∧ place ≤ nI (r 0) - nI 1 then (if nI 1 ≤ n ∧ n ≤ nI 60 then s_opt (s_find (fun k => nI (s_hours wy k r 1) == place) (n.toNatClampNeg + 1)) else -1000001) else -1000001
def g_visits (wy : Nat → Nat) (r : Row) (n : Int32) : Int32 := if nI 0 ≤ n ∧ n ≤ nI 60 then nI (s_vis wy r n.toNatClampNeg) else -1000001
def g_half (wy : Nat → Nat) (r : Row) (n : Int32) : Int32 := if nI 1 ≤ n ∧ n ≤ nI 60 then s_opt (s_find (fun k => decide (r 8 < s_hours wy (k + 1) r 8)) n.toNatClampNeg) else -1000001
/-- what none of the foretold changes of the class, of the reference -/
def SX (D D' : DD) : Prop := ∀ q, q ≠ 26 → (q < 173 ∨ 178 < q) → D' q = D q
theorem SX.rf {D : DD} : SX D D := fun _ _ _ => rfl
def XL (D : DD) (wy : Nat → Nat) (r : Row) : Prop := LOK r ∧ CA D 21 r ∧ LA D 15 wy r ∧ (WF r → WY wy r)
theorem SX.LA {D D' : DD} {wy : Nat → Nat} {r : Row} (h : SX D D') (hL : LA D 15 wy r) : LA D' 15 wy r := LA_eq hL (fun j hj => h _ (by omega) (by omega))
theorem SX.now {D D' : DD} {r : Row} (h : SX D D') (hC : CA D 21 r) : CA D' 21 r := CA_eq hC (fun j hj => h _ (by omega) (by omega))
/-- the probe holds r -/
def XP (D D' : DD) (r : Row) : Prop := CA D' 173 r ∧ SX D D'
theorem XP.take {D : DD} {r : Row} (h5 : r 5 ≤ 6) (hC : CA D 21 r) : XP D (takeD D 173 21) r := ⟨CA_CP h5 take_CP hC, fun q h1 h2 => take_fr (fun j hj => by omega)⟩
theorem XP.step {D D1 D2 : DD} {r r' : Row} (h : XP D D1 r) (hf : ∀ q, q ≠ 173 → q ≠ 173 + 4 → q ≠ 173 + 5 → D2 q = D1 q) (hC : CA D2 173 r') : XP D D2 r' := ⟨hC, fun q h1 h2 => (hf q (by omega) (by omega) (by omega)).trans (h.2 q h1 h2)⟩
theorem dj15 {o : Nat} (h : o = 21 ∨ o = 173) : DJ o 15 := by
  intro i j hi hj
  rcases h with rfl | rfl <;> omega
theorem isC_p : isC 173 := isC_in 173 (by decide)
theorem isC_n : isC 21 := isC_in 21 (by decide)
theorem isL_l : isL 15 := isL_in 15 (by decide)
theorem dj_pn : DJ 173 21 := fun i j hi hj => by omega
theorem s_vis_lt {wy : Nat → Nat} {r : Row} {b : Nat} (hW : WF r) (hT : T2 r) (hH : HB r b) (hY : WY wy r) : ∀ k, s_vis wy r k < 64 := by
  intro k
  induction k with
  | zero => exact pw_lt64 (by have := hW.1; omega)
  | succ k ih =>
    have h9 := (s_hours_k hW hT hH hY (k + 1)).1.1
    exact or_lt64 ih (pw_lt64 (by omega))
