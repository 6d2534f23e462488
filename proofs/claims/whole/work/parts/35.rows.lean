/-! the rows: lane and size of each that is there, its items, the latest finding -/
abbrev RWS : Type := (Nat → Option (Nat × Nat)) × (Nat → Nat → Int32) × Int32
def XW1 (D : DD) (i : Nat) (o : Option (Nat × Nat)) (f : Nat → Int32) : Prop := match o with
  | none => D 3 i = -1
  | some (l, s) => l ≤ 2 ∧ s ≤ 40 ∧ D 2 i = nI l ∧ D 3 i = nI s ∧ ∀ j, j < s → D (5 + i) j = f j
def XR (D : DD) (w : RWS) : Prop := (∀ i, i < 8 → XW1 D i (w.1 i) (w.2.1 i)) ∧ D 0 15 = w.2.2
def MW1 (D : DD) (i : Nat) (o : Option (Nat × Nat)) (f : Nat → Int32) : Prop := match o with
  | none => D 220 i = -1
  | some (l, s) => l ≤ 2 ∧ s ≤ 40 ∧ D 220 i = nI l ∧ D 221 i = nI s ∧ ∀ j, j < s → D 222 (40 * i + j) = f j
def MRW (D : DD) (w : RWS) : Prop := (∀ i, i < 8 → MW1 D i (w.1 i) (w.2.1 i)) ∧ D 219 1 = w.2.2
def lkD (sz i n : Int32) : Int32 := if sz = -1 then nI 1 else if i < 0 then nI 2 else if n < 0 then nI 2 else if sz < n then nI 2 else if i ≤ sz - n then nI 0 else nI 2
/-- whether i .. are n of s items -/
def okIn (s : Nat) (i n : Int32) : Prop := 0 ≤ i ∧ 0 ≤ n ∧ n ≤ nI s ∧ i ≤ nI s - n
def okInB (s : Nat) (i n : Int32) : Bool := decide (0 ≤ i) && (decide (0 ≤ n) && (decide (n ≤ nI s) && decide (i ≤ nI s - n)))
theorem okInB_iff {s : Nat} {i n : Int32} : okInB s i n = true ↔ okIn s i n := by simp [okInB, okIn]
theorem okIn_n {s : Nat} {i n : Int32} (hs : s < 2 ^ 31) (h : okIn s i n) : ∃ a b : Nat, i = nI a ∧ n = nI b ∧ a + b ≤ s := by
  obtain ⟨h1, h2, h3, h4⟩ := h
  obtain ⟨b, hb, rfl⟩ := nI_of (fun q => Int32.not_lt.mpr h2 q)
  have hbs := (nI_leI hb hs).mp h3
  rw [nI_sub hbs] at h4
  obtain ⟨a, ha, rfl⟩ := nI_of (fun q => Int32.not_lt.mpr h1 q)
  have := (nI_leI ha (by omega)).mp h4
  exact ⟨a, b, rfl, rfl, by omega⟩
theorem okIn_of {s a b : Nat} (hs : s < 2 ^ 31) (h : a + b ≤ s) : okIn s (nI a) (nI b) := by
  refine ⟨nI_pos' (by omega), nI_pos' (by omega), nI_le (by omega) hs, ?_⟩
  rw [nI_sub (by omega)]
  exact nI_le (by omega) (by omega)
theorem nI_ne_m1 : ∀ s, s ≤ 40 → ¬ nI s = -1 := by
  have : ∀ s, s < 41 → ¬ nI s = -1 := by decide
  intro s h
  exact this s (by omega)
theorem lkD_n {D : DD} {i : Nat} {f : Nat → Int32} {a b : Int32} (h : XW1 D i none f) : lkD (D 3 i) a b = nI 1 := if_pos h
theorem lkD_t {D : DD} {i l s : Nat} {f : Nat → Int32} {a b : Int32} (h : XW1 D i (some (l, s)) f) (ok : okIn s a b) : lkD (D 3 i) a b = nI 0 := by
  obtain ⟨h1, h2, h3, h4, h5⟩ := h
  obtain ⟨o1, o2, o3, o4⟩ := ok
  unfold lkD
  rw [h4, if_neg (nI_ne_m1 s h2), if_neg (Int32.not_lt.mpr o1), if_neg (Int32.not_lt.mpr o2), if_neg (Int32.not_lt.mpr o3), if_pos o4]
theorem lkD_f {D : DD} {i l s : Nat} {f : Nat → Int32} {a b : Int32} (h : XW1 D i (some (l, s)) f) (ok : ¬ okIn s a b) : lkD (D 3 i) a b = nI 2 := by
  obtain ⟨h1, h2, h3, h4, h5⟩ := h
  unfold lkD
  rw [h4, if_neg (nI_ne_m1 s h2)]
  by_cases o1 : a < 0
  · rw [if_pos o1]
  · rw [if_neg o1]
    by_cases o2 : b < 0
    · rw [if_pos o2]
    · rw [if_neg o2]
      by_cases o3 : nI s < b
      · rw [if_pos o3]
      · rw [if_neg o3]
        by_cases o4 : a ≤ nI s - b
        · exact absurd ⟨Int32.not_lt.mp o1, Int32.not_lt.mp o2, Int32.not_lt.mp o3, o4⟩ ok
        · rw [if_neg o4]
def trn (l : Nat) (v : Int32) : Int32 := if l = 0 then v.toInt8.toInt32 else if l = 1 then v.toInt16.toInt32 else v
def g_row (r l n : Int32) (w : RWS) : Int32 × RWS :=
  if nI 0 ≤ r ∧ r ≤ nI 7 then (if nI 0 ≤ l ∧ l ≤ nI 2 then (if n ≤ nI 40 then (if 0 ≤ n then (n, (upo w.1 r.toNatClampNeg (some (l.toNatClampNeg, n.toNatClampNeg)), upo w.2.1 r.toNatClampNeg (fun _ => nI 0), nI 0)) else (-1000014, (w.1, w.2.1, nI 4))) else (-1000001, w)) else (-1000001, w)) else (-1000001, w)
def g_set (r i v : Int32) (w : RWS) : Int32 × RWS :=
  if nI 0 ≤ r ∧ r ≤ nI 7 then (match w.1 r.toNatClampNeg with
    | none => (-1000011, (w.1, w.2.1, nI 1))
    | some (l, s) => if okInB s i (nI 1) = true then (trn l v, (w.1, upo w.2.1 r.toNatClampNeg (upd (w.2.1 r.toNatClampNeg) i.toNatClampNeg (trn l v)), nI 0)) else (-1000012, (w.1, w.2.1, nI 2))) else (-1000001, w)
def g_copy (a i b j n : Int32) (w : RWS) : Int32 × RWS :=
  if nI 0 ≤ a ∧ a ≤ nI 7 then (if nI 0 ≤ b ∧ b ≤ nI 7 then (match w.1 a.toNatClampNeg, w.1 b.toNatClampNeg with
    | some (l, s), some (l', s') => if l = l' then (if okInB s i n = true ∧ okInB s' j n = true then (n, (w.1, upo w.2.1 b.toNatClampNeg (va_cpy (w.2.1 a.toNatClampNeg) (w.2.1 b.toNatClampNeg) i.toNatClampNeg j.toNatClampNeg n.toNatClampNeg), nI 0)) else (-1000012, (w.1, w.2.1, nI 2))) else (-1000015, (w.1, w.2.1, nI 5))
    | _, _ => (-1000011, (w.1, w.2.1, nI 1))) else (-1000001, w)) else (-1000001, w)
def g_drop (r : Int32) (w : RWS) : Int32 × RWS :=
  if nI 0 ≤ r ∧ r ≤ nI 7 then (match w.1 r.toNatClampNeg with
    | none => (-1000011, (w.1, w.2.1, nI 1))
    | some (l, s) => (nI s, (upo w.1 r.toNatClampNeg none, w.2.1, nI 0))) else (-1000001, w)
def s_rows (w : RWS) : Nat → Nat
  | 0 => 0
  | k + 1 => if (w.1 k).isSome then s_rows w k + 1 else s_rows w k
/-- of the class nothing but rows and the finding changes -/
def XFr (D D' : DD) : Prop := (∀ q, q ≠ 0 → q ≠ 2 → q ≠ 3 → (q < 5 ∨ 12 < q) → D' q = D q) ∧ ∀ f, f ≠ 15 → D' 0 f = D 0 f
theorem XFr.rf {D : DD} : XFr D D := ⟨fun _ _ _ _ _ => rfl, fun _ _ => rfl⟩
theorem XFr.st {D : DD} {v : Int32} : XFr D (upo D 0 (upd (D 0) 15 v)) := ⟨fun q h1 _ _ _ => upo_n h1, fun f h => (congrFun upo_s f).trans (pk_un h)⟩
theorem XW1_eq {D D' : DD} {i : Nat} {o : Option (Nat × Nat)} {f : Nat → Int32} (h : XW1 D i o f) (h2 : D' 2 i = D 2 i) (h3 : D' 3 i = D 3 i) (h5 : D' (5 + i) = D (5 + i)) : XW1 D' i o f := by
  unfold XW1 at *
  cases o with
  | none => exact h3.trans h
  | some p => obtain ⟨l, s⟩ := p; rw [h2, h3, h5]; exact h
theorem XR.st {D : DD} {w : RWS} {v : Int32} (h : XR D w) : XR (upo D 0 (upd (D 0) 15 v)) (w.1, w.2.1, v) := ⟨fun i hi => XW1_eq (h.1 i hi) (congrFun (upo_n (by decide)) i) (congrFun (upo_n (by decide)) i) (upo_n (by omega)), (congrFun upo_s 15).trans pk_us⟩
theorem fd_1 : (-1000010 : Int32) - nI 1 = -1000011 := by decide
theorem fd_2 : (-1000010 : Int32) - nI 2 = -1000012 := by decide
theorem fd_3 : (-1000010 : Int32) - nI 3 = -1000013 := by decide
theorem fd_4 : (-1000010 : Int32) - nI 4 = -1000014 := by decide
theorem fd_5 : (-1000010 : Int32) - nI 5 = -1000015 := by decide
theorem items_at : ∀ k, k < 8 → Z0.2.2 4 (nI k).toNatClampNeg = some (5 + k) := by decide +kernel
theorem items_z : ∀ k, k < 8 → 5 + k < Z0.1 ∧ Z0.2.1 (5 + k) = (10, 40) := by decide +kernel
theorem XR_set {D : DD} {w : RWS} {ρ : Nat} {D' : DD} {v : Int32} {o : Option (Nat × Nat)} {f : Nat → Int32} (h : XR D w) (h1 : XW1 D' ρ o f) (h2 : ∀ i, i ≠ ρ → D' 2 i = D 2 i ∧ D' 3 i = D 3 i) (h3 : ∀ i, i < 8 → i ≠ ρ → D' (5 + i) = D (5 + i)) (h4 : D' 0 15 = v) : XR D' (upo w.1 ρ o, upo w.2.1 ρ f, v) := by
  refine ⟨fun i hi => ?_, h4⟩
  by_cases e : i = ρ
  · subst e; show XW1 D' i (upo w.1 i o i) (upo w.2.1 i f i); rw [upo_s, upo_s]; exact h1
  · show XW1 D' i (upo w.1 ρ o i) (upo w.2.1 ρ f i)
    rw [upo_n e, upo_n e]
    exact XW1_eq (h.1 i hi) (h2 i e).1 (h2 i e).2 (h3 i hi e)
theorem s_rows_n {D : DD} {w : RWS} {k : Nat} (h : XW1 D k (w.1 k) (w.2.1 k)) (c : D 3 k = -1) : s_rows w (k + 1) = s_rows w k := by
  show (if (w.1 k).isSome then s_rows w k + 1 else s_rows w k) = _
  cases e : w.1 k with
  | none => rfl
  | some p =>
    rw [e] at h
    obtain ⟨l, s⟩ := p
    obtain ⟨h1, h2, h3, h4, h5⟩ := h
    exact absurd (h4.symm.trans c) (nI_ne_m1 s h2)
theorem s_rows_s {D : DD} {w : RWS} {k : Nat} (h : XW1 D k (w.1 k) (w.2.1 k)) (c : ¬ D 3 k = -1) : s_rows w (k + 1) = s_rows w k + 1 := by
  show (if (w.1 k).isSome then s_rows w k + 1 else s_rows w k) = _
  cases e : w.1 k with
  | none => rw [e] at h; exact absurd h c
  | some p => rfl
theorem s_rows_le {w : RWS} : ∀ k, s_rows w k ≤ k := by
  intro k
  induction k with
  | zero => exact Nat.le_refl 0
  | succ k ih =>
    show (if (w.1 k).isSome then s_rows w k + 1 else s_rows w k) ≤ _
    split <;> omega
