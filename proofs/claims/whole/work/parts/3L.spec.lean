/-! acts: how it was ahead of each, the latest 24; what changes now -/
def HS (r : Row) : Prop := r 6 ≤ 999 ∧ r 7 ≤ r 6 ∧ r 8 ≤ r 6
theorem HS.hb {r : Row} (h : HS r) : HB r 999 := by
  obtain ⟨h1, h2, h3⟩ := h
  exact ⟨h1, by omega, by omega⟩
theorem HS_hour {wy : Nat → Nat} {r : Row} (h : HS r) (h1 : r 6 + 1 ≤ 999) : HS (s_hour wy r) := by
  obtain ⟨h6, h7, h8⟩ := h
  have hb := HB_hour (wy := wy) (r := r) (b := r 6) ⟨Nat.le_refl _, h7, h8⟩
  obtain ⟨-, b2, b3⟩ := hb
  unfold HS
  rw [s_hour_6]
  exact ⟨h1, b2, b3⟩
def LK (r : Row) : Prop := WF r ∧ T2 r ∧ HS r
def LOK2 (r : Row) : Prop := (r = fun _ => 0) ∨ LK r
theorem LOK2.lok {r : Row} (h : LOK2 r) : LOK r := h.elim Or.inl (fun q => Or.inr ⟨q.1, q.2.1, q.2.2.hb⟩)
theorem LOK2.p {r : Row} (h : LOK2 r) (h0 : 0 < r 0) : LK r := by
  rcases h with h | h
  · subst h; exact absurd h0 (by decide)
  · exact h
theorem LOK2.w {r : Row} (h : LOK2 r) {w : Nat} (h0 : w < r 5) : LK r := by
  rcases h with h | h
  · subst h; exact absurd h0 (Nat.not_lt_zero w)
  · exact h
def KA (D : DD) (wy : Nat → Nat) (nx kp : Nat) (A : Nat → Row) : Prop := D 27 1 = nI nx ∧ D 27 2 = nI kp ∧ nx < 24 ∧ kp ≤ 24 ∧ ∀ i, i < kp → LK (A i) ∧ WY wy (A i) ∧ CA D (29 + 6 * ((nx + 24 - kp + i) % 24)) (A i) ∧ LA D 15 wy (A i)
def XLK (D : DD) (wy : Nat → Nat) (r : Row) (kp : Nat) (A : Nat → Row) : Prop := LOK2 r ∧ CA D 21 r ∧ LA D 15 wy r ∧ (WF r → WY wy r) ∧ ∃ nx, KA D wy nx kp A
theorem XLK.xl {D : DD} {wy : Nat → Nat} {r : Row} {kp : Nat} {A : Nat → Row} (h : XLK D wy r kp A) : XL D wy r := ⟨h.1.lok, h.2.1, h.2.2.1, h.2.2.2.1⟩
theorem KA_eq {D D' : DD} {wy : Nat → Nat} {nx kp : Nat} {A : Nat → Row} (h : KA D wy nx kp A) (e : ∀ q, (15 ≤ q ∧ q < 21) ∨ (27 ≤ q ∧ q < 173) → D' q = D q) : KA D' wy nx kp A := by
  obtain ⟨h1, h2, h3, h4, h5⟩ := h
  refine ⟨(congrFun (e 27 (by omega)) 1).trans h1, (congrFun (e 27 (by omega)) 2).trans h2, h3, h4, fun i hi => ?_⟩
  obtain ⟨a, b, c, d⟩ := h5 i hi
  exact ⟨a, b, CA_eq c (fun j hj => e _ (by omega)), LA_eq d (fun j hj => e _ (by omega))⟩
def s_push (kp : Nat) (A : Nat → Row) (r : Row) : Nat → Row := if kp = 24 then (fun i => if i = 23 then r else A (i + 1)) else (fun i => if i = kp then r else A i)
def HX (D D' : DD) : Prop := ∀ q, (q < 21 ∨ 172 < q) → D' q = D q
theorem HX.rf {D : DD} : HX D D := fun _ _ => rfl
def keepD (D : DD) (nx kp : Nat) : DD := upo (takeD D (29 + 6 * nx) 21) 27 (upd (upd (D 27) 1 (nI ((nx + 1) % 24))) 2 (nI (min 24 (kp + 1))))
theorem keep_fr {D : DD} {nx kp q : Nat} (hn : nx < 24) (hq : q < 27 ∨ 172 < q) : keepD D nx kp q = D q := (upo_n (by omega)).trans (take_fr (fun j hj => by omega))
theorem KA_keep {D : DD} {wy : Nat → Nat} {nx kp : Nat} {A : Nat → Row} {r : Row} (h : KA D wy nx kp A) (hr : LK r) (hY : WY wy r) (hC : CA D 21 r) (hL : LA D 15 wy r) : KA (keepD D nx kp) wy ((nx + 1) % 24) (min 24 (kp + 1)) (s_push kp A r) := by
  obtain ⟨h1, h2, h3, h4, h5⟩ := h
  have h57 := hr.1.1.2.2.2.2.2.2.1
  have f27 : keepD D nx kp 27 = upd (upd (D 27) 1 (nI ((nx + 1) % 24))) 2 (nI (min 24 (kp + 1))) := upo_s
  have hL2 : ∀ q, LA D 15 wy q → LA (keepD D nx kp) 15 wy q := fun q hq => LA_eq hq (fun j hj => keep_fr h3 (by omega))
  have hCn : CA (keepD D nx kp) (29 + 6 * nx) r := CA_eq (CA_CP h57 take_CP hC) (fun j hj => upo_n (by omega))
  refine ⟨by rw [f27]; exact (pk_un (by decide)).trans pk_us, by rw [f27]; exact pk_us, Nat.mod_lt _ (by decide), Nat.min_le_left _ _, fun i hi => ?_⟩
  have hold : ∀ i' m, i' < kp → m = (nx + 24 - kp + i') % 24 → m ≠ nx → CA (keepD D nx kp) (29 + 6 * m) (A i') := fun i' m hi' hm hne => by
    subst hm
    exact CA_eq (h5 i' hi').2.2.1 (fun j hj => (upo_n (by omega)).trans (take_fr (fun j' hj' => by omega)))
  by_cases hk : kp = 24
  · subst hk
    have hi2 : i < 24 := by omega
    unfold s_push
    rw [if_pos rfl]
    by_cases q : i = 23
    · subst q
      simp only [if_true]
      have e : ((nx + 1) % 24 + 24 - min 24 (24 + 1) + 23) % 24 = nx := by omega
      rw [e]
      exact ⟨hr, hY, hCn, hL2 _ hL⟩
    · simp only [if_neg q]
      obtain ⟨a, b, c, d⟩ := h5 (i + 1) (by omega)
      exact ⟨a, b, hold (i + 1) _ (by omega) (by omega) (by omega), hL2 _ d⟩
  · unfold s_push
    rw [if_neg hk]
    have hi2 : i < kp + 1 := by omega
    by_cases q : i = kp
    · subst q
      simp only [if_true]
      have e : ((nx + 1) % 24 + 24 - min 24 (i + 1) + i) % 24 = nx := by omega
      rw [e]
      exact ⟨hr, hY, hCn, hL2 _ hL⟩
    · simp only [if_neg q]
      obtain ⟨a, b, c, d⟩ := h5 i (by omega)
      exact ⟨a, b, hold i _ (by omega) (by omega) (by omega), hL2 _ d⟩
theorem keep_now {D : DD} {nx kp : Nat} {r : Row} (hn : nx < 24) (hC : CA D 21 r) : CA (keepD D nx kp) 21 r := CA_eq hC (fun j hj => keep_fr hn (by omega))
theorem keep_HX {D : DD} {nx kp : Nat} (hn : nx < 24) : HX D (keepD D nx kp) := fun q hq => keep_fr hn (by omega)
def backD (D : DD) (nx kp : Nat) : DD := up2 (takeD (upo D 27 (upd (D 27) 1 (nI ((nx + 23) % 24)))) 21 (29 + 6 * ((nx + 23) % 24))) 27 2 (nI (kp - 1))
theorem back_fr {D : DD} {nx kp q : Nat} (hq : q < 21 ∨ 25 < q) (h27 : q ≠ 27) : backD D nx kp q = D q := (up2_o h27).trans ((take_fr (fun j hj => by omega)).trans (upo_n h27))
theorem KA_back {D : DD} {wy : Nat → Nat} {nx kp : Nat} {A : Nat → Row} (h : KA D wy nx kp A) (hk : 1 ≤ kp) : KA (backD D nx kp) wy ((nx + 23) % 24) (kp - 1) A ∧ CA (backD D nx kp) 21 (A (kp - 1)) ∧ LA (backD D nx kp) 15 wy (A (kp - 1)) := by
  obtain ⟨h1, h2, h3, h4, h5⟩ := h
  have f1 : backD D nx kp 27 1 = nI ((nx + 23) % 24) := (up2_n (fun q => absurd q.2 (by decide))).trans ((congrFun (take_fr (fun j hj => by omega)) 1).trans ((congrFun upo_s 1).trans pk_us))
  refine ⟨⟨f1, up2_s, Nat.mod_lt _ (by decide), by omega, fun i hi => ?_⟩, ?_, ?_⟩
  · obtain ⟨a, b, c, d⟩ := h5 i (by omega)
    have e : ((nx + 23) % 24 + 24 - (kp - 1) + i) % 24 = (nx + 24 - kp + i) % 24 := by omega
    rw [e]
    exact ⟨a, b, CA_eq c (fun j hj => back_fr (by omega) (by omega)), LA_eq d (fun j hj => back_fr (by omega) (by omega))⟩
  · obtain ⟨a, b, c, d⟩ := h5 (kp - 1) (by omega)
    have e : (nx + 24 - kp + (kp - 1)) % 24 = (nx + 23) % 24 := by omega
    rw [e] at c
    have h57 := a.1.1.2.2.2.2.2.2.1
    exact CA_eq (CA_CP h57 take_CP (CA_eq c (fun j hj => upo_n (by omega)))) (fun j hj => up2_o (by omega))
  · obtain ⟨a, b, c, d⟩ := h5 (kp - 1) (by omega)
    exact LA_eq d (fun j hj => back_fr (by omega) (by omega))
def s_ak (wy : Nat → Nat) (r : Row) (kp : Nat) (A : Nat → Row) : Nat → Nat × (Nat → Row)
  | 0 => (kp, A)
  | k + 1 => (min 24 ((s_ak wy r kp A k).1 + 1), s_push (s_ak wy r kp A k).1 (s_ak wy r kp A k).2 (s_hours wy k r))
abbrev AST : Type := Row × Nat × (Nat → Row)
def a_hours (wy : Nat → Nat) (r : Row) (kp : Nat) (A : Nat → Row) (n : Int32) : Int32 × AST :=
  if 0 < r 0 then (if nI 1 ≤ n ∧ n ≤ nI 24 then (if r 6 + n.toNatClampNeg ≤ 999 then (nI (s_hours wy n.toNatClampNeg r 1), s_hours wy n.toNatClampNeg r, (s_ak wy r kp A n.toNatClampNeg).1, (s_ak wy r kp A n.toNatClampNeg).2) else (-1000003, r, kp, A)) else (-1000001, r, kp, A)) else (-1000002, r, kp, A)
def a_wish (r : Row) (kp : Nat) (A : Nat → Row) (w p s : Int32) : Int32 × AST :=
  if nI 0 ≤ w ∧ w ≤ nI (r 5) - nI 1 then (if nI 0 ≤ p ∧ p ≤ nI (r 0) - nI 1 then (if nI 0 ≤ s ∧ s ≤ nI 40 then (nI (100 * r (18 + 8 * w.toNatClampNeg) + r (19 + 8 * w.toNatClampNeg)), rset (rset r (18 + 8 * w.toNatClampNeg) p.toNatClampNeg) (19 + 8 * w.toNatClampNeg) s.toNatClampNeg, min 24 (kp + 1), s_push kp A r) else (-1000001, r, kp, A)) else (-1000001, r, kp, A)) else (-1000001, r, kp, A)
def a_rest (r : Row) (kp : Nat) (A : Nat → Row) (w on : Int32) : Int32 × AST :=
  if nI 0 ≤ w ∧ w ≤ nI (r 5) - nI 1 then (if nI 0 ≤ on ∧ on ≤ nI 1 then (if nI (r (23 + 8 * w.toNatClampNeg)) = on then (-1000002, r, kp, A) else (nI (s_bits (rmask (rset r (23 + 8 * w.toNatClampNeg) on.toNatClampNeg) (r 5))), rset r (23 + 8 * w.toNatClampNeg) on.toNatClampNeg, min 24 (kp + 1), s_push kp A r)) else (-1000001, r, kp, A)) else (-1000001, r, kp, A)
def a_undo (r : Row) (kp : Nat) (A : Nat → Row) : Int32 × AST := if kp = 0 then (-1000002, r, kp, A) else (nI (kp - 1), A (kp - 1), kp - 1, A)
def AP (wy : Nat → Nat) (D : DD) (E : EE) (a : Int32 × AST) (v : Int32) (D' : DD) (E' : EE) : Prop := v = a.1 ∧ XLK D' wy a.2.1 a.2.2.1 a.2.2.2 ∧ HX D D' ∧ E' = E
theorem rmask_flip {r : Row} {w n on : Nat} (hr : ∀ w, w < n → r (23 + 8 * w) ≤ 1) (hw : w < n) (hon : on ≤ 1) (hne : ¬ r (23 + 8 * w) = on) : rmask r n ^^^ 2 ^ w = rmask (rset r (23 + 8 * w) on) n := by
  have hr2 : ∀ w', w' < n → rset r (23 + 8 * w) on (23 + 8 * w') ≤ 1 := fun w' hw' => by
    by_cases q : w' = w
    · subst q; rw [rset_s]; exact hon
    · rw [rset_n (by omega)]; exact hr w' hw'
  apply Nat.eq_of_testBit_eq
  intro i
  rw [Nat.testBit_xor, rmask_test _ hr, rmask_test _ hr2, Nat.testBit_two_pow]
  by_cases q : i = w
  · subst q
    have := hr i hw
    rw [rset_s]
    rcases (show on = 0 ∧ r (23 + 8 * i) = 1 ∨ on = 1 ∧ r (23 + 8 * i) = 0 by omega) with h | h <;> simp [hw, h.1, h.2]
  · rw [rset_n (by omega)]
    have : ¬ w = i := fun e => q e.symm
    simp [this]
theorem CA_rs {D : DD} {o w on : Nat} {r : Row} (hC : CA D o r) : CA (upo D o (upd (D o) 5 (nI (rmask (rset r (23 + 8 * w) on) (r 5))))) o (rset r (23 + 8 * w) on) := by
  obtain ⟨⟨c1, c2, c3, c4, c5, c6⟩, d, e⟩ := hC
  have e1 : ∀ j, 1 ≤ j → (upo D o (upd (D o) 5 (nI (rmask (rset r (23 + 8 * w) on) (r 5))))) (o + j) = D (o + j) := fun j hj => upo_n (by omega)
  unfold CA
  rw [upo_s, rset_n (j := 1) (by omega), rset_n (j := 5) (by omega), rset_n (j := 6) (by omega), rset_n (j := 7) (by omega), rset_n (j := 8) (by omega), rset_n (j := 9) (by omega), e1 1 (by decide), e1 2 (by decide), e1 3 (by decide), e1 4 (by decide)]
  refine ⟨⟨(pk_un (by decide)).trans c1, (pk_un (by decide)).trans c2, (pk_un (by decide)).trans c3, (pk_un (by decide)).trans c4, (pk_un (by decide)).trans c5, pk_us⟩, fun w' hw => ?_, e⟩
  rw [rset_n (by omega), rset_n (by omega), rset_n (by omega), rset_n (by omega)]
  exact d w' hw
theorem HS_set {r : Row} {k v : Nat} (h : HS r) (hk : k < 6 ∨ 8 < k) : HS (rset r k v) := by
  unfold HS
  rw [rset_n (by omega), rset_n (by omega), rset_n (by omega)]
  exact h
