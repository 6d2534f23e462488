/-! what holds of the state whatever is asked or done -/
def EQR (r r' : Row) : Prop := r' 0 = r 0 ∧ ∀ j, j < 6 → r' (10 + j) = r (10 + j)
theorem EQR.rf {r : Row} : EQR r r := ⟨rfl, fun _ _ => rfl⟩
theorem EQR.sy {r r' : Row} (h : EQR r r') : EQR r' r := ⟨h.1.symm, fun j hj => (h.2 j hj).symm⟩
theorem EQR.tr {r r' q : Row} (h : EQR r r') (k : EQR r' q) : EQR r q := ⟨k.1.trans h.1, fun j hj => (k.2 j hj).trans (h.2 j hj)⟩
theorem EQR.far {r r' : Row} (h : EQR r r') : s_far r' = s_far r := far_congr h.2
theorem EQR.rg {r r' : Row} (h : EQR r r') (g : RG r) : RG r' := by
  obtain ⟨a, b⟩ := g
  refine ⟨by rw [h.1]; exact a, fun k hk => ?_⟩
  rw [h.1, h.2 k hk]
  exact b k hk
theorem eqr_hours {wy : Nat → Nat} {r : Row} (n : Nat) : EQR r (s_hours wy n r) := ⟨s_hours_o (by omega) (by omega) n, fun j hj => s_hours_o (by omega) (by omega) n⟩
theorem eqr_rset {r : Row} {k v : Nat} (hk : 16 ≤ k) : EQR r (rset r k v) := ⟨rset_n (by omega), fun j hj => rset_n (by omega)⟩
def AEQ (r : Row) (kp : Nat) (A : Nat → Row) : Prop := ∀ i, i < kp → EQR r (A i)
theorem aeq_push {r r' : Row} {kp : Nat} {A : Nat → Row} (h : AEQ r kp A) (e : EQR r r') : AEQ r (min 24 (kp + 1)) (s_push kp A r') := by
  intro i hi
  unfold s_push
  by_cases c : kp = 24
  · rw [if_pos c]
    show EQR r (if i = 23 then r' else A (i + 1))
    by_cases q : i = 23
    · rw [if_pos q]; exact e
    · rw [if_neg q]; exact h _ (by omega)
  · rw [if_neg c]
    show EQR r (if i = kp then r' else A i)
    by_cases q : i = kp
    · rw [if_pos q]; exact e
    · rw [if_neg q]; exact h _ (by omega)
theorem aeq_ak {wy : Nat → Nat} {r : Row} {kp : Nat} {A : Nat → Row} (h : AEQ r kp A) : ∀ k, AEQ r (s_ak wy r kp A k).1 (s_ak wy r kp A k).2
  | 0 => h
  | k + 1 => aeq_push (aeq_ak h k) (eqr_hours k)
theorem AEQ.of {r r' : Row} {kp : Nat} {A : Nat → Row} (h : AEQ r kp A) (e : EQR r r') : AEQ r' kp A := fun i hi => e.sy.tr (h i hi)
theorem OKA.aeq {s : AST} (h : OKA s) : AEQ s.1 s.2.1 s.2.2 := h.2
theorem oka_of {r r' : Row} {kp : Nat} {A : Nat → Row} (g : RG r) (e : EQR r r') (h : AEQ r kp A) : OKA (r', kp, A) := ⟨e.rg g, h.of e⟩
/-- an act: the row's roads stay -/
def ACT (r : Row) (s : AST) : Prop := EQR r s.1 ∧ OKA s
theorem act_mk {r r' : Row} {kp : Nat} {A : Nat → Row} (g : RG r) (e : EQR r r') (h : AEQ r kp A) : ACT r (r', kp, A) := ⟨e, oka_of g e h⟩
theorem act_hours {wy : Nat → Nat} {r : Row} {kp : Nat} {A : Nat → Row} (g : RG r) (h : AEQ r kp A) (x : Int32) : ACT r (a_hours wy r kp A x).2 := by
  have k : ACT r (r, kp, A) := act_mk g EQR.rf h
  unfold a_hours
  split
  · split
    · split
      · exact act_mk g (eqr_hours _) (aeq_ak h _)
      · exact k
    · exact k
  · exact k
theorem act_wish {r : Row} {kp : Nat} {A : Nat → Row} (g : RG r) (h : AEQ r kp A) (x y z : Int32) : ACT r (a_wish r kp A x y z).2 := by
  have k : ACT r (r, kp, A) := act_mk g EQR.rf h
  unfold a_wish
  split
  · split
    · split
      · exact act_mk g ((eqr_rset (by omega)).tr (eqr_rset (by omega))) (aeq_push h EQR.rf)
      · exact k
    · exact k
  · exact k
theorem act_rest {r : Row} {kp : Nat} {A : Nat → Row} (g : RG r) (h : AEQ r kp A) (x y : Int32) : ACT r (a_rest r kp A x y).2 := by
  have k : ACT r (r, kp, A) := act_mk g EQR.rf h
  unfold a_rest
  split
  · split
    · split
      · exact k
      · exact act_mk g (eqr_rset (by omega)) (aeq_push h EQR.rf)
    · exact k
  · exact k
theorem act_undo {r : Row} {kp : Nat} {A : Nat → Row} (g : RG r) (h : AEQ r kp A) : ACT r (a_undo r kp A).2 := by
  unfold a_undo
  split
  · exact act_mk g EQR.rf h
  · exact act_mk g (h _ (by omega)) (fun i hi => h i (by omega))
theorem img_ok {r : Row} {im : IMS} (hL : LOK2 r) (g : RG r) (hi : IMOK im) (x : Int32) : IMOK (g_image r (s_far r) im x).2 := by
  unfold g_image
  split
  · split
    · rename_i h0
      have hk : LK r := by
        rcases hL with h | h
        · rw [h] at h0
          exact absurd h0 (by decide)
        · exact h
      intro k p hk2 hp
      by_cases q : k = x.toNatClampNeg
      · subst q
        have hp : upo im x.toNatClampNeg (some (r, s_far r)) x.toNatClampNeg = some p := hp
        rw [upo_s] at hp
        cases hp
        exact ⟨hk, g, rfl⟩
      · exact hi k p hk2 ((upo_n q).symm.trans hp)
    · exact hi
  · exact hi
theorem res_ok {r : Row} {kp : Nat} {A : Nat → Row} {im : IMS} (g : RG r) (h : AEQ r kp A) (hi : IMOK im) (x : Int32) : (a_restore r kp A (s_far r) im x).2.2 = s_far (a_restore r kp A (s_far r) im x).2.1.1 ∧ OKA (a_restore r kp A (s_far r) im x).2.1 := by
  have k : OKA (r, kp, A) := oka_of g EQR.rf h
  unfold a_restore
  split
  · rename_i hx
    split
    · exact ⟨rfl, k⟩
    · rename_i p hp
      obtain ⟨a, b, c⟩ := hi _ p (by
        obtain ⟨k, h1, h2, h3⟩ := rg (by decide) (by decide) hx
        rw [h3, nI_clamp (by omega)]
        omega) hp
      exact ⟨c, b, fun i hi => absurd hi (Nat.not_lt_zero i)⟩
  · exact ⟨rfl, k⟩
theorem land_ok {t : TPt} (ht : t.1 ≤ 120) {lf : Int32} {r : Row} {kp : Nat} {A : Nat → Row} (g : RG r) (h : AEQ r kp A) {y : PSt × Row} (hy : s_pk t 120 = y) : (a_land y lf r kp A (s_far r)).2.2.2 = s_far (a_land y lf r kp A (s_far r)).2.2.1.1 ∧ OKA (a_land y lf r kp A (s_far r)).2.2.1 := by
  unfold a_land
  by_cases c : y.1.2.1 = 0
  · rw [if_pos c]
    have := (PI_pk ht 120).1
    rw [hy] at this
    exact ⟨rfl, (this.2 c).2, fun i hi => absurd hi (Nat.not_lt_zero i)⟩
  · rw [if_neg c]
    exact ⟨rfl, oka_of g EQR.rf h⟩
