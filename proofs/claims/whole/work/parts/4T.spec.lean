/-- what images hold is a land with its ways -/
def IMOK (im : IMS) : Prop := ∀ k p, k < 2 → im k = some p → LK p.1 ∧ RG p.1 ∧ p.2 = s_far p.1
theorem KI_th {D : DD} {im : IMS} (h : KI D im) : KI (thD D) im := fun k hk => KI1_eq (h k hk) (congrFun (MX.th.1 231 (by decide) (by decide) (by decide)) k) (fun j _ => congrFun (MX.th.1 232 (by decide) (by decide) (by decide)) _)
theorem KI_s {D : DD} {k : Nat} {o : Option (Row × (Nat → Nat))} (h : KI1 D k o) (c : ¬ D 231 k = 0) : ∃ p, o = some p := by
  cases o with
  | none => exact absurd h c
  | some p => exact ⟨p, rfl⟩
theorem KI_n {D : DD} {k : Nat} {o : Option (Row × (Nat → Nat))} (h : KI1 D k o) (c : D 231 k = 0) : o = none := by
  cases o with
  | none => rfl
  | some p => exact absurd (h.1.symm.trans c) (by decide)
def FRr (D D' : DD) : Prop := (∀ q, q ≠ 219 → q ≠ 223 → q ≠ 228 → D' q = D q) ∧ ∀ f, f ≠ 0 → f ≠ 9 → D' 219 f = D 219 f
theorem FRr.th {D : DD} : FRr D (thD D) := ⟨fun q a _ _ => upo_n a, fun f a _ => (congrFun upo_s f).trans (pk_un a)⟩
theorem re_end {D D1 D2 : DD} {q : Row} {A : Nat → Row} (hL : LK q) (h : (∀ i, i ≠ 223 → D1 i = thD D i) ∧ ∀ j, j < 64 → D1 223 j = nI (q j)) (h1 : ∀ i, i ≠ 228 → D2 i = (up2 D1 219 9 (nI 0)) i) (h2 : ∀ j, j < 6 * q 0 → D2 228 j = nI (s_far q j)) : XMK D2 (s_far q) q 0 A ∧ FRr D D2 := by
  have e9 : D2 219 9 = nI 0 := (congrFun (h1 219 (by decide)) 9).trans up2_s
  refine ⟨⟨Or.inr hL, fun k hk => ((congrFun (h1 223 (by decide)) k).trans (congrFun (up2_o (by decide)) k)).trans (h.2 k hk), h2, fun _ => far_WY hL.1.1.2.1, ⟨e9, by decide, fun i hi => absurd hi (Nat.not_lt_zero i)⟩, fun i hi => absurd hi (Nat.not_lt_zero i)⟩, fun i a b c => (h1 i c).trans ((up2_o a).trans ((h.1 i b).trans (upo_n a))), fun f a b => (congrFun (h1 219 (by decide)) f).trans ((up2_n (fun q => b q.2)).trans ((congrFun (h.1 219 (by decide)) f).trans (FRr.th.2 f a b)))⟩
