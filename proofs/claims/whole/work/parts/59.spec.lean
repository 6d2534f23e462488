def FRF (D D' : DD) : Prop := (∀ q, q ≠ 219 → q ≠ 224 → D' q = D q) ∧ ∀ f, (f < 12 ∨ 17 < f) → D' 219 f = D 219 f
theorem FRF.of {D D' : DD} (h : PFm D D') : FRF D D' := ⟨fun q a _ => h.1 q a, h.2⟩
theorem FRF.rf {D : DD} : FRF D D := ⟨fun _ _ _ => rfl, fun _ _ => rfl⟩
theorem FRF.trans {D D1 D2 : DD} (h : FRF D D1) (h2 : FRF D1 D2) : FRF D D2 := ⟨fun q a b => (h2.1 q a b).trans (h.1 q a b), fun f a => (h2.2 f a).trans (h.2 f a)⟩
theorem FRF.up {D D1 D2 : DD} {k : Nat} {v : Int32} (h : FRF D D1) (e : D2 = up2 D1 224 k v) : FRF D D2 := by
  subst e
  exact ⟨fun q a b => (up2_o b).trans (h.1 q a b), fun f a => (congrFun (up2_o (by decide)) f).trans (h.2 f a)⟩
theorem MP_eq {D D' : DD} {t : TPt} {s : PSt} (h : MP D t s) (e : D' 219 = D 219) (e2 : D' 227 = D 227) : MP D' t s := by
  unfold MP TPm MTK at *
  rw [e, e2]
  exact h
theorem MP_up {D D' : DD} {t : TPt} {s : PSt} {k : Nat} {v : Int32} (h : MP D t s) (e : D' = up2 D 224 k v) : MP D' t s := MP_eq h (by rw [e, up2_o (by decide)]) (by rw [e, up2_o (by decide)])
theorem MA_up {D D' : DD} {i j v : Nat} {r : Row} (h : MA D 224 r) (e : D' = up2 D 224 i (nI v)) (e2 : i = j) : MA D' 224 (rset r j v) := by
  rw [e]
  exact MA_set h e2
theorem wis_rs {r : Row} {kd h a g f l : Nat} : rset (rset (rset (rset (rset (rset (rset r (16 + 8 * r 5) kd) (17 + 8 * r 5) h) (18 + 8 * r 5) a) (19 + 8 * r 5) g) (20 + 8 * r 5) f) (21 + 8 * r 5) l) 5 (r 5 + 1) = s_wis r kd h a g f l := by
  funext k
  unfold rset s_wis
  by_cases h5 : k = 5
  · rw [if_pos h5, if_pos h5]
  · rw [if_neg h5, if_neg h5]
    by_cases h0 : k = 16 + 8 * r 5
    · rw [if_neg (by omega), if_neg (by omega), if_neg (by omega), if_neg (by omega), if_neg (by omega), if_pos h0, if_pos h0]
    · rw [if_neg h0, if_neg h0]
      by_cases h1 : k = 17 + 8 * r 5
      · rw [if_neg (by omega), if_neg (by omega), if_neg (by omega), if_neg (by omega), if_pos h1, if_pos h1]
      · rw [if_neg h1, if_neg h1]
        by_cases h2 : k = 18 + 8 * r 5
        · rw [if_neg (by omega), if_neg (by omega), if_neg (by omega), if_pos h2, if_pos h2]
        · rw [if_neg h2, if_neg h2]
          by_cases h3 : k = 19 + 8 * r 5
          · rw [if_neg (by omega), if_neg (by omega), if_pos h3, if_pos h3]
          · rw [if_neg h3, if_neg h3]
            by_cases h4 : k = 20 + 8 * r 5
            · rw [if_neg (by omega), if_pos h4, if_pos h4]
            · rw [if_neg h4, if_neg h4]
theorem R3_mk {D D' : DD} {t : TPt} {s : PSt} {r : Row} (a : MP D' t s) (b : MA D' 224 r) (c : FRF D D') : MP D' t (s, r).1 ∧ MA D' 224 (s, r).2 ∧ FRF D D' := ⟨a, b, c⟩
