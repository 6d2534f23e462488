/-! the reference's land, and what its foretelling changes -/
def XM (D : DD) (wy : Nat → Nat) (r : Row) : Prop := LOK r ∧ MA D 223 r ∧ (∀ j, j < 6 * r 0 → D 228 j = nI (wy j)) ∧ (WF r → WY wy r)
def MX (D D' : DD) : Prop := (∀ q, q ≠ 219 → q ≠ 225 → q ≠ 229 → D' q = D q) ∧ ∀ f, f ≠ 0 → D' 219 f = D 219 f
theorem MX.rf {D : DD} : MX D D := ⟨fun _ _ _ _ => rfl, fun _ _ => rfl⟩
theorem MX.trans {D D1 D2 : DD} (h : MX D D1) (h2 : MX D1 D2) : MX D D2 := ⟨fun q a b c => (h2.1 q a b c).trans (h.1 q a b c), fun f a => (h2.2 f a).trans (h.2 f a)⟩
theorem MX.of {D D1 : DD} (h : ∀ q, q ≠ 225 → q ≠ 229 → D1 q = D q) : MX D D1 := ⟨fun q _ b c => h q b c, fun f _ => congrFun (h 219 (by decide) (by decide)) f⟩
def thD (D : DD) : DD := upo D 219 (upd (D 219) 0 (nI 0))
theorem MX.th {D : DD} : MX D (thD D) := ⟨fun q a _ _ => upo_n a, fun f a => (congrFun upo_s f).trans (pk_un a)⟩
theorem MX.ma {D D1 : DD} {r : Row} (h : MX D D1) (hM : MA D 223 r) : MA D1 223 r := fun k hk => (congrFun (h.1 223 (by decide) (by decide) (by decide)) k).trans (hM k hk)
theorem MX.wy {D D1 : DD} {wy : Nat → Nat} {n : Nat} (h : MX D D1) (hw : ∀ j, j < n → D 228 j = nI (wy j)) : ∀ j, j < n → D1 228 j = nI (wy j) := fun k hk => (congrFun (h.1 228 (by decide) (by decide) (by decide)) k).trans (hw k hk)
theorem XM.mx {D D1 : DD} {wy : Nat → Nat} {r : Row} (h : XM D wy r) (hm : MX D D1) : XM D1 wy r := ⟨h.1, hm.ma h.2.1, hm.wy h.2.2.1, h.2.2.2⟩
theorem XM.th {D : DD} {wy : Nat → Nat} {r : Row} (h : XM D wy r) : XM (thD D) wy r := h.mx MX.th
theorem s_hours_0 {wy : Nat → Nat} {r : Row} (n : Nat) : s_hours wy n r 0 = r 0 := s_hours_o (by omega) (by omega) n
