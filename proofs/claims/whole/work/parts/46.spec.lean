def MXa (D D' : DD) : Prop := (∀ q, q ≠ 219 → q ≠ 233 → D' q = D q) ∧ ∀ f, f ≠ 0 → f ≠ 25 → D' 219 f = D 219 f
theorem MXa.th {D : DD} : MXa D (thD D) := ⟨fun q a _ => upo_n a, fun f a _ => (congrFun upo_s f).trans (pk_un a)⟩
/-- of the reference what is foretold by rows changes: the finding too -/
def MXs (D D' : DD) : Prop := (∀ q, q ≠ 219 → q ≠ 225 → q ≠ 229 → D' q = D q) ∧ ∀ f, f ≠ 0 → f ≠ 1 → D' 219 f = D 219 f
theorem MXs.of {D D1 : DD} (h : MX D D1) : MXs D D1 := ⟨h.1, fun f a _ => h.2 f a⟩
def stM (D : DD) (v : Int32) : DD := upo D 219 (upd (D 219) 1 v)
theorem MXs.st {D D1 : DD} {v : Int32} (h : MXs D D1) : MXs D (stM D1 v) := ⟨fun q a b c => (upo_n a).trans (h.1 q a b c), fun f a b => (congrFun upo_s f).trans ((pk_un b).trans (h.2 f a b))⟩
theorem stM_at {D1 : DD} {v : Int32} : stM D1 v 219 1 = v := (congrFun upo_s 1).trans pk_us
theorem stM_q {D1 : DD} {v : Int32} {q : Nat} (h : q ≠ 219) : stM D1 v q = D1 q := upo_n h
theorem stM_st {D1 : DD} {u v : Int32} : stM (stM D1 u) v = stM D1 v := by
  unfold stM
  rw [upo_s, upo_upo]
  congr 1
  funext k
  unfold upd
  by_cases q : k = 1
  · rw [if_pos q, if_pos q]
  · rw [if_neg q, if_neg q, if_neg q]
