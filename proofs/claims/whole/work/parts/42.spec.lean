def XMK (D : DD) (wy : Nat → Nat) (r : Row) (kp : Nat) (A : Nat → Row) : Prop := LOK2 r ∧ MA D 223 r ∧ (∀ j, j < 6 * r 0 → D 228 j = nI (wy j)) ∧ (WF r → WY wy r) ∧ KM D kp A ∧ ∀ i, i < kp → LK (A i) ∧ WY wy (A i) ∧ A i 0 = r 0
theorem XMK.xm {D : DD} {wy : Nat → Nat} {r : Row} {kp : Nat} {A : Nat → Row} (h : XMK D wy r kp A) : XM D wy r := ⟨h.1.lok, h.2.1, h.2.2.1, h.2.2.2.1⟩
def HM (D D' : DD) : Prop := (∀ q, q ≠ 219 → q ≠ 223 → q ≠ 225 → q ≠ 226 → q ≠ 229 → D' q = D q) ∧ ∀ f, f ≠ 0 → f ≠ 9 → D' 219 f = D 219 f
theorem HM.th {D : DD} : HM D (thD D) := ⟨fun q a _ _ _ _ => upo_n a, fun f a _ => (congrFun upo_s f).trans (pk_un a)⟩
theorem HM.kx {D D1 D2 : DD} (h : HM D D1) (h2 : KX D1 D2) : HM D D2 := ⟨fun q a b c d e => (h2.1 q a d).trans (h.1 q a b c d e), fun f a b => (h2.2 f b).trans (h.2 f a b)⟩
theorem HM.l {D D1 D2 : DD} (h : HM D D1) (h2 : ∀ q, q ≠ 223 → q ≠ 229 → D2 q = D1 q) : HM D D2 := ⟨fun q a b c d e => (h2 q b e).trans (h.1 q a b c d e), fun f a b => (congrFun (h2 219 (by decide) (by decide)) f).trans (h.2 f a b)⟩
theorem KM_th {D : DD} {kp : Nat} {A : Nat → Row} (h : KM D kp A) : KM (thD D) kp A := ⟨(MX.th.2 9 (by decide)).trans h.1, h.2.1, fun i hi j hj => (congrFun (MX.th.1 226 (by decide) (by decide) (by decide)) _).trans (h.2.2 i hi j hj)⟩
theorem KM_l {D D2 : DD} {kp : Nat} {A : Nat → Row} (h : KM D kp A) (h2 : ∀ q, q ≠ 223 → q ≠ 229 → D2 q = D q) : KM D2 kp A := ⟨(congrFun (h2 219 (by decide) (by decide)) 9).trans h.1, h.2.1, fun i hi j hj => (congrFun (h2 226 (by decide) (by decide)) _).trans (h.2.2 i hi j hj)⟩
theorem XMK.th {D : DD} {wy : Nat → Nat} {r : Row} {kp : Nat} {A : Nat → Row} (h : XMK D wy r kp A) : XMK (thD D) wy r kp A := ⟨h.1, MX.th.ma h.2.1, MX.th.wy h.2.2.1, h.2.2.2.1, KM_th h.2.2.2.2.1, h.2.2.2.2.2⟩
def AQ (wy : Nat → Nat) (D : DD) (E : EE) (a : Int32 × AST) (v : Int32) (D' : DD) (E' : EE) : Prop := v = a.1 ∧ XMK D' wy a.2.1 a.2.2.1 a.2.2.2 ∧ HM D D' ∧ E' = E
theorem push_ok {wy : Nat → Nat} {r r' : Row} {kp : Nat} {A : Nat → Row} (hA : ∀ i, i < kp → LK (A i) ∧ WY wy (A i) ∧ A i 0 = r' 0) (hk : kp ≤ 24) (hr : LK r) (hY : WY wy r) (h0 : r 0 = r' 0) : ∀ i, i < min 24 (kp + 1) → LK (s_push kp A r i) ∧ WY wy (s_push kp A r i) ∧ s_push kp A r i 0 = r' 0 := by
  intro i hi
  unfold s_push
  by_cases e : kp = 24
  · rw [if_pos e]
    by_cases q : i = 23
    · simp only [if_pos q]; exact ⟨hr, hY, h0⟩
    · simp only [if_neg q]; exact hA (i + 1) (by omega)
  · rw [if_neg e]
    by_cases q : i = kp
    · simp only [if_pos q]; exact ⟨hr, hY, h0⟩
    · simp only [if_neg q]; exact hA i (by omega)
def s_rs (r : Row) : Nat → Nat
  | 0 => 0
  | k + 1 => s_rs r k + r (23 + 8 * k)
theorem rs_bk {r : Row} {n : Nat} (h : ∀ w, w < n → r (23 + 8 * w) ≤ 1) : ∀ k, k ≤ n → s_bk (rmask r n) k = s_rs r k := by
  intro k
  induction k with
  | zero => intro _; rfl
  | succ k ih =>
    intro hk
    show s_bk (rmask r n) k + rmask r n / 2 ^ k % 2 = s_rs r k + r (23 + 8 * k)
    rw [ih (by omega), rmask_bit n h k (by omega)]
theorem rs_up {r : Row} {n : Nat} (h : ∀ w, w < n → r (23 + 8 * w) ≤ 1) : ∀ m, s_bk (rmask r n) (n + m) = s_rs r n := by
  intro m
  induction m with
  | zero => exact rs_bk h n (Nat.le_refl n)
  | succ m ih =>
    show s_bk (rmask r n) (n + m) + rmask r n / 2 ^ (n + m) % 2 = _
    have h1 := rmask_lt n h
    have h2 : 2 ^ n ≤ 2 ^ (n + m) := Nat.pow_le_pow_right (by decide) (by omega)
    rw [ih, Nat.div_eq_of_lt (by omega)]
    rfl
theorem rs_bits {r : Row} {n : Nat} (h : ∀ w, w < n → r (23 + 8 * w) ≤ 1) (hn : n ≤ 6) : s_rs r n = s_bits (rmask r n) := by
  have := rs_up h (6 - n)
  rw [show n + (6 - n) = 6 by omega, s_bk_6] at this
  exact this.symm
theorem cp_s {D1 D2 : DD} {k : Nat} {r : Row} (h : (∀ q, q ≠ 223 → D2 q = D1 q) ∧ ∀ j, j < k → D2 223 j = nI (r j)) : (∀ q, q ≠ 223 → up2 D2 223 k (nI (r k)) q = D1 q) ∧ ∀ j, j < k + 1 → up2 D2 223 k (nI (r k)) 223 j = nI (r j) := by
  refine ⟨fun q hq => (up2_o hq).trans (h.1 q hq), fun j hj => ?_⟩
  by_cases e : j = k
  · subst e; exact up2_s
  · exact (up2_n (fun q => e q.2)).trans (h.2 j (by omega))
def fr223 (D1 D2 : DD) : Prop := ∀ q, q ≠ 223 → D2 q = D1 q
theorem fr_0 {D1 : DD} : fr223 D1 D1 := fun _ _ => rfl
theorem fr_s {D1 D2 D3 : DD} {i : Nat} {v : Int32} (h : fr223 D1 D2) (e : D3 = up2 D2 223 i v) : fr223 D1 D3 := fun q hq => by rw [e]; exact (up2_o hq).trans (h q hq)
