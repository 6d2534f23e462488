def s_kd (r : Row) (w kd : Nat) : Row := rset (rset r (16 + 8 * w) kd) (22 + 8 * w) (if kd = 2 then 0 else r (22 + 8 * w))
theorem s_kd_o {r : Row} {w kd k : Nat} (h1 : k ≠ 16 + 8 * w) (h2 : k ≠ 22 + 8 * w) : s_kd r w kd k = r k := (rset_n h2).trans (rset_n h1)
theorem s_kd_t {r : Row} {w kd : Nat} : s_kd r w kd (22 + 8 * w) = if kd = 2 then 0 else r (22 + 8 * w) := rset_s
theorem s_kd_k {r : Row} {w kd : Nat} : s_kd r w kd (16 + 8 * w) = kd := (rset_n (by omega)).trans rset_s
theorem WF_kd {r : Row} {w kd : Nat} (h : WF r) (hw : w < r 5) (h1 : 1 ≤ kd) (h5 : kd ≤ 5) : WF (s_kd r w kd) := by
  have h9 := (h.2.2.1 w hw).2.2.2.2.2.2.1
  refine WF_set (WF_set h (Or.inr ⟨w, hw, by omega⟩)) (Or.inr ⟨w, ?_, ?_⟩)
  · rw [rset_n (by omega)]; exact hw
  · split <;> omega
theorem T2_kd {r : Row} {w kd : Nat} (h : T2 r) : T2 (s_kd r w kd) := by
  intro w' hw' h2
  by_cases e : w' = w
  · subst e
    rw [s_kd_k] at h2
    rw [s_kd_t, if_pos h2]
  · rw [s_kd_o (by omega) (by omega)] at hw' h2 ⊢
    exact h w' hw' h2
theorem HB_kd {r : Row} {w kd b : Nat} (h : HB r b) : HB (s_kd r w kd) b := HB_set (HB_set h (by omega)) (by omega)
theorem WY_kd {r : Row} {wy : Nat → Nat} {w kd : Nat} (h : WY wy r) : WY wy (s_kd r w kd) := WY_set (WY_set h (by omega)) (by omega)
theorem LA_kd {r : Row} {wy : Nat → Nat} {D : DD} {p w kd : Nat} (h : LA D p wy r) : LA D p wy (s_kd r w kd) := LA_set (LA_set h (by omega)) (by omega)
theorem CA_kd {D D' : DD} {o w kd : Nat} {r : Row} (hC : CA D o r) (hw : w < r 5) (h0 : ∀ j, j ≠ 1 → j ≠ 4 → D' (o + j) = D (o + j)) (h1 : D' (o + 1) = upd (D (o + 1)) w (nI kd)) (h4 : D' (o + 4) = if kd = 2 then upd (D (o + 4)) w (nI 0) else D (o + 4)) : CA D' o (s_kd r w kd) := by
  obtain ⟨c, d, e⟩ := hC
  have e0 : D' o = D o := h0 0 (by decide) (by decide)
  have em : rmask (s_kd r w kd) (s_kd r w kd 5) = rmask r (r 5) := by
    rw [s_kd_o (by omega) (by omega)]
    exact rmask_congr _ (fun w' _ => s_kd_o (by omega) (by omega))
  unfold CA
  rw [e0, em, h0 2 (by decide) (by decide), h0 3 (by decide) (by decide), h1, h4, s_kd_o (k := 1) (by omega) (by omega), s_kd_o (k := 5) (by omega) (by omega), s_kd_o (k := 6) (by omega) (by omega), s_kd_o (k := 7) (by omega) (by omega), s_kd_o (k := 8) (by omega) (by omega), s_kd_o (k := 9) (by omega) (by omega)]
  refine ⟨c, fun w' hw' => ?_, fun w' hw' h6 => ?_⟩
  · rw [s_kd_o (k := 18 + 8 * w') (by omega) (by omega), s_kd_o (k := 19 + 8 * w') (by omega) (by omega)]
    refine ⟨?_, (d w' hw').2.1, (d w' hw').2.2.1, ?_⟩
    · by_cases q : w' = w
      · subst q; rw [s_kd_k]; exact pk_us
      · rw [s_kd_o (by omega) (by omega)]; exact (pk_un q).trans (d w' hw').1
    · by_cases q : w' = w
      · subst q
        rw [s_kd_t]
        by_cases k2 : kd = 2
        · rw [if_pos k2, if_pos k2]; exact pk_us
        · rw [if_neg k2, if_neg k2]; exact (d w' hw').2.2.2
      · rw [s_kd_o (by omega) (by omega)]
        by_cases k2 : kd = 2
        · rw [if_pos k2]; exact (pk_un q).trans (d w' hw').2.2.2
        · rw [if_neg k2]; exact (d w' hw').2.2.2
  · by_cases k2 : kd = 2
    · rw [if_pos k2]; exact (pk_un (by omega)).trans (e w' hw' h6)
    · rw [if_neg k2]; exact e w' hw' h6
theorem s_fits_congr {wy : Nat → Nat} {r : Row} {it it' : Nat → Int32} {n : Nat} (h : ∀ k, k < n → it k = it' k) : s_fits wy r it n = s_fits wy r it' n := by
  have e : ∀ k, k < n → s_told wy r it k = s_told wy r it' k := fun k hk => by unfold s_told; rw [h k hk]
  apply Bool.eq_iff_iff.mpr
  constructor
  · intro q
    exact List.all_eq_true.mpr (fun k hk => (e k (List.mem_range.mp hk)).symm.trans (List.all_eq_true.mp q k hk))
  · intro q
    exact List.all_eq_true.mpr (fun k hk => (e k (List.mem_range.mp hk)).trans (List.all_eq_true.mp q k hk))
def g_seen (wy : Nat → Nat) (r : Row) (x i n what : Int32) (w : RWS) : Int32 × Int32 :=
  if nI 0 ≤ x ∧ x ≤ nI 7 then (if nI 1 ≤ n ∧ n ≤ nI 12 then (if nI 0 ≤ what ∧ what ≤ nI 1 then (match w.1 x.toNatClampNeg with
    | none => (-1000011, nI 1)
    | some (_, s) => if okInB s i n = true then (if what = 0 then nI (s_sn wy r (fun k => w.2.1 x.toNatClampNeg (i.toNatClampNeg + k)) n.toNatClampNeg (r 0)).1 else s_opt (s_sn wy r (fun k => w.2.1 x.toNatClampNeg (i.toNatClampNeg + k)) n.toNatClampNeg (r 0)).2, nI 0) else (-1000012, nI 2)) else (-1000001, w.2.2)) else (-1000001, w.2.2)) else (-1000001, w.2.2)
def s_wh (wy : Nat → Nat) (r : Row) (w : Nat) (it : Nat → Int32) (n : Nat) : Nat → Nat
  | 0 => 0
  | j + 1 => if s_fits wy (s_kd r w (j + 1)) it n = true then s_wh wy r w it n j ||| 2 ^ (j + 1) else s_wh wy r w it n j
def g_who (wy : Nat → Nat) (r : Row) (wi x i n : Int32) (w : RWS) : Int32 × Int32 :=
  if nI 0 ≤ wi ∧ wi ≤ nI (r 5) - nI 1 then (if nI 0 ≤ x ∧ x ≤ nI 7 then (if nI 1 ≤ n ∧ n ≤ nI 12 then (match w.1 x.toNatClampNeg with
    | none => (-1000011, nI 1)
    | some (_, s) => if okInB s i n = true then (nI (s_wh wy r wi.toNatClampNeg (fun k => w.2.1 x.toNatClampNeg (i.toNatClampNeg + k)) n.toNatClampNeg 5), nI 0) else (-1000012, nI 2)) else (-1000001, w.2.2)) else (-1000001, w.2.2)) else (-1000001, w.2.2)
/-- .. of the class what is foretold by rows changes: the finding too -/
def FXs (D D' : DD) : Prop := (∀ q, q ≠ 0 → q ≠ 26 → (q < 173 ∨ 178 < q) → D' q = D q) ∧ ∀ f, f ≠ 15 → D' 0 f = D 0 f
theorem FXs.st {D D1 : DD} {v : Int32} (h : SX D D1) : FXs D (upo D1 0 (upd (D1 0) 15 v)) := ⟨fun q h0 h1 h2 => (upo_n h0).trans (h q h1 h2), fun f hf => (congrFun upo_s f).trans ((pk_un hf).trans (congrFun (h 0 (by decide) (by decide)) f))⟩
theorem FXs.of {D D1 : DD} (h : SX D D1) : FXs D D1 := ⟨fun q _ h1 h2 => h q h1 h2, fun f _ => congrFun (h 0 (by decide) (by decide)) f⟩
theorem st_at {D1 : DD} {v : Int32} : upo D1 0 (upd (D1 0) 15 v) 0 15 = v := (congrFun upo_s 15).trans pk_us
/-- a counter that falls from n less 1 -/
theorem dn_lt {a k : Nat} (ha : a < 2 ^ 20) (hk : k ≤ a) : nI a - nI 1 - nI k < 0 ↔ a ≤ k := by
  have e : nI a - nI 1 - nI k = nI (a - k) - nI 1 := by
    rw [Int32.sub_sub, Int32.add_comm, ← Int32.sub_sub, nI_sub hk]
  rw [e]
  constructor
  · intro h
    by_cases q : 1 ≤ a - k
    · rw [nI_sub q] at h; exact absurd h (nI_pos (by omega))
    · omega
  · intro h
    exact pk_sneg (by decide) (by omega)
theorem dn_n {a k : Nat} (hk : k < a) : nI a - nI 1 - nI k = nI (a - 1 - k) := by
  rw [nI_sub (show 1 ≤ a by omega), nI_sub (by omega)]
theorem dn_s {a k : Nat} (hk : k < a) : nI (a - 1 - k) + Int32.ofInt (-1) = nI a - nI 1 - nI (k + 1) := by
  rw [← dn_n hk, ← nI_1 k, ← Int32.sub_sub, Int32.sub_eq_add_neg (a := nI a - nI 1 - nI k)]
  rfl
theorem s_sn_le {wy : Nat → Nat} {r : Row} {it : Nat → Int32} {n : Nat} : ∀ k, (s_sn wy r it n k).1 ≤ k := by
  intro k
  induction k with
  | zero => exact Nat.le_refl 0
  | succ k ih =>
    unfold s_sn
    split
    · show (s_sn wy r it n k).1 + 1 ≤ k + 1; omega
    · omega
