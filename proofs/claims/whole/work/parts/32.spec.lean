def rset (r : Row) (k v : Nat) : Row := fun j => if j = k then v else r j
theorem rset_n {r : Row} {k v j : Nat} (h : j ≠ k) : rset r k v j = r j := if_neg h
theorem rset_s {r : Row} {k v : Nat} : rset r k v k = v := if_pos rfl
/-- all but the wishers of a set rest -/
def s_rest (r : Row) (c : Nat) : Row := fun k => if 16 ≤ k ∧ k % 8 = 7 ∧ (k - 16) / 8 < r 5 ∧ c / 2 ^ ((k - 16) / 8) % 2 = 0 then 1 else r k
theorem s_rest_o {r : Row} {c k : Nat} (h : k < 16 ∨ k % 8 ≠ 7) : s_rest r c k = r k := if_neg (by omega)
theorem s_rest_w {r : Row} {c w : Nat} (hw : w < r 5) : s_rest r c (23 + 8 * w) = if c / 2 ^ w % 2 = 0 then 1 else r (23 + 8 * w) := by
  have e : (23 + 8 * w - 16) / 8 = w := by omega
  unfold s_rest
  rw [e]
  by_cases h : c / 2 ^ w % 2 = 0
  · rw [if_pos h, if_pos ⟨by omega, by omega, hw, h⟩]
  · rw [if_neg h, if_neg (fun q => h q.2.2.2)]
theorem WF_rest {r : Row} {c : Nat} (h : WF r) : WF (s_rest r c) := by
  obtain ⟨⟨b1, b2, b3, b4, b5, b6, b7, b8⟩, b9, b10, b11⟩ := h
  unfold WF
  rw [s_rest_o (k := 0) (by omega), s_rest_o (k := 1) (by omega), s_rest_o (k := 2) (by omega), s_rest_o (k := 3) (by omega), s_rest_o (k := 4) (by omega), s_rest_o (k := 5) (by omega), s_rest_o (k := 9) (by omega)]
  refine ⟨⟨b1, b2, b3, b4, b5, b6, b7, b8⟩, fun j hj => ?_, fun w hw => ?_, fun k hk => ?_⟩
  · rw [s_rest_o (by omega)]; exact b9 j hj
  · obtain ⟨d1, d3, d4, d5, d6, d7, d9, d10⟩ := b10 w hw
    rw [s_rest_o (by omega), s_rest_o (by omega), s_rest_o (by omega), s_rest_o (by omega), s_rest_o (by omega), s_rest_o (by omega), s_rest_o (by omega), s_rest_w hw]
    refine ⟨d1, d3, d4, d5, d6, d7, d9, ?_⟩
    split <;> omega
  · unfold s_rest
    rw [if_neg (by omega)]
    exact b11 k hk
theorem T2_rest {r : Row} {c : Nat} (h : T2 r) : T2 (s_rest r c) := by
  intro w hw h2
  rw [s_rest_o (by omega)] at hw h2 ⊢
  exact h w hw h2
theorem HB_rest {r : Row} {c b : Nat} (h : HB r b) : HB (s_rest r c) b := by
  unfold HB
  rw [s_rest_o (by omega), s_rest_o (by omega), s_rest_o (by omega)]
  exact h
theorem WY_rest {r : Row} {c : Nat} {wy : Nat → Nat} (h : WY wy r) : WY wy (s_rest r c) := by
  unfold WY
  rw [s_rest_o (by omega)]
  exact h
theorem LA_rest {r : Row} {c : Nat} {wy : Nat → Nat} {D : DD} {p : Nat} (h : LA D p wy r) : LA D p wy (s_rest r c) := by
  unfold LA
  rw [s_rest_o (k := 0) (by omega), s_rest_o (k := 2) (by omega), s_rest_o (k := 3) (by omega), s_rest_o (k := 4) (by omega), s_rest_o (k := 5) (by omega)]
  refine ⟨h.1, fun j hj => ?_, h.2.2.1, fun w hw => ?_⟩
  · rw [s_rest_o (by omega)]; exact h.2.1 j hj
  · rw [s_rest_o (by omega), s_rest_o (by omega), s_rest_o (by omega)]; exact h.2.2.2 w hw
theorem rmask_test {r : Row} (n : Nat) (h : ∀ w, w < n → r (23 + 8 * w) ≤ 1) (w : Nat) : (rmask r n).testBit w = (decide (w < n) && decide (r (23 + 8 * w) = 1)) := by
  by_cases hw : w < n
  · rw [Nat.testBit_eq_decide_div_mod_eq, rmask_bit n h w hw]
    simp [hw]
  · have : rmask r n < 2 ^ w := Nat.lt_of_lt_of_le (rmask_lt n h) (Nat.pow_le_pow_right (by decide) (by omega))
    rw [Nat.testBit_lt_two_pow this]
    simp [hw]
/-- the mask of those who rest, with all but a set resting -/
theorem rmask_rest {r : Row} {c : Nat} (h : WF r) (hc : c < 64) : rmask r (r 5) ||| ((2 ^ r 5 - 1) &&& (63 ^^^ c)) = rmask (s_rest r c) (r 5) := by
  have h7 := h.1.2.2.2.2.2.2.1
  have hr : ∀ w, w < r 5 → r (23 + 8 * w) ≤ 1 := fun w hw => (h.2.2.1 w hw).2.2.2.2.2.2.2
  have hs : ∀ w, w < r 5 → s_rest r c (23 + 8 * w) ≤ 1 := fun w hw => by
    rw [s_rest_w hw]; have := hr w hw; split <;> omega
  apply Nat.eq_of_testBit_eq
  intro w
  rw [Nat.testBit_or, Nat.testBit_and, Nat.testBit_xor, rmask_test _ hr, rmask_test _ hs, Nat.testBit_two_pow_sub_one]
  by_cases hw : w < r 5
  · have h63 : (63 : Nat).testBit w = true := by
      have : ∀ w, w < 6 → (63 : Nat).testBit w = true := by decide
      exact this w (by omega)
    rw [s_rest_w hw, h63]
    have hcb : c.testBit w = decide (c / 2 ^ w % 2 = 1) := Nat.testBit_eq_decide_div_mod_eq
    rw [hcb]
    have h2 : c / 2 ^ w % 2 = 0 ∨ c / 2 ^ w % 2 = 1 := by omega
    rcases h2 with e | e <;> simp [hw, e]
  · simp [hw]
theorem mask_n : ∀ c, c < 64 → ∀ m, m < 64 → nI m &&& (nI c ^^^ (-1)) = nI (m &&& (63 ^^^ c)) := by decide +kernel
theorem CA_rest {D : DD} {o c : Nat} {r : Row} (h : WF r) (hc : c < 64) (hC : CA D o r) : CA (upo D o (upd (D o) 5 (nI (rmask r (r 5) ||| ((2 ^ r 5 - 1) &&& (63 ^^^ c)))))) o (s_rest r c) := by
  obtain ⟨⟨c1, c2, c3, c4, c5, c6⟩, d, e⟩ := hC
  have e1 : ∀ j, 1 ≤ j → (upo D o (upd (D o) 5 (nI (rmask r (r 5) ||| ((2 ^ r 5 - 1) &&& (63 ^^^ c)))))) (o + j) = D (o + j) := fun j hj => upo_n (by omega)
  unfold CA
  rw [upo_s, s_rest_o (k := 1) (by omega), s_rest_o (k := 5) (by omega), s_rest_o (k := 6) (by omega), s_rest_o (k := 7) (by omega), s_rest_o (k := 8) (by omega), s_rest_o (k := 9) (by omega), e1 1 (by decide), e1 2 (by decide), e1 3 (by decide), e1 4 (by decide)]
  refine ⟨⟨(pk_un (by decide)).trans c1, (pk_un (by decide)).trans c2, (pk_un (by decide)).trans c3, (pk_un (by decide)).trans c4, (pk_un (by decide)).trans c5, pk_us.trans (congrArg nI (rmask_rest h hc))⟩, fun w hw => ?_, e⟩
  rw [s_rest_o (by omega), s_rest_o (by omega), s_rest_o (by omega), s_rest_o (by omega)]
  exact d w hw
/-- the fewest: of the sets below n -/
def s_few (wy : Nat → Nat) (r : Row) (pl n : Nat) : Nat → Option Nat
  | 0 => none
  | c + 1 => match s_few wy r pl n c with
    | none => if s_hours wy n (s_rest r c) 1 = pl then some c else none
    | some b => if s_bits c < s_bits b ∧ s_hours wy n (s_rest r c) 1 = pl then some c else some b
def g_fewest (wy : Nat → Nat) (r : Row) (place n what : Int32) : Int32 :=
  if nI 0 ≤ place ∧ place ≤ nI (r 0) - nI 1 then (if nI 1 ≤ n ∧ n ≤ nI 24 then (if nI 0 ≤ what ∧ what ≤ nI 1 then
    (match s_few wy r place.toNatClampNeg n.toNatClampNeg (2 ^ r 5) with
     | none => -1000000
     | some b => if what = 0 then nI (s_bits b) else nI b) else -1000001) else -1000001) else -1000001
def f_many (o : Option Nat) : Nat := match o with
  | none => 7
  | some b => s_bits b
def f_which (o : Option Nat) : Nat := match o with
  | none => 0
  | some b => b
theorem s_bits_le {c : Nat} : s_bits c ≤ 6 := by unfold s_bits; omega
theorem s_few_lt {wy : Nat → Nat} {r : Row} {pl n : Nat} : ∀ c b, s_few wy r pl n c = some b → b < c := by
  intro c
  induction c with
  | zero => intro b h; cases h
  | succ c ih =>
    intro b h
    unfold s_few at h
    cases e : s_few wy r pl n c with
    | none =>
      rw [e] at h
      simp only at h
      split at h
      · cases h; omega
      · cases h
    | some a =>
      rw [e] at h
      simp only at h
      have := ih a e
      split at h <;> cases h <;> omega
/-- one step of it -/
theorem s_few_t {wy : Nat → Nat} {r : Row} {pl n c : Nat} (h1 : s_bits c < f_many (s_few wy r pl n c)) (h2 : s_hours wy n (s_rest r c) 1 = pl) : s_few wy r pl n (c + 1) = some c := by
  unfold s_few
  cases e : s_few wy r pl n c with
  | none => simp [h2]
  | some a => rw [e] at h1; have h1' : s_bits c < s_bits a := h1; simp [h1', h2]
theorem s_few_succ {wy : Nat → Nat} {r : Row} {pl n c : Nat} : s_few wy r pl n (c + 1) = match s_few wy r pl n c with
    | none => if s_hours wy n (s_rest r c) 1 = pl then some c else none
    | some b => if s_bits c < s_bits b ∧ s_hours wy n (s_rest r c) 1 = pl then some c else some b := rfl
theorem s_few_f {wy : Nat → Nat} {r : Row} {pl n c : Nat} (h : ¬ (s_bits c < f_many (s_few wy r pl n c) ∧ s_hours wy n (s_rest r c) 1 = pl)) : s_few wy r pl n (c + 1) = s_few wy r pl n c := by
  rw [s_few_succ]
  cases e : s_few wy r pl n c with
  | none =>
    rw [e] at h
    have h9 : s_bits c < f_many none := Nat.lt_succ_of_le s_bits_le
    exact if_neg (fun q => h ⟨h9, q⟩)
  | some a =>
    rw [e] at h
    exact if_neg h
/-- one number of a wisher, of the hue is another -/
theorem WF_set {r : Row} {k v : Nat} (h : WF r) (hk : k = 1 ∧ v < r 0 ∨ ∃ w, w < r 5 ∧ (k = 16 + 8 * w ∧ 1 ≤ v ∧ v ≤ 5 ∨ k = 18 + 8 * w ∧ v < r 0 ∨ k = 19 + 8 * w ∧ v ≤ 40 ∨ k = 22 + 8 * w ∧ v ≤ 20 ∨ k = 23 + 8 * w ∧ v ≤ 1)) : WF (rset r k v) := by
  obtain ⟨⟨b1, b2, b3, b4, b5, b6, b7, b8⟩, b9, b10, b11⟩ := h
  rcases hk with ⟨rfl, hv⟩ | ⟨w, hw, hk⟩
  · unfold WF
    rw [rset_n (j := 0) (by omega), rset_s, rset_n (j := 2) (by omega), rset_n (j := 3) (by omega), rset_n (j := 4) (by omega), rset_n (j := 5) (by omega), rset_n (j := 9) (by omega)]
    refine ⟨⟨b1, b2, hv, b4, b5, b6, b7, b8⟩, fun j hj => ?_, fun w hw => ?_, fun k hk => ?_⟩
    · rw [rset_n (by omega)]; exact b9 j hj
    · rw [rset_n (by omega), rset_n (by omega), rset_n (by omega), rset_n (by omega), rset_n (by omega), rset_n (by omega), rset_n (by omega), rset_n (by omega)]; exact b10 w hw
    · rw [rset_n (by omega)]; exact b11 k hk
  · have hk16 : 16 ≤ k := by omega
    unfold WF
    rw [rset_n (j := 0) (by omega), rset_n (j := 1) (by omega), rset_n (j := 2) (by omega), rset_n (j := 3) (by omega), rset_n (j := 4) (by omega), rset_n (j := 5) (by omega), rset_n (j := 9) (by omega)]
    refine ⟨⟨b1, b2, b3, b4, b5, b6, b7, b8⟩, fun j hj => ?_, fun w' hw' => ?_, fun k' hk' => ?_⟩
    · rw [rset_n (by omega)]; exact b9 j hj
    · obtain ⟨d1, d3, d4, d5, d6, d7, d9, d10⟩ := b10 w' hw'
      refine ⟨?_, ?_, ?_, ?_, ?_, ?_, ?_, ?_⟩ <;> unfold rset <;> split <;> first | assumption | omega
    · rw [rset_n (by omega)]; exact b11 k' hk'
theorem LA_set {r : Row} {wy : Nat → Nat} {D : DD} {p k v : Nat} (h : LA D p wy r) (hk : k = 1 ∨ (6 ≤ k ∧ k ≤ 9) ∨ 16 ≤ k ∧ (k % 8 = 0 ∨ k % 8 = 2 ∨ k % 8 = 3 ∨ k % 8 = 6 ∨ k % 8 = 7)) : LA D p wy (rset r k v) := by
  unfold LA
  rw [rset_n (j := 0) (by omega), rset_n (j := 2) (by omega), rset_n (j := 3) (by omega), rset_n (j := 4) (by omega), rset_n (j := 5) (by omega)]
  refine ⟨h.1, fun j hj => ?_, h.2.2.1, fun w hw => ?_⟩
  · rw [rset_n (by omega)]; exact h.2.1 j hj
  · rw [rset_n (by omega), rset_n (by omega), rset_n (by omega)]; exact h.2.2.2 w hw
theorem HB_set {r : Row} {k v b : Nat} (h : HB r b) (hk : k < 6 ∨ 8 < k) : HB (rset r k v) b := by
  unfold HB
  rw [rset_n (by omega), rset_n (by omega), rset_n (by omega)]
  exact h
theorem WY_set {r : Row} {wy : Nat → Nat} {k v : Nat} (h : WY wy r) (hk : 0 < k) : WY wy (rset r k v) := by
  unfold WY
  rw [rset_n (by omega)]
  exact h
theorem T2_set {r : Row} {k v : Nat} (h : T2 r) (hk : k = 1 ∨ 16 ≤ k ∧ (k % 8 = 2 ∨ k % 8 = 3 ∨ k % 8 = 7)) : T2 (rset r k v) := by
  intro w hw h2
  rw [rset_n (by omega)] at hw h2 ⊢
  exact h w hw h2
theorem rmask_set {r : Row} {k v n : Nat} (hk : k < 16 ∨ k % 8 ≠ 7) : rmask (rset r k v) n = rmask r n := rmask_congr n (fun w _ => rset_n (by omega))
def g_hard (wy : Nat → Nat) (r : Row) (w n : Int32) : Int32 :=
  if nI 0 ≤ w ∧ w ≤ nI (r 5) - nI 1 then (if nI 1 ≤ n ∧ n ≤ nI 24 then s_opt (s_find (fun s => s_hours wy n.toNatClampNeg (rset r (19 + 8 * w.toNatClampNeg) s) 1 == r (18 + 8 * w.toNatClampNeg)) 41) else -1000001) else -1000001
/-- a Course whose one number of a wisher is another -/
theorem CA_str {D : DD} {o w s : Nat} {r : Row} (hC : CA D o r) : CA (upo D (o + 3) (upd (D (o + 3)) w (nI s))) o (rset r (19 + 8 * w) s) := by
  obtain ⟨c, d, e⟩ := hC
  have e1 : ∀ j, j ≠ 3 → (upo D (o + 3) (upd (D (o + 3)) w (nI s))) (o + j) = D (o + j) := fun j hj => upo_n (by omega)
  have e0 : (upo D (o + 3) (upd (D (o + 3)) w (nI s))) o = D o := upo_n (by omega)
  unfold CA
  rw [e0, e1 1 (by decide), e1 2 (by decide), e1 4 (by decide), upo_s, rmask_set (by omega), rset_n (j := 1) (by omega), rset_n (j := 5) (by omega), rset_n (j := 6) (by omega), rset_n (j := 7) (by omega), rset_n (j := 8) (by omega), rset_n (j := 9) (by omega)]
  refine ⟨c, fun w' hw' => ?_, e⟩
  rw [rset_n (by omega), rset_n (by omega), rset_n (j := 22 + 8 * w') (by omega)]
  refine ⟨(d w' hw').1, (d w' hw').2.1, ?_, (d w' hw').2.2.2⟩
  unfold upd rset
  by_cases h : w' = w
  · subst h; rw [if_pos rfl, if_pos rfl]
  · rw [if_neg h, if_neg (by omega)]; exact (d w' hw').2.2.1
theorem CA_aim {D : DD} {o w s : Nat} {r : Row} (hC : CA D o r) : CA (upo D (o + 2) (upd (D (o + 2)) w (nI s))) o (rset r (18 + 8 * w) s) := by
  obtain ⟨c, d, e⟩ := hC
  have e1 : ∀ j, j ≠ 2 → (upo D (o + 2) (upd (D (o + 2)) w (nI s))) (o + j) = D (o + j) := fun j hj => upo_n (by omega)
  have e0 : (upo D (o + 2) (upd (D (o + 2)) w (nI s))) o = D o := upo_n (by omega)
  unfold CA
  rw [e0, e1 1 (by decide), e1 3 (by decide), e1 4 (by decide), upo_s, rmask_set (by omega), rset_n (j := 1) (by omega), rset_n (j := 5) (by omega), rset_n (j := 6) (by omega), rset_n (j := 7) (by omega), rset_n (j := 8) (by omega), rset_n (j := 9) (by omega)]
  refine ⟨c, fun w' hw' => ?_, e⟩
  rw [rset_n (by omega), rset_n (j := 19 + 8 * w') (by omega), rset_n (j := 22 + 8 * w') (by omega)]
  refine ⟨(d w' hw').1, ?_, (d w' hw').2.2.1, (d w' hw').2.2.2⟩
  unfold upd rset
  by_cases h : w' = w
  · subst h; rw [if_pos rfl, if_pos rfl]
  · rw [if_neg h, if_neg (by omega)]; exact (d w' hw').2.1
theorem CA_at {D : DD} {o s : Nat} {r : Row} (hC : CA D o r) : CA (upo D o (upd (D o) 1 (nI s))) o (rset r 1 s) := by
  obtain ⟨⟨c1, c2, c3, c4, c5, c6⟩, d, e⟩ := hC
  have e1 : ∀ j, 1 ≤ j → (upo D o (upd (D o) 1 (nI s))) (o + j) = D (o + j) := fun j hj => upo_n (by omega)
  unfold CA
  rw [upo_s, rset_s, rmask_set (by omega), rset_n (j := 5) (by omega), rset_n (j := 6) (by omega), rset_n (j := 7) (by omega), rset_n (j := 8) (by omega), rset_n (j := 9) (by omega), e1 1 (by decide), e1 2 (by decide), e1 3 (by decide), e1 4 (by decide)]
  refine ⟨⟨(pk_un (by decide)).trans c1, pk_us, (pk_un (by decide)).trans c3, (pk_un (by decide)).trans c4, (pk_un (by decide)).trans c5, (pk_un (by decide)).trans c6⟩, fun w hw => ?_, e⟩
  rw [rset_n (by omega), rset_n (by omega), rset_n (by omega), rset_n (by omega)]
  exact d w hw
