/-! what a text tells: its law, a road, a wisher, all of it -/
def p_mv (s : PSt) : PSt := (s.1 + 1, s.2.1, s.2.2)
def l_1 (t : TPt) : PSt := p_ex t 99 (0, 0, 0)
def l_2 (t : TPt) : PSt := p_ex t 44 (p_nm t 2 6 (l_1 t))
def l_3 (t : TPt) : PSt := p_ex t 44 (p_nm t 0 (p_vl t (l_1 t) - 1) (l_2 t))
def l_4 (t : TPt) : PSt := p_ex t 44 (p_nm t 0 20 (l_3 t))
def p_lawS (t : TPt) : PSt := p_ex t 59 (p_nm t 0 5 (l_4 t))
def p_lawR (t : TPt) : Row := fun k => if k = 0 then p_vl t (l_1 t) else if k = 1 then p_vl t (l_2 t) else if k = 2 then p_vl t (l_3 t) else if k = 3 then p_vl t (l_4 t) else 0
def s_road (r : Row) (a b : Nat) : Row := rset (rset (rset r (10 + a) (r (10 + a) ||| 2 ^ b)) (10 + b) (r (10 + b) ||| 2 ^ a)) 4 (r 4 + 1)
def d_1 (t : TPt) (s : PSt) : PSt := p_ex t 114 s
def d_2 (t : TPt) (P : Nat) (s : PSt) : PSt := p_ex t 44 (p_nm t 0 (P - 1) (d_1 t s))
def d_3 (t : TPt) (P : Nat) (s : PSt) : PSt := p_nm t 0 (P - 1) (d_2 t P s)
def d_4 (t : TPt) (r : Row) (s : PSt) : PSt := if (d_3 t (r 0) s).2.1 = 0 ∧ (p_vl t (d_1 t s) = p_vl t (d_2 t (r 0) s) ∨ r (10 + p_vl t (d_1 t s)) / 2 ^ p_vl t (d_2 t (r 0) s) % 2 = 1) then p_fp 2 (d_2 t (r 0) s).1 (d_3 t (r 0) s) else d_3 t (r 0) s
def p_rdS (t : TPt) (r : Row) (s : PSt) : PSt := p_ex t 59 (d_4 t r s)
def p_road (t : TPt) (x : PSt × Row) : PSt × Row :=
  if 10 ≤ x.2 4 then (p_fp 3 x.1.1 x.1, x.2) else if (p_rdS t x.2 x.1).2.1 = 0 then (p_rdS t x.2 x.1, s_road x.2 (p_vl t (d_1 t x.1)) (p_vl t (d_2 t (x.2 0) x.1))) else (p_rdS t x.2 x.1, x.2)
def s_wis (r : Row) (kd h a g f l : Nat) : Row := fun k => if k = 5 then r 5 + 1 else if k = 16 + 8 * r 5 then kd else if k = 17 + 8 * r 5 then h else if k = 18 + 8 * r 5 then a else if k = 19 + 8 * r 5 then g else if k = 20 + 8 * r 5 then f else if k = 21 + 8 * r 5 then l else r k
def w_1 (s : PSt) : PSt := p_mv s
def w_2 (t : TPt) (P : Nat) (s : PSt) : PSt := p_ex t 44 (p_nm t 0 (P - 1) (w_1 s))
def w_3 (t : TPt) (P : Nat) (s : PSt) : PSt := p_ex t 44 (p_nm t 0 (P - 1) (w_2 t P s))
def w_4 (t : TPt) (P : Nat) (s : PSt) : PSt := p_ex t 44 (p_nm t 0 40 (w_3 t P s))
def w_5 (t : TPt) (P : Nat) (s : PSt) : PSt := p_ex t 44 (p_nm t 0 5 (w_4 t P s))
def w_6 (t : TPt) (P : Nat) (s : PSt) : PSt := p_ex t 59 (p_nm t 1 6 (w_5 t P s))
def p_wi2 (t : TPt) (kd : Nat) (s : PSt) (r : Row) : PSt × Row :=
  if kd = 0 then (p_fp 1 s.1 s, r) else if 6 ≤ r 5 then (p_fp 3 s.1 s, r)
  else if (w_6 t (r 0) s).2.1 = 0 then (w_6 t (r 0) s, s_wis r kd (p_vl t (w_1 s)) (p_vl t (w_2 t (r 0) s)) (p_vl t (w_3 t (r 0) s)) (p_vl t (w_4 t (r 0) s)) (p_vl t (w_5 t (r 0) s))) else (w_6 t (r 0) s, r)
def p_wi (t : TPt) (kd : Nat) (x : PSt × Row) : PSt × Row := p_wi2 t kd x.1 x.2
def s_kb (c : Nat) : Nat := if c = 97 then 1 else if c = 119 then 2 else if c = 116 then 3 else if c = 107 then 4 else if c = 98 then 5 else 0
def p_pt (t : TPt) (x : PSt × Row) : PSt × Row := if s_by t x.1.1 = 114 ∧ x.2 5 = 0 then p_road t x else p_wi t (s_kb (s_by t x.1.1)) x
def s_pk (t : TPt) : Nat → PSt × Row
  | 0 => (p_lawS t, p_lawR t)
  | k + 1 => if (s_pk t k).1.2.1 = 0 ∧ (s_pk t k).1.1 < t.1 then p_pt t (s_pk t k) else s_pk t k
theorem s_kb_le {c : Nat} : s_kb c ≤ 5 := by unfold s_kb; split <;> (try split) <;> (try split) <;> (try split) <;> (try split) <;> omega
/-- a row that is a land's, its roads among its places -/
def OKR (r : Row) : Prop := LK r ∧ RG r
def PI (t : TPt) (x : PSt × Row) : Prop := PK t x.1 ∧ (x.1.2.1 = 0 → OKR x.2)
theorem road_o {r : Row} {a b k : Nat} (h1 : k ≠ 10 + a) (h2 : k ≠ 10 + b) (h3 : k ≠ 4) : s_road r a b k = r k := (rset_n h3).trans ((rset_n h2).trans (rset_n h1))
theorem road_a {r : Row} {a b : Nat} (h : a ≠ b) : s_road r a b (10 + a) = r (10 + a) ||| 2 ^ b ∨ a = b := by
  by_cases q : 10 + a = 4
  · omega
  · exact Or.inl ((rset_n q).trans ((rset_n (by omega)).trans rset_s))
theorem road_at {r : Row} {a b j : Nat} (ha : a < 6) (hb : b < 6) (h : a ≠ b) : s_road r a b (10 + j) = if j = b then r (10 + b) ||| 2 ^ a else if j = a then r (10 + a) ||| 2 ^ b else r (10 + j) := by
  unfold s_road
  rw [rset_n (by omega)]
  by_cases q : j = b
  · subst q; rw [if_pos rfl, rset_s]
  · rw [if_neg q, rset_n (by omega)]
    by_cases u : j = a
    · subst u; rw [if_pos rfl, rset_s]
    · rw [if_neg u, rset_n (by omega)]
theorem OKR_road {r : Row} {a b : Nat} (h : OKR r) (ha : a < r 0) (hb : b < r 0) (hab : a ≠ b) (h4 : r 4 < 10) : OKR (s_road r a b) := by
  obtain ⟨⟨⟨⟨b1, b2, b3, b4, b5, b6, b7, b8⟩, b9, b10, b11⟩, hT, hH⟩, hR⟩ := h
  have o : ∀ k, k < 10 ∨ 16 ≤ k → k ≠ 4 → s_road r a b k = r k := fun k h1 h2 => road_o (by omega) (by omega) h2
  have e4 : s_road r a b 4 = r 4 + 1 := rset_s
  have lt : ∀ x y, x < 2 ^ r 0 → y < r 0 → x ||| 2 ^ y < 2 ^ r 0 := fun x y hx hy => Nat.or_lt_two_pow hx (Nat.pow_lt_pow_right (by decide) hy)
  have g : ∀ j, j < 6 → s_road r a b (10 + j) < 2 ^ r 0 ∧ (r 0 ≤ j → s_road r a b (10 + j) = 0) := fun j hj => by
    rw [road_at (by omega) (by omega) hab]
    by_cases q : j = b
    · rw [if_pos q]; exact ⟨lt _ _ (hR.2 b (by omega)).1 ha, fun h9 => by omega⟩
    · rw [if_neg q]
      by_cases u : j = a
      · rw [if_pos u]; exact ⟨lt _ _ (hR.2 a (by omega)).1 hb, fun h9 => by omega⟩
      · rw [if_neg u]; exact hR.2 j hj
  refine ⟨⟨⟨⟨?_, ?_, ?_, ?_, ?_, ?_, ?_, ?_⟩, fun j hj => ?_, fun w hw => ?_, fun k hk => ?_⟩, fun w hw h2 => ?_, ?_⟩, ?_⟩
  · rw [o 0 (by omega) (by omega)]; exact b1
  · rw [o 0 (by omega) (by omega)]; exact b2
  · rw [o 0 (by omega) (by omega), o 1 (by omega) (by omega)]; exact b3
  · rw [o 2 (by omega) (by omega)]; exact b4
  · rw [o 3 (by omega) (by omega)]; exact b5
  · rw [e4]; omega
  · rw [o 5 (by omega) (by omega)]; exact b7
  · rw [o 9 (by omega) (by omega)]; exact b8
  · exact Nat.lt_of_lt_of_le (g j hj).1 (pw2_le b2)
  · rw [o 5 (by omega) (by omega)] at hw
    rw [o (16 + 8 * w) (by omega) (by omega), o (17 + 8 * w) (by omega) (by omega), o (18 + 8 * w) (by omega) (by omega), o (19 + 8 * w) (by omega) (by omega), o (20 + 8 * w) (by omega) (by omega), o (21 + 8 * w) (by omega) (by omega), o (22 + 8 * w) (by omega) (by omega), o (23 + 8 * w) (by omega) (by omega), o 0 (by omega) (by omega)]
    exact b10 w hw
  · rw [o 5 (by omega) (by omega)] at hk
    rw [o k (by omega) (by omega)]
    exact b11 k hk
  · rw [o 5 (by omega) (by omega)] at hw
    rw [o (16 + 8 * w) (by omega) (by omega)] at h2
    rw [o (22 + 8 * w) (by omega) (by omega)]
    exact hT w hw h2
  · unfold HS
    rw [o 6 (by omega) (by omega), o 7 (by omega) (by omega), o 8 (by omega) (by omega)]
    exact hH
  · unfold RG
    rw [o 0 (by omega) (by omega)]
    exact ⟨b2, g⟩
theorem wis_o {r : Row} {kd h a g f l k : Nat} (h5 : k ≠ 5) (hk : k < 16 + 8 * r 5 ∨ 21 + 8 * r 5 < k) : s_wis r kd h a g f l k = r k := by
  unfold s_wis
  rw [if_neg h5, if_neg (by omega), if_neg (by omega), if_neg (by omega), if_neg (by omega), if_neg (by omega), if_neg (by omega)]
theorem wis_n {r : Row} {kd h a g f l : Nat} : s_wis r kd h a g f l 5 = r 5 + 1 ∧ s_wis r kd h a g f l (16 + 8 * r 5) = kd ∧ s_wis r kd h a g f l (17 + 8 * r 5) = h ∧ s_wis r kd h a g f l (18 + 8 * r 5) = a ∧ s_wis r kd h a g f l (19 + 8 * r 5) = g ∧ s_wis r kd h a g f l (20 + 8 * r 5) = f ∧ s_wis r kd h a g f l (21 + 8 * r 5) = l := by
  unfold s_wis
  refine ⟨if_pos rfl, ?_, ?_, ?_, ?_, ?_, ?_⟩
  · rw [if_neg (by omega), if_pos rfl]
  · rw [if_neg (by omega), if_neg (by omega), if_pos rfl]
  · rw [if_neg (by omega), if_neg (by omega), if_neg (by omega), if_pos rfl]
  · rw [if_neg (by omega), if_neg (by omega), if_neg (by omega), if_neg (by omega), if_pos rfl]
  · rw [if_neg (by omega), if_neg (by omega), if_neg (by omega), if_neg (by omega), if_neg (by omega), if_pos rfl]
  · rw [if_neg (by omega), if_neg (by omega), if_neg (by omega), if_neg (by omega), if_neg (by omega), if_neg (by omega), if_pos rfl]
theorem OKR_wis {r : Row} {kd h a g f l : Nat} (hO : OKR r) (h5 : r 5 < 6) (k1 : 1 ≤ kd) (k5 : kd ≤ 5) (hh : h < r 0) (ha : a < r 0) (hg : g ≤ 40) (hf : f ≤ 5) (l1 : 1 ≤ l) (l6 : l ≤ 6) : OKR (s_wis r kd h a g f l) := by
  obtain ⟨⟨⟨⟨b1, b2, b3, b4, b5, b6, b7, b8⟩, b9, b10, b11⟩, hT, hH⟩, hR⟩ := hO
  obtain ⟨e5, e0, e1, e2, e3, e4, e6⟩ := wis_n (r := r) (kd := kd) (h := h) (a := a) (g := g) (f := f) (l := l)
  have o : ∀ k, k ≠ 5 → (k < 16 + 8 * r 5 ∨ 21 + 8 * r 5 < k) → s_wis r kd h a g f l k = r k := fun k x y => wis_o x y
  refine ⟨⟨⟨⟨?_, ?_, ?_, ?_, ?_, ?_, ?_, ?_⟩, fun j hj => ?_, fun w hw => ?_, fun k hk => ?_⟩, fun w hw h2 => ?_, ?_⟩, ?_⟩
  · rw [o 0 (by omega) (by omega)]; exact b1
  · rw [o 0 (by omega) (by omega)]; exact b2
  · rw [o 0 (by omega) (by omega), o 1 (by omega) (by omega)]; exact b3
  · rw [o 2 (by omega) (by omega)]; exact b4
  · rw [o 3 (by omega) (by omega)]; exact b5
  · rw [o 4 (by omega) (by omega)]; exact b6
  · rw [e5]; omega
  · rw [o 9 (by omega) (by omega)]; exact b8
  · rw [o (10 + j) (by omega) (by omega)]; exact b9 j hj
  · rw [e5] at hw
    rw [o 0 (by omega) (by omega)]
    by_cases q : w = r 5
    · subst q
      rw [e0, e1, e2, e3, e4, e6, o (22 + 8 * r 5) (by omega) (by omega), o (23 + 8 * r 5) (by omega) (by omega), b11 (22 + 8 * r 5) (by omega), b11 (23 + 8 * r 5) (by omega)]
      exact ⟨⟨k1, k5⟩, hh, ha, hg, hf, ⟨l1, l6⟩, by decide, by decide⟩
    · rw [o (16 + 8 * w) (by omega) (by omega), o (17 + 8 * w) (by omega) (by omega), o (18 + 8 * w) (by omega) (by omega), o (19 + 8 * w) (by omega) (by omega), o (20 + 8 * w) (by omega) (by omega), o (21 + 8 * w) (by omega) (by omega), o (22 + 8 * w) (by omega) (by omega), o (23 + 8 * w) (by omega) (by omega)]
      exact b10 w (by omega)
  · rw [e5] at hk
    rw [o k (by omega) (by omega)]
    exact b11 k (by omega)
  · rw [e5] at hw
    rw [o (22 + 8 * w) (by omega) (by omega)]
    by_cases q : w = r 5
    · subst q; exact b11 _ (by omega)
    · rw [o (16 + 8 * w) (by omega) (by omega)] at h2
      exact hT w (by omega) h2
  · unfold HS
    rw [o 6 (by omega) (by omega), o 7 (by omega) (by omega), o 8 (by omega) (by omega)]
    exact hH
  · unfold RG
    rw [o 0 (by omega) (by omega)]
    refine ⟨b2, fun j hj => ?_⟩
    rw [o (10 + j) (by omega) (by omega)]
    exact hR.2 j hj
