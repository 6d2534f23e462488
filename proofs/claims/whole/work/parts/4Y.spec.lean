/-! a text that is read without a fault: its numbers, how far one came -/
theorem ex_ok' {t : TPt} {c : Nat} {s s' : PSt} (e : s' = p_ex t c s) (h : s'.2.1 = 0) : s.2.1 = 0 ∧ s_by t s.1 = c ∧ s' = (s.1 + 1, 0, s.2.2) := by
  subst e
  exact ex_ok h
theorem nm_ok' {t : TPt} {lo hi : Nat} {s s' : PSt} (e : s' = p_nm t lo hi s) (h : s'.2.1 = 0) : s.2.1 = 0 ∧ lo ≤ p_vl t s ∧ p_vl t s ≤ hi ∧ s' = (s.1 + s_ln t s.1, 0, s.2.2) ∧ 1 ≤ s_ln t s.1 := by
  subst e
  exact nm_ok h
theorem PI_mk {t : TPt} {s : PSt} {r : Row} (h : PK t s) (h2 : s.2.1 = 0 → OKR r) : PI t (s, r) := ⟨h, h2⟩
theorem law_ok {t : TPt} (h : (p_lawS t).2.1 = 0) : 2 ≤ p_vl t (l_1 t) ∧ p_vl t (l_1 t) ≤ 6 ∧ p_vl t (l_2 t) ≤ p_vl t (l_1 t) - 1 ∧ p_vl t (l_3 t) ≤ 20 ∧ p_vl t (l_4 t) ≤ 5 := by
  obtain ⟨h9, -, -⟩ := ex_ok' (show p_lawS t = p_ex t 59 (p_nm t 0 5 (l_4 t)) from rfl) h
  obtain ⟨h8, -, g5, -, -⟩ := nm_ok h9
  obtain ⟨h7, -, -⟩ := ex_ok' (show l_4 t = p_ex t 44 (p_nm t 0 20 (l_3 t)) from rfl) h8
  obtain ⟨h6, -, g20, -, -⟩ := nm_ok h7
  obtain ⟨h5, -, -⟩ := ex_ok' (show l_3 t = p_ex t 44 (p_nm t 0 (p_vl t (l_1 t) - 1) (l_2 t)) from rfl) h6
  obtain ⟨h4, -, gP, -, -⟩ := nm_ok h5
  obtain ⟨h3, -, -⟩ := ex_ok' (show l_2 t = p_ex t 44 (p_nm t 2 6 (l_1 t)) from rfl) h4
  obtain ⟨h2, g2, g6, -, -⟩ := nm_ok h3
  exact ⟨g2, g6, gP, g20, g5⟩
theorem PK_000 {t : TPt} : PK t (0, 0, 0) := ⟨Nat.zero_le _, by show 0 ≤ 3; decide, by show 0 ≤ 120; decide⟩
theorem PK_l {t : TPt} (ht : t.1 ≤ 120) : PK t (l_1 t) ∧ PK t (l_2 t) ∧ PK t (l_3 t) ∧ PK t (l_4 t) ∧ PK t (p_lawS t) := by
  have k1 : PK t (l_1 t) := PK_ex (c := 99) (s := (0, 0, 0)) ht (by decide) PK_000
  have k2 : PK t (l_2 t) := PK_ex (c := 44) (s := p_nm t 2 6 (l_1 t)) ht (by decide) (PK_nm ht k1)
  have k3 : PK t (l_3 t) := PK_ex (c := 44) (s := p_nm t 0 (p_vl t (l_1 t) - 1) (l_2 t)) ht (by decide) (PK_nm ht k2)
  have k4 : PK t (l_4 t) := PK_ex (c := 44) (s := p_nm t 0 20 (l_3 t)) ht (by decide) (PK_nm ht k3)
  exact ⟨k1, k2, k3, k4, PK_ex (c := 59) (s := p_nm t 0 5 (l_4 t)) ht (by decide) (PK_nm ht k4)⟩
theorem PK_law {t : TPt} (ht : t.1 ≤ 120) : PK t (p_lawS t) := (PK_l ht).2.2.2.2
theorem OKR_law {t : TPt} (h : (p_lawS t).2.1 = 0) : OKR (p_lawR t) := by
  obtain ⟨g1, g2, g3, g4, g5⟩ := law_ok h
  have e0 : p_lawR t 0 = p_vl t (l_1 t) := rfl
  have e1 : p_lawR t 1 = p_vl t (l_2 t) := rfl
  have e2 : p_lawR t 2 = p_vl t (l_3 t) := rfl
  have e3 : p_lawR t 3 = p_vl t (l_4 t) := rfl
  have o : ∀ k, 4 ≤ k → p_lawR t k = 0 := fun k hk => by
    unfold p_lawR
    rw [if_neg (by omega), if_neg (by omega), if_neg (by omega), if_neg (by omega)]
  have e5 := o 5 (by decide)
  refine ⟨⟨⟨⟨by omega, by omega, by omega, by omega, by omega, ?_, ?_, ?_⟩, fun j hj => ?_, fun w hw => ?_, fun k hk => o k (by omega)⟩, fun w hw => ?_, ?_⟩, ?_⟩
  · rw [o 4 (by decide)]; decide
  · rw [e5]; decide
  · rw [o 9 (by decide)]; decide
  · rw [o (10 + j) (by omega)]; decide
  · rw [e5] at hw; omega
  · rw [e5] at hw; omega
  · unfold HS; rw [o 6 (by decide), o 7 (by decide), o 8 (by decide)]; decide
  · refine ⟨by omega, fun a ha => ?_⟩
    rw [o (10 + a) (by omega)]
    exact ⟨Nat.two_pow_pos _, fun _ => rfl⟩
theorem fp_f {n pl : Nat} {s : PSt} (h : s.2.1 = 0) : p_fp n pl s = (s.1, n, pl) := if_pos h
theorem fp_n {n pl : Nat} {s : PSt} (h : ¬ s.2.1 = 0) : p_fp n pl s = s := if_neg h
theorem PK_fp {t : TPt} {n pl : Nat} {s : PSt} (hn : n ≤ 3) (hp : pl ≤ 120) (h : PK t s) : PK t (p_fp n pl s) := by
  unfold p_fp
  split
  · exact ⟨h.1, hn, hp⟩
  · exact h
theorem rd_ok {t : TPt} {r : Row} {s : PSt} (h : (p_rdS t r s).2.1 = 0) : p_vl t (d_1 t s) ≤ r 0 - 1 ∧ p_vl t (d_2 t (r 0) s) ≤ r 0 - 1 ∧ ¬ (p_vl t (d_1 t s) = p_vl t (d_2 t (r 0) s) ∨ r (10 + p_vl t (d_1 t s)) / 2 ^ p_vl t (d_2 t (r 0) s) % 2 = 1) ∧ s.1 < (p_rdS t r s).1 ∧ s.2.1 = 0 ∧ d_4 t r s = d_3 t (r 0) s ∧ (d_3 t (r 0) s).2.1 = 0 := by
  obtain ⟨h6, -, p6⟩ := ex_ok' (show p_rdS t r s = p_ex t 59 (d_4 t r s) from rfl) h
  by_cases q : (d_3 t (r 0) s).2.1 = 0 ∧ (p_vl t (d_1 t s) = p_vl t (d_2 t (r 0) s) ∨ r (10 + p_vl t (d_1 t s)) / 2 ^ p_vl t (d_2 t (r 0) s) % 2 = 1)
  · have e : d_4 t r s = p_fp 2 (d_2 t (r 0) s).1 (d_3 t (r 0) s) := if_pos q
    rw [e, fp_f q.1] at h6
    exact absurd (show (2 : Nat) = 0 from h6) (by decide)
  · have e : d_4 t r s = d_3 t (r 0) s := if_neg q
    rw [e] at h6
    rw [e] at p6
    obtain ⟨h5, -, g2, p5, l5⟩ := nm_ok' (show d_3 t (r 0) s = p_nm t 0 (r 0 - 1) (d_2 t (r 0) s) from rfl) h6
    obtain ⟨h4, -, p4⟩ := ex_ok' (show d_2 t (r 0) s = p_ex t 44 (p_nm t 0 (r 0 - 1) (d_1 t s)) from rfl) h5
    obtain ⟨h3, -, g1, p3, l3⟩ := nm_ok h4
    obtain ⟨h2, -, p2⟩ := ex_ok' (show d_1 t s = p_ex t 114 (s) from rfl) h3
    have x6 : (p_rdS t r s).1 = (d_3 t (r 0) s).1 + 1 := by
      have := congrArg Prod.fst p6
      exact this
    have x5 : (d_3 t (r 0) s).1 = (d_2 t (r 0) s).1 + s_ln t (d_2 t (r 0) s).1 := congrArg Prod.fst p5
    have x4 : (d_2 t (r 0) s).1 = (p_nm t 0 (r 0 - 1) (d_1 t s)).1 + 1 := congrArg Prod.fst p4
    have x3 : (p_nm t 0 (r 0 - 1) (d_1 t s)).1 = (d_1 t s).1 + s_ln t (d_1 t s).1 := congrArg Prod.fst p3
    have x2 : (d_1 t s).1 = s.1 + 1 := congrArg Prod.fst p2
    exact ⟨g1, g2, fun u => q ⟨h6, u⟩, by omega, h2, e, h6⟩
theorem PK_rd {t : TPt} {r : Row} {s : PSt} (ht : t.1 ≤ 120) (h : PK t s) : PK t (d_1 t s) ∧ PK t (d_2 t (r 0) s) ∧ PK t (d_3 t (r 0) s) ∧ PK t (d_4 t r s) ∧ PK t (p_rdS t r s) := by
  have k1 : PK t (d_1 t s) := PK_ex (c := 114) ht (by decide) h
  have k2 : PK t (d_2 t (r 0) s) := PK_ex (c := 44) (s := p_nm t 0 (r 0 - 1) (d_1 t s)) ht (by decide) (PK_nm ht k1)
  have k3 : PK t (d_3 t (r 0) s) := PK_nm (lo := 0) (hi := r 0 - 1) (s := d_2 t (r 0) s) ht k2
  have k4 : PK t (d_4 t r s) := by
    unfold d_4
    split
    · exact PK_fp (by decide) (Nat.le_trans k2.1 ht) k3
    · exact k3
  exact ⟨k1, k2, k3, k4, PK_ex (c := 59) (s := d_4 t r s) ht (by decide) k4⟩
theorem road_3 {t : TPt} {x : PSt × Row} (h : 10 ≤ x.2 4) : p_road t x = (p_fp 3 x.1.1 x.1, x.2) := if_pos h
theorem road_t {t : TPt} {x : PSt × Row} (h : ¬ 10 ≤ x.2 4) (h2 : (p_rdS t x.2 x.1).2.1 = 0) : p_road t x = (p_rdS t x.2 x.1, s_road x.2 (p_vl t (d_1 t x.1)) (p_vl t (d_2 t (x.2 0) x.1))) := (if_neg h).trans (if_pos h2)
theorem road_f {t : TPt} {x : PSt × Row} (h : ¬ 10 ≤ x.2 4) (h2 : ¬ (p_rdS t x.2 x.1).2.1 = 0) : p_road t x = (p_rdS t x.2 x.1, x.2) := (if_neg h).trans (if_neg h2)
theorem PI_bad {t : TPt} {s : PSt} {r : Row} (h : PK t s) (hf : ¬ s.2.1 = 0) : PI t (s, r) := ⟨h, fun u => absurd u hf⟩
theorem PI_road {t : TPt} {x : PSt × Row} (ht : t.1 ≤ 120) (h0 : x.1.2.1 = 0) (h : PI t x) : PI t (p_road t x) ∧ ((p_road t x).1.2.1 = 0 → x.1.1 < (p_road t x).1.1 ∧ (p_road t x).2 5 = x.2 5) := by
  obtain ⟨h1, h2⟩ := h
  have hO := h2 h0
  by_cases q : 10 ≤ x.2 4
  · rw [road_3 q, fp_f h0]
    have hn : ¬ (3 : Nat) = 0 := by decide
    exact ⟨PI_bad ⟨h1.1, Nat.le_refl 3, Nat.le_trans h1.1 ht⟩ hn, fun u => absurd u hn⟩
  · by_cases u : (p_rdS t x.2 x.1).2.1 = 0
    · obtain ⟨g1, g2, g3, g4, g5⟩ := rd_ok u
      have b1 := hO.1.1.1.1
      rw [road_t q u]
      exact ⟨PI_mk (PK_rd ht h1).2.2.2.2 (fun _ => OKR_road hO (by omega) (by omega) (fun e => g3 (Or.inl e)) (by omega)), fun _ => ⟨g4, road_o (r := x.2) (a := p_vl t (d_1 t x.1)) (b := p_vl t (d_2 t (x.2 0) x.1)) (k := 5) (by omega) (by omega) (by omega)⟩⟩
    · rw [road_f q u]
      exact ⟨PI_bad (PK_rd ht h1).2.2.2.2 u, fun v => absurd v u⟩
theorem wi_ok {t : TPt} {P : Nat} {s : PSt} (h : (w_6 t P s).2.1 = 0) : s.2.1 = 0 ∧ p_vl t (w_1 s) ≤ P - 1 ∧ p_vl t (w_2 t P s) ≤ P - 1 ∧ p_vl t (w_3 t P s) ≤ 40 ∧ p_vl t (w_4 t P s) ≤ 5 ∧ 1 ≤ p_vl t (w_5 t P s) ∧ p_vl t (w_5 t P s) ≤ 6 ∧ s.1 < (w_6 t P s).1 := by
  obtain ⟨h11, -, p11⟩ := ex_ok' (show w_6 t P s = p_ex t 59 (p_nm t 1 6 (w_5 t P s)) from rfl) h
  obtain ⟨h10, g1, g6, p10, -⟩ := nm_ok h11
  obtain ⟨h9, -, p9⟩ := ex_ok' (show w_5 t P s = p_ex t 44 (p_nm t 0 5 (w_4 t P s)) from rfl) h10
  obtain ⟨h8, -, g5, p8, -⟩ := nm_ok h9
  obtain ⟨h7, -, p7⟩ := ex_ok' (show w_4 t P s = p_ex t 44 (p_nm t 0 40 (w_3 t P s)) from rfl) h8
  obtain ⟨h6, -, g40, p6, -⟩ := nm_ok h7
  obtain ⟨h5, -, p5⟩ := ex_ok' (show w_3 t P s = p_ex t 44 (p_nm t 0 (P - 1) (w_2 t P s)) from rfl) h6
  obtain ⟨h4, -, gb, p4, -⟩ := nm_ok h5
  obtain ⟨h3, -, p3⟩ := ex_ok' (show w_2 t P s = p_ex t 44 (p_nm t 0 (P - 1) (w_1 s)) from rfl) h4
  obtain ⟨h2, -, ga, p2, -⟩ := nm_ok h3
  have x11 : (w_6 t P s).1 = (p_nm t 1 6 (w_5 t P s)).1 + 1 := congrArg Prod.fst p11
  have x10 : (p_nm t 1 6 (w_5 t P s)).1 = (w_5 t P s).1 + _ := congrArg Prod.fst p10
  have x9 : (w_5 t P s).1 = (p_nm t 0 5 (w_4 t P s)).1 + 1 := congrArg Prod.fst p9
  have x8 : (p_nm t 0 5 (w_4 t P s)).1 = (w_4 t P s).1 + _ := congrArg Prod.fst p8
  have x7 : (w_4 t P s).1 = (p_nm t 0 40 (w_3 t P s)).1 + 1 := congrArg Prod.fst p7
  have x6 : (p_nm t 0 40 (w_3 t P s)).1 = (w_3 t P s).1 + _ := congrArg Prod.fst p6
  have x5 : (w_3 t P s).1 = (p_nm t 0 (P - 1) (w_2 t P s)).1 + 1 := congrArg Prod.fst p5
  have x4 : (p_nm t 0 (P - 1) (w_2 t P s)).1 = (w_2 t P s).1 + _ := congrArg Prod.fst p4
  have x3 : (w_2 t P s).1 = (p_nm t 0 (P - 1) (w_1 s)).1 + 1 := congrArg Prod.fst p3
  have x2 : (p_nm t 0 (P - 1) (w_1 s)).1 = (w_1 s).1 + _ := congrArg Prod.fst p2
  have x1 : (w_1 s).1 = s.1 + 1 := rfl
  exact ⟨h2, ga, gb, g40, g5, g1, g6, by omega⟩
theorem PK_mv {t : TPt} {s : PSt} (hs : s.1 < t.1) (h : PK t s) : PK t (w_1 s) := ⟨hs, h.2.1, h.2.2⟩
theorem PK_wi {t : TPt} {P : Nat} {s : PSt} (ht : t.1 ≤ 120) (hs : s.1 < t.1) (h : PK t s) : PK t (w_2 t P s) ∧ PK t (w_3 t P s) ∧ PK t (w_4 t P s) ∧ PK t (w_5 t P s) ∧ PK t (w_6 t P s) := by
  have k2 : PK t (w_2 t P s) := PK_ex (c := 44) (s := p_nm t 0 (P - 1) (w_1 s)) ht (by decide) (PK_nm ht (PK_mv hs h))
  have k3 : PK t (w_3 t P s) := PK_ex (c := 44) (s := p_nm t 0 (P - 1) (w_2 t P s)) ht (by decide) (PK_nm ht k2)
  have k4 : PK t (w_4 t P s) := PK_ex (c := 44) (s := p_nm t 0 40 (w_3 t P s)) ht (by decide) (PK_nm ht k3)
  have k5 : PK t (w_5 t P s) := PK_ex (c := 44) (s := p_nm t 0 5 (w_4 t P s)) ht (by decide) (PK_nm ht k4)
  exact ⟨k2, k3, k4, k5, PK_ex (c := 59) (s := p_nm t 1 6 (w_5 t P s)) ht (by decide) (PK_nm ht k5)⟩
theorem wi2_0 {t : TPt} {s : PSt} {r : Row} {kd : Nat} (h : kd = 0) : p_wi2 t kd s r = (p_fp 1 s.1 s, r) := if_pos h
theorem wi2_3 {t : TPt} {s : PSt} {r : Row} {kd : Nat} (h : ¬ kd = 0) (h6 : 6 ≤ r 5) : p_wi2 t kd s r = (p_fp 3 s.1 s, r) := (if_neg h).trans (if_pos h6)
theorem wi2_t {t : TPt} {s : PSt} {r : Row} {kd : Nat} (h : ¬ kd = 0) (h6 : ¬ 6 ≤ r 5) (h2 : (w_6 t (r 0) s).2.1 = 0) : p_wi2 t kd s r = (w_6 t (r 0) s, s_wis r kd (p_vl t (w_1 s)) (p_vl t (w_2 t (r 0) s)) (p_vl t (w_3 t (r 0) s)) (p_vl t (w_4 t (r 0) s)) (p_vl t (w_5 t (r 0) s))) := (if_neg h).trans ((if_neg h6).trans (if_pos h2))
theorem wi2_f {t : TPt} {s : PSt} {r : Row} {kd : Nat} (h : ¬ kd = 0) (h6 : ¬ 6 ≤ r 5) (h2 : ¬ (w_6 t (r 0) s).2.1 = 0) : p_wi2 t kd s r = (w_6 t (r 0) s, r) := (if_neg h).trans ((if_neg h6).trans (if_neg h2))
theorem wi_0 {t : TPt} {x : PSt × Row} {kd : Nat} (h : kd = 0) : p_wi t kd x = (p_fp 1 x.1.1 x.1, x.2) := wi2_0 h
theorem wi_3 {t : TPt} {x : PSt × Row} {kd : Nat} (h : ¬ kd = 0) (h6 : 6 ≤ x.2 5) : p_wi t kd x = (p_fp 3 x.1.1 x.1, x.2) := wi2_3 h h6
theorem wi_t {t : TPt} {x : PSt × Row} {kd : Nat} (h : ¬ kd = 0) (h6 : ¬ 6 ≤ x.2 5) (h2 : (w_6 t (x.2 0) x.1).2.1 = 0) : p_wi t kd x = (w_6 t (x.2 0) x.1, s_wis x.2 kd (p_vl t (w_1 x.1)) (p_vl t (w_2 t (x.2 0) x.1)) (p_vl t (w_3 t (x.2 0) x.1)) (p_vl t (w_4 t (x.2 0) x.1)) (p_vl t (w_5 t (x.2 0) x.1))) := wi2_t h h6 h2
theorem wi_f {t : TPt} {x : PSt × Row} {kd : Nat} (h : ¬ kd = 0) (h6 : ¬ 6 ≤ x.2 5) (h2 : ¬ (w_6 t (x.2 0) x.1).2.1 = 0) : p_wi t kd x = (w_6 t (x.2 0) x.1, x.2) := wi2_f h h6 h2
theorem PI_wi {t : TPt} {x : PSt × Row} {kd : Nat} (ht : t.1 ≤ 120) (hs : x.1.1 < t.1) (hk : kd ≤ 5) (h0 : x.1.2.1 = 0) (h : PI t x) : PI t (p_wi t kd x) ∧ ((p_wi t kd x).1.2.1 = 0 → x.1.1 < (p_wi t kd x).1.1 ∧ (p_wi t kd x).2 5 = x.2 5 + 1) := by
  obtain ⟨h1, h2⟩ := h
  have hO := h2 h0
  by_cases q : kd = 0
  · rw [wi_0 q, fp_f h0]
    have hn : ¬ (1 : Nat) = 0 := by decide
    exact ⟨PI_bad ⟨h1.1, by show 1 ≤ 3; decide, Nat.le_trans h1.1 ht⟩ hn, fun u => absurd u hn⟩
  · by_cases q6 : 6 ≤ x.2 5
    · rw [wi_3 q q6, fp_f h0]
      have hn : ¬ (3 : Nat) = 0 := by decide
      exact ⟨PI_bad ⟨h1.1, Nat.le_refl 3, Nat.le_trans h1.1 ht⟩ hn, fun u => absurd u hn⟩
    · have b1 := hO.1.1.1.1
      by_cases u : (w_6 t (x.2 0) x.1).2.1 = 0
      · obtain ⟨-, g1, g2, g3, g4, g5, g6, g7⟩ := wi_ok u
        rw [wi_t q q6 u]
        exact ⟨PI_mk (PK_wi ht hs h1).2.2.2.2 (fun _ => OKR_wis hO (by omega) (by omega) hk (by omega) (by omega) g3 g4 g5 g6), fun _ => ⟨g7, (wis_n (r := x.2) (kd := kd) (h := p_vl t (w_1 x.1)) (a := p_vl t (w_2 t (x.2 0) x.1)) (g := p_vl t (w_3 t (x.2 0) x.1)) (f := p_vl t (w_4 t (x.2 0) x.1)) (l := p_vl t (w_5 t (x.2 0) x.1))).1⟩⟩
      · have hp := (PK_wi (P := x.2 0) ht hs h1).2.2.2.2
        rw [wi_f q q6 u]
        generalize w_6 t (x.2 0) x.1 = S at u hp ⊢
        exact ⟨PI_bad hp u, fun v => absurd v u⟩
theorem pt_r {t : TPt} {x : PSt × Row} (h : s_by t x.1.1 = 114 ∧ x.2 5 = 0) : p_pt t x = p_road t x := if_pos h
theorem pt_w {t : TPt} {x : PSt × Row} (h : ¬ (s_by t x.1.1 = 114 ∧ x.2 5 = 0)) : p_pt t x = p_wi t (s_kb (s_by t x.1.1)) x := if_neg h
theorem PI_pt {t : TPt} {x : PSt × Row} (ht : t.1 ≤ 120) (hs : x.1.1 < t.1) (h0 : x.1.2.1 = 0) (h : PI t x) : PI t (p_pt t x) ∧ ((p_pt t x).1.2.1 = 0 → x.1.1 < (p_pt t x).1.1) := by
  by_cases q : s_by t x.1.1 = 114 ∧ x.2 5 = 0
  · rw [pt_r q]
    have g := PI_road ht h0 h
    exact ⟨g.1, fun u => (g.2 u).1⟩
  · rw [pt_w q]
    have g := PI_wi (kd := s_kb (s_by t x.1.1)) ht hs s_kb_le h0 h
    exact ⟨g.1, fun u => (g.2 u).1⟩
theorem pk_s {t : TPt} {k : Nat} (h : (s_pk t k).1.2.1 = 0 ∧ (s_pk t k).1.1 < t.1) : s_pk t (k + 1) = p_pt t (s_pk t k) := if_pos h
theorem pk_n {t : TPt} {k : Nat} (h : ¬ ((s_pk t k).1.2.1 = 0 ∧ (s_pk t k).1.1 < t.1)) : ∀ j, s_pk t (k + j) = s_pk t k := by
  intro j
  induction j with
  | zero => rfl
  | succ j ih =>
    show (if (s_pk t (k + j)).1.2.1 = 0 ∧ (s_pk t (k + j)).1.1 < t.1 then _ else s_pk t (k + j)) = _
    rw [ih, if_neg h]
theorem PI_pk {t : TPt} (ht : t.1 ≤ 120) : ∀ k, PI t (s_pk t k) ∧ ((s_pk t k).1.2.1 = 0 → k ≤ (s_pk t k).1.1 ∨ (s_pk t k).1.1 = t.1) := by
  intro k
  induction k with
  | zero =>
    have e : s_pk t 0 = (p_lawS t, p_lawR t) := rfl
    rw [e]
    exact ⟨PI_mk (PK_law ht) (fun u => OKR_law u), fun _ => Or.inl (Nat.zero_le _)⟩
  | succ k ih =>
    by_cases q : (s_pk t k).1.2.1 = 0 ∧ (s_pk t k).1.1 < t.1
    · rw [pk_s q]
      have g := PI_pt ht q.2 q.1 ih.1
      refine ⟨g.1, fun u => Or.inl ?_⟩
      have := g.2 u
      rcases ih.2 q.1 with e | e <;> omega
    · have e : s_pk t (k + 1) = s_pk t k := pk_n q 1
      rw [e]
      refine ⟨ih.1, fun u => Or.inr ?_⟩
      have := ih.1.1.1
      have : ¬ (s_pk t k).1.1 < t.1 := fun v => q ⟨u, v⟩
      omega
theorem pk_120 {t : TPt} (ht : t.1 ≤ 120) : ¬ ((s_pk t 120).1.2.1 = 0 ∧ (s_pk t 120).1.1 < t.1) := by
  intro q
  rcases (PI_pk ht 120).2 q.1 with e | e <;> omega
theorem pk_e {t : TPt} {k : Nat} (hk : k ≤ 120) (h : ¬ ((s_pk t k).1.2.1 = 0 ∧ (s_pk t k).1.1 < t.1)) : s_pk t 120 = s_pk t k := by
  have := pk_n h (120 - k)
  rw [show k + (120 - k) = 120 by omega] at this
  exact this
