/-! what the class has read so far -/
def DLr (D : DD) (r : Row) : Prop := (D 179 0 = nI (r 0) ∧ D 179 1 = nI (r 2) ∧ D 179 2 = nI (r 3) ∧ D 179 3 = nI (r 4) ∧ D 179 4 = nI (r 5)) ∧ (∀ j, j < 6 → D 180 j = nI (r (10 + j))) ∧ ∀ w, w < r 5 → D 182 w = nI (r (17 + 8 * w)) ∧ D 183 w = nI (r (20 + 8 * w)) ∧ D 184 w = nI (r (21 + 8 * w))
def BG (D : DD) (v : Int32) : Prop := D 185 0 = nI 0 ∧ D 185 1 = v ∧ D 185 2 = nI 0 ∧ D 185 3 = nI 0 ∧ D 185 4 = nI 0 ∧ D 185 5 = nI 0 ∧ ∀ w, w < 6 → D 189 w = nI 0
theorem BG_f {D D' : DD} {v : Int32} (h : BG D v) (e5 : D' 185 = D 185) (e9 : D' 189 = D 189) : BG D' v := by
  unfold BG
  rw [e5, e9]
  exact h
theorem BG_up {D D' : DD} {v w : Int32} (h : BG D v) (e : D' = up2 D 185 1 w) : BG D' w := by
  subst e
  obtain ⟨b0, b1, b2, b3, b4, b5, b6⟩ := h
  exact ⟨(up2_n (by decide)).trans b0, up2_s, (up2_n (by decide)).trans b2, (up2_n (by decide)).trans b3, (up2_n (by decide)).trans b4, (up2_n (by decide)).trans b5, fun j hj => (congrFun (up2_o (by decide)) j).trans (b6 j hj)⟩
/-- the draft of a course: all 0 but where the hue is and how wishers are told -/
def DB (D : DD) : Prop := ∃ v, BG D v
theorem DB_f {D D' : DD} (h : DB D) (e5 : D' 185 = D 185) (e9 : D' 189 = D 189) : DB D' := h.elim (fun v q => ⟨v, BG_f q e5 e9⟩)
def JR (D : DD) : Prop := (∃ q : Nat → Nat, ∀ j, j < 6 → D 180 j = nI (q j) ∧ q j < 64) ∧ DB D
def CS (D : DD) (t : TPt) (x : PSt × Row) : Prop := TS D t x.1 ∧ JR D ∧ (x.1.2.1 = 0 → DLr D x.2 ∧ CA D 185 x.2)
def FRD (D D' : DD) : Prop := ∀ q, q ≠ 13 → (q < 179 ∨ 190 < q) → D' q = D q
theorem FRD.rf {D : DD} : FRD D D := fun _ _ _ => rfl
theorem FRD.trans {D D1 D2 : DD} (h : FRD D D1) (h2 : FRD D1 D2) : FRD D D2 := fun q a b => (h2 q a b).trans (h q a b)
theorem FRD.f {D D1 D2 : DD} (h : FRD D D1) (h2 : F13 D1 D2) : FRD D D2 := fun q a b => (h2 q a).trans (h q a b)
theorem FRD.up {D D1 D2 : DD} {o k : Nat} {v : Int32} (h : FRD D D1) (ho : 179 ≤ o ∧ o ≤ 190) (e : D2 = up2 D1 o k v) : FRD D D2 := fun q a b => by rw [e]; exact (up2_o (by omega)).trans (h q a b)
theorem TS_eq {D D' : DD} {t : TPt} {s : PSt} (h : TS D t s) (e13 : D' 13 = D 13) (e14 : D' 14 = D 14) : TS D' t s := by
  unfold TS TP
  rw [e13, e14]
  exact h
theorem F13_up {C X X' : DD} {o k : Nat} {v : Int32} (h : F13 C X) (e : X' = up2 X o k v) : F13 (up2 C o k v) X' := fun q a => by
  funext j
  rw [e]
  show (if q = o ∧ j = k then v else X q j) = (if q = o ∧ j = k then v else C q j)
  rw [h q a]
theorem DLr_f {D D' : DD} {r : Row} (h : DLr D r) (e : ∀ q, 179 ≤ q → q ≤ 190 → D' q = D q) : DLr D' r := by
  unfold DLr
  rw [e 179 (by decide) (by decide), e 180 (by decide) (by decide), e 182 (by decide) (by decide), e 183 (by decide) (by decide), e 184 (by decide) (by decide)]
  exact h
theorem CA_f {D D' : DD} {r : Row} (h : CA D 185 r) (e : ∀ q, 179 ≤ q → q ≤ 190 → D' q = D q) : CA D' 185 r := CA_eq h (fun j hj => e _ (by omega) (by omega))
theorem JR_f {D D' : DD} (h : JR D) (e : D' 180 = D 180) (e5 : D' 185 = D 185) (e9 : D' 189 = D 189) : JR D' := ⟨by rw [e]; exact h.1, DB_f h.2 e5 e9⟩
theorem vl_999 {t : TPt} {s : PSt} : p_vl t s ≤ 999 := v_999 ln_3 (fun i hi => ln_fg hi)
theorem CS_mk {D : DD} {t : TPt} {s : PSt} {r : Row} (h : TS D t s) (h2 : JR D) (h3 : s.2.1 = 0 → DLr D r ∧ CA D 185 r) : CS D t (s, r) := ⟨h, h2, h3⟩
theorem law_end {D : DD} {t : TPt} {f : Nat → Int32} {v0 v1 v2 v3 : Int32} (hS : TS D t (p_lawS t)) (h9 : D 179 = upd (upd (upd f 0 v0) 1 v2) 2 v3) (f3 : f 3 = nI 0) (f4 : f 4 = nI 0) (hr : ∀ j, j < 6 → D 180 j = nI 0) (hB : BG D v1) (e : (p_lawS t).2.1 = 0 → v0 = nI (p_vl t (l_1 t)) ∧ v1 = nI (p_vl t (l_2 t)) ∧ v2 = nI (p_vl t (l_3 t)) ∧ v3 = nI (p_vl t (l_4 t))) : CS D t (p_lawS t, p_lawR t) := by
  refine CS_mk hS ⟨⟨fun _ => 0, fun j hj => ⟨hr j hj, by show 0 < 64; decide⟩⟩, v1, hB⟩ (fun h => ?_)
  obtain ⟨rfl, rfl, rfl, rfl⟩ := e h
  obtain ⟨b0, b1, b2, b3, b4, b5, b6⟩ := hB
  have o : ∀ k, 4 ≤ k → p_lawR t k = 0 := fun k hk => by
    unfold p_lawR
    rw [if_neg (by omega), if_neg (by omega), if_neg (by omega), if_neg (by omega)]
  have e5 := o 5 (by decide)
  show DLr D (p_lawR t) ∧ CA D 185 (p_lawR t)
  refine ⟨⟨⟨?_, ?_, ?_, ?_, ?_⟩, fun j hj => ?_, fun w hw => ?_⟩, ⟨?_, ?_, ?_, ?_, ?_, ?_⟩, fun w hw => ?_, fun w _ hw => b6 w hw⟩
  · rw [h9]; rfl
  · rw [h9]; rfl
  · rw [h9]; rfl
  · rw [h9, o 4 (by decide)]; exact f3
  · rw [h9, e5]; exact f4
  · rw [o (10 + j) (by omega)]; exact hr j hj
  · rw [e5] at hw; omega
  · rw [o 6 (by decide)]; exact b0
  · exact b1
  · rw [o 7 (by decide)]; exact b2
  · rw [o 8 (by decide)]; exact b3
  · rw [o 9 (by decide)]; exact b4
  · rw [e5]; exact b5
  · rw [e5] at hw; omega
theorem d4_n {t : TPt} {r : Row} {s : PSt} (h : ¬ ((d_3 t (r 0) s).2.1 = 0 ∧ (p_vl t (d_1 t s) = p_vl t (d_2 t (r 0) s) ∨ r (10 + p_vl t (d_1 t s)) / 2 ^ p_vl t (d_2 t (r 0) s) % 2 = 1))) : d_4 t r s = d_3 t (r 0) s := if_neg h
theorem d4_t {t : TPt} {r : Row} {s : PSt} (h : (d_3 t (r 0) s).2.1 = 0 ∧ (p_vl t (d_1 t s) = p_vl t (d_2 t (r 0) s) ∨ r (10 + p_vl t (d_1 t s)) / 2 ^ p_vl t (d_2 t (r 0) s) % 2 = 1)) : d_4 t r s = p_fp 2 (d_2 t (r 0) s).1 (d_3 t (r 0) s) := if_pos h
/-- a road is laid -/
def JN (D D' : DD) (r : Row) (a b : Nat) : Prop := (∀ j, j < 6 → D' 180 j = nI (s_road r a b (10 + j))) ∧ D' 179 3 = nI (r 4 + 1) ∧ ∀ k, k ≠ 3 → D' 179 k = D 179 k
theorem road_end {D D' : DD} {t : TPt} {r : Row} {a b : Nat} {S : PSt} (hO : OKR r) (h4 : r 4 < 10) (ha : a < r 0) (hb : b < r 0) (hab : a ≠ b) (hL : DLr D r) (hC : CA D 185 r) (hJ : JN D D' r a b) (hF : ∀ q, q ≠ 13 → q ≠ 179 → q ≠ 180 → D' q = D q) (hDB : DB D) (hS : TS D' t S) : (∀ r', CS D' t (S, r') ∨ S.2.1 = 0) ∧ CS D' t (S, s_road r a b) := by
  have hK := OKR_road hO ha hb hab h4
  have hJR : JR D' := ⟨⟨fun j => s_road r a b (10 + j), fun j hj => ⟨hJ.1 j hj, hK.1.1.2.1 j hj⟩⟩, DB_f hDB (hF _ (by decide) (by decide) (by decide)) (hF _ (by decide) (by decide) (by decide))⟩
  have o : ∀ k, k < 10 ∨ 16 ≤ k → k ≠ 4 → s_road r a b k = r k := fun k h1 h2 => road_o (by have := hO.2.1; omega) (by have := hO.2.1; omega) h2
  refine ⟨fun r' => ?_, hS, hJR, fun _ => ?_⟩
  · by_cases q : S.2.1 = 0
    · exact Or.inr q
    · exact Or.inl ⟨hS, hJR, fun u => absurd u q⟩
  · obtain ⟨⟨l0, l1, l2, l3, l4⟩, l5, l6⟩ := hL
    show DLr D' (s_road r a b) ∧ CA D' 185 (s_road r a b)
    refine ⟨⟨⟨?_, ?_, ?_, ?_, ?_⟩, hJ.1, fun w hw => ?_⟩, ?_⟩
    · rw [hJ.2.2 0 (by decide), o 0 (by omega) (by omega)]; exact l0
    · rw [hJ.2.2 1 (by decide), o 2 (by omega) (by omega)]; exact l1
    · rw [hJ.2.2 2 (by decide), o 3 (by omega) (by omega)]; exact l2
    · rw [hJ.2.1, show s_road r a b 4 = r 4 + 1 from rset_s]
    · rw [hJ.2.2 4 (by decide), o 5 (by omega) (by omega)]; exact l4
    · rw [o 5 (by omega) (by omega)] at hw
      rw [hF 182 (by decide) (by decide) (by decide), hF 183 (by decide) (by decide) (by decide), hF 184 (by decide) (by decide) (by decide), o (17 + 8 * w) (by omega) (by omega), o (20 + 8 * w) (by omega) (by omega), o (21 + 8 * w) (by omega) (by omega)]
      exact l6 w hw
    · obtain ⟨⟨c1, c2, c3, c4, c5, c6⟩, d, e⟩ := hC
      have em : rmask (s_road r a b) (s_road r a b 5) = rmask r (r 5) := by
        rw [o 5 (by omega) (by omega)]
        exact rmask_congr _ (fun w _ => o (23 + 8 * w) (by omega) (by omega))
      unfold CA
      rw [em, hF 185 (by decide) (by decide) (by decide), hF (185 + 1) (by decide) (by decide) (by decide), hF (185 + 2) (by decide) (by decide) (by decide), hF (185 + 3) (by decide) (by decide) (by decide), hF (185 + 4) (by decide) (by decide) (by decide), o 6 (by omega) (by omega), o 1 (by omega) (by omega), o 7 (by omega) (by omega), o 8 (by omega) (by omega), o 9 (by omega) (by omega), o 5 (by omega) (by omega)]
      refine ⟨⟨c1, c2, c3, c4, c5, c6⟩, fun w hw => ?_, e⟩
      rw [o (16 + 8 * w) (by omega) (by omega), o (18 + 8 * w) (by omega) (by omega), o (19 + 8 * w) (by omega) (by omega), o (22 + 8 * w) (by omega) (by omega)]
      exact d w hw
/-- a wisher is told -/
def wiC (D : DD) (n : Nat) (kd vh va vg vf vl : Int32) : DD := up2 (up2 (up2 (up2 (up2 (up2 (up2 D 186 n kd) 182 n vh) 187 n va) 188 n vg) 183 n vf) 184 n vl) 179 4 (nI (n + 1))
theorem wis_end {D D' : DD} {r : Row} {kd h a g f l : Nat} (hO : OKR r) (h6 : r 5 < 6) (hL : DLr D r) (hC : CA D 185 r) (hF : F13 (wiC D (r 5) (nI kd) (nI h) (nI a) (nI g) (nI f) (nI l)) D') : DLr D' (s_wis r kd h a g f l) ∧ CA D' 185 (s_wis r kd h a g f l) := by
  obtain ⟨e5, e0, e1, e2, e3, e4, e6⟩ := wis_n (r := r) (kd := kd) (h := h) (a := a) (g := g) (f := f) (l := l)
  have o : ∀ k, k ≠ 5 → (k < 16 + 8 * r 5 ∨ 21 + 8 * r 5 < k) → s_wis r kd h a g f l k = r k := fun k x y => wis_o x y
  obtain ⟨⟨l0, l1, l2, l3, l4⟩, l5, l6⟩ := hL
  obtain ⟨⟨c1, c2, c3, c4, c5, c6⟩, d, e⟩ := hC
  have z := hO.1.1.2.2.2
  have g179 : D' 179 = upd (D 179) 4 (nI (r 5 + 1)) := by
    rw [hF 179 (by decide)]
    unfold wiC
    rw [up2_eq, upo_s, up2_o (by decide), up2_o (by decide), up2_o (by decide), up2_o (by decide), up2_o (by decide), up2_o (by decide)]
  have g180 : D' 180 = D 180 := by
    rw [hF 180 (by decide)]
    unfold wiC
    rw [up2_o (by decide), up2_o (by decide), up2_o (by decide), up2_o (by decide), up2_o (by decide), up2_o (by decide), up2_o (by decide)]
  have g185 : D' 185 = D 185 := by
    rw [hF 185 (by decide)]
    unfold wiC
    rw [up2_o (by decide), up2_o (by decide), up2_o (by decide), up2_o (by decide), up2_o (by decide), up2_o (by decide), up2_o (by decide)]
  have g189 : D' 189 = D 189 := by
    rw [hF 189 (by decide)]
    unfold wiC
    rw [up2_o (by decide), up2_o (by decide), up2_o (by decide), up2_o (by decide), up2_o (by decide), up2_o (by decide), up2_o (by decide)]
  have g182 : D' 182 = upd (D 182) (r 5) (nI h) := by
    rw [hF 182 (by decide)]
    unfold wiC
    rw [up2_o (by decide), up2_o (by decide), up2_o (by decide), up2_o (by decide), up2_o (by decide), up2_eq, upo_s, up2_o (by decide)]
  have g183 : D' 183 = upd (D 183) (r 5) (nI f) := by
    rw [hF 183 (by decide)]
    unfold wiC
    rw [up2_o (by decide), up2_o (by decide), up2_eq, upo_s, up2_o (by decide), up2_o (by decide), up2_o (by decide), up2_o (by decide)]
  have g184 : D' 184 = upd (D 184) (r 5) (nI l) := by
    rw [hF 184 (by decide)]
    unfold wiC
    rw [up2_o (by decide), up2_eq, upo_s, up2_o (by decide), up2_o (by decide), up2_o (by decide), up2_o (by decide), up2_o (by decide)]
  have g186 : D' 186 = upd (D 186) (r 5) (nI kd) := by
    rw [hF 186 (by decide)]
    unfold wiC
    rw [up2_o (by decide), up2_o (by decide), up2_o (by decide), up2_o (by decide), up2_o (by decide), up2_o (by decide), up2_eq, upo_s]
  have g187 : D' 187 = upd (D 187) (r 5) (nI a) := by
    rw [hF 187 (by decide)]
    unfold wiC
    rw [up2_o (by decide), up2_o (by decide), up2_o (by decide), up2_o (by decide), up2_eq, upo_s, up2_o (by decide), up2_o (by decide)]
  have g188 : D' 188 = upd (D 188) (r 5) (nI g) := by
    rw [hF 188 (by decide)]
    unfold wiC
    rw [up2_o (by decide), up2_o (by decide), up2_o (by decide), up2_eq, upo_s, up2_o (by decide), up2_o (by decide), up2_o (by decide)]
  refine ⟨⟨⟨?_, ?_, ?_, ?_, ?_⟩, fun j hj => ?_, fun w hw => ?_⟩, ⟨?_, ?_, ?_, ?_, ?_, ?_⟩, fun w hw => ?_, fun w hw hw6 => ?_⟩
  · rw [g179, o 0 (by omega) (by omega)]; exact (pk_un (by decide)).trans l0
  · rw [g179, o 2 (by omega) (by omega)]; exact (pk_un (by decide)).trans l1
  · rw [g179, o 3 (by omega) (by omega)]; exact (pk_un (by decide)).trans l2
  · rw [g179, o 4 (by omega) (by omega)]; exact (pk_un (by decide)).trans l3
  · rw [g179, e5]; exact pk_us
  · rw [g180, o (10 + j) (by omega) (by omega)]; exact l5 j hj
  · rw [e5] at hw
    rw [g182, g183, g184]
    by_cases q : w = r 5
    · subst q; rw [e1, e4, e6]; exact ⟨pk_us, pk_us, pk_us⟩
    · rw [o (17 + 8 * w) (by omega) (by omega), o (20 + 8 * w) (by omega) (by omega), o (21 + 8 * w) (by omega) (by omega)]
      have := l6 w (by omega)
      exact ⟨(pk_un q).trans this.1, (pk_un q).trans this.2.1, (pk_un q).trans this.2.2⟩
  · rw [g185, o 6 (by omega) (by omega)]; exact c1
  · rw [g185, o 1 (by omega) (by omega)]; exact c2
  · rw [g185, o 7 (by omega) (by omega)]; exact c3
  · rw [g185, o 8 (by omega) (by omega)]; exact c4
  · rw [g185, o 9 (by omega) (by omega)]; exact c5
  · rw [g185, e5]
    show D 185 5 = nI (rmask (s_wis r kd h a g f l) (r 5) + s_wis r kd h a g f l (23 + 8 * r 5) * 2 ^ r 5)
    rw [o (23 + 8 * r 5) (by omega) (by omega), z (23 + 8 * r 5) (by omega), Nat.zero_mul, Nat.add_zero, rmask_congr (r := s_wis r kd h a g f l) (r' := r) (r 5) (fun w hw => o (23 + 8 * w) (by omega) (by omega))]
    exact c6
  · rw [e5] at hw
    show D' 186 w = _ ∧ D' 187 w = _ ∧ D' 188 w = _ ∧ D' 189 w = _
    rw [g186, g187, g188, g189]
    by_cases q : w = r 5
    · subst q
      rw [e0, e2, e3, o (22 + 8 * r 5) (by omega) (by omega), z (22 + 8 * r 5) (by omega)]
      refine ⟨pk_us, pk_us, pk_us, ?_⟩
      exact e (r 5) (Nat.le_refl _) h6
    · rw [o (16 + 8 * w) (by omega) (by omega), o (18 + 8 * w) (by omega) (by omega), o (19 + 8 * w) (by omega) (by omega), o (22 + 8 * w) (by omega) (by omega)]
      have := d w (by omega)
      exact ⟨(pk_un q).trans this.1, (pk_un q).trans this.2.1, (pk_un q).trans this.2.2.1, this.2.2.2⟩
  · rw [e5] at hw
    show D' 189 w = _
    rw [g189]
    exact e w (by omega) hw6
