/-! what was begun when one was asked -/
abbrev TRt : Type := Nat × (Nat → Int32)
def TRc (D : DD) (t : TRt) : Prop := D 0 13 = nI t.1 ∧ t.1 ≤ 16 ∧ ∀ j, j < t.1 → D 194 j = t.2 j
def s_lv (t : TRt) (b : Int32) : TRt := if t.1 < 16 then (t.1 + 1, upd t.2 t.1 b) else t
def FT (D D' : DD) : Prop := (∀ q, q ≠ 0 → q ≠ 194 → D' q = D q) ∧ ∀ f, f ≠ 13 → D' 0 f = D 0 f
theorem FT.rf {D : DD} : FT D D := ⟨fun _ _ _ => rfl, fun _ _ => rfl⟩
theorem FT.trans {D D1 D2 : DD} (h : FT D D1) (h2 : FT D1 D2) : FT D D2 := ⟨fun q a b => (h2.1 q a b).trans (h.1 q a b), fun f a => (h2.2 f a).trans (h.2 f a)⟩
theorem FT.ca {D D1 : DD} {r : Row} (h : FT D D1) (hC : CA D 21 r) : CA D1 21 r := CA_eq hC (fun j hj => h.1 _ (by omega) (by omega))
def lvD (D : DD) (t : TRt) (b : Int32) : DD := upo (upo D 194 (upd (D 194) t.1 b)) 0 (upd (D 0) 13 (nI (t.1 + 1)))
theorem lv_ok {D : DD} {t : TRt} {b : Int32} (h : TRc D t) (h16 : t.1 < 16) : TRc (lvD D t b) (s_lv t b) ∧ FT D (lvD D t b) := by
  obtain ⟨h1, h2, h3⟩ := h
  unfold s_lv
  rw [if_pos h16]
  refine ⟨⟨(congrFun upo_s 13).trans pk_us, by show t.1 + 1 ≤ 16; omega, fun j hj => ?_⟩, fun q a c => (upo_n a).trans (upo_n c), fun f hf => (congrFun upo_s f).trans (pk_un hf)⟩
  have e : lvD D t b 194 = upd (D 194) t.1 b := (upo_n (by decide)).trans upo_s
  rw [e]
  show upd (D 194) t.1 b j = upd t.2 t.1 b j
  unfold upd
  by_cases q : j = t.1
  · rw [if_pos q, if_pos q]
  · have hj2 : j < t.1 + 1 := hj
    rw [if_neg q, if_neg q, h3 j (by omega)]
def k_cs (r : Row) (w : Nat) (t : TRt) : Int32 × TRt := if r (16 + 8 * w) = 5 then (nI 2 * (nI (r (19 + 8 * w)) - nI 100), s_lv (s_lv (s_lv t (nI 14)) (nI 13)) (nI 10)) else (nI (r (19 + 8 * w)) - nI 100, s_lv (s_lv t (nI 13)) (nI 10))
def k_mg (r : Row) (w : Nat) (t : TRt) : Int32 × TRt := (nI (w + r (22 + 8 * w)), s_lv (s_lv t (nI 21)) (nI 20))
def k_gm (r : Row) (w : Nat) (t : TRt) : Int32 × TRt := if r (16 + 8 * w) = 2 then (nI (2 * (w + r (22 + 8 * w))), (k_mg r w (s_lv t (nI 24))).2) else if r (16 + 8 * w) = 3 then (nI (w + r (22 + 8 * w)) - nI 1000, (k_mg r w (s_lv t (nI 22))).2) else k_mg r w t
def k_sg (r : Row) (w : Nat) (t : TRt) : Int32 × TRt := (nI (r (19 + 8 * w)) + (k_gm r w (s_lv (s_lv t (nI 11)) (nI 10))).1, (k_gm r w (s_lv (s_lv t (nI 11)) (nI 10))).2)
def k_gs (r : Row) (w : Nat) (t : TRt) : Int32 × TRt := if r (16 + 8 * w) = 2 then (-(k_sg r w (s_lv t (nI 12))).1, (k_sg r w (s_lv t (nI 12))).2) else k_sg r w t
def k_cm (r : Row) (w : Nat) (t : TRt) : Int32 × TRt := (nI w - (k_cs r w (s_lv (s_lv t (nI 23)) (nI 20))).1, (k_cs r w (s_lv (s_lv t (nI 23)) (nI 20))).2)
def g_ask (r : Row) (w what : Int32) (t : TRt) : Int32 × TRt :=
  if nI 0 ≤ w ∧ w ≤ nI (r 5) - nI 1 then (if nI 0 ≤ what ∧ what ≤ nI 1 then (if what = 0 then (if r (16 + 8 * w.toNatClampNeg) < 4 then k_gs r w.toNatClampNeg (0, t.2) else k_cs r w.toNatClampNeg (0, t.2)) else (if r (16 + 8 * w.toNatClampNeg) < 4 then k_gm r w.toNatClampNeg (0, t.2) else k_cm r w.toNatClampNeg (0, t.2))) else (-1000001, t)) else (-1000001, t)
