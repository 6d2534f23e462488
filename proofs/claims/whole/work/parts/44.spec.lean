/-! the reference is asked -/
def FTm (D D' : DD) : Prop := (∀ q, q ≠ 219 → q ≠ 233 → D' q = D q) ∧ ∀ f, f ≠ 25 → D' 219 f = D 219 f
theorem FTm.rf {D : DD} : FTm D D := ⟨fun _ _ _ => rfl, fun _ _ => rfl⟩
theorem FTm.trans {D D1 D2 : DD} (h : FTm D D1) (h2 : FTm D1 D2) : FTm D D2 := ⟨fun q a b => (h2.1 q a b).trans (h.1 q a b), fun f a => (h2.2 f a).trans (h.2 f a)⟩
theorem FTm.ma {D D1 : DD} {r : Row} (h : FTm D D1) (hM : MA D 223 r) : MA D1 223 r := fun k hk => (congrFun (h.1 223 (by decide) (by decide)) k).trans (hM k hk)
def lvM (D : DD) (t : TRt) (b : Int32) : DD := upo (upo D 233 (upd (D 233) t.1 b)) 219 (upd (D 219) 25 (nI (t.1 + 1)))
theorem lvm_ok {D : DD} {t : TRt} {b : Int32} (h : TRm D t) (h16 : t.1 < 16) : TRm (lvM D t b) (s_lv t b) ∧ FTm D (lvM D t b) := by
  obtain ⟨h1, h2, h3⟩ := h
  unfold s_lv
  rw [if_pos h16]
  refine ⟨⟨(congrFun upo_s 25).trans pk_us, by show t.1 + 1 ≤ 16; omega, fun j hj => ?_⟩, fun q a c => (upo_n a).trans (upo_n c), fun f hf => (congrFun upo_s f).trans (pk_un hf)⟩
  have e : lvM D t b 233 = upd (D 233) t.1 b := (upo_n (by decide)).trans upo_s
  rw [e]
  show upd (D 233) t.1 b j = upd t.2 t.1 b j
  unfold upd
  by_cases q : j = t.1
  · rw [if_pos q, if_pos q]
  · have hj2 : j < t.1 + 1 := hj
    rw [if_neg q, if_neg q, h3 j (by omega)]
def k_mk (r : Row) (w : Nat) (t : TRt) : Int32 × TRt := if r (16 + 8 * w) < 4 then k_gm r w t else k_cm r w t
def k_sz (r : Row) (w : Nat) (t : TRt) : Int32 × TRt := if r (16 + 8 * w) < 4 then k_gs r w t else k_cs r w t
