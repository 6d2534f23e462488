/-! the law's state: one for both sides -/
def AS : Type := RWS × TPt × AST × IMS × TRt × Int32
def AS.w (a : AS) : RWS := a.1
def AS.t (a : AS) : TPt := a.2.1
def AS.s (a : AS) : AST := a.2.2.1
def AS.im (a : AS) : IMS := a.2.2.2.1
def AS.tr (a : AS) : TRt := a.2.2.2.2.1
def AS.lf (a : AS) : Int32 := a.2.2.2.2.2
def mkA (w : RWS) (t : TPt) (s : AST) (im : IMS) (tr : TRt) (lf : Int32) : AS := (w, t, s, im, tr, lf)
def XS0 (D : DD) (a : AS) : Prop := XR D a.w ∧ TP D a.t ∧ XLK D (s_far a.s.1) a.s.1 a.s.2.1 a.s.2.2 ∧ XI D a.im ∧ TRc D a.tr ∧ D 0 14 = a.lf
def YS (D : DD) (a : AS) : Prop := MRW D a.w ∧ TPm D a.t ∧ XMK D (s_far a.s.1) a.s.1 a.s.2.1 a.s.2.2 ∧ KI D a.im ∧ TRm D a.tr ∧ D 219 18 = a.lf
def OKA (s : AST) : Prop := RG s.1 ∧ ∀ i, i < s.2.1 → s.2.2 i 0 = s.1 0 ∧ ∀ j, j < 6 → s.2.2 i (10 + j) = s.1 (10 + j)
def OKS (a : AS) : Prop := OKA a.s ∧ IMOK a.im
def Hi (D D' : DD) : Prop := ∀ q, 219 ≤ q → D' q = D q
def Lo (D D' : DD) : Prop := ∀ q, q < 219 → D' q = D q
theorem XR_eq {D D' : DD} {w : RWS} (h : XR D w) (h2 : D' 2 = D 2) (h3 : D' 3 = D 3) (h5 : ∀ i, i < 8 → D' (5 + i) = D (5 + i)) (h0 : D' 0 15 = D 0 15) : XR D' w := ⟨fun i hi => XW1_eq (h.1 i hi) (congrFun h2 i) (congrFun h3 i) (h5 i hi), h0.trans h.2⟩
theorem TP_eq {D D' : DD} {t : TPt} (h : TP D t) (h1 : D' 13 = D 13) (h2 : D' 14 = D 14) : TP D' t := by
  obtain ⟨a, b, c⟩ := h
  exact ⟨(congrFun h1 1).trans a, b, fun j hj => ⟨(congrFun h2 j).trans (c j hj).1, (c j hj).2⟩⟩
theorem XLK_eq {D D' : DD} {wy : Nat → Nat} {r : Row} {kp : Nat} {A : Nat → Row} (h : XLK D wy r kp A) (e : ∀ q, 15 ≤ q → q ≠ 26 → q < 173 → D' q = D q) : XLK D' wy r kp A := by
  obtain ⟨a, b, c, d, nx, f⟩ := h
  exact ⟨a, CA_eq b (fun j hj => e _ (by omega) (by omega) (by omega)), LA_eq c (fun j hj => e _ (by omega) (by omega) (by omega)), d, nx, KA_eq f (fun q hq => e _ (by omega) (by omega) (by omega))⟩
theorem TRc_eq {D D' : DD} {t : TRt} (h : TRc D t) (h1 : D' 0 13 = D 0 13) (h2 : D' 194 = D 194) : TRc D' t := ⟨h1.trans h.1, h.2.1, fun j hj => (congrFun h2 j).trans (h.2.2 j hj)⟩
theorem MRW_eq {D D' : DD} {w : RWS} (h : MRW D w) (h1 : D' 220 = D 220) (h2 : D' 221 = D 221) (h3 : D' 222 = D 222) (h0 : D' 219 1 = D 219 1) : MRW D' w := by
  refine ⟨fun i hi => ?_, h0.trans h.2⟩
  have := h.1 i hi
  unfold MW1 at this ⊢
  rw [h1, h2, h3]
  exact this
theorem TPm_eq {D D' : DD} {t : TPt} (h : TPm D t) (h1 : D' 219 11 = D 219 11) (h2 : D' 227 = D 227) : TPm D' t := by
  obtain ⟨a, b, c⟩ := h
  exact ⟨h1.trans a, b, fun j hj => ⟨(congrFun h2 j).trans (c j hj).1, (c j hj).2⟩⟩
theorem KI_eq {D D' : DD} {im : IMS} (h : KI D im) (h1 : D' 231 = D 231) (h2 : D' 232 = D 232) : KI D' im := by
  intro k hk
  have := h k hk
  unfold KI1 at this ⊢
  rw [h1, h2]
  exact this
theorem TRm_eq {D D' : DD} {t : TRt} (h : TRm D t) (h1 : D' 219 25 = D 219 25) (h2 : D' 233 = D 233) : TRm D' t := ⟨h1.trans h.1, h.2.1, fun j hj => (congrFun h2 j).trans (h.2.2 j hj)⟩
theorem XS0.lo {D D' : DD} {a : AS} (h : XS0 D a) (e : Lo D D') : XS0 D' a := by
  obtain ⟨a1, a2, a3, a4, a5, a6⟩ := h
  exact ⟨XR_eq a1 (e _ (by decide)) (e _ (by decide)) (fun i hi => e _ (by omega)) (congrFun (e _ (by decide)) _), TP_eq a2 (e _ (by decide)) (e _ (by decide)), XLK_eq a3 (fun q h1 h2 h3 => e _ (by omega)), XI_eq a4 (congrFun (e _ (by decide)) _) (fun q h1 h2 => e _ h2), TRc_eq a5 (congrFun (e _ (by decide)) _) (e _ (by decide)), (congrFun (e _ (by decide)) _).trans a6⟩
theorem YS.hi {D D' : DD} {a : AS} (h : YS D a) (e : Hi D D') : YS D' a := by
  obtain ⟨a1, a2, a3, a4, a5, a6⟩ := h
  exact ⟨MRW_eq a1 (e _ (by decide)) (e _ (by decide)) (e _ (by decide)) (congrFun (e _ (by decide)) _), TPm_eq a2 (congrFun (e _ (by decide)) _) (e _ (by decide)), XMK_fr a3 (e _ (by decide)) (e _ (by decide)) (e _ (by decide)) (congrFun (e _ (by decide)) _), KI_eq a4 (e _ (by decide)) (e _ (by decide)), TRm_eq a5 (congrFun (e _ (by decide)) _) (e _ (by decide)), (congrFun (e _ (by decide)) _).trans a6⟩
/-- what an asking leaves: the one side, the other -/
theorem XS0.sx {D D' : DD} {a : AS} (h : XS0 D a) (e : SX D D') : XS0 D' a ∧ Hi D D' := by
  obtain ⟨a1, a2, a3, a4, a5, a6⟩ := h
  exact ⟨⟨XR_eq a1 (e _ (by decide) (by decide)) (e _ (by decide) (by decide)) (fun i hi => e _ (by omega) (by omega)) (congrFun (e _ (by decide) (by decide)) _), TP_eq a2 (e _ (by decide) (by decide)) (e _ (by decide) (by decide)), XLK_eq a3 (fun q h1 h2 h3 => e _ h2 (Or.inl h3)), XI_eq a4 (congrFun (e _ (by decide) (by decide)) _) (fun q h1 h2 => e _ (by omega) (by omega)), TRc_eq a5 (congrFun (e _ (by decide) (by decide)) _) (e _ (by decide) (by decide)), (congrFun (e _ (by decide) (by decide)) _).trans a6⟩, fun q hq => e _ (by omega) (by omega)⟩
theorem YS.mx {D D' : DD} {a : AS} (h : YS D a) (e : MX D D') : YS D' a ∧ Lo D D' := by
  obtain ⟨a1, a2, a3, a4, a5, a6⟩ := h
  obtain ⟨e, f⟩ := e
  exact ⟨⟨MRW_eq a1 (e _ (by decide) (by decide) (by decide)) (e _ (by decide) (by decide) (by decide)) (e _ (by decide) (by decide) (by decide)) (f _ (by decide)), TPm_eq a2 (f _ (by decide)) (e _ (by decide) (by decide) (by decide)), XMK_fr a3 (e _ (by decide) (by decide) (by decide)) (e _ (by decide) (by decide) (by decide)) (e _ (by decide) (by decide) (by decide)) (f _ (by decide)), KI_eq a4 (e _ (by decide) (by decide) (by decide)) (e _ (by decide) (by decide) (by decide)), TRm_eq a5 (f _ (by decide)) (e _ (by decide) (by decide) (by decide)), (f _ (by decide)).trans a6⟩, fun q hq => e _ (by omega) (by omega) (by omega)⟩
theorem XS0.id {D D' : DD} {a : AS} (h : XS0 D a) (e : D' = D) : XS0 D' a ∧ Hi D D' := by
  subst e
  exact ⟨h, fun q _ => rfl⟩
/-- the rows -/
theorem XS0.rows {D D' : DD} {a : AS} {w : RWS} (h : XS0 D a) (h1 : XR D' w) (e : XFr D D') : XS0 D' (mkA w a.t a.s a.im a.tr a.lf) ∧ Hi D D' := by
  obtain ⟨a1, a2, a3, a4, a5, a6⟩ := h
  obtain ⟨e, f⟩ := e
  exact ⟨⟨h1, TP_eq a2 (e _ (by decide) (by decide) (by decide) (by decide)) (e _ (by decide) (by decide) (by decide) (by decide)), XLK_eq a3 (fun q h1 h2 h3 => e _ (by omega) (by omega) (by omega) (by omega)), XI_eq a4 (f _ (by decide)) (fun q h1 h2 => e _ (by omega) (by omega) (by omega) (by omega)), TRc_eq a5 (f _ (by decide)) (e _ (by decide) (by decide) (by decide) (by decide)), (f _ (by decide)).trans a6⟩, fun q hq => e _ (by omega) (by omega) (by omega) (by omega)⟩
theorem YS.rows {D D' : DD} {a : AS} {w : RWS} (h : YS D a) (h1 : MRW D' w) (e : FRm D D') : YS D' (mkA w a.t a.s a.im a.tr a.lf) ∧ Lo D D' := by
  obtain ⟨a1, a2, a3, a4, a5, a6⟩ := h
  obtain ⟨e, f⟩ := e
  exact ⟨⟨h1, TPm_eq a2 (f _ (by decide) (by decide)) (e _ (by decide) (by decide) (by decide) (by decide)), XMK_fr a3 (e _ (by decide) (by decide) (by decide) (by decide)) (e _ (by decide) (by decide) (by decide) (by decide)) (e _ (by decide) (by decide) (by decide) (by decide)) (f _ (by decide) (by decide)), KI_eq a4 (e _ (by decide) (by decide) (by decide) (by decide)) (e _ (by decide) (by decide) (by decide) (by decide)), TRm_eq a5 (f _ (by decide) (by decide)) (e _ (by decide) (by decide) (by decide) (by decide)), (f _ (by decide) (by decide)).trans a6⟩, fun q hq => e _ (by omega) (by omega) (by omega) (by omega)⟩
/-- the latest finding -/
theorem XS0.fx {D D' : DD} {a : AS} {v : Int32} (h : XS0 D a) (h1 : D' 0 15 = v) (e : FXs D D') : XS0 D' (mkA (a.w.1, a.w.2.1, v) a.t a.s a.im a.tr a.lf) ∧ Hi D D' := by
  obtain ⟨a1, a2, a3, a4, a5, a6⟩ := h
  obtain ⟨e, f⟩ := e
  exact ⟨⟨⟨fun i hi => XW1_eq (a1.1 i hi) (congrFun (e _ (by decide) (by decide) (by decide)) i) (congrFun (e _ (by decide) (by decide) (by decide)) i) (e _ (by omega) (by omega) (by omega)), h1⟩, TP_eq a2 (e _ (by decide) (by decide) (by decide)) (e _ (by decide) (by decide) (by decide)), XLK_eq a3 (fun q h1 h2 h3 => e _ (by omega) h2 (Or.inl h3)), XI_eq a4 (f _ (by decide)) (fun q h1 h2 => e _ (by omega) (by omega) (by omega)), TRc_eq a5 (f _ (by decide)) (e _ (by decide) (by decide) (by decide)), (f _ (by decide)).trans a6⟩, fun q hq => e _ (by omega) (by omega) (by omega)⟩
theorem YS.fx {D D' : DD} {a : AS} {v : Int32} (h : YS D a) (h1 : D' 219 1 = v) (e : MXs D D') : YS D' (mkA (a.w.1, a.w.2.1, v) a.t a.s a.im a.tr a.lf) ∧ Lo D D' := by
  obtain ⟨a1, a2, a3, a4, a5, a6⟩ := h
  obtain ⟨e, f⟩ := e
  refine ⟨⟨⟨fun i hi => ?_, h1⟩, TPm_eq a2 (f _ (by decide) (by decide)) (e _ (by decide) (by decide) (by decide)), XMK_fr a3 (e _ (by decide) (by decide) (by decide)) (e _ (by decide) (by decide) (by decide)) (e _ (by decide) (by decide) (by decide)) (f _ (by decide) (by decide)), KI_eq a4 (e _ (by decide) (by decide) (by decide)) (e _ (by decide) (by decide) (by decide)), TRm_eq a5 (f _ (by decide) (by decide)) (e _ (by decide) (by decide) (by decide)), (f _ (by decide) (by decide)).trans a6⟩, fun q hq => e _ (by omega) (by omega) (by omega)⟩
  have := a1.1 i hi
  unfold MW1 at this ⊢
  rw [e 220 (by decide) (by decide) (by decide), e 221 (by decide) (by decide) (by decide), e 222 (by decide) (by decide) (by decide)]
  exact this
/-- the tape -/
theorem XS0.feed {D D' : DD} {a : AS} {t : TPt} (h : XS0 D a) (h1 : TP D' t) (e : ∀ q, q ≠ 13 → q ≠ 14 → D' q = D q) : XS0 D' (mkA a.w t a.s a.im a.tr a.lf) ∧ Hi D D' := by
  obtain ⟨a1, a2, a3, a4, a5, a6⟩ := h
  exact ⟨⟨XR_eq a1 (e _ (by decide) (by decide)) (e _ (by decide) (by decide)) (fun i hi => e _ (by omega) (by omega)) (congrFun (e _ (by decide) (by decide)) _), h1, XLK_eq a3 (fun q h1 h2 h3 => e _ (by omega) (by omega)), XI_eq a4 (congrFun (e _ (by decide) (by decide)) _) (fun q h1 h2 => e _ (by omega) (by omega)), TRc_eq a5 (congrFun (e _ (by decide) (by decide)) _) (e _ (by decide) (by decide)), (congrFun (e _ (by decide) (by decide)) _).trans a6⟩, fun q hq => e _ (by omega) (by omega)⟩
theorem YS.feed {D D' : DD} {a : AS} {t : TPt} (h : YS D a) (h1 : TPm D' t) (e : (∀ q, q ≠ 219 → q ≠ 227 → D' q = D q) ∧ ∀ f, f ≠ 0 → f ≠ 11 → D' 219 f = D 219 f) : YS D' (mkA a.w t a.s a.im a.tr a.lf) ∧ Lo D D' := by
  obtain ⟨a1, a2, a3, a4, a5, a6⟩ := h
  obtain ⟨e, f⟩ := e
  exact ⟨⟨MRW_eq a1 (e _ (by decide) (by decide)) (e _ (by decide) (by decide)) (e _ (by decide) (by decide)) (f _ (by decide) (by decide)), h1, XMK_fr a3 (e _ (by decide) (by decide)) (e _ (by decide) (by decide)) (e _ (by decide) (by decide)) (f _ (by decide) (by decide)), KI_eq a4 (e _ (by decide) (by decide)) (e _ (by decide) (by decide)), TRm_eq a5 (f _ (by decide) (by decide)) (e _ (by decide) (by decide)), (f _ (by decide) (by decide)).trans a6⟩, fun q hq => e _ (by omega) (by omega)⟩
/-- the acts -/
theorem XS0.act {D D' : DD} {a : AS} {s : AST} (h : XS0 D a) (hw : s_far s.1 = s_far a.s.1) (h1 : XLK D' (s_far a.s.1) s.1 s.2.1 s.2.2) (e : HX D D') : XS0 D' (mkA a.w a.t s a.im a.tr a.lf) ∧ Hi D D' := by
  obtain ⟨a1, a2, a3, a4, a5, a6⟩ := h
  refine ⟨⟨XR_eq a1 (e _ (by decide)) (e _ (by decide)) (fun i hi => e _ (by omega)) (congrFun (e _ (by decide)) _), TP_eq a2 (e _ (by decide)) (e _ (by decide)), ?_, XI_eq a4 (congrFun (e _ (by decide)) _) (fun q h1 h2 => e _ (by omega)), TRc_eq a5 (congrFun (e _ (by decide)) _) (e _ (by decide)), (congrFun (e _ (by decide)) _).trans a6⟩, fun q hq => e _ (by omega)⟩
  show XLK D' (s_far s.1) s.1 s.2.1 s.2.2
  rw [hw]
  exact h1
theorem YS.act {D D' : DD} {a : AS} {s : AST} (h : YS D a) (hw : s_far s.1 = s_far a.s.1) (h1 : XMK D' (s_far a.s.1) s.1 s.2.1 s.2.2) (e : HM D D') : YS D' (mkA a.w a.t s a.im a.tr a.lf) ∧ Lo D D' := by
  obtain ⟨a1, a2, a3, a4, a5, a6⟩ := h
  obtain ⟨e, f⟩ := e
  have o : ∀ q, q ≠ 219 ∧ q ≠ 223 ∧ q ≠ 225 ∧ q ≠ 226 ∧ q ≠ 229 → D' q = D q := fun q h => e q h.1 h.2.1 h.2.2.1 h.2.2.2.1 h.2.2.2.2
  refine ⟨⟨MRW_eq a1 (o _ (by decide)) (o _ (by decide)) (o _ (by decide)) (f _ (by decide) (by decide)), TPm_eq a2 (f _ (by decide) (by decide)) (o _ (by decide)), ?_, KI_eq a4 (o _ (by decide)) (o _ (by decide)), TRm_eq a5 (f _ (by decide) (by decide)) (o _ (by decide)), (f _ (by decide) (by decide)).trans a6⟩, fun q hq => o _ (by omega)⟩
  show XMK D' (s_far s.1) s.1 s.2.1 s.2.2
  rw [hw]
  exact h1
/-- the images -/
theorem XS0.img {D D' : DD} {a : AS} {im : IMS} (h : XS0 D a) (h1 : XI D' im) (e : (∀ q, q ≠ 0 → q < 195 ∨ 218 < q → D' q = D q) ∧ ∀ f, f ≠ 10 → D' 0 f = D 0 f) : XS0 D' (mkA a.w a.t a.s im a.tr a.lf) ∧ Hi D D' := by
  obtain ⟨a1, a2, a3, a4, a5, a6⟩ := h
  obtain ⟨e, f⟩ := e
  exact ⟨⟨XR_eq a1 (e _ (by decide) (by decide)) (e _ (by decide) (by decide)) (fun i hi => e _ (by omega) (by omega)) (f _ (by decide)), TP_eq a2 (e _ (by decide) (by decide)) (e _ (by decide) (by decide)), XLK_eq a3 (fun q h1 h2 h3 => e _ (by omega) (by omega)), h1, TRc_eq a5 (f _ (by decide)) (e _ (by decide) (by decide)), (f _ (by decide)).trans a6⟩, fun q hq => e _ (by omega) (by omega)⟩
theorem YS.img {D D' : DD} {a : AS} {im : IMS} (h : YS D a) (h1 : KI D' im) (e : (∀ q, q ≠ 219 → q ≠ 231 → q ≠ 232 → D' q = D q) ∧ ∀ f, f ≠ 0 → D' 219 f = D 219 f) : YS D' (mkA a.w a.t a.s im a.tr a.lf) ∧ Lo D D' := by
  obtain ⟨a1, a2, a3, a4, a5, a6⟩ := h
  obtain ⟨e, f⟩ := e
  exact ⟨⟨MRW_eq a1 (e _ (by decide) (by decide) (by decide)) (e _ (by decide) (by decide) (by decide)) (e _ (by decide) (by decide) (by decide)) (f _ (by decide)), TPm_eq a2 (f _ (by decide)) (e _ (by decide) (by decide) (by decide)), XMK_fr a3 (e _ (by decide) (by decide) (by decide)) (e _ (by decide) (by decide) (by decide)) (e _ (by decide) (by decide) (by decide)) (f _ (by decide)), h1, TRm_eq a5 (f _ (by decide)) (e _ (by decide) (by decide) (by decide)), (f _ (by decide)).trans a6⟩, fun q hq => e _ (by omega) (by omega) (by omega)⟩
theorem XS0.res {D D' : DD} {a : AS} {s : AST} (h : XS0 D a) (h1 : XLK D' (s_far s.1) s.1 s.2.1 s.2.2) (e : ∀ q, q < 15 ∨ 190 < q → D' q = D q) : XS0 D' (mkA a.w a.t s a.im a.tr a.lf) ∧ Hi D D' := by
  obtain ⟨a1, a2, a3, a4, a5, a6⟩ := h
  exact ⟨⟨XR_eq a1 (e _ (by decide)) (e _ (by decide)) (fun i hi => e _ (by omega)) (congrFun (e _ (by decide)) _), TP_eq a2 (e _ (by decide)) (e _ (by decide)), h1, XI_eq a4 (congrFun (e _ (by decide)) _) (fun q h1 h2 => e _ (by omega)), TRc_eq a5 (congrFun (e _ (by decide)) _) (e _ (by decide)), (congrFun (e _ (by decide)) _).trans a6⟩, fun q hq => e _ (by omega)⟩
theorem YS.res {D D' : DD} {a : AS} {s : AST} (h : YS D a) (h1 : XMK D' (s_far s.1) s.1 s.2.1 s.2.2) (e : FRr D D') : YS D' (mkA a.w a.t s a.im a.tr a.lf) ∧ Lo D D' := by
  obtain ⟨a1, a2, a3, a4, a5, a6⟩ := h
  obtain ⟨e, f⟩ := e
  exact ⟨⟨MRW_eq a1 (e _ (by decide) (by decide) (by decide)) (e _ (by decide) (by decide) (by decide)) (e _ (by decide) (by decide) (by decide)) (f _ (by decide) (by decide)), TPm_eq a2 (f _ (by decide) (by decide)) (e _ (by decide) (by decide) (by decide)), h1, KI_eq a4 (e _ (by decide) (by decide) (by decide)) (e _ (by decide) (by decide) (by decide)), TRm_eq a5 (f _ (by decide) (by decide)) (e _ (by decide) (by decide) (by decide)), (f _ (by decide) (by decide)).trans a6⟩, fun q hq => e _ (by omega) (by omega) (by omega)⟩
/-- the trace -/
theorem XS0.ask {D D' : DD} {a : AS} {t : TRt} (h : XS0 D a) (h1 : TRc D' t) (e : FT D D') : XS0 D' (mkA a.w a.t a.s a.im t a.lf) ∧ Hi D D' := by
  obtain ⟨a1, a2, a3, a4, a5, a6⟩ := h
  obtain ⟨e, f⟩ := e
  exact ⟨⟨XR_eq a1 (e _ (by decide) (by decide)) (e _ (by decide) (by decide)) (fun i hi => e _ (by omega) (by omega)) (f _ (by decide)), TP_eq a2 (e _ (by decide) (by decide)) (e _ (by decide) (by decide)), XLK_eq a3 (fun q h1 h2 h3 => e _ (by omega) (by omega)), XI_eq a4 (f _ (by decide)) (fun q h1 h2 => e _ (by omega) (by omega)), h1, (f _ (by decide)).trans a6⟩, fun q hq => e _ (by omega) (by omega)⟩
theorem YS.ask {D D' : DD} {a : AS} {t : TRt} (h : YS D a) (h1 : TRm D' t) (e : MXa D D') : YS D' (mkA a.w a.t a.s a.im t a.lf) ∧ Lo D D' := by
  obtain ⟨a1, a2, a3, a4, a5, a6⟩ := h
  obtain ⟨e, f⟩ := e
  exact ⟨⟨MRW_eq a1 (e _ (by decide) (by decide)) (e _ (by decide) (by decide)) (e _ (by decide) (by decide)) (f _ (by decide) (by decide)), TPm_eq a2 (f _ (by decide) (by decide)) (e _ (by decide) (by decide)), XMK_fr a3 (e _ (by decide) (by decide)) (e _ (by decide) (by decide)) (e _ (by decide) (by decide)) (f _ (by decide) (by decide)), KI_eq a4 (e _ (by decide) (by decide)) (e _ (by decide) (by decide)), h1, (f _ (by decide) (by decide)).trans a6⟩, fun q hq => e _ (by omega) (by omega)⟩
/-- the land -/
theorem XS0.land {D D' : DD} {a : AS} {s : AST} {lf : Int32} {t : TPt} (h : XS0 D a) (h1 : XLK D' (s_far s.1) s.1 s.2.1 s.2.2) (h2 : TP D' t) (h3 : D' 0 14 = lf) (e : ∀ q, q ≠ 0 → (q < 13 ∨ 173 ≤ q) → (q < 179 ∨ 190 < q) → D' q = D q) (f : ∀ f, f ≠ 14 → D' 0 f = D 0 f) : XS0 D' (mkA a.w t s a.im a.tr lf) ∧ Hi D D' := by
  obtain ⟨a1, a2, a3, a4, a5, a6⟩ := h
  exact ⟨⟨XR_eq a1 (e _ (by decide) (by decide) (by decide)) (e _ (by decide) (by decide) (by decide)) (fun i hi => e _ (by omega) (by omega) (by omega)) (f _ (by decide)), h2, h1, XI_eq a4 (f _ (by decide)) (fun q h1 h2 => e _ (by omega) (by omega) (by omega)), TRc_eq a5 (f _ (by decide)) (e _ (by decide) (by decide) (by decide)), h3⟩, fun q hq => e _ (by omega) (by omega) (by omega)⟩
theorem YS.land {D D' : DD} {a : AS} {s : AST} {lf : Int32} {t : TPt} (h : YS D a) (h1 : XMK D' (s_far s.1) s.1 s.2.1 s.2.2) (h2 : TPm D' t) (h3 : D' 219 18 = lf) (e : FRL D D') : YS D' (mkA a.w t s a.im a.tr lf) ∧ Lo D D' := by
  obtain ⟨a1, a2, a3, a4, a5, a6⟩ := h
  obtain ⟨e, f⟩ := e
  exact ⟨⟨MRW_eq a1 (e _ (by decide) (by decide) (by decide) (by decide)) (e _ (by decide) (by decide) (by decide) (by decide)) (e _ (by decide) (by decide) (by decide) (by decide)) (f _ (by decide) (by decide) (by decide)), h2, h1, KI_eq a4 (e _ (by decide) (by decide) (by decide) (by decide)) (e _ (by decide) (by decide) (by decide) (by decide)), TRm_eq a5 (f _ (by decide) (by decide) (by decide)) (e _ (by decide) (by decide) (by decide) (by decide)), h3⟩, fun q hq => e _ (by omega) (by omega) (by omega) (by omega)⟩
/-- with the draft, which no call leaves otherwise than it found it -/
def XS (D : DD) (a : AS) : Prop := XS0 D a ∧ DB D
theorem XS.lo {D D' : DD} {a : AS} (h : XS D a) (e : Lo D D') : XS D' a := ⟨h.1.lo e, DB_f h.2 (e _ (by decide)) (e _ (by decide))⟩
theorem XS.sx {D D' : DD} {a : AS} (h : XS D a) (e : SX D D') : XS D' a ∧ Hi D D' := ⟨⟨(h.1.sx e).1, DB_f h.2 (e _ (by decide) (by decide)) (e _ (by decide) (by decide))⟩, (h.1.sx e).2⟩
theorem XS.id {D D' : DD} {a : AS} (h : XS D a) (e : D' = D) : XS D' a ∧ Hi D D' := by
  subst e
  exact ⟨h, fun q _ => rfl⟩
theorem XS.rows {D D' : DD} {a : AS} {w : RWS} (h : XS D a) (h1 : XR D' w) (e : XFr D D') : XS D' (mkA w a.t a.s a.im a.tr a.lf) ∧ Hi D D' := ⟨⟨(h.1.rows h1 e).1, DB_f h.2 (e.1 _ (by decide) (by decide) (by decide) (by decide)) (e.1 _ (by decide) (by decide) (by decide) (by decide))⟩, (h.1.rows h1 e).2⟩
theorem XS.fx {D D' : DD} {a : AS} {v : Int32} (h : XS D a) (h1 : D' 0 15 = v) (e : FXs D D') : XS D' (mkA (a.w.1, a.w.2.1, v) a.t a.s a.im a.tr a.lf) ∧ Hi D D' := ⟨⟨(h.1.fx h1 e).1, DB_f h.2 (e.1 _ (by decide) (by decide) (by decide)) (e.1 _ (by decide) (by decide) (by decide))⟩, (h.1.fx h1 e).2⟩
theorem XS.feed {D D' : DD} {a : AS} {t : TPt} (h : XS D a) (h1 : TP D' t) (e : ∀ q, q ≠ 13 → q ≠ 14 → D' q = D q) : XS D' (mkA a.w t a.s a.im a.tr a.lf) ∧ Hi D D' := ⟨⟨(h.1.feed h1 e).1, DB_f h.2 (e _ (by decide) (by decide)) (e _ (by decide) (by decide))⟩, (h.1.feed h1 e).2⟩
theorem XS.act {D D' : DD} {a : AS} {s : AST} (h : XS D a) (hw : s_far s.1 = s_far a.s.1) (h1 : XLK D' (s_far a.s.1) s.1 s.2.1 s.2.2) (e : HX D D') : XS D' (mkA a.w a.t s a.im a.tr a.lf) ∧ Hi D D' := ⟨⟨(h.1.act hw h1 e).1, DB_f h.2 (e _ (by decide)) (e _ (by decide))⟩, (h.1.act hw h1 e).2⟩
theorem XS.img {D D' : DD} {a : AS} {im : IMS} (h : XS D a) (h1 : XI D' im) (e : (∀ q, q ≠ 0 → q < 195 ∨ 218 < q → D' q = D q) ∧ ∀ f, f ≠ 10 → D' 0 f = D 0 f) : XS D' (mkA a.w a.t a.s im a.tr a.lf) ∧ Hi D D' := ⟨⟨(h.1.img h1 e).1, DB_f h.2 (e.1 _ (by decide) (by decide)) (e.1 _ (by decide) (by decide))⟩, (h.1.img h1 e).2⟩
theorem XS.res {D D' : DD} {a : AS} {s : AST} (h : XS D a) (h1 : XLK D' (s_far s.1) s.1 s.2.1 s.2.2) (e : ∀ q, q < 15 ∨ 172 < q → D' q = D q) : XS D' (mkA a.w a.t s a.im a.tr a.lf) ∧ Hi D D' := ⟨⟨(h.1.res h1 (fun q hq => e q (by omega))).1, DB_f h.2 (e _ (by decide)) (e _ (by decide))⟩, (h.1.res h1 (fun q hq => e q (by omega))).2⟩
theorem XS.ask {D D' : DD} {a : AS} {t : TRt} (h : XS D a) (h1 : TRc D' t) (e : FT D D') : XS D' (mkA a.w a.t a.s a.im t a.lf) ∧ Hi D D' := ⟨⟨(h.1.ask h1 e).1, DB_f h.2 (e.1 _ (by decide) (by decide)) (e.1 _ (by decide) (by decide))⟩, (h.1.ask h1 e).2⟩
theorem XS.land {D D' : DD} {a : AS} {s : AST} {lf : Int32} {t : TPt} (h : XS D a) (h1 : XLK D' (s_far s.1) s.1 s.2.1 s.2.2) (h2 : TP D' t) (h3 : D' 0 14 = lf) (e : ∀ q, q ≠ 0 → (q < 13 ∨ 173 ≤ q) → (q < 179 ∨ 190 < q) → D' q = D q) (f : ∀ f, f ≠ 14 → D' 0 f = D 0 f) (g : DB D') : XS D' (mkA a.w t s a.im a.tr lf) ∧ Hi D D' := ⟨⟨(h.1.land h1 h2 h3 e f).1, g⟩, (h.1.land h1 h2 h3 e f).2⟩
