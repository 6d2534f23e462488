section RWA
variable {y : MethodName} {cc : ByteArray} {nL : Nat} {ret : Option FieldType} {rm : Room} {B : Nat} {Q : QQ} {Z : ZZ} {D : DD} {E : EE} {ce sl pc : Nat} {lv : List (Nat × Value)} {st : List Value}
theorem q_szeq {G : va_G} {dA : Nat → ClassId} {s : State} {H : Heap} {locs : List Loc} (hM : q_M G dA B Z D E H) (h1 : H.size ≤ s.heap.size + ce) (h2 : s.heap.size + ce ≤ B + Z.1) (h3 : B ≤ s.heap.size) (hS : va_S (fun q => B ≤ q) s.heap H locs) : H.size = B + Z.1 := by
  by_cases hz : Z.1 = 0
  · have := hS.1; omega
  · have := (hM (Z.1 - 1) _ (q_get (by omega))).lt
    have e : (q_wf B dA Z D E (Z.1 - 1)).1 = B + (Z.1 - 1) := rfl
    omega
theorem q_push {G : va_G} {dA : Nat → ClassId} {H H1 : Heap} {kd : Nat × Nat} (hM : q_M G dA B Z D E H) (hsz : H.size = B + Z.1) (hold : ∀ q, q < H.size → H1[q]? = H[q]?) (hnew : va_at G vwCl (B + Z.1, q_cel B dA kd (fun _ => none) (fun _ => 0) (fun _ => 0)) H1) : q_M G dA B (Z.1 + 1, upo Z.2.1 Z.1 kd, upo Z.2.2 Z.1 (fun _ => none)) (upo D Z.1 fun _ => 0) (upo E Z.1 fun _ => 0) H1 := by
  intro k q hk
  have hl : k < Z.1 + 1 := by
    have := (List.getElem?_eq_some_iff.mp hk).1
    simpa [q_w] using this
  rw [q_get hl] at hk
  cases hk
  by_cases h : k = Z.1
  · subst h
    have : q_wf B dA (Z.1 + 1, upo Z.2.1 Z.1 kd, upo Z.2.2 Z.1 (fun _ => none)) (upo D Z.1 fun _ => 0) (upo E Z.1 fun _ => 0) Z.1 = (B + Z.1, q_cel B dA kd (fun _ => none) (fun _ => 0) (fun _ => 0)) := by
      unfold q_wf upo
      simp
    rw [this]
    exact hnew
  · have hk' : k < Z.1 := by omega
    have : q_wf B dA (Z.1 + 1, upo Z.2.1 Z.1 kd, upo Z.2.2 Z.1 (fun _ => none)) (upo D Z.1 fun _ => 0) (upo E Z.1 fun _ => 0) k = q_wf B dA Z D E k := by
      unfold q_wf upo
      simp [h]
    rw [this]
    have h9 := hM k _ (q_get hk')
    exact h9.kept (hold _ h9.lt)
def q_okty : FieldType → Bool
  | .int => true
  | .array _ => true
  | .object _ => true
  | _ => false
theorem q_oktys : ∀ c, c < 7 → ∀ j, j < q_N c → q_okty (q_ty c j) = true := by decide +kernel
theorem q_dflt {c j : Nat} (hc : c < 7) (hj : j < q_N c) : defaultValue (q_ty c j) = vp_V (q_fs B c (fun _ => none) (fun _ => 0)) j := by
  have h := q_oktys c hc j hj
  unfold vp_V
  rw [List.getD_eq_getElem?_getD, q_fsk hj]
  show _ = q_fv B (q_ty c j) 0 none
  cases hq : q_ty c j <;> rw [hq] at h <;> first | rfl | exact absurd h (by decide)
theorem r_new {idx c : Nat} (hw : Cond.classLink y.cls idx (q_C c) ∈ BW) (hn : Cond.instantiable (q_C c) (q_N c) ∈ BW) (hi : Cond.initialized (q_C c) ∈ BW) (hd : decode cc pc = .ok (.new idx, 3)) (hc : c < 7) (h1 : ce + 1 ≤ rm.cells) (h2 : sl + q_N c ≤ rm.slots)
    (kk : RW y cc nL ret rm B Q (Z.1 + 1, upo Z.2.1 Z.1 (c, q_N c), upo Z.2.2 Z.1 (fun _ => none)) (upo D Z.1 fun _ => 0) (upo E Z.1 fun _ => 0) (ce + 1) (sl + q_N c) (pc + 3) lv (.ref (B + Z.1) :: st)) : RW y cc nL ret rm B Q Z D E ce sl pc lv st := fun p l e s m args below meth c9 G dA H locs ls C hM hS hl hA => W.size fun hHs => by
  have hsz := q_szeq hM hHs hA C.2.2.2.2.2.2.2.2.1 hS
  have hKn := C.2.2.2.2.2.2.2.1.1.1 c _ (q_cl c hc)
  refine W.newcK C.1 C.2.1 C.2.2.2.2.1 (C.2.2.2.2.2.1 _ hw) (C.2.2.2.2.2.1 _ hn) (C.2.2.2.2.2.1 _ hi) rfl hd h1 h2 hKn.2.1 hsz fun H1 kC hkC e1 z1 o1 => ?_
  refine kk p l e s m args below meth c9 G dA H1 locs ls C (q_push hM hsz (fun q hq => o1 q (by omega)) ?_) ⟨by have := hS.1; omega, fun x h1 h2 => (o1 x (by have := hS.1; omega)).trans (hS.2.1 x h1 h2), hS.2.2⟩ hl (by show _ ≤ B + (Z.1 + 1); omega)
  show va_at G vwCl (B + Z.1, q_cel B dA (c, q_N c) _ _ _) H1
  unfold q_cel
  rw [if_pos hc]
  exact ⟨_, q_cl c hc, (u_born (q_ty c) C.2.2.2.2.2.1 (q_in c hc) hKn hkC e1 (q_tyok c hc)).to (fun j hj => q_dflt hc hj)⟩
theorem r_newaI {n : Int32} (N : Nat) (hd : decode cc pc = .ok (.newarray .int, 2)) (hn : ¬ n < 0) (hN : n.toNatClampNeg = N) (hb : N * componentBytes .int ≤ 536870912) (h1 : ce + 1 ≤ rm.cells) (h2 : sl + N ≤ rm.slots)
    (kk : RW y cc nL ret rm B Q (Z.1 + 1, upo Z.2.1 Z.1 (10, N), upo Z.2.2 Z.1 (fun _ => none)) (upo D Z.1 fun _ => 0) (upo E Z.1 fun _ => 0) (ce + 1) (sl + N) (pc + 2) lv (.ref (B + Z.1) :: st)) : RW y cc nL ret rm B Q Z D E ce sl pc lv (.int n :: st) := fun p l e s m args below meth c G dA H locs ls C hM hS hl hA => W.size fun hHs => by
  have hsz := q_szeq hM hHs hA C.2.2.2.2.2.2.2.2.1 hS
  refine va_newaK (atype := .int) (N := N) C.1 C.2.1 (C.2.2.2.2.2.1 _ wa_int) rfl hd rfl hn hN hb h1 h2 hsz fun H1 cA e1 z1 o1 hAr hfc => ?_
  have hcA : cA = dA 10 := by
    have h9 := (C.2.2.2.2.2.2.2.1.1.2 0 _ rfl).2
    exact Option.some.inj (hfc.symm.trans h9)
  subst hcA
  refine kk p l e s m args below meth c G dA H1 locs ls C (q_push hM hsz (fun q hq => o1 q (by omega)) ?_) ⟨by have := hS.1; omega, fun x h1 h2 => (o1 x (by have := hS.1; omega)).trans (hS.2.1 x h1 h2), hS.2.2⟩ hl (by show _ ≤ B + (Z.1 + 1); omega)
  show H1[B + Z.1]? = some (vp_cell (dA 10) (N, .inl (fun _ => 0)))
  exact e1
theorem r_newaL {n : Int32} (N : Nat) (hd : decode cc pc = .ok (.newarray .long, 2)) (hn : ¬ n < 0) (hN : n.toNatClampNeg = N) (hb : N * componentBytes .long ≤ 536870912) (h1 : ce + 1 ≤ rm.cells) (h2 : sl + N ≤ rm.slots)
    (kk : RW y cc nL ret rm B Q (Z.1 + 1, upo Z.2.1 Z.1 (11, N), upo Z.2.2 Z.1 (fun _ => none)) (upo D Z.1 fun _ => 0) (upo E Z.1 fun _ => 0) (ce + 1) (sl + N) (pc + 2) lv (.ref (B + Z.1) :: st)) : RW y cc nL ret rm B Q Z D E ce sl pc lv (.int n :: st) := fun p l e s m args below meth c G dA H locs ls C hM hS hl hA => W.size fun hHs => by
  have hsz := q_szeq hM hHs hA C.2.2.2.2.2.2.2.2.1 hS
  refine va_newaK (atype := .long) (N := N) C.1 C.2.1 (C.2.2.2.2.2.1 _ wa_long) rfl hd rfl hn hN hb h1 h2 hsz fun H1 cA e1 z1 o1 hAr hfc => ?_
  have hcA : cA = dA 11 := by
    have h9 := (C.2.2.2.2.2.2.2.1.1.2 1 _ rfl).2
    exact Option.some.inj (hfc.symm.trans h9)
  subst hcA
  refine kk p l e s m args below meth c G dA H1 locs ls C (q_push hM hsz (fun q hq => o1 q (by omega)) ?_) ⟨by have := hS.1; omega, fun x h1 h2 => (o1 x (by have := hS.1; omega)).trans (hS.2.1 x h1 h2), hS.2.2⟩ hl (by show _ ≤ B + (Z.1 + 1); omega)
  show H1[B + Z.1]? = some (vp_cell (dA 11) (N, .inr (.inl (fun _ => 0))))
  exact e1
theorem r_newaZ {n : Int32} (N : Nat) (hd : decode cc pc = .ok (.newarray .boolean, 2)) (hn : ¬ n < 0) (hN : n.toNatClampNeg = N) (hb : N * componentBytes .boolean ≤ 536870912) (h1 : ce + 1 ≤ rm.cells) (h2 : sl + N ≤ rm.slots)
    (kk : RW y cc nL ret rm B Q (Z.1 + 1, upo Z.2.1 Z.1 (12, N), upo Z.2.2 Z.1 (fun _ => none)) (upo D Z.1 fun _ => 0) (upo E Z.1 fun _ => 0) (ce + 1) (sl + N) (pc + 2) lv (.ref (B + Z.1) :: st)) : RW y cc nL ret rm B Q Z D E ce sl pc lv (.int n :: st) := fun p l e s m args below meth c G dA H locs ls C hM hS hl hA => W.size fun hHs => by
  have hsz := q_szeq hM hHs hA C.2.2.2.2.2.2.2.2.1 hS
  refine va_newaK (atype := .boolean) (N := N) C.1 C.2.1 (C.2.2.2.2.2.1 _ wa_boolean) rfl hd rfl hn hN hb h1 h2 hsz fun H1 cA e1 z1 o1 hAr hfc => ?_
  have hcA : cA = dA 12 := by
    have h9 := (C.2.2.2.2.2.2.2.1.1.2 2 _ rfl).2
    exact Option.some.inj (hfc.symm.trans h9)
  subst hcA
  refine kk p l e s m args below meth c G dA H1 locs ls C (q_push hM hsz (fun q hq => o1 q (by omega)) ?_) ⟨by have := hS.1; omega, fun x h1 h2 => (o1 x (by have := hS.1; omega)).trans (hS.2.1 x h1 h2), hS.2.2⟩ hl (by show _ ≤ B + (Z.1 + 1); omega)
  show H1[B + Z.1]? = some (vp_cell (dA 12) (N, .inl (fun _ => 0)))
  exact e1
theorem r_newqLand {n : Int32} {idx : Nat} (N : Nat) (hw : Cond.classLink y.cls idx RX1 ∈ BW) (hd : decode cc pc = .ok (.anewarray idx, 3)) (hn : ¬ n < 0) (hN : n.toNatClampNeg = N) (hb : N * 4 ≤ 536870912) (h1 : ce + 1 ≤ rm.cells) (h2 : sl + N ≤ rm.slots)
    (kk : RW y cc nL ret rm B Q (Z.1 + 1, upo Z.2.1 Z.1 (13, N), upo Z.2.2 Z.1 (fun _ => none)) (upo D Z.1 fun _ => 0) (upo E Z.1 fun _ => 0) (ce + 1) (sl + N) (pc + 3) lv (.ref (B + Z.1) :: st)) : RW y cc nL ret rm B Q Z D E ce sl pc lv (.int n :: st) := fun p l e s m args below meth c G dA H locs ls C hM hS hl hA => W.size fun hHs => by
  have hsz := q_szeq hM hHs hA C.2.2.2.2.2.2.2.2.1 hS
  subst hN
  refine W.anew C.1 C.2.1 C.2.2.2.2.1 (C.2.2.2.2.2.1 _ hw) (va_AO.use C.2.2.2.2.2.2.2.1.2.2.1) rfl hd rfl hn hb h1 h2 fun cA kA comp f1 f2 f3 f4 => ?_
  generalize hH1 : H.push ({ cls := cA, slots := Array.replicate n.toNatClampNeg .null, vm := .none } : Cell) = H1
  have z1 : H1.size = H.size + 1 := by rw [← hH1, Array.size_push]
  have e1 : H1[H.size]? = some (arrV cA n.toNatClampNeg (fun _ => .null)) := by rw [← hH1, Array.getElem?_push_size, ← arrV_new]
  have o1 : ∀ q : Nat, q < H.size → H1[q]? = H[q]? := fun q hq => by rw [← hH1, Array.getElem?_push, if_neg (Nat.ne_of_lt hq)]
  have hcA : cA = dA 13 := by
    obtain ⟨_, _, _, _, _, h9⟩ := (C.2.2.2.2.2.2.2.1.1.2 3 _ rfl).2
    exact Option.some.inj (f1.symm.trans h9)
  subst hcA
  rw [show H.size = B + Z.1 from hsz] at e1 ⊢
  refine kk p l e s m args below meth c G dA H1 locs ls C (q_push hM hsz o1 ?_) ⟨by have := hS.1; omega, fun x h1 h2 => (o1 x (by have := hS.1; omega)).trans (hS.2.1 x h1 h2), hS.2.2⟩ hl (by show _ ≤ B + (Z.1 + 1); omega)
  show H1[B + Z.1]? = some (vp_cell (dA 13) (n.toNatClampNeg, .inr (.inr (.inr (.inr (fun _ => none))))))
  exact e1
theorem r_newqCourse {n : Int32} {idx : Nat} (N : Nat) (hw : Cond.classLink y.cls idx RX0 ∈ BW) (hd : decode cc pc = .ok (.anewarray idx, 3)) (hn : ¬ n < 0) (hN : n.toNatClampNeg = N) (hb : N * 4 ≤ 536870912) (h1 : ce + 1 ≤ rm.cells) (h2 : sl + N ≤ rm.slots)
    (kk : RW y cc nL ret rm B Q (Z.1 + 1, upo Z.2.1 Z.1 (14, N), upo Z.2.2 Z.1 (fun _ => none)) (upo D Z.1 fun _ => 0) (upo E Z.1 fun _ => 0) (ce + 1) (sl + N) (pc + 3) lv (.ref (B + Z.1) :: st)) : RW y cc nL ret rm B Q Z D E ce sl pc lv (.int n :: st) := fun p l e s m args below meth c G dA H locs ls C hM hS hl hA => W.size fun hHs => by
  have hsz := q_szeq hM hHs hA C.2.2.2.2.2.2.2.2.1 hS
  subst hN
  refine W.anew C.1 C.2.1 C.2.2.2.2.1 (C.2.2.2.2.2.1 _ hw) (va_AO.use C.2.2.2.2.2.2.2.1.2.2.2.1) rfl hd rfl hn hb h1 h2 fun cA kA comp f1 f2 f3 f4 => ?_
  generalize hH1 : H.push ({ cls := cA, slots := Array.replicate n.toNatClampNeg .null, vm := .none } : Cell) = H1
  have z1 : H1.size = H.size + 1 := by rw [← hH1, Array.size_push]
  have e1 : H1[H.size]? = some (arrV cA n.toNatClampNeg (fun _ => .null)) := by rw [← hH1, Array.getElem?_push_size, ← arrV_new]
  have o1 : ∀ q : Nat, q < H.size → H1[q]? = H[q]? := fun q hq => by rw [← hH1, Array.getElem?_push, if_neg (Nat.ne_of_lt hq)]
  have hcA : cA = dA 14 := by
    obtain ⟨_, _, _, _, _, h9⟩ := (C.2.2.2.2.2.2.2.1.1.2 4 _ rfl).2
    exact Option.some.inj (f1.symm.trans h9)
  subst hcA
  rw [show H.size = B + Z.1 from hsz] at e1 ⊢
  refine kk p l e s m args below meth c G dA H1 locs ls C (q_push hM hsz o1 ?_) ⟨by have := hS.1; omega, fun x h1 h2 => (o1 x (by have := hS.1; omega)).trans (hS.2.1 x h1 h2), hS.2.2⟩ hl (by show _ ≤ B + (Z.1 + 1); omega)
  show H1[B + Z.1]? = some (vp_cell (dA 14) (n.toNatClampNeg, .inr (.inr (.inr (.inr (fun _ => none))))))
  exact e1
def Q2 (Z : ZZ) (P : Option Value → DD → EE → Prop) : QQ := fun v Z' D' E' => Z' = Z ∧ P v D' E'
def pI (P : Int32 → DD → EE → Prop) : Option Value → DD → EE → Prop := fun v D E => ∃ r : Int32, v = some (.int r) ∧ P r D E
def pL (P : Int64 → DD → EE → Prop) : Option Value → DD → EE → Prop := fun v D E => ∃ r : Int64, v = some (.long r) ∧ P r D E
def pV (P : DD → EE → Prop) : Option Value → DD → EE → Prop := fun v D E => v = none ∧ P D E
theorem r_callVI {y' : MethodName} {cc' : ByteArray} {nL' n idx : Nat} {ret' : Option FieldType} {rm' : Room} {As stk : List Value} {P : Int32 → DD → EE → Prop} {o ci nf : Nat} (hM' : MR y' cc' nL' ret' rm' B (.ref (B + o) :: As) Z D E (Q2 Z (pI P))) (hV : MV y' cc' nL' ret' n) (hw : Cond.methodLink y.cls idx y' ∈ BW) (hd : decode cc pc = .ok (.invokevirtual idx, 3)) (hst : stk = As.reverse ++ .ref (B + o) :: st) (hn : As.length = n) (ho : o < Z.1) (hz : Z.2.1 o = (ci, nf)) (hc : ci < 7) (hcl : q_C ci = y'.cls) (hcat : (st.map fun v => v.category).sum ≤ 8) (hrm : rm'.frames + 1 ≤ rm.frames ∧ 8 + (nL' + 11) + rm'.locals ≤ rm.locals ∧ ce ≤ rm.cells ∧ sl ≤ rm.slots) (h0 : rm'.cells = 0 ∧ rm'.slots = 0) (kk : ∀ r D' E', P r D' E' → RW y cc nL ret rm B Q Z D' E' ce sl (pc + 3) lv (.int r :: st)) : RW y cc nL ret rm B Q Z D E ce sl pc lv stk := by
  obtain ⟨e1, e2⟩ := h0
  refine r_callV hM' hV hw hd hst hn ho hz hc hcl hcat ⟨hrm.1, hrm.2.1, by rw [e1]; exact hrm.2.2.1, by rw [e2]; exact hrm.2.2.2⟩ (fun v Z' D' E' h => by rw [h.1, e1]; exact Nat.le_refl _) (fun v Z' D' E' h => ?_)
  obtain ⟨rfl, r, rfl, h⟩ := h
  rw [e1, e2]
  exact kk r D' E' h
theorem r_callVL {y' : MethodName} {cc' : ByteArray} {nL' n idx : Nat} {ret' : Option FieldType} {rm' : Room} {As stk : List Value} {P : Int64 → DD → EE → Prop} {o ci nf : Nat} (hM' : MR y' cc' nL' ret' rm' B (.ref (B + o) :: As) Z D E (Q2 Z (pL P))) (hV : MV y' cc' nL' ret' n) (hw : Cond.methodLink y.cls idx y' ∈ BW) (hd : decode cc pc = .ok (.invokevirtual idx, 3)) (hst : stk = As.reverse ++ .ref (B + o) :: st) (hn : As.length = n) (ho : o < Z.1) (hz : Z.2.1 o = (ci, nf)) (hc : ci < 7) (hcl : q_C ci = y'.cls) (hcat : (st.map fun v => v.category).sum ≤ 8) (hrm : rm'.frames + 1 ≤ rm.frames ∧ 8 + (nL' + 11) + rm'.locals ≤ rm.locals ∧ ce ≤ rm.cells ∧ sl ≤ rm.slots) (h0 : rm'.cells = 0 ∧ rm'.slots = 0) (kk : ∀ r D' E', P r D' E' → RW y cc nL ret rm B Q Z D' E' ce sl (pc + 3) lv (.long r :: st)) : RW y cc nL ret rm B Q Z D E ce sl pc lv stk := by
  obtain ⟨e1, e2⟩ := h0
  refine r_callV hM' hV hw hd hst hn ho hz hc hcl hcat ⟨hrm.1, hrm.2.1, by rw [e1]; exact hrm.2.2.1, by rw [e2]; exact hrm.2.2.2⟩ (fun v Z' D' E' h => by rw [h.1, e1]; exact Nat.le_refl _) (fun v Z' D' E' h => ?_)
  obtain ⟨rfl, r, rfl, h⟩ := h
  rw [e1, e2]
  exact kk r D' E' h
theorem r_callVV {y' : MethodName} {cc' : ByteArray} {nL' n idx : Nat} {ret' : Option FieldType} {rm' : Room} {As stk : List Value} {P : DD → EE → Prop} {o ci nf : Nat} (hM' : MR y' cc' nL' ret' rm' B (.ref (B + o) :: As) Z D E (Q2 Z (pV P))) (hV : MV y' cc' nL' ret' n) (hw : Cond.methodLink y.cls idx y' ∈ BW) (hd : decode cc pc = .ok (.invokevirtual idx, 3)) (hst : stk = As.reverse ++ .ref (B + o) :: st) (hn : As.length = n) (ho : o < Z.1) (hz : Z.2.1 o = (ci, nf)) (hc : ci < 7) (hcl : q_C ci = y'.cls) (hcat : (st.map fun v => v.category).sum ≤ 8) (hrm : rm'.frames + 1 ≤ rm.frames ∧ 8 + (nL' + 11) + rm'.locals ≤ rm.locals ∧ ce ≤ rm.cells ∧ sl ≤ rm.slots) (h0 : rm'.cells = 0 ∧ rm'.slots = 0) (kk : ∀ D' E', P D' E' → RW y cc nL ret rm B Q Z D' E' ce sl (pc + 3) lv (st)) : RW y cc nL ret rm B Q Z D E ce sl pc lv stk := by
  obtain ⟨e1, e2⟩ := h0
  refine r_callV hM' hV hw hd hst hn ho hz hc hcl hcat ⟨hrm.1, hrm.2.1, by rw [e1]; exact hrm.2.2.1, by rw [e2]; exact hrm.2.2.2⟩ (fun v Z' D' E' h => by rw [h.1, e1]; exact Nat.le_refl _) (fun v Z' D' E' h => ?_)
  obtain ⟨rfl, rfl, h⟩ := h
  rw [e1, e2]
  exact kk D' E' h
theorem r_callSI {y' : MethodName} {cc' : ByteArray} {nL' n idx : Nat} {ret' : Option FieldType} {rm' : Room} {As stk : List Value} {P : Int32 → DD → EE → Prop} (hM' : MR y' cc' nL' ret' rm' B As Z D E (Q2 Z (pI P))) (hV : MS y' cc' nL' ret' n) (hw : Cond.methodLink y.cls idx y' ∈ BW) (hyc : y'.cls = y.cls) (hd : decode cc pc = .ok (.invokestatic idx, 3)) (hst : stk = As.reverse ++ st) (hn : As.length = n) (hcat : (st.map fun v => v.category).sum ≤ 8) (hrm : rm'.frames + 1 ≤ rm.frames ∧ 8 + (nL' + 11) + rm'.locals ≤ rm.locals ∧ ce ≤ rm.cells ∧ sl ≤ rm.slots) (h0 : rm'.cells = 0 ∧ rm'.slots = 0) (kk : ∀ r D' E', P r D' E' → RW y cc nL ret rm B Q Z D' E' ce sl (pc + 3) lv (.int r :: st)) : RW y cc nL ret rm B Q Z D E ce sl pc lv stk := by
  obtain ⟨e1, e2⟩ := h0
  refine r_callS hM' hV hw hyc hd hst hn hcat ⟨hrm.1, hrm.2.1, by rw [e1]; exact hrm.2.2.1, by rw [e2]; exact hrm.2.2.2⟩ (fun v Z' D' E' h => by rw [h.1, e1]; exact Nat.le_refl _) (fun v Z' D' E' h => ?_)
  obtain ⟨rfl, r, rfl, h⟩ := h
  rw [e1, e2]
  exact kk r D' E' h
theorem r_callSL {y' : MethodName} {cc' : ByteArray} {nL' n idx : Nat} {ret' : Option FieldType} {rm' : Room} {As stk : List Value} {P : Int64 → DD → EE → Prop} (hM' : MR y' cc' nL' ret' rm' B As Z D E (Q2 Z (pL P))) (hV : MS y' cc' nL' ret' n) (hw : Cond.methodLink y.cls idx y' ∈ BW) (hyc : y'.cls = y.cls) (hd : decode cc pc = .ok (.invokestatic idx, 3)) (hst : stk = As.reverse ++ st) (hn : As.length = n) (hcat : (st.map fun v => v.category).sum ≤ 8) (hrm : rm'.frames + 1 ≤ rm.frames ∧ 8 + (nL' + 11) + rm'.locals ≤ rm.locals ∧ ce ≤ rm.cells ∧ sl ≤ rm.slots) (h0 : rm'.cells = 0 ∧ rm'.slots = 0) (kk : ∀ r D' E', P r D' E' → RW y cc nL ret rm B Q Z D' E' ce sl (pc + 3) lv (.long r :: st)) : RW y cc nL ret rm B Q Z D E ce sl pc lv stk := by
  obtain ⟨e1, e2⟩ := h0
  refine r_callS hM' hV hw hyc hd hst hn hcat ⟨hrm.1, hrm.2.1, by rw [e1]; exact hrm.2.2.1, by rw [e2]; exact hrm.2.2.2⟩ (fun v Z' D' E' h => by rw [h.1, e1]; exact Nat.le_refl _) (fun v Z' D' E' h => ?_)
  obtain ⟨rfl, r, rfl, h⟩ := h
  rw [e1, e2]
  exact kk r D' E' h
theorem r_callSNI {y' : MethodName} {cc' : ByteArray} {nL' n idx : Nat} {ret' : Option FieldType} {rm' : Room} {As stk : List Value} {P : Int32 → DD → EE → Prop} (hM' : MR y' cc' nL' ret' rm' B As Z D E (Q2 Z (pI P))) (hV : MS y' cc' nL' ret' n) (hw : Cond.methodLinkNest y.cls idx y' "BlueHue" ∈ q_nest) (hd : decode cc pc = .ok (.invokestatic idx, 3)) (hst : stk = As.reverse ++ st) (hn : As.length = n) (hcat : (st.map fun v => v.category).sum ≤ 8) (hrm : rm'.frames + 1 ≤ rm.frames ∧ 8 + (nL' + 11) + rm'.locals ≤ rm.locals ∧ ce ≤ rm.cells ∧ sl ≤ rm.slots) (h0 : rm'.cells = 0 ∧ rm'.slots = 0) (kk : ∀ r D' E', P r D' E' → RW y cc nL ret rm B Q Z D' E' ce sl (pc + 3) lv (.int r :: st)) : RW y cc nL ret rm B Q Z D E ce sl pc lv stk := by
  obtain ⟨e1, e2⟩ := h0
  refine r_callSN hM' hV hw hd hst hn hcat ⟨hrm.1, hrm.2.1, by rw [e1]; exact hrm.2.2.1, by rw [e2]; exact hrm.2.2.2⟩ (fun v Z' D' E' h => by rw [h.1, e1]; exact Nat.le_refl _) (fun v Z' D' E' h => ?_)
  obtain ⟨rfl, r, rfl, h⟩ := h
  rw [e1, e2]
  exact kk r D' E' h
theorem r_callSNL {y' : MethodName} {cc' : ByteArray} {nL' n idx : Nat} {ret' : Option FieldType} {rm' : Room} {As stk : List Value} {P : Int64 → DD → EE → Prop} (hM' : MR y' cc' nL' ret' rm' B As Z D E (Q2 Z (pL P))) (hV : MS y' cc' nL' ret' n) (hw : Cond.methodLinkNest y.cls idx y' "BlueHue" ∈ q_nest) (hd : decode cc pc = .ok (.invokestatic idx, 3)) (hst : stk = As.reverse ++ st) (hn : As.length = n) (hcat : (st.map fun v => v.category).sum ≤ 8) (hrm : rm'.frames + 1 ≤ rm.frames ∧ 8 + (nL' + 11) + rm'.locals ≤ rm.locals ∧ ce ≤ rm.cells ∧ sl ≤ rm.slots) (h0 : rm'.cells = 0 ∧ rm'.slots = 0) (kk : ∀ r D' E', P r D' E' → RW y cc nL ret rm B Q Z D' E' ce sl (pc + 3) lv (.long r :: st)) : RW y cc nL ret rm B Q Z D E ce sl pc lv stk := by
  obtain ⟨e1, e2⟩ := h0
  refine r_callSN hM' hV hw hd hst hn hcat ⟨hrm.1, hrm.2.1, by rw [e1]; exact hrm.2.2.1, by rw [e2]; exact hrm.2.2.2⟩ (fun v Z' D' E' h => by rw [h.1, e1]; exact Nat.le_refl _) (fun v Z' D' E' h => ?_)
  obtain ⟨rfl, r, rfl, h⟩ := h
  rw [e1, e2]
  exact kk r D' E' h
theorem r_iret2 {v : Int32} {P : Int32 → DD → EE → Prop} (hd : decode cc pc = .ok (.ireturn, 1)) (hr : ret = some .int) (hc : ce ≤ rm.cells ∧ sl ≤ rm.slots) (h : P v D E) : RW y cc nL ret rm B (Q2 Z (pI P)) Z D E ce sl pc lv [.int v] := r_iret hd hr hc.1 hc.2 ⟨rfl, v, rfl, h⟩
theorem r_zret2 {v : Int32} {P : Int32 → DD → EE → Prop} (hd : decode cc pc = .ok (.ireturn, 1)) (hr : ret = some .boolean) (hc : ce ≤ rm.cells ∧ sl ≤ rm.slots) (hv : narrow .boolean (.int v) = .int v) (h : P v D E) : RW y cc nL ret rm B (Q2 Z (pI P)) Z D E ce sl pc lv [.int v] := r_zret hd hr hv hc.1 hc.2 ⟨rfl, v, rfl, h⟩
theorem r_lret2 {v : Int64} {P : Int64 → DD → EE → Prop} (hd : decode cc pc = .ok (.lreturn, 1)) (hr : ret = some .long) (hc : ce ≤ rm.cells ∧ sl ≤ rm.slots) (h : P v D E) : RW y cc nL ret rm B (Q2 Z (pL P)) Z D E ce sl pc lv [.long v] := r_lret hd hr hc.1 hc.2 ⟨rfl, v, rfl, h⟩
theorem r_vret2 {P : DD → EE → Prop} (hd : decode cc pc = .ok (.return_, 1)) (hr : ret = none) (hc : ce ≤ rm.cells ∧ sl ≤ rm.slots) (h : P D E) : RW y cc nL ret rm B (Q2 Z (pV P)) Z D E ce sl pc lv [] := r_vret hd hr hc.1 hc.2 ⟨rfl, rfl, h⟩
end RWA
