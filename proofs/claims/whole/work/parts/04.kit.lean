/-! a uniform memory: objects by number (address B + number), ints D, longs E; kinds, lengths and references Z -/
abbrev DD : Type := Nat → Nat → Int32
abbrev EE : Type := Nat → Nat → Int64
abbrev ZZ : Type := Nat × (Nat → Nat × Nat) × (Nat → Nat → Option Nat)
def q_C (c : Nat) : String := match c with | 0 => RX0 | 1 => RX1 | 2 => RX2 | 3 => RX3 | 4 => RX4 | 5 => RX5 | _ => RX6
def q_T (c : Nat) : u_T := match c with | 0 => TX0 | 1 => TX1 | 2 => TX2 | 3 => TX3 | 4 => TX4 | 5 => TX5 | _ => TX6
def q_N (c : Nat) : Nat := match c with | 0 => 11 | 1 => 10 | 2 => 3 | 3 => 3 | 4 => 5 | 5 => 16 | _ => 26
def q_ty (c : Nat) : Nat → FieldType := match c with | 0 => tyX0 | 1 => tyX1 | 2 => tyX2 | 3 => tyX3 | 4 => tyX4 | 5 => tyX5 | _ => tyX6
theorem q_cl : ∀ c, c < 7 → vwCl[c]? = some (q_C c, q_T c, q_N c) := by
  intro c h
  match c, h with
  | 0, _ => rfl
  | 1, _ => rfl
  | 2, _ => rfl
  | 3, _ => rfl
  | 4, _ => rfl
  | 5, _ => rfl
  | 6, _ => rfl
theorem q_in : ∀ c, c < 7 → ∀ w ∈ u_ws (q_C c) (q_T c) (q_N c), w ∈ BW := by
  intro c h
  match c, h with
  | 0, _ => exact inlX0
  | 1, _ => exact inlX1
  | 2, _ => exact inlX2
  | 3, _ => exact inlX3
  | 4, _ => exact inlX4
  | 5, _ => exact inlX5
  | 6, _ => exact inlX6
theorem q_tyok : ∀ c, c < 7 → ∀ k, k < q_N c → parseFieldDescriptor (q_T c k).2.2.1 = some (q_ty c k) := by
  intro c h
  match c, h with
  | 0, _ => exact tyX0_ok
  | 1, _ => exact tyX1_ok
  | 2, _ => exact tyX2_ok
  | 3, _ => exact tyX3_ok
  | 4, _ => exact tyX4_ok
  | 5, _ => exact tyX5_ok
  | 6, _ => exact tyX6_ok
theorem q_nm : ∀ c, c < 7 → ∀ a, a < q_N c → ∀ b, b < q_N c → a ≠ b → (q_T c a).2.1 ≠ (q_T c b).2.1 := by
  intro c h
  match c, h with
  | 0, _ => exact nmX0
  | 1, _ => exact nmX1
  | 2, _ => exact nmX2
  | 3, _ => exact nmX3
  | 4, _ => exact nmX4
  | 5, _ => exact nmX5
  | 6, _ => exact nmX6
/-- the nest words: they are kept by warming, and no words of a method's list -/
def q_nest : List Cond := [.methodLinkNest "BlueHue" 18 ⟨"BlueHue$Tape", "<init>", "()V"⟩ "BlueHue", .methodLinkNest "BlueHue" 25 ⟨"BlueHue$Land", "<init>", "()V"⟩ "BlueHue", .methodLinkNest "BlueHue" 32 ⟨"BlueHue$Course", "<init>", "()V"⟩ "BlueHue", .methodLinkNest "BlueHue$Course" 60 ⟨"BlueHue", "bit", "(II)I"⟩ "BlueHue", .methodLinkNest "BlueHue$Land" 49 ⟨"BlueHue", "bit", "(II)I"⟩ "BlueHue", .methodLinkNest "BlueHue$Past" 17 ⟨"BlueHue$Course", "<init>", "()V"⟩ "BlueHue", .methodLinkNest "BlueHue$Tape" 32 ⟨"BlueHue", "within", "(III)Z"⟩ "BlueHue"]
def q_tys (dA : Nat → ClassId) : List (ClassId × FieldType) := [(dA 10, .int), (dA 11, .long), (dA 12, .boolean), (dA 13, .object RX1), (dA 14, .object RX0), (dA 15, .array .int)]
def va_AOA (ty : FieldType) (U : State) : Prop := (Cond.arrayOver (.array ty)).before #[] U = true
theorem va_AOA_spec {args : Array Value} {first s : State} {o : Option Outcome} {idx : List Nat} {ty : FieldType} (h : (Cond.arrayOver (.array ty)).holds args first o s idx = true) :
    ∃ comp c k, s.vm.findClass (FieldType.array ty).toString = some comp ∧ (s.vm.classes.findIdx? fun x => match x.kind with | .array component _ => component == comp | _ => false) = some c ∧ s.vm.classes[c]? = some k ∧ k.kind = .array comp (.array ty) ∧
      s.vm.findClass ("[" ++ (FieldType.array ty).toString) = some c := by
  simp only [Cond.holds, Cond.value, beq_iff_eq] at h
  cases hc : s.vm.findClass (FieldType.array ty).toString with
  | none => simp [hc] at h
  | some comp =>
    simp only [hc, Option.bind_some, Option.bind_eq_some_iff, Option.map_eq_some_iff] at h
    obtain ⟨c, hi, k, hk, hb⟩ := h
    obtain ⟨hlt, hp, -⟩ := Array.findIdx?_eq_some_iff_getElem.mp hi
    have hkk : s.vm.classes[c] = k := (Array.getElem?_eq_some_iff.mp hk).2
    rw [hkk] at hp
    cases hkind : k.kind with
    | array component ty9 =>
      rw [hkind] at hb hp
      simp at hb hp
      exact ⟨comp, c, k, rfl, hi, hk, by rw [hkind, hp, hb.1], hb.2⟩
    | _ => rw [hkind] at hb; simp at hb
theorem va_AOA.moved {ty : FieldType} {u U : State} (hvm : u.vm.Alike U.vm) (h : va_AOA ty u) : va_AOA ty U := by
  obtain ⟨comp, c, k, h1, h2, h3, h4, h5⟩ := va_AOA_spec h
  obtain ⟨k', hk', he⟩ := hvm.2.2 _ _ h3
  have hi : (U.vm.classes.findIdx? fun (x : Class) => match x.kind with | .array component _ => component == comp | _ => false) = some c := by
    have hb := hvm.bare_eq
    have e1 := va_idx_bare U.vm comp
    have e2 := va_idx_bare u.vm comp
    first
      | (rw [hb] at e1; exact e1.symm.trans (e2.trans h2))
      | (rw [← hb] at e1; exact e1.symm.trans (e2.trans h2))
  have hkind : k'.kind = .array comp (.array ty) := by rw [he]; exact h4
  have f1 : U.vm.findClass (FieldType.array ty).toString = some comp := by rw [hvm.findClass]; exact h1
  have f2 : U.vm.findClass ("[" ++ (FieldType.array ty).toString) = some c := by rw [hvm.findClass]; exact h5
  unfold va_AOA Cond.before Cond.holds
  simp only [Cond.value]
  rw [f1, Option.bind_some]
  refine (congrArg (fun o : Option Nat => (o.bind (fun c => (U.vm.classes[c]?).map fun (k : Class) => match k.kind with | .array _ ty' => decide (ty' = FieldType.array ty) && decide (U.vm.findClass ("[" ++ (FieldType.array ty).toString) = some c) | _ => false) == some true)) hi).trans ?_
  simp [hk', hkind, f2]
def q_K (G : va_G) (dA : Nat → ClassId) (U : State) : Prop := va_K G vwCl (q_tys dA) U ∧ (∀ w ∈ q_nest, va_Nw w U) ∧ va_AO RX1 U ∧ va_AO RX0 U ∧ va_AOA .int U
def q_fv (B : Nat) (ty : FieldType) (d : Int32) (r : Option Nat) : Value := match ty with
  | .int => .int d
  | _ => va_rf (r.map (fun i => B + i))
def q_fs (B c : Nat) (r : Nat → Option Nat) (d : Nat → Int32) : List Value := (List.range (q_N c)).map (fun k => q_fv B (q_ty c k) (d k) (r k))
def q_cel (B : Nat) (dA : Nat → ClassId) (kd : Nat × Nat) (r : Nat → Option Nat) (d : Nat → Int32) (e : Nat → Int64) : va_E :=
  if kd.1 < 7 then .inr (kd.1, q_fs B kd.1 r d)
  else if kd.1 = 11 then .inl (dA 11, kd.2, .inr (.inl e))
  else if 13 ≤ kd.1 then .inl (dA kd.1, kd.2, .inr (.inr (.inr (.inr (fun j => (r j).map (fun i => B + i))))))
  else .inl (dA kd.1, kd.2, .inl d)
def q_wf (B : Nat) (dA : Nat → ClassId) (Z : ZZ) (D : DD) (E : EE) (i : Nat) : Nat × va_E := (B + i, q_cel B dA (Z.2.1 i) (Z.2.2 i) (D i) (E i))
def q_w (B : Nat) (dA : Nat → ClassId) (Z : ZZ) (D : DD) (E : EE) : va_W := (List.range Z.1).map (q_wf B dA Z D E)
def q_M (G : va_G) (dA : Nat → ClassId) (B : Nat) (Z : ZZ) (D : DD) (E : EE) (H : Heap) : Prop := va_P G vwCl (q_w B dA Z D E) H
def up2 {α : Type} (D : Nat → Nat → α) (o k : Nat) (v : α) : Nat → Nat → α := fun i j => if i = o ∧ j = k then v else D i j
def upo {α : Type} (D : Nat → α) (o : Nat) (f : α) : Nat → α := fun i => if i = o then f else D i
theorem q_get {B : Nat} {dA : Nat → ClassId} {Z : ZZ} {D : DD} {E : EE} {o : Nat} (h : o < Z.1) : (q_w B dA Z D E)[o]? = some (q_wf B dA Z D E o) := by
  unfold q_w
  rw [List.getElem?_map, List.getElem?_range h]
  rfl
theorem q_set {B : Nat} {dA : Nat → ClassId} {Z : ZZ} {D D' : DD} {E E' : EE} {Z' : ZZ} {o : Nat} {x : Nat × va_E} (hz : Z'.1 = Z.1) (hx : q_wf B dA Z' D' E' o = x) (hn : ∀ i, i ≠ o → q_wf B dA Z' D' E' i = q_wf B dA Z D E i) : (q_w B dA Z D E).set o x = q_w B dA Z' D' E' := by
  subst hx
  apply List.ext_getElem?
  intro i
  unfold q_w
  rw [hz]
  by_cases hi : i = o
  · subst hi
    by_cases hl : i < Z.1
    · rw [List.getElem?_set_self (by simpa using hl), List.getElem?_map, List.getElem?_range hl]; rfl
    · rw [List.getElem?_eq_none (by simpa using hl), List.getElem?_eq_none (by simpa using hl)]
  · rw [List.getElem?_set_ne (Ne.symm hi), List.getElem?_map, List.getElem?_map]
    by_cases hl : i < Z.1
    · rw [List.getElem?_range hl]; exact congrArg some (hn i hi).symm
    · rw [List.getElem?_eq_none (by simpa using hl)]; rfl
theorem q_D {B : Nat} {dA : Nat → ClassId} {Z : ZZ} {D : DD} {E : EE} : va_D (fun q => B ≤ q) (q_w B dA Z D E) := by
  have key : ∀ (k : Nat) (q : Nat × va_E), (q_w B dA Z D E)[k]? = some q → q.1 = B + k := by
    intro k q h
    have hl : k < Z.1 := by
      have := (List.getElem?_eq_some_iff.mp h).1
      simpa [q_w] using this
    rw [q_get hl] at h
    cases h
    rfl
  refine ⟨fun i j p q hi hj h => ?_, fun k q h => ?_⟩
  · have := key i p hi
    have := key j q hj
    omega
  · have := key k q h
    show B ≤ q.1
    omega
/-- what holds in a method's body -/
def CX (y : MethodName) (cc : ByteArray) (nL : Nat) (ret : Option FieldType) (B : Nat) (p : Program) (s : State) (m : MethodId) (args : Array Value) (meth : Method) (c : Code) (G : va_G) (dA : Nat → ClassId) : Prop :=
  p.tables.exec = Jvm.exec ∧ c.code = cc ∧ meth.sig.returnType = ret ∧ c.maxLocals = nL ∧ s.vm.findClass y.cls = some m.cls ∧ (∀ w ∈ BW, w.before args s = true) ∧ meth.locks = false ∧ q_K G dA s ∧ B ≤ s.heap.size ∧ meth.name = y.name
abbrev QQ : Type := Option Value → ZZ → DD → EE → Prop
def QC (G : va_G) (dA : Nat → ClassId) (B : Nat) (Q : QQ) : Array Value → State → Outcome → State → Prop := fun _ st oc t =>
  (∃ v Z D E, oc = .returned v ∧ Q v Z D E ∧ q_M G dA B Z D E t.heap) ∧ va_F (fun q => B ≤ q) st t
/-- from here the method returns, with Q -/
def RW (y : MethodName) (cc : ByteArray) (nL : Nat) (ret : Option FieldType) (rm : Room) (B : Nat) (Q : QQ) (Z : ZZ) (D : DD) (E : EE) (ce sl pc : Nat) (lv : List (Nat × Value)) (st : List Value) : Prop :=
  ∀ (p : Program) (l : Launch) (e : Env) (s : State) (m : MethodId) (args : Array Value) (below : List Frame) (meth : Method) (c : Code) (G : va_G) (dA : Nat → ClassId) (H : Heap) (locs : List Loc) (ls : Array Slot),
    CX y cc nL ret B p s m args meth c G dA → q_M G dA B Z D E H → va_S (fun q => B ≤ q) s.heap H locs → lv_has ls nL lv → s.heap.size + ce ≤ B + Z.1 →
    W p l e rm s m args below meth c H locs ce sl (MQ below (QC G dA B Q) args s rm.cells rm.slots (fun q => B ≤ q)) (F0 m pc ls st)
def MR (y : MethodName) (cc : ByteArray) (nL : Nat) (ret : Option FieldType) (rm : Room) (B : Nat) (av : List Value) (Z : ZZ) (D : DD) (E : EE) (Q : QQ) : Prop :=
  ∀ (l : Launch) (G : va_G) (dA : Nat → ClassId), Met l y (.code y cc nL ret :: BW) rm (va_Pc av (fun U => q_M G dA B Z D E U.heap ∧ q_K G dA U ∧ U.heap.size ≤ B + Z.1 ∧ B ≤ U.heap.size)) (QC G dA B Q) rm.cells rm.slots (fun q => B ≤ q)
theorem q_K.moved {G : va_G} {dA : Nat → ClassId} {u U : State} (hW : u.WarmedH U.vm) (h : q_K G dA u) : q_K G dA U := by
  obtain ⟨h1, h2, h3, h4, h5⟩ := h
  refine ⟨va_K.moved hW.alike h1, ?_, va_AO.moved hW.alike h3, va_AO.moved hW.alike h4, va_AOA.moved hW.alike h5⟩
  intro w hw
  have := h2 w hw
  simp only [q_nest, List.mem_cons, List.not_mem_nil, or_false] at hw
  rcases hw with rfl | rfl | rfl | rfl | rfl | rfl | rfl <;> exact va_Nw.warmM hW this
theorem q_K.same {G : va_G} {dA : Nat → ClassId} {u U : State} (hW : u.vm = U.vm) (h : q_K G dA u) : q_K G dA U := by
  obtain ⟨h1, h2, h3, h4, h5⟩ := h
  have hA : u.vm.Alike U.vm := hW ▸ Vm.Alike.refl u.vm
  refine ⟨va_K.moved hA h1, ?_, va_AO.moved hA h3, va_AO.moved hA h4, va_AOA.moved hA h5⟩
  intro w hw
  have := h2 w hw
  simp only [q_nest, List.mem_cons, List.not_mem_nil, or_false] at hw
  rcases hw with rfl | rfl | rfl | rfl | rfl | rfl | rfl <;> exact va_Nw.same rfl hW this

theorem lg_mem {lv : List (Nat × Value)} {i : Nat} {v : Value} (h : lv.lookup i = some v) : (i, v) ∈ lv := by
  induction lv with
  | nil => simp at h
  | cons q t ih =>
    obtain ⟨j, w⟩ := q
    rw [List.lookup_cons] at h
    by_cases hj : i == j
    · simp [hj] at h
      have : i = j := by simpa using hj
      subst this; subst h
      exact List.mem_cons_self
    · simp [hj] at h
      exact List.mem_cons_of_mem _ (ih h)
theorem lg_at {ls : Array Slot} {nL : Nat} {lv : List (Nat × Value)} (hl : lv_has ls nL lv) {i : Nat} {v : Value} (h : lv.lookup i = some v) : ls[i]? = some (.val v) := hl.2.2 (i, v) (lg_mem h)
theorem lv_keep {ls : Array Slot} {nL : Nat} {l l' : List (Nat × Value)} (h : lv_has ls nL l) (hs : ∀ q ∈ l', l.lookup q.1 = some q.2) : lv_has ls nL l' := ⟨h.1, h.2.1, fun q hq => lg_at h (hs q hq)⟩
theorem ofI (n : Nat) : Int32.ofInt (n : Int) = nI n := rfl
section RWS
variable {y : MethodName} {cc : ByteArray} {nL : Nat} {ret : Option FieldType} {rm : Room} {B : Nat} {Q : QQ} {Z : ZZ} {D : DD} {E : EE} {ce sl pc : Nat} {lv : List (Nat × Value)} {st : List Value}
theorem r_iconst {n : Int} (v : Int32) (hd : decode cc pc = .ok (.iconst n, 1)) (hv : Int32.ofInt n = v) (k : RW y cc nL ret rm B Q Z D E ce sl (pc + 1) lv (.int v :: st)) : RW y cc nL ret rm B Q Z D E ce sl pc lv st := fun p l e s m args below meth c G dA H locs ls C hM hS hl hA => lv_iconst C.1 C.2.1 hd hv (k p l e s m args below meth c G dA H locs ls C hM hS hl hA)
theorem r_bipush {n : Int} (v : Int32) (hd : decode cc pc = .ok (.bipush n, 2)) (hv : (Int8.ofInt n).toInt32 = v) (k : RW y cc nL ret rm B Q Z D E ce sl (pc + 2) lv (.int v :: st)) : RW y cc nL ret rm B Q Z D E ce sl pc lv st := fun p l e s m args below meth c G dA H locs ls C hM hS hl hA => lv_bipush C.1 C.2.1 hd hv (k p l e s m args below meth c G dA H locs ls C hM hS hl hA)
theorem r_sipush {n : Int} (v : Int32) (hd : decode cc pc = .ok (.sipush n, 3)) (hv : (Int16.ofInt n).toInt32 = v) (k : RW y cc nL ret rm B Q Z D E ce sl (pc + 3) lv (.int v :: st)) : RW y cc nL ret rm B Q Z D E ce sl pc lv st := fun p l e s m args below meth c G dA H locs ls C hM hS hl hA => lv_sipush C.1 C.2.1 hd hv (k p l e s m args below meth c G dA H locs ls C hM hS hl hA)
theorem r_lconst {n : Fin 2} (v : Int64) (hd : decode cc pc = .ok (.lconst n, 1)) (hv : Int64.ofNat (n : Nat) = v) (k : RW y cc nL ret rm B Q Z D E ce sl (pc + 1) lv (.long v :: st)) : RW y cc nL ret rm B Q Z D E ce sl pc lv st := fun p l e s m args below meth c G dA H locs ls C hM hS hl hA => lv_lconst C.1 C.2.1 hd hv (k p l e s m args below meth c G dA H locs ls C hM hS hl hA)
theorem r_ldc {i : Nat} {v : Int32} (hw : Cond.constant y.cls i v ∈ BW) (hd : decode cc pc = .ok (.ldc i, 2)) (k : RW y cc nL ret rm B Q Z D E ce sl (pc + 2) lv (.int v :: st)) : RW y cc nL ret rm B Q Z D E ce sl pc lv st := fun p l e s m args below meth c G dA H locs ls C hM hS hl hA => lv_ldc C.1 C.2.1 C.2.2.2.2.1 (C.2.2.2.2.2.1 _ hw) hd (k p l e s m args below meth c G dA H locs ls C hM hS hl hA)
theorem r_ldcw {i : Nat} {v : Int32} (hw : Cond.constant y.cls i v ∈ BW) (hd : decode cc pc = .ok (.ldc_w i, 3)) (k : RW y cc nL ret rm B Q Z D E ce sl (pc + 3) lv (.int v :: st)) : RW y cc nL ret rm B Q Z D E ce sl pc lv st := fun p l e s m args below meth c G dA H locs ls C hM hS hl hA => lv_ldcw C.1 C.2.1 C.2.2.2.2.1 (C.2.2.2.2.2.1 _ hw) hd (k p l e s m args below meth c G dA H locs ls C hM hS hl hA)
theorem r_ldc2 {i : Nat} {v : Int64} (hw : Cond.constantLong y.cls i v ∈ BW) (hd : decode cc pc = .ok (.ldc2_w i, 3)) (k : RW y cc nL ret rm B Q Z D E ce sl (pc + 3) lv (.long v :: st)) : RW y cc nL ret rm B Q Z D E ce sl pc lv st := fun p l e s m args below meth c G dA H locs ls C hM hS hl hA => lv_ldc2 C.1 C.2.1 C.2.2.2.2.1 (C.2.2.2.2.2.1 _ hw) hd (k p l e s m args below meth c G dA H locs ls C hM hS hl hA)
theorem r_iload_n {q : Fin 4} {x : Int32} (hd : decode cc pc = .ok (.iload_n q, 1)) (hl0 : lv.lookup (q : Nat) = some (.int x)) (k : RW y cc nL ret rm B Q Z D E ce sl (pc + 1) lv (.int x :: st)) : RW y cc nL ret rm B Q Z D E ce sl pc lv st := fun p l e s m args below meth c G dA H locs ls C hM hS hl hA => lv_iload_n C.1 C.2.1 hd rfl (lg_at hl hl0) (k p l e s m args below meth c G dA H locs ls C hM hS hl hA)
theorem r_iload {i : Nat} {x : Int32} (hd : decode cc pc = .ok (.iload i, 2)) (hl0 : lv.lookup i = some (.int x)) (k : RW y cc nL ret rm B Q Z D E ce sl (pc + 2) lv (.int x :: st)) : RW y cc nL ret rm B Q Z D E ce sl pc lv st := fun p l e s m args below meth c G dA H locs ls C hM hS hl hA => lv_iload C.1 C.2.1 hd (lg_at hl hl0) (k p l e s m args below meth c G dA H locs ls C hM hS hl hA)
theorem r_lload_n {q : Fin 4} {x : Int64} (hd : decode cc pc = .ok (.lload_n q, 1)) (hl0 : lv.lookup (q : Nat) = some (.long x)) (k : RW y cc nL ret rm B Q Z D E ce sl (pc + 1) lv (.long x :: st)) : RW y cc nL ret rm B Q Z D E ce sl pc lv st := fun p l e s m args below meth c G dA H locs ls C hM hS hl hA => lv_lload_n C.1 C.2.1 hd rfl (lg_at hl hl0) (k p l e s m args below meth c G dA H locs ls C hM hS hl hA)
theorem r_lload {i : Nat} {x : Int64} (hd : decode cc pc = .ok (.lload i, 2)) (hl0 : lv.lookup i = some (.long x)) (k : RW y cc nL ret rm B Q Z D E ce sl (pc + 2) lv (.long x :: st)) : RW y cc nL ret rm B Q Z D E ce sl pc lv st := fun p l e s m args below meth c G dA H locs ls C hM hS hl hA => lv_lload C.1 C.2.1 hd (lg_at hl hl0) (k p l e s m args below meth c G dA H locs ls C hM hS hl hA)
theorem r_aload_n {q : Fin 4} {x : Nat} (hd : decode cc pc = .ok (.aload_n q, 1)) (hl0 : lv.lookup (q : Nat) = some (.ref x)) (k : RW y cc nL ret rm B Q Z D E ce sl (pc + 1) lv (.ref x :: st)) : RW y cc nL ret rm B Q Z D E ce sl pc lv st := fun p l e s m args below meth c G dA H locs ls C hM hS hl hA => lv_aload_n C.1 C.2.1 hd rfl (lg_at hl hl0) (k p l e s m args below meth c G dA H locs ls C hM hS hl hA)
theorem r_aload {i : Nat} {x : Nat} (hd : decode cc pc = .ok (.aload i, 2)) (hl0 : lv.lookup i = some (.ref x)) (k : RW y cc nL ret rm B Q Z D E ce sl (pc + 2) lv (.ref x :: st)) : RW y cc nL ret rm B Q Z D E ce sl pc lv st := fun p l e s m args below meth c G dA H locs ls C hM hS hl hA => lv_aload C.1 C.2.1 hd (lg_at hl hl0) (k p l e s m args below meth c G dA H locs ls C hM hS hl hA)
theorem r_istore_n {j : Fin 4} {x : Int32} (lv' : List (Nat × Value)) (hd : decode cc pc = .ok (.istore_n j, 1)) (hn : (j : Nat) < nL) (h' : ((j : Nat), Value.int x) :: lv.filter (fun q => !(q.1 == (j : Nat)) && !(q.1 + 1 == (j : Nat) && q.2.category == 2)) = lv') (k : RW y cc nL ret rm B Q Z D E ce sl (pc + 1) lv' st) : RW y cc nL ret rm B Q Z D E ce sl pc lv (.int x :: st) := fun p l e s m args below meth c G dA H locs ls C hM hS hl hA => lv_istore_n C.1 C.2.1 hd rfl hl hn h' (fun ls hl => k p l e s m args below meth c G dA H locs ls C hM hS hl hA)
theorem r_istore {i : Nat} {x : Int32} (lv' : List (Nat × Value)) (hd : decode cc pc = .ok (.istore i, 2)) (hn : i < nL) (h' : (i, Value.int x) :: lv.filter (fun q => !(q.1 == i) && !(q.1 + 1 == i && q.2.category == 2)) = lv') (k : RW y cc nL ret rm B Q Z D E ce sl (pc + 2) lv' st) : RW y cc nL ret rm B Q Z D E ce sl pc lv (.int x :: st) := fun p l e s m args below meth c G dA H locs ls C hM hS hl hA => lv_istore C.1 C.2.1 hd hl hn h' (fun ls hl => k p l e s m args below meth c G dA H locs ls C hM hS hl hA)
theorem r_astore_n {j : Fin 4} {x : Nat} (lv' : List (Nat × Value)) (hd : decode cc pc = .ok (.astore_n j, 1)) (hn : (j : Nat) < nL) (h' : ((j : Nat), Value.ref x) :: lv.filter (fun q => !(q.1 == (j : Nat)) && !(q.1 + 1 == (j : Nat) && q.2.category == 2)) = lv') (k : RW y cc nL ret rm B Q Z D E ce sl (pc + 1) lv' st) : RW y cc nL ret rm B Q Z D E ce sl pc lv (.ref x :: st) := fun p l e s m args below meth c G dA H locs ls C hM hS hl hA => lv_astore_n C.1 C.2.1 hd rfl hl hn h' (fun ls hl => k p l e s m args below meth c G dA H locs ls C hM hS hl hA)
theorem r_astore {i : Nat} {x : Nat} (lv' : List (Nat × Value)) (hd : decode cc pc = .ok (.astore i, 2)) (hn : i < nL) (h' : (i, Value.ref x) :: lv.filter (fun q => !(q.1 == i) && !(q.1 + 1 == i && q.2.category == 2)) = lv') (k : RW y cc nL ret rm B Q Z D E ce sl (pc + 2) lv' st) : RW y cc nL ret rm B Q Z D E ce sl pc lv (.ref x :: st) := fun p l e s m args below meth c G dA H locs ls C hM hS hl hA => lv_astore C.1 C.2.1 hd hl hn h' (fun ls hl => k p l e s m args below meth c G dA H locs ls C hM hS hl hA)
theorem r_lstore_n {j : Fin 4} {x : Int64} (lv' : List (Nat × Value)) (hd : decode cc pc = .ok (.lstore_n j, 1)) (hn : (j : Nat) + 1 < nL) (h' : ((j : Nat), Value.long x) :: lv.filter (fun q => !(q.1 == (j : Nat)) && (!(q.1 == (j : Nat) + 1) && !(q.1 + 1 == (j : Nat) && q.2.category == 2))) = lv') (k : RW y cc nL ret rm B Q Z D E ce sl (pc + 1) lv' st) : RW y cc nL ret rm B Q Z D E ce sl pc lv (.long x :: st) := fun p l e s m args below meth c G dA H locs ls C hM hS hl hA => lv_lstore_n C.1 C.2.1 hd rfl hl hn h' (fun ls hl => k p l e s m args below meth c G dA H locs ls C hM hS hl hA)
theorem r_lstore {i : Nat} {x : Int64} (lv' : List (Nat × Value)) (hd : decode cc pc = .ok (.lstore i, 2)) (hn : i + 1 < nL) (h' : (i, Value.long x) :: lv.filter (fun q => !(q.1 == i) && (!(q.1 == i + 1) && !(q.1 + 1 == i && q.2.category == 2))) = lv') (k : RW y cc nL ret rm B Q Z D E ce sl (pc + 2) lv' st) : RW y cc nL ret rm B Q Z D E ce sl pc lv (.long x :: st) := fun p l e s m args below meth c G dA H locs ls C hM hS hl hA => lv_lstore C.1 C.2.1 hd hl hn h' (fun ls hl => k p l e s m args below meth c G dA H locs ls C hM hS hl hA)
theorem lg_ix {lv : List (Nat × Value)} {i : Nat} {v : Value} (h : lv.lookup i = some v) : ∃ k : Nat, lv[k]? = some (i, v) := List.getElem?_of_mem (lg_mem h)
theorem r_iinc {i : Nat} {n : Int} {x : Int32} (v : Int32) (lv' : List (Nat × Value)) (hd : decode cc pc = .ok (.iinc i n, 3)) (hl0 : lv.lookup i = some (.int x)) (hv : x + Int32.ofInt n = v) (hn : i < nL) (h' : (i, Value.int v) :: lv.filter (fun q => !(q.1 == i) && !(q.1 + 1 == i && q.2.category == 2)) = lv') (k : RW y cc nL ret rm B Q Z D E ce sl (pc + 3) lv' st) : RW y cc nL ret rm B Q Z D E ce sl pc lv st := fun p l e s m args below meth c G dA H locs ls C hM hS hl hA => (lg_ix hl0).elim (fun _ hk => lv_iinc C.1 C.2.1 hd hl hk hv hn h' (fun ls hl => k p l e s m args below meth c G dA H locs ls C hM hS hl hA))
theorem r_iadd {x b : Int32} (hd : decode cc pc = .ok (.iadd, 1))  (k : ∀ z : Int32, z = x + b → RW y cc nL ret rm B Q Z D E ce sl (pc + 1) lv (.int z :: st)) : RW y cc nL ret rm B Q Z D E ce sl pc lv (.int b :: .int x :: st) := fun p l e s m args below meth c G dA H locs ls C hM hS hl hA => lv_iadd C.1 C.2.1 hd  (k _ rfl p l e s m args below meth c G dA H locs ls C hM hS hl hA)
theorem r_isub {x b : Int32} (hd : decode cc pc = .ok (.isub, 1))  (k : ∀ z : Int32, z = x - b → RW y cc nL ret rm B Q Z D E ce sl (pc + 1) lv (.int z :: st)) : RW y cc nL ret rm B Q Z D E ce sl pc lv (.int b :: .int x :: st) := fun p l e s m args below meth c G dA H locs ls C hM hS hl hA => lv_isub C.1 C.2.1 hd  (k _ rfl p l e s m args below meth c G dA H locs ls C hM hS hl hA)
theorem r_imul {x b : Int32} (hd : decode cc pc = .ok (.imul, 1))  (k : ∀ z : Int32, z = x * b → RW y cc nL ret rm B Q Z D E ce sl (pc + 1) lv (.int z :: st)) : RW y cc nL ret rm B Q Z D E ce sl pc lv (.int b :: .int x :: st) := fun p l e s m args below meth c G dA H locs ls C hM hS hl hA => lv_imul C.1 C.2.1 hd  (k _ rfl p l e s m args below meth c G dA H locs ls C hM hS hl hA)
theorem r_iand {x b : Int32} (hd : decode cc pc = .ok (.iand, 1))  (k : ∀ z : Int32, z = x &&& b → RW y cc nL ret rm B Q Z D E ce sl (pc + 1) lv (.int z :: st)) : RW y cc nL ret rm B Q Z D E ce sl pc lv (.int b :: .int x :: st) := fun p l e s m args below meth c G dA H locs ls C hM hS hl hA => lv_iand C.1 C.2.1 hd  (k _ rfl p l e s m args below meth c G dA H locs ls C hM hS hl hA)
theorem r_ior {x b : Int32} (hd : decode cc pc = .ok (.ior, 1))  (k : ∀ z : Int32, z = x ||| b → RW y cc nL ret rm B Q Z D E ce sl (pc + 1) lv (.int z :: st)) : RW y cc nL ret rm B Q Z D E ce sl pc lv (.int b :: .int x :: st) := fun p l e s m args below meth c G dA H locs ls C hM hS hl hA => lv_ior C.1 C.2.1 hd  (k _ rfl p l e s m args below meth c G dA H locs ls C hM hS hl hA)
theorem r_ixor {x b : Int32} (hd : decode cc pc = .ok (.ixor, 1))  (k : ∀ z : Int32, z = x ^^^ b → RW y cc nL ret rm B Q Z D E ce sl (pc + 1) lv (.int z :: st)) : RW y cc nL ret rm B Q Z D E ce sl pc lv (.int b :: .int x :: st) := fun p l e s m args below meth c G dA H locs ls C hM hS hl hA => lv_ixor C.1 C.2.1 hd  (k _ rfl p l e s m args below meth c G dA H locs ls C hM hS hl hA)
theorem r_ishl {x b : Int32} (hd : decode cc pc = .ok (.ishl, 1))  (k : ∀ z : Int32, z = x <<< (b &&& 31) → RW y cc nL ret rm B Q Z D E ce sl (pc + 1) lv (.int z :: st)) : RW y cc nL ret rm B Q Z D E ce sl pc lv (.int b :: .int x :: st) := fun p l e s m args below meth c G dA H locs ls C hM hS hl hA => lv_ishl C.1 C.2.1 hd  (k _ rfl p l e s m args below meth c G dA H locs ls C hM hS hl hA)
theorem r_ishr {x b : Int32} (hd : decode cc pc = .ok (.ishr, 1))  (k : ∀ z : Int32, z = x >>> (b &&& 31) → RW y cc nL ret rm B Q Z D E ce sl (pc + 1) lv (.int z :: st)) : RW y cc nL ret rm B Q Z D E ce sl pc lv (.int b :: .int x :: st) := fun p l e s m args below meth c G dA H locs ls C hM hS hl hA => lv_ishr C.1 C.2.1 hd  (k _ rfl p l e s m args below meth c G dA H locs ls C hM hS hl hA)
theorem r_irem {x b : Int32} (hd : decode cc pc = .ok (.irem, 1)) (hne : ¬ b = 0) (k : ∀ z : Int32, z = x - x / b * b → RW y cc nL ret rm B Q Z D E ce sl (pc + 1) lv (.int z :: st)) : RW y cc nL ret rm B Q Z D E ce sl pc lv (.int b :: .int x :: st) := fun p l e s m args below meth c G dA H locs ls C hM hS hl hA => lv_irem C.1 C.2.1 hd hne (k _ rfl p l e s m args below meth c G dA H locs ls C hM hS hl hA)
theorem r_ineg {x : Int32} (hd : decode cc pc = .ok (.ineg, 1))  (k : ∀ z : Int32, z = -x → RW y cc nL ret rm B Q Z D E ce sl (pc + 1) lv (.int z :: st)) : RW y cc nL ret rm B Q Z D E ce sl pc lv (.int x :: st) := fun p l e s m args below meth c G dA H locs ls C hM hS hl hA => lv_ineg C.1 C.2.1 hd  (k _ rfl p l e s m args below meth c G dA H locs ls C hM hS hl hA)
theorem r_ladd {x b : Int64} (hd : decode cc pc = .ok (.ladd, 1))  (k : ∀ z : Int64, z = x + b → RW y cc nL ret rm B Q Z D E ce sl (pc + 1) lv (.long z :: st)) : RW y cc nL ret rm B Q Z D E ce sl pc lv (.long b :: .long x :: st) := fun p l e s m args below meth c G dA H locs ls C hM hS hl hA => lv_ladd C.1 C.2.1 hd  (k _ rfl p l e s m args below meth c G dA H locs ls C hM hS hl hA)
theorem r_lsub {x b : Int64} (hd : decode cc pc = .ok (.lsub, 1))  (k : ∀ z : Int64, z = x - b → RW y cc nL ret rm B Q Z D E ce sl (pc + 1) lv (.long z :: st)) : RW y cc nL ret rm B Q Z D E ce sl pc lv (.long b :: .long x :: st) := fun p l e s m args below meth c G dA H locs ls C hM hS hl hA => lv_lsub C.1 C.2.1 hd  (k _ rfl p l e s m args below meth c G dA H locs ls C hM hS hl hA)
theorem r_lmul {x b : Int64} (hd : decode cc pc = .ok (.lmul, 1))  (k : ∀ z : Int64, z = x * b → RW y cc nL ret rm B Q Z D E ce sl (pc + 1) lv (.long z :: st)) : RW y cc nL ret rm B Q Z D E ce sl pc lv (.long b :: .long x :: st) := fun p l e s m args below meth c G dA H locs ls C hM hS hl hA => lv_lmul C.1 C.2.1 hd  (k _ rfl p l e s m args below meth c G dA H locs ls C hM hS hl hA)
theorem r_lrem {x b : Int64} (hd : decode cc pc = .ok (.lrem, 1)) (hne : ¬ b = 0) (k : ∀ z : Int64, z = x - x / b * b → RW y cc nL ret rm B Q Z D E ce sl (pc + 1) lv (.long z :: st)) : RW y cc nL ret rm B Q Z D E ce sl pc lv (.long b :: .long x :: st) := fun p l e s m args below meth c G dA H locs ls C hM hS hl hA => lv_lrem C.1 C.2.1 hd hne (k _ rfl p l e s m args below meth c G dA H locs ls C hM hS hl hA)
theorem r_ldiv {x b : Int64} (hd : decode cc pc = .ok (.ldiv, 1)) (hne : ¬ b = 0) (k : ∀ z : Int64, z = x / b → RW y cc nL ret rm B Q Z D E ce sl (pc + 1) lv (.long z :: st)) : RW y cc nL ret rm B Q Z D E ce sl pc lv (.long b :: .long x :: st) := fun p l e s m args below meth c G dA H locs ls C hM hS hl hA => lv_ldiv C.1 C.2.1 hd hne (k _ rfl p l e s m args below meth c G dA H locs ls C hM hS hl hA)
theorem r_iushr {x b : Int32} (hd : decode cc pc = .ok (.iushr, 1)) (k : ∀ z : Int32, z = (x.toUInt32 >>> (b.toUInt32 &&& Int32.toUInt32 31)).toInt32 → RW y cc nL ret rm B Q Z D E ce sl (pc + 1) lv (.int z :: st)) : RW y cc nL ret rm B Q Z D E ce sl pc lv (.int b :: .int x :: st) := fun p l e s m args below meth c G dA H locs ls C hM hS hl hA => lv_iushr C.1 C.2.1 hd rfl (k _ rfl p l e s m args below meth c G dA H locs ls C hM hS hl hA)
theorem r_i2l {x : Int32} (hd : decode cc pc = .ok (.i2l, 1)) (k : ∀ z : Int64, z = x.toInt64 → RW y cc nL ret rm B Q Z D E ce sl (pc + 1) lv (.long z :: st)) : RW y cc nL ret rm B Q Z D E ce sl pc lv (.int x :: st) := fun p l e s m args below meth c G dA H locs ls C hM hS hl hA => lv_i2l C.1 C.2.1 hd rfl (k _ rfl p l e s m args below meth c G dA H locs ls C hM hS hl hA)
theorem r_l2i {x : Int64} (hd : decode cc pc = .ok (.l2i, 1)) (k : ∀ z : Int32, z = x.toInt32 → RW y cc nL ret rm B Q Z D E ce sl (pc + 1) lv (.int z :: st)) : RW y cc nL ret rm B Q Z D E ce sl pc lv (.long x :: st) := fun p l e s m args below meth c G dA H locs ls C hM hS hl hA => lv_l2i C.1 C.2.1 hd rfl (k _ rfl p l e s m args below meth c G dA H locs ls C hM hS hl hA)
theorem r_i2b {x : Int32} (hd : decode cc pc = .ok (.i2b, 1)) (k : ∀ z : Int32, z = x.toInt8.toInt32 → RW y cc nL ret rm B Q Z D E ce sl (pc + 1) lv (.int z :: st)) : RW y cc nL ret rm B Q Z D E ce sl pc lv (.int x :: st) := fun p l e s m args below meth c G dA H locs ls C hM hS hl hA => lv_i2b C.1 C.2.1 hd rfl (k _ rfl p l e s m args below meth c G dA H locs ls C hM hS hl hA)
theorem r_i2s {x : Int32} (hd : decode cc pc = .ok (.i2s, 1)) (k : ∀ z : Int32, z = x.toInt16.toInt32 → RW y cc nL ret rm B Q Z D E ce sl (pc + 1) lv (.int z :: st)) : RW y cc nL ret rm B Q Z D E ce sl pc lv (.int x :: st) := fun p l e s m args below meth c G dA H locs ls C hM hS hl hA => lv_i2s C.1 C.2.1 hd rfl (k _ rfl p l e s m args below meth c G dA H locs ls C hM hS hl hA)
theorem r_lcmp {x b : Int64} (hd : decode cc pc = .ok (.lcmp, 1)) (k : ∀ z : Int32, z = lg_cmp x b → RW y cc nL ret rm B Q Z D E ce sl (pc + 1) lv (.int z :: st)) : RW y cc nL ret rm B Q Z D E ce sl pc lv (.long b :: .long x :: st) := fun p l e s m args below meth c G dA H locs ls C hM hS hl hA => W.lcmp C.1 C.2.1 hd (k _ rfl p l e s m args below meth c G dA H locs ls C hM hS hl hA)
theorem r_dup {v : Value} (hd : decode cc pc = .ok (.dup, 1)) (hv : v.category = 1) (k : RW y cc nL ret rm B Q Z D E ce sl (pc + 1) lv (v :: v :: st)) : RW y cc nL ret rm B Q Z D E ce sl pc lv (v :: st) := fun p l e s m args below meth c G dA H locs ls C hM hS hl hA => lv_dup C.1 C.2.1 hd hv (k p l e s m args below meth c G dA H locs ls C hM hS hl hA)
theorem r_dup2 {v w : Value} (hd : decode cc pc = .ok (.dup2, 1)) (hv : v.category = 1) (hw : w.category = 1) (k : RW y cc nL ret rm B Q Z D E ce sl (pc + 1) lv (v :: w :: v :: w :: st)) : RW y cc nL ret rm B Q Z D E ce sl pc lv (v :: w :: st) := fun p l e s m args below meth c G dA H locs ls C hM hS hl hA => lv_dup2_11 C.1 C.2.1 hd hv hw (k p l e s m args below meth c G dA H locs ls C hM hS hl hA)
theorem r_goto {off : Int} {tgt : Nat} (hd : decode cc pc = .ok (.goto off, 3)) (ht : (pc : Int) + off = (tgt : Int)) (k : RW y cc nL ret rm B Q Z D E ce sl tgt lv st) : RW y cc nL ret rm B Q Z D E ce sl pc lv st := fun p l e s m args below meth c G dA H locs ls C hM hS hl hA => lv_goto C.1 C.2.1 hd ht (k p l e s m args below meth c G dA H locs ls C hM hS hl hA)
theorem r_if_eq {x : Int32} {off : Int} {tgt : Nat} (hd : decode cc pc = .ok (.ifCond .eq off, 3)) (ht : (pc : Int) + off = (tgt : Int)) (kt : x = 0 → RW y cc nL ret rm B Q Z D E ce sl tgt lv st) (kf : ¬ x = 0 → RW y cc nL ret rm B Q Z D E ce sl (pc + 3) lv st) : RW y cc nL ret rm B Q Z D E ce sl pc lv (.int x :: st) := fun p l e s m args below meth c G dA H locs ls C hM hS hl hA => lv_if_eq C.1 C.2.1 hd ht (fun q => kt q p l e s m args below meth c G dA H locs ls C hM hS hl hA) (fun q => kf q p l e s m args below meth c G dA H locs ls C hM hS hl hA)
theorem r_if_ne {x : Int32} {off : Int} {tgt : Nat} (hd : decode cc pc = .ok (.ifCond .ne off, 3)) (ht : (pc : Int) + off = (tgt : Int)) (kt : ¬ x = 0 → RW y cc nL ret rm B Q Z D E ce sl tgt lv st) (kf : x = 0 → RW y cc nL ret rm B Q Z D E ce sl (pc + 3) lv st) : RW y cc nL ret rm B Q Z D E ce sl pc lv (.int x :: st) := fun p l e s m args below meth c G dA H locs ls C hM hS hl hA => lv_if_ne C.1 C.2.1 hd ht (fun q => kt q p l e s m args below meth c G dA H locs ls C hM hS hl hA) (fun q => kf q p l e s m args below meth c G dA H locs ls C hM hS hl hA)
theorem r_if_lt {x : Int32} {off : Int} {tgt : Nat} (hd : decode cc pc = .ok (.ifCond .lt off, 3)) (ht : (pc : Int) + off = (tgt : Int)) (kt : x < 0 → RW y cc nL ret rm B Q Z D E ce sl tgt lv st) (kf : ¬ x < 0 → RW y cc nL ret rm B Q Z D E ce sl (pc + 3) lv st) : RW y cc nL ret rm B Q Z D E ce sl pc lv (.int x :: st) := fun p l e s m args below meth c G dA H locs ls C hM hS hl hA => lv_if_lt C.1 C.2.1 hd ht (fun q => kt q p l e s m args below meth c G dA H locs ls C hM hS hl hA) (fun q => kf q p l e s m args below meth c G dA H locs ls C hM hS hl hA)
theorem r_if_ge {x : Int32} {off : Int} {tgt : Nat} (hd : decode cc pc = .ok (.ifCond .ge off, 3)) (ht : (pc : Int) + off = (tgt : Int)) (kt : 0 ≤ x → RW y cc nL ret rm B Q Z D E ce sl tgt lv st) (kf : ¬ 0 ≤ x → RW y cc nL ret rm B Q Z D E ce sl (pc + 3) lv st) : RW y cc nL ret rm B Q Z D E ce sl pc lv (.int x :: st) := fun p l e s m args below meth c G dA H locs ls C hM hS hl hA => lv_if_ge C.1 C.2.1 hd ht (fun q => kt q p l e s m args below meth c G dA H locs ls C hM hS hl hA) (fun q => kf q p l e s m args below meth c G dA H locs ls C hM hS hl hA)
theorem r_if_gt {x : Int32} {off : Int} {tgt : Nat} (hd : decode cc pc = .ok (.ifCond .gt off, 3)) (ht : (pc : Int) + off = (tgt : Int)) (kt : 0 < x → RW y cc nL ret rm B Q Z D E ce sl tgt lv st) (kf : ¬ 0 < x → RW y cc nL ret rm B Q Z D E ce sl (pc + 3) lv st) : RW y cc nL ret rm B Q Z D E ce sl pc lv (.int x :: st) := fun p l e s m args below meth c G dA H locs ls C hM hS hl hA => lv_if_gt C.1 C.2.1 hd ht (fun q => kt q p l e s m args below meth c G dA H locs ls C hM hS hl hA) (fun q => kf q p l e s m args below meth c G dA H locs ls C hM hS hl hA)
theorem r_if_le {x : Int32} {off : Int} {tgt : Nat} (hd : decode cc pc = .ok (.ifCond .le off, 3)) (ht : (pc : Int) + off = (tgt : Int)) (kt : x ≤ 0 → RW y cc nL ret rm B Q Z D E ce sl tgt lv st) (kf : ¬ x ≤ 0 → RW y cc nL ret rm B Q Z D E ce sl (pc + 3) lv st) : RW y cc nL ret rm B Q Z D E ce sl pc lv (.int x :: st) := fun p l e s m args below meth c G dA H locs ls C hM hS hl hA => lv_if_le C.1 C.2.1 hd ht (fun q => kt q p l e s m args below meth c G dA H locs ls C hM hS hl hA) (fun q => kf q p l e s m args below meth c G dA H locs ls C hM hS hl hA)
theorem r_icmp_eq {x b : Int32} {off : Int} {tgt : Nat} (hd : decode cc pc = .ok (.if_icmp .eq off, 3)) (ht : (pc : Int) + off = (tgt : Int)) (kt : x = b → RW y cc nL ret rm B Q Z D E ce sl tgt lv st) (kf : ¬ x = b → RW y cc nL ret rm B Q Z D E ce sl (pc + 3) lv st) : RW y cc nL ret rm B Q Z D E ce sl pc lv (.int b :: .int x :: st) := fun p l e s m args below meth c G dA H locs ls C hM hS hl hA => lv_icmp_eq C.1 C.2.1 hd ht (fun q => kt q p l e s m args below meth c G dA H locs ls C hM hS hl hA) (fun q => kf q p l e s m args below meth c G dA H locs ls C hM hS hl hA)
theorem r_icmp_ne {x b : Int32} {off : Int} {tgt : Nat} (hd : decode cc pc = .ok (.if_icmp .ne off, 3)) (ht : (pc : Int) + off = (tgt : Int)) (kt : ¬ x = b → RW y cc nL ret rm B Q Z D E ce sl tgt lv st) (kf : x = b → RW y cc nL ret rm B Q Z D E ce sl (pc + 3) lv st) : RW y cc nL ret rm B Q Z D E ce sl pc lv (.int b :: .int x :: st) := fun p l e s m args below meth c G dA H locs ls C hM hS hl hA => lv_icmp_ne C.1 C.2.1 hd ht (fun q => kt q p l e s m args below meth c G dA H locs ls C hM hS hl hA) (fun q => kf q p l e s m args below meth c G dA H locs ls C hM hS hl hA)
theorem r_icmp_lt {x b : Int32} {off : Int} {tgt : Nat} (hd : decode cc pc = .ok (.if_icmp .lt off, 3)) (ht : (pc : Int) + off = (tgt : Int)) (kt : x < b → RW y cc nL ret rm B Q Z D E ce sl tgt lv st) (kf : ¬ x < b → RW y cc nL ret rm B Q Z D E ce sl (pc + 3) lv st) : RW y cc nL ret rm B Q Z D E ce sl pc lv (.int b :: .int x :: st) := fun p l e s m args below meth c G dA H locs ls C hM hS hl hA => lv_icmp_lt C.1 C.2.1 hd ht (fun q => kt q p l e s m args below meth c G dA H locs ls C hM hS hl hA) (fun q => kf q p l e s m args below meth c G dA H locs ls C hM hS hl hA)
theorem r_icmp_ge {x b : Int32} {off : Int} {tgt : Nat} (hd : decode cc pc = .ok (.if_icmp .ge off, 3)) (ht : (pc : Int) + off = (tgt : Int)) (kt : b ≤ x → RW y cc nL ret rm B Q Z D E ce sl tgt lv st) (kf : ¬ b ≤ x → RW y cc nL ret rm B Q Z D E ce sl (pc + 3) lv st) : RW y cc nL ret rm B Q Z D E ce sl pc lv (.int b :: .int x :: st) := fun p l e s m args below meth c G dA H locs ls C hM hS hl hA => lv_icmp_ge C.1 C.2.1 hd ht (fun q => kt q p l e s m args below meth c G dA H locs ls C hM hS hl hA) (fun q => kf q p l e s m args below meth c G dA H locs ls C hM hS hl hA)
theorem r_icmp_gt {x b : Int32} {off : Int} {tgt : Nat} (hd : decode cc pc = .ok (.if_icmp .gt off, 3)) (ht : (pc : Int) + off = (tgt : Int)) (kt : b < x → RW y cc nL ret rm B Q Z D E ce sl tgt lv st) (kf : ¬ b < x → RW y cc nL ret rm B Q Z D E ce sl (pc + 3) lv st) : RW y cc nL ret rm B Q Z D E ce sl pc lv (.int b :: .int x :: st) := fun p l e s m args below meth c G dA H locs ls C hM hS hl hA => lv_icmp_gt C.1 C.2.1 hd ht (fun q => kt q p l e s m args below meth c G dA H locs ls C hM hS hl hA) (fun q => kf q p l e s m args below meth c G dA H locs ls C hM hS hl hA)
theorem r_icmp_le {x b : Int32} {off : Int} {tgt : Nat} (hd : decode cc pc = .ok (.if_icmp .le off, 3)) (ht : (pc : Int) + off = (tgt : Int)) (kt : x ≤ b → RW y cc nL ret rm B Q Z D E ce sl tgt lv st) (kf : ¬ x ≤ b → RW y cc nL ret rm B Q Z D E ce sl (pc + 3) lv st) : RW y cc nL ret rm B Q Z D E ce sl pc lv (.int b :: .int x :: st) := fun p l e s m args below meth c G dA H locs ls C hM hS hl hA => lv_icmp_le C.1 C.2.1 hd ht (fun q => kt q p l e s m args below meth c G dA H locs ls C hM hS hl hA) (fun q => kf q p l e s m args below meth c G dA H locs ls C hM hS hl hA)
theorem r_tabIn {dflt lo hi : Int} {offs : Array Int} {len : Nat} {x : Int32} {off : Int} {tgt : Nat} (hd : decode cc pc = .ok (.tableswitch dflt lo hi offs, len)) (h1 : ¬ x.toInt < lo) (h2 : ¬ hi < x.toInt) (ho : offs[(x.toInt - lo).toNat]? = some off) (ht : (pc : Int) + off = (tgt : Int)) (k : RW y cc nL ret rm B Q Z D E ce sl tgt lv st) : RW y cc nL ret rm B Q Z D E ce sl pc lv (.int x :: st) := fun p l e s m args below meth c G dA H locs ls C hM hS hl hA => lv_tableIn C.1 C.2.1 hd h1 h2 ho ht (k p l e s m args below meth c G dA H locs ls C hM hS hl hA)
theorem r_tabOut {dflt lo hi : Int} {offs : Array Int} {len : Nat} {x : Int32} {tgt : Nat} (hd : decode cc pc = .ok (.tableswitch dflt lo hi offs, len)) (h : x.toInt < lo ∨ hi < x.toInt) (ht : (pc : Int) + dflt = (tgt : Int)) (k : RW y cc nL ret rm B Q Z D E ce sl tgt lv st) : RW y cc nL ret rm B Q Z D E ce sl pc lv (.int x :: st) := fun p l e s m args below meth c G dA H locs ls C hM hS hl hA => lv_tableOut C.1 C.2.1 hd h ht (k p l e s m args below meth c G dA H locs ls C hM hS hl hA)
theorem r_lookup {dflt : Int} {ps : Array (Int × Int)} {len : Nat} {x : Int32} {off : Int} {tgt : Nat} (hd : decode cc pc = .ok (.lookupswitch dflt ps, len)) (hp : (ps.toList.zip (ps.toList.drop 1)).all (fun (a, next) => a.1 < next.1) = true) (ho : Op.lookupswitch.offset ps.toList dflt x.toInt = off) (ht : (pc : Int) + off = (tgt : Int)) (k : RW y cc nL ret rm B Q Z D E ce sl tgt lv st) : RW y cc nL ret rm B Q Z D E ce sl pc lv (.int x :: st) := fun p l e s m args below meth c G dA H locs ls C hM hS hl hA => lv_lookup C.1 C.2.1 hd hp ho ht (k p l e s m args below meth c G dA H locs ls C hM hS hl hA)
theorem q_fsk {B c : Nat} {r : Nat → Option Nat} {d : Nat → Int32} {k : Nat} (h : k < q_N c) : (q_fs B c r d)[k]? = some (q_fv B (q_ty c k) (d k) (r k)) := by
  unfold q_fs
  rw [List.getElem?_map, List.getElem?_range h]
  rfl
theorem q_wfo {B : Nat} {dA : Nat → ClassId} {Z : ZZ} {D : DD} {E : EE} {o : Nat} {kd : Nat × Nat} (h : Z.2.1 o = kd) (hc : kd.1 < 7) : q_wf B dA Z D E o = (B + o, .inr (kd.1, q_fs B kd.1 (Z.2.2 o) (D o))) := by
  unfold q_wf q_cel
  rw [h, if_pos hc]
theorem q_wfi {B : Nat} {dA : Nat → ClassId} {Z : ZZ} {D : DD} {E : EE} {o n a : Nat} (h : Z.2.1 o = (a, n)) (ha : a = 10 ∨ a = 12) : q_wf B dA Z D E o = (B + o, .inl (dA a, n, .inl (D o))) := by
  unfold q_wf q_cel
  rw [h]
  rcases ha with rfl | rfl <;> rfl
theorem q_wfl {B : Nat} {dA : Nat → ClassId} {Z : ZZ} {D : DD} {E : EE} {o n : Nat} (h : Z.2.1 o = (11, n)) : q_wf B dA Z D E o = (B + o, .inl (dA 11, n, .inr (.inl (E o)))) := by
  unfold q_wf q_cel
  rw [h]
  rfl
theorem q_wfq {B : Nat} {dA : Nat → ClassId} {Z : ZZ} {D : DD} {E : EE} {o n a : Nat} (h : Z.2.1 o = (a, n)) (ha : 13 ≤ a) : q_wf B dA Z D E o = (B + o, .inl (dA a, n, .inr (.inr (.inr (.inr (fun j => (Z.2.2 o j).map (fun i => B + i))))))) := by
  unfold q_wf q_cel
  rw [h]
  simp only
  rw [if_neg (by omega), if_neg (by omega), if_pos ha]
theorem r_get {i o ci nf k : Nat} (hw : Cond.fieldLink y.cls i (q_T ci k).1 (q_T ci k).2.1 (q_T ci k).2.2.1 ∈ BW) (hd : decode cc pc = .ok (.getfield i, 3)) (ho : o < Z.1) (hz : Z.2.1 o = (ci, nf)) (hc : ci < 7) (hk : k < q_N ci) (v : Value) (hv : q_fv B (q_ty ci k) (D o k) (Z.2.2 o k) = v) (kk : RW y cc nL ret rm B Q Z D E ce sl (pc + 3) lv (v :: st)) : RW y cc nL ret rm B Q Z D E ce sl pc lv (.ref (B + o) :: st) := fun p l e s m args below meth c G dA H locs ls C hM hS hl hA => va_get C.1 C.2.1 C.2.2.2.2.2.1 (q_in ci hc) C.2.2.2.2.1 C.2.2.2.2.2.2.2.1.1 hM o ((q_get ho).trans (congrArg some (q_wfo hz hc))) (q_cl ci hc) k hk (C.2.2.2.2.2.1 _ hw) (fun _ h => h) (hv ▸ q_fsk hk) hd (kk p l e s m args below meth c G dA H locs ls C hM hS hl hA)
theorem r_getI {i o ci nf k : Nat} (hw : Cond.fieldLink y.cls i (q_T ci k).1 (q_T ci k).2.1 (q_T ci k).2.2.1 ∈ BW) (hd : decode cc pc = .ok (.getfield i, 3)) (ho : o < Z.1) (hz : Z.2.1 o = (ci, nf)) (hc : ci < 7) (hk : k < q_N ci) (ht : q_ty ci k = .int) (kk : ∀ z : Int32, z = D o k → RW y cc nL ret rm B Q Z D E ce sl (pc + 3) lv (.int z :: st)) : RW y cc nL ret rm B Q Z D E ce sl pc lv (.ref (B + o) :: st) := r_get hw hd ho hz hc hk (.int (D o k)) (by rw [ht]; rfl) (kk _ rfl)
theorem q_fsset {B c : Nat} {r r' : Nat → Option Nat} {d d' : Nat → Int32} {k : Nat} {v : Value} (hv : q_fv B (q_ty c k) (d' k) (r' k) = v) (hn : ∀ j, j ≠ k → d' j = d j ∧ r' j = r j) : (q_fs B c r d).set k v = q_fs B c r' d' := by
  subst hv
  apply List.ext_getElem?
  intro j
  by_cases hj : j = k
  · subst hj
    by_cases hl : j < q_N c
    · rw [List.getElem?_set_self (by simpa [q_fs] using hl), q_fsk hl]
    · rw [List.getElem?_eq_none (by simpa [q_fs] using hl), List.getElem?_eq_none (by simpa [q_fs] using hl)]
  · rw [List.getElem?_set_ne (Ne.symm hj)]
    unfold q_fs
    rw [List.getElem?_map, List.getElem?_map]
    obtain ⟨e1, e2⟩ := hn j hj
    by_cases hl : j < q_N c
    · rw [List.getElem?_range hl]; simp [e1, e2]
    · rw [List.getElem?_eq_none (by simpa using hl)]; rfl
theorem q_fsl {B c : Nat} {r : Nat → Option Nat} {d : Nat → Int32} : (q_fs B c r d).length = q_N c := by simp [q_fs]
theorem up2_s {α : Type} {D : Nat → Nat → α} {o k : Nat} {v : α} : up2 D o k v o k = v := if_pos ⟨rfl, rfl⟩
theorem up2_n {α : Type} {D : Nat → Nat → α} {o k i j : Nat} {v : α} (h : ¬ (i = o ∧ j = k)) : up2 D o k v i j = D i j := if_neg h
theorem up2_o {α : Type} {D : Nat → Nat → α} {o k i : Nat} {v : α} (h : i ≠ o) : up2 D o k v i = D i := funext fun j => up2_n (fun q => h q.1)
theorem q_wfn {B : Nat} {dA : Nat → ClassId} {Z : ZZ} {D D' : DD} {E E' : EE} {i : Nat} (h : D' i = D i) (h' : E' i = E i) : q_wf B dA Z D' E' i = q_wf B dA Z D E i := by
  unfold q_wf
  rw [h, h']

theorem W.size {p : Program} {l : Launch} {e : Env} {R : Room} {s : State} {m : MethodId} {args : Array Value} {below : List Frame} {meth : Method} {c : Code} {H : Heap} {locs : List Loc} {cells slots : Nat} {Qf : State → Prop} {g : JFrame} (h : H.size ≤ s.heap.size + cells → W p l e R s m args below meth c H locs cells slots Qf g) : W p l e R s m args below meth c H locs cells slots Qf g := by
  intro T hT X
  exact h (by rw [← hT]; exact X.heapSize) T hT X
theorem r_putI {i o ci nf k : Nat} {x : Int32} (hw : Cond.fieldLink y.cls i (q_T ci k).1 (q_T ci k).2.1 (q_T ci k).2.2.1 ∈ BW) (hd : decode cc pc = .ok (.putfield i, 3)) (ho : o < Z.1) (hz : Z.2.1 o = (ci, nf)) (hc : ci < 7) (hk : k < q_N ci) (ht : q_ty ci k = .int) (hf : (q_T ci k).2.2.2 = false) (kk : ∀ D' : DD, D' = up2 D o k x → RW y cc nL ret rm B Q Z D' E ce sl (pc + 3) lv st) : RW y cc nL ret rm B Q Z D E ce sl pc lv (.int x :: .ref (B + o) :: st) := fun p l e s m args below meth c G dA H locs ls C hM hS hl hA => by
  have hs : (q_w B dA Z D E).set o (B + o, .inr (ci, (q_fs B ci (Z.2.2 o) (D o)).set k (.int x))) = q_w B dA Z (up2 D o k x) E := by
    refine q_set rfl ?_ (fun j hj => q_wfn (up2_o hj) rfl)
    rw [q_wfo hz hc]
    have hq : (q_fs B ci (Z.2.2 o) (D o)).set k (.int x) = q_fs B ci (Z.2.2 o) (up2 D o k x o) := q_fsset (by rw [ht]; show Value.int (up2 D o k x o k) = _; rw [up2_s]) (fun j hj => ⟨up2_n (fun q => hj q.2), rfl⟩)
    rw [hq]
  refine va_put C.1 C.2.1 C.2.2.2.2.2.1 (q_in ci hc) (q_ty ci) (q_tyok ci hc) (q_nm ci hc) C.2.2.2.2.1 C.2.2.2.2.2.2.2.1.1 hM q_D hS o ((q_get ho).trans (congrArg some (q_wfo hz hc))) (q_cl ci hc) k hk (C.2.2.2.2.2.1 _ hw) (fun _ h => h) hf (q_tyok ci hc k hk) (by rw [ht]; rfl) (by rw [ht]; rfl) (by rw [q_fsl]; exact hk) hd (fun H1 locs1 hP _ hS1 => ?_)
  rw [hs] at hP
  exact kk _ rfl p l e s m args below meth c G dA H1 locs1 ls C hP hS1 hl hA
theorem q_wfr {B : Nat} {dA : Nat → ClassId} {Z Z' : ZZ} {D : DD} {E : EE} {i : Nat} (h : Z'.2.1 i = Z.2.1 i) (h' : Z'.2.2 i = Z.2.2 i) : q_wf B dA Z' D E i = q_wf B dA Z D E i := by
  unfold q_wf
  rw [h, h']
theorem r_putR {i o ci nf k v : Nat} (hw : Cond.fieldLink y.cls i (q_T ci k).1 (q_T ci k).2.1 (q_T ci k).2.2.1 ∈ BW) (hd : decode cc pc = .ok (.putfield i, 3)) (ho : o < Z.1) (hz : Z.2.1 o = (ci, nf)) (hc : ci < 7) (hk : k < q_N ci) (ht : ∀ d : Int32, ∀ r, q_fv B (q_ty ci k) d r = va_rf (r.map (fun i => B + i))) (hi : y.name = "<init>") (hcl : (q_T ci k).1 = y.cls) (hfi : (q_T ci k).2.2.2 = true) (hnn : narrow (q_ty ci k) (.ref (B + v)) = .ref (B + v)) (hff : fits (q_ty ci k) (.ref (B + v)) = true) (kk : RW y cc nL ret rm B Q (Z.1, Z.2.1, up2 Z.2.2 o k (some v)) D E ce sl (pc + 3) lv st) : RW y cc nL ret rm B Q Z D E ce sl pc lv (.ref (B + v) :: .ref (B + o) :: st) := fun p l e s m args below meth c G dA H locs ls C hM hS hl hA => by
  have hs : (q_w B dA Z D E).set o (B + o, .inr (ci, (q_fs B ci (Z.2.2 o) (D o)).set k (.ref (B + v)))) = q_w B dA (Z.1, Z.2.1, up2 Z.2.2 o k (some v)) D E := by
    refine q_set rfl ?_ (fun j hj => q_wfr rfl (up2_o hj))
    rw [q_wfo (Z := (Z.1, Z.2.1, up2 Z.2.2 o k (some v))) hz hc]
    have hq : (q_fs B ci (Z.2.2 o) (D o)).set k (.ref (B + v)) = q_fs B ci (up2 Z.2.2 o k (some v) o) (D o) := q_fsset (by rw [ht, up2_s]; rfl) (fun j hj => ⟨rfl, up2_n (fun q => hj q.2)⟩)
    rw [hq]
  refine va_putF C.1 C.2.1 C.2.2.2.2.2.1 (q_in ci hc) (q_ty ci) (q_tyok ci hc) (q_nm ci hc) C.2.2.2.2.1 C.2.2.2.2.2.2.2.1.1 hM q_D hS o ((q_get ho).trans (congrArg some (q_wfo hz hc))) (q_cl ci hc) k hk (C.2.2.2.2.2.1 _ hw) (fun _ h => h) hfi (C.2.2.2.2.2.2.2.2.2.trans hi) hcl (q_tyok ci hc k hk) hnn hff (by rw [q_fsl]; exact hk) hd (fun H1 locs1 hP _ hS1 => ?_)
  rw [hs] at hP
  exact kk p l e s m args below meth c G dA H1 locs1 ls C hP hS1 hl hA
theorem r_iald {o n : Nat} {i : Int32} (hd : decode cc pc = .ok (.iaload, 1)) (ho : o < Z.1) (hz : Z.2.1 o = (10, n)) (hi : vp_in i n) (kk : ∀ z : Int32, z = D o i.toNatClampNeg → RW y cc nL ret rm B Q Z D E ce sl (pc + 1) lv (.int z :: st)) : RW y cc nL ret rm B Q Z D E ce sl pc lv (.int i :: .ref (B + o) :: st) := fun p l e s m args below meth c G dA H locs ls C hM hS hl hA => va_iald C.1 C.2.1 C.2.2.2.2.2.2.2.1.1 hM o 0 ((q_get ho).trans (congrArg some (q_wfi hz (Or.inl rfl)))) rfl hi hd (kk _ rfl p l e s m args below meth c G dA H locs ls C hM hS hl hA)
theorem r_zald {o n : Nat} {i : Int32} (hd : decode cc pc = .ok (.baload, 1)) (ho : o < Z.1) (hz : Z.2.1 o = (12, n)) (hi : vp_in i n) (kk : ∀ z : Int32, z = D o i.toNatClampNeg → RW y cc nL ret rm B Q Z D E ce sl (pc + 1) lv (.int z :: st)) : RW y cc nL ret rm B Q Z D E ce sl pc lv (.int i :: .ref (B + o) :: st) := fun p l e s m args below meth c G dA H locs ls C hM hS hl hA => va_zald C.1 C.2.1 C.2.2.2.2.2.2.2.1.1 hM o 2 ((q_get ho).trans (congrArg some (q_wfi hz (Or.inr rfl)))) rfl hi hd (kk _ rfl p l e s m args below meth c G dA H locs ls C hM hS hl hA)
theorem r_lald {o n : Nat} {i : Int32} (hd : decode cc pc = .ok (.laload, 1)) (ho : o < Z.1) (hz : Z.2.1 o = (11, n)) (hi : vp_in i n) (kk : ∀ z : Int64, z = E o i.toNatClampNeg → RW y cc nL ret rm B Q Z D E ce sl (pc + 1) lv (.long z :: st)) : RW y cc nL ret rm B Q Z D E ce sl pc lv (.int i :: .ref (B + o) :: st) := fun p l e s m args below meth c G dA H locs ls C hM hS hl hA => va_lald C.1 C.2.1 C.2.2.2.2.2.2.2.1.1 hM o 1 ((q_get ho).trans (congrArg some (q_wfl hz))) rfl hi hd (kk _ rfl p l e s m args below meth c G dA H locs ls C hM hS hl hA)
theorem q_upd {D : DD} {o k : Nat} {x : Int32} : upd (D o) k x = up2 D o k x o := by
  funext j
  unfold up2 upd
  simp
theorem q_updL {D : EE} {o k : Nat} {x : Int64} : vp_updL (D o) k x = up2 D o k x o := by
  funext j
  unfold up2 vp_updL
  simp
theorem r_iast {o n : Nat} {i x : Int32} (hd : decode cc pc = .ok (.iastore, 1)) (ho : o < Z.1) (hz : Z.2.1 o = (10, n)) (hi : vp_in i n) (kk : ∀ D' : DD, D' = up2 D o i.toNatClampNeg x → RW y cc nL ret rm B Q Z D' E ce sl (pc + 1) lv st) : RW y cc nL ret rm B Q Z D E ce sl pc lv (.int x :: .int i :: .ref (B + o) :: st) := fun p l e s m args below meth c G dA H locs ls C hM hS hl hA => by
  have hs : (q_w B dA Z D E).set o (B + o, .inl (dA 10, n, .inl (upd (D o) i.toNatClampNeg x))) = q_w B dA Z (up2 D o i.toNatClampNeg x) E := by
    refine q_set rfl ?_ (fun j hj => q_wfn (up2_o hj) rfl)
    rw [q_wfi hz (Or.inl rfl), q_upd]
  refine va_iast C.1 C.2.1 C.2.2.2.2.2.2.2.1.1 hM q_D hS o 0 ((q_get ho).trans (congrArg some (q_wfi hz (Or.inl rfl)))) rfl hi hd (fun H1 locs1 hP _ hS1 => ?_)
  rw [hs] at hP
  exact kk _ rfl p l e s m args below meth c G dA H1 locs1 ls C hP hS1 hl hA
theorem r_zast {o n : Nat} {i x : Int32} (hd : decode cc pc = .ok (.bastore, 1)) (ho : o < Z.1) (hz : Z.2.1 o = (12, n)) (hi : vp_in i n) (kk : ∀ D' : DD, D' = up2 D o i.toNatClampNeg (vp_nar .boolean x) → RW y cc nL ret rm B Q Z D' E ce sl (pc + 1) lv st) : RW y cc nL ret rm B Q Z D E ce sl pc lv (.int x :: .int i :: .ref (B + o) :: st) := fun p l e s m args below meth c G dA H locs ls C hM hS hl hA => by
  have hs : (q_w B dA Z D E).set o (B + o, .inl (dA 12, n, .inl (upd (D o) i.toNatClampNeg (vp_nar .boolean x)))) = q_w B dA Z (up2 D o i.toNatClampNeg (vp_nar .boolean x)) E := by
    refine q_set rfl ?_ (fun j hj => q_wfn (up2_o hj) rfl)
    rw [q_wfi hz (Or.inr rfl), q_upd]
  refine va_zast C.1 C.2.1 C.2.2.2.2.2.2.2.1.1 hM q_D hS o 2 ((q_get ho).trans (congrArg some (q_wfi hz (Or.inr rfl)))) rfl hi hd (fun H1 locs1 hP _ hS1 => ?_)
  rw [hs] at hP
  exact kk _ rfl p l e s m args below meth c G dA H1 locs1 ls C hP hS1 hl hA
theorem r_last {o n : Nat} {i : Int32} {x : Int64} (hd : decode cc pc = .ok (.lastore, 1)) (ho : o < Z.1) (hz : Z.2.1 o = (11, n)) (hi : vp_in i n) (kk : ∀ E' : EE, E' = up2 E o i.toNatClampNeg x → RW y cc nL ret rm B Q Z D E' ce sl (pc + 1) lv st) : RW y cc nL ret rm B Q Z D E ce sl pc lv (.long x :: .int i :: .ref (B + o) :: st) := fun p l e s m args below meth c G dA H locs ls C hM hS hl hA => by
  have hs : (q_w B dA Z D E).set o (B + o, .inl (dA 11, n, .inr (.inl (vp_updL (E o) i.toNatClampNeg x)))) = q_w B dA Z D (up2 E o i.toNatClampNeg x) := by
    refine q_set rfl ?_ (fun j hj => q_wfn rfl (up2_o hj))
    rw [q_wfl hz, q_updL]
  refine va_last C.1 C.2.1 C.2.2.2.2.2.2.2.1.1 hM q_D hS o 1 ((q_get ho).trans (congrArg some (q_wfl hz))) rfl hi hd (fun H1 locs1 hP _ hS1 => ?_)
  rw [hs] at hP
  exact kk _ rfl p l e s m args below meth c G dA H1 locs1 ls C hP hS1 hl hA
theorem q_tysO {dA : Nat → ClassId} : (q_tys dA)[3]? = some (dA 13, .object RX1) ∧ (q_tys dA)[4]? = some (dA 14, .object RX0) ∧ (q_tys dA)[5]? = some (dA 15, .array .int) := ⟨rfl, rfl, rfl⟩
theorem r_aald {o n a v : Nat} {i : Int32} (hd : decode cc pc = .ok (.aaload, 1)) (ho : o < Z.1) (hz : Z.2.1 o = (a, n)) (ha : a = 13 ∨ a = 14 ∨ a = 15) (hi : vp_in i n) (hv : Z.2.2 o i.toNatClampNeg = some v) (kk : RW y cc nL ret rm B Q Z D E ce sl (pc + 1) lv (.ref (B + v) :: st)) : RW y cc nL ret rm B Q Z D E ce sl pc lv (.int i :: .ref (B + o) :: st) := fun p l e s m args below meth c G dA H locs ls C hM hS hl hA => by
  have h13 : 13 ≤ a := by omega
  have hlt : i.toNatClampNeg < n := Nat.not_le.mp fun q => hi (Or.inr q)
  have hcell := hM o _ ((q_get ho).trans (congrArg some (q_wfq hz h13)))
  have hrun : ∀ (ty : FieldType) (t0 : Nat), (q_tys dA)[t0]? = some (dA a, ty) → (∀ (q : Unit), (match ty with | .object _ => true | .array _ => true | _ => false) = true) → W p l e rm s m args below meth c H locs ce sl (MQ below (QC G dA B Q) args s rm.cells rm.slots (fun q => B ≤ q)) (F0 m pc ls (.int i :: .ref (B + o) :: st)) := by
    intro ty t0 ht hty
    have hA9 := (C.2.2.2.2.2.2.2.1.1.2 t0 _ ht).1 n (fun j => va_rf ((Z.2.2 o j).map (fun i => B + i)))
    refine W.aald (v := .ref (B + v)) (ty := ty) C.1 C.2.1 hcell hA9 (by cases ty <;> first | rfl | exact absurd (hty ()) (by decide)) (fun q => by cases q) (by show ¬ (i < 0 ∨ (arrV _ _ _).slots.size ≤ _); rw [arrV_size]; exact hi) (by show (arrV _ _ _).slots[_]? = _; rw [arrV_read _ _ hlt]; show some (va_rf ((Z.2.2 o i.toNatClampNeg).map _)) = _; rw [hv]; rfl) rfl rfl hd (kk p l e s m args below meth c G dA H locs ls C hM hS hl hA)
  rcases ha with rfl | rfl | rfl
  · exact hrun _ 3 rfl (fun _ => rfl)
  · exact hrun _ 4 rfl (fun _ => rfl)
  · exact hrun _ 5 rfl (fun _ => rfl)
theorem r_aast {o n a v ci nf : Nat} {i : Int32} (hd : decode cc pc = .ok (.aastore, 1)) (ho : o < Z.1) (hz : Z.2.1 o = (a, n)) (ha : a = 13 ∧ ci = 1 ∨ a = 14 ∧ ci = 0) (hi : vp_in i n) (hv : v < Z.1) (hzv : Z.2.1 v = (ci, nf)) (kk : RW y cc nL ret rm B Q (Z.1, Z.2.1, up2 Z.2.2 o i.toNatClampNeg (some v)) D E ce sl (pc + 1) lv st) : RW y cc nL ret rm B Q Z D E ce sl pc lv (.ref (B + v) :: .int i :: .ref (B + o) :: st) := fun p l e s m args below meth c G dA H locs ls C hM hS hl hA => by
  have h13 : 13 ≤ a := by omega
  have hs : (q_w B dA Z D E).set o (B + o, .inl (dA a, n, .inr (.inr (.inr (.inr (va_up (fun j => (Z.2.2 o j).map (fun i => B + i)) i.toNatClampNeg (some (B + v)))))))) = q_w B dA (Z.1, Z.2.1, up2 Z.2.2 o i.toNatClampNeg (some v)) D E := by
    refine q_set rfl ?_ (fun j hj => q_wfr rfl (up2_o hj))
    rw [q_wfq (Z := (Z.1, Z.2.1, up2 Z.2.2 o i.toNatClampNeg (some v))) hz h13]
    have : (va_up (fun j => (Z.2.2 o j).map (fun i => B + i)) i.toNatClampNeg (some (B + v))) = (fun j => (up2 Z.2.2 o i.toNatClampNeg (some v) o j).map (fun i => B + i)) := by
      funext j
      by_cases hj : j = i.toNatClampNeg
      · subst hj; rw [up2_s]; simp [va_up]
      · rw [up2_n (fun q => hj q.2)]; simp [va_up, hj]
    rw [this]
  rcases ha with ⟨rfl, rfl⟩ | ⟨rfl, rfl⟩
  · refine va_astq (r := (RX1, TX1, 10)) C.1 C.2.1 C.2.2.2.2.2.2.2.1.1 hM q_D hS o 3 v 1 ((q_get ho).trans (congrArg some (q_wfq hz (by omega)))) rfl ((q_get hv).trans (congrArg some (q_wfo hzv (by omega)))) rfl hi hd (fun H1 locs1 hP _ hS1 => ?_)
    rw [hs] at hP
    exact kk p l e s m args below meth c G dA H1 locs1 ls C hP hS1 hl hA
  · refine va_astq (r := (RX0, TX0, 11)) C.1 C.2.1 C.2.2.2.2.2.2.2.1.1 hM q_D hS o 4 v 0 ((q_get ho).trans (congrArg some (q_wfq hz (by omega)))) rfl ((q_get hv).trans (congrArg some (q_wfo hzv (by omega)))) rfl hi hd (fun H1 locs1 hP _ hS1 => ?_)
    rw [hs] at hP
    exact kk p l e s m args below meth c G dA H1 locs1 ls C hP hS1 hl hA
theorem r_alen {o n : Nat} (hd : decode cc pc = .ok (.arraylength, 1)) (ho : o < Z.1) (hz : Z.2.1 o = (10, n)) (kk : RW y cc nL ret rm B Q Z D E ce sl (pc + 1) lv (.int (nI n) :: st)) : RW y cc nL ret rm B Q Z D E ce sl pc lv (.ref (B + o) :: st) := fun p l e s m args below meth c G dA H locs ls C hM hS hl hA => va_alen C.1 C.2.1 C.2.2.2.2.2.2.2.1.1 hM o 0 ((q_get ho).trans (congrArg some (q_wfi hz (Or.inl rfl)))) rfl rfl hd (kk p l e s m args below meth c G dA H locs ls C hM hS hl hA)
theorem r_copyi {i o0 o1 n0 n1 : Nat} {sp dp n : Int32} (hw : Cond.methodLink y.cls i arraycopyName ∈ BW) (hd : decode cc pc = .ok (.invokestatic i, 3)) (ho0 : o0 < Z.1) (hz0 : Z.2.1 o0 = (10, n0)) (ho1 : o1 < Z.1) (hz1 : Z.2.1 o1 = (10, n1)) (h1 : ¬ sp < 0) (h2 : ¬ dp < 0) (h3 : ¬ n < 0) (h4 : sp.toNatClampNeg + n.toNatClampNeg ≤ n0) (h5 : dp.toNatClampNeg + n.toNatClampNeg ≤ n1) (hfr : 1 ≤ rm.frames) (hlo : (st.map fun v => v.category).sum + (nativeFrameWords "java/lang/System" "arraycopy" 5 + 11) ≤ rm.locals)
    (kk : ∀ D' : DD, D' = upo D o1 (va_cpy (D o0) (D o1) sp.toNatClampNeg dp.toNatClampNeg n.toNatClampNeg) → RW y cc nL ret rm B Q Z D' E ce sl (pc + 3) lv st) : RW y cc nL ret rm B Q Z D E ce sl pc lv (.int n :: .int dp :: .ref (B + o1) :: .int sp :: .ref (B + o0) :: st) := fun p l e s m args below meth c G dA H locs ls C hM hS hl hA => by
  have hs : (q_w B dA Z D E).set o1 (B + o1, .inl (dA 10, n1, .inl (va_cpy (D o0) (D o1) sp.toNatClampNeg dp.toNatClampNeg n.toNatClampNeg))) = q_w B dA Z (upo D o1 (va_cpy (D o0) (D o1) sp.toNatClampNeg dp.toNatClampNeg n.toNatClampNeg)) E := by
    refine q_set rfl ?_ (fun j hj => q_wfn (if_neg hj) rfl)
    rw [q_wfi hz1 (Or.inl rfl)]
    have : upo D o1 (va_cpy (D o0) (D o1) sp.toNatClampNeg dp.toNatClampNeg n.toNatClampNeg) o1 = va_cpy (D o0) (D o1) sp.toNatClampNeg dp.toNatClampNeg n.toNatClampNeg := if_pos rfl
    rw [this]
  refine va_copyi C.1 C.2.1 (C.2.2.2.1.trans hl.1.symm) C.2.2.2.2.1 (C.2.2.2.2.2.1 _ hw) (C.2.2.2.2.2.1 _ wt_acopyN) (C.2.2.2.2.2.1 _ wt_acopy) (C.2.2.2.2.2.1 _ wi_J10) C.2.2.2.2.2.2.2.1.1 hM q_D hS o0 o1 0 0 ((q_get ho0).trans (congrArg some (q_wfi hz0 (Or.inl rfl)))) ((q_get ho1).trans (congrArg some (q_wfi hz1 (Or.inl rfl)))) rfl rfl rfl h1 h2 h3 h4 h5 (fun _ _ => rfl) hfr hlo hd (fun H1 locs1 hP _ hS1 => ?_)
  rw [hs] at hP
  exact kk _ rfl p l e s m args below meth c G dA H1 locs1 ls C hP hS1 hl hA
theorem r_mmax {i : Nat} {x b : Int32} (hw : Cond.methodLink y.cls i Lib.Math.max.name ∈ BW) (hd : decode cc pc = .ok (.invokestatic i, 3)) (hfr : 1 ≤ rm.frames) (hlo : (st.map fun v => v.category).sum + 13 ≤ rm.locals) (hc : ce ≤ rm.cells) (hs : sl ≤ rm.slots) (k : ∀ z : Int32, z = (if x < b then b else x) → RW y cc nL ret rm B Q Z D E ce sl (pc + 3) lv (.int z :: st)) : RW y cc nL ret rm B Q Z D E ce sl pc lv (.int b :: .int x :: st) := fun p l e s m args below meth c G dA H locs ls C hM hS hl hA => va_mmax C.1 C.2.1 (C.2.2.2.1.trans hl.1.symm) C.2.2.2.2.1 (C.2.2.2.2.2.1 _ hw) (C.2.2.2.2.2.1 _ wt_mmax) (C.2.2.2.2.2.1 _ wi_J9) (C.2.2.2.2.2.1 _ wo_mmax) hfr hlo hc hs hd (k _ rfl p l e s m args below meth c G dA H locs ls C hM hS hl hA)
theorem r_mmin {i : Nat} {x b : Int32} (hw : Cond.methodLink y.cls i Lib.Math.min.name ∈ BW) (hd : decode cc pc = .ok (.invokestatic i, 3)) (hfr : 1 ≤ rm.frames) (hlo : (st.map fun v => v.category).sum + 13 ≤ rm.locals) (hc : ce ≤ rm.cells) (hs : sl ≤ rm.slots) (k : ∀ z : Int32, z = (if b < x then b else x) → RW y cc nL ret rm B Q Z D E ce sl (pc + 3) lv (.int z :: st)) : RW y cc nL ret rm B Q Z D E ce sl pc lv (.int b :: .int x :: st) := fun p l e s m args below meth c G dA H locs ls C hM hS hl hA => va_mmin C.1 C.2.1 (C.2.2.2.1.trans hl.1.symm) C.2.2.2.2.1 (C.2.2.2.2.2.1 _ hw) (C.2.2.2.2.2.1 _ wt_mmin) (C.2.2.2.2.2.1 _ wi_J9) (C.2.2.2.2.2.1 _ wo_mmin) hfr hlo hc hs hd (k _ rfl p l e s m args below meth c G dA H locs ls C hM hS hl hA)
theorem r_objinit {i o : Nat} (hw : Cond.methodLink y.cls i objectInit ∈ BW) (hd : decode cc pc = .ok (.invokespecial i, 3)) (hfr : 1 ≤ rm.frames) (hlo : (st.map fun v => v.category).sum + 12 ≤ rm.locals) (k : RW y cc nL ret rm B Q Z D E ce sl (pc + 3) lv st) : RW y cc nL ret rm B Q Z D E ce sl pc lv (.ref (B + o) :: st) := fun p l e s m args below meth c G dA H locs ls C hM hS hl hA => W.objInit C.1 C.2.1 C.2.2.2.2.1 (C.2.2.2.2.2.1 _ hw) (C.2.2.2.2.2.1 _ wv_objinit) (C.2.2.2.2.2.1 _ wo_objinit) rfl (hl.1.trans C.2.2.2.1.symm) rfl hd hfr (by show 2 * 0 + _ + 12 ≤ _; omega) (k p l e s m args below meth c G dA H locs ls C hM hS hl hA)
/-- returns -/
theorem r_vret (hd : decode cc pc = .ok (.return_, 1)) (hr : ret = none) (hc : ce ≤ rm.cells) (hs : sl ≤ rm.slots) (h : Q none Z D E) : RW y cc nL ret rm B Q Z D E ce sl pc lv [] := fun p l e s m args below meth c G dA H locs ls C hM hS hl hA => W.widen hc hs (W.vret C.1 C.2.1 (C.2.2.1.trans hr) (fun t ht hW => ⟨⟨none, Z, D, E, rfl, h, by rw [ht]; exact hM⟩, hS.F ht⟩) hS.2.2 hd C.2.2.2.2.2.2.1)
theorem r_iret {v : Int32} (hd : decode cc pc = .ok (.ireturn, 1)) (hr : ret = some .int) (hc : ce ≤ rm.cells) (hs : sl ≤ rm.slots) (h : Q (some (.int v)) Z D E) : RW y cc nL ret rm B Q Z D E ce sl pc lv [.int v] := fun p l e s m args below meth c G dA H locs ls C hM hS hl hA => W.widen hc hs (W.iret C.1 C.2.1 (C.2.2.1.trans hr) (fun t ht hW => ⟨⟨_, Z, D, E, rfl, h, by rw [ht]; exact hM⟩, hS.F ht⟩) hS.2.2 hd C.2.2.2.2.2.2.1)
theorem r_lret {v : Int64} (hd : decode cc pc = .ok (.lreturn, 1)) (hr : ret = some .long) (hc : ce ≤ rm.cells) (hs : sl ≤ rm.slots) (h : Q (some (.long v)) Z D E) : RW y cc nL ret rm B Q Z D E ce sl pc lv [.long v] := fun p l e s m args below meth c G dA H locs ls C hM hS hl hA => W.widen hc hs (W.lret C.1 C.2.1 (C.2.2.1.trans hr) (fun t ht hW => ⟨⟨_, Z, D, E, rfl, h, by rw [ht]; exact hM⟩, hS.F ht⟩) hS.2.2 hd C.2.2.2.2.2.2.1)
theorem r_zret {v : Int32} (hd : decode cc pc = .ok (.ireturn, 1)) (hr : ret = some .boolean) (hv : narrow .boolean (.int v) = .int v) (hc : ce ≤ rm.cells) (hs : sl ≤ rm.slots) (h : Q (some (.int v)) Z D E) : RW y cc nL ret rm B Q Z D E ce sl pc lv [.int v] := fun p l e s m args below meth c G dA H locs ls C hM hS hl hA => W.widen hc hs (W.zret C.1 C.2.1 (C.2.2.1.trans hr) hv (fun t ht hW => ⟨⟨_, Z, D, E, rfl, h, by rw [ht]; exact hM⟩, hS.F ht⟩) hS.2.2 hd C.2.2.2.2.2.2.1)
end RWS
