/-! the law's activation: its context, what a row of it says -/
abbrev LXT : Type := (Program) × (Launch) × (Env) × (State) × (MethodId) × (List Frame) × (Method) × (Code) × (Nat) × (Nat) × (Nat → Int32) × (va_G) × (Nat → ClassId) × (Nat)
def LXP (q : LXT) : Prop := (q.1.tables.exec = Jvm.exec ∧ q.2.2.2.2.2.2.2.1.code = code ∧ q.2.2.2.2.2.2.1.sig.returnType = ret ∧ q.2.2.2.2.2.2.2.1.maxLocals = 4 ∧ q.2.2.2.1.vm.findClass RL = some q.2.2.2.2.1.cls ∧ (∀ w ∈ BW, w.before #[Value.ref q.2.2.2.2.2.2.2.2.1] q.2.2.2.1 = true) ∧ q.2.2.2.2.2.2.1.locks = false ∧ q_K q.2.2.2.2.2.2.2.2.2.2.2.1 q.2.2.2.2.2.2.2.2.2.2.2.2.1 q.2.2.2.1 ∧ q.2.2.2.2.2.2.2.2.2.2.2.2.2 ≤ q.2.2.2.1.heap.size ∧ True) ∧ va_X q.2.2.2.2.2.2.2.2.1 q.2.2.2.2.2.2.2.2.2.1 q.2.2.2.2.2.2.2.2.2.2.1 q.2.2.2.1 q.2.2.2.1.heap ∧ q.2.2.2.2.2.2.2.2.1 < q.2.2.2.2.2.2.2.2.2.2.2.2.2 ∧ q.2.2.2.1.heap.size = q.2.2.2.2.2.2.2.2.2.2.2.2.2
def LX : Type := { q : LXT // LXP q }
def LX.p (X : LX) : Program := X.val.1
def LX.l (X : LX) : Launch := X.val.2.1
def LX.e (X : LX) : Env := X.val.2.2.1
def LX.s (X : LX) : State := X.val.2.2.2.1
def LX.m (X : LX) : MethodId := X.val.2.2.2.2.1
def LX.below (X : LX) : List Frame := X.val.2.2.2.2.2.1
def LX.meth (X : LX) : Method := X.val.2.2.2.2.2.2.1
def LX.c (X : LX) : Code := X.val.2.2.2.2.2.2.2.1
def LX.b (X : LX) : Nat := X.val.2.2.2.2.2.2.2.2.1
def LX.L (X : LX) : Nat := X.val.2.2.2.2.2.2.2.2.2.1
def LX.xs (X : LX) : Nat → Int32 := X.val.2.2.2.2.2.2.2.2.2.2.1
def LX.G (X : LX) : va_G := X.val.2.2.2.2.2.2.2.2.2.2.2.1
def LX.dA (X : LX) : Nat → ClassId := X.val.2.2.2.2.2.2.2.2.2.2.2.2.1
def LX.B (X : LX) : Nat := X.val.2.2.2.2.2.2.2.2.2.2.2.2.2
theorem LX.C (X : LX) : X.p.tables.exec = Jvm.exec ∧ X.c.code = code ∧ X.meth.sig.returnType = ret ∧ X.c.maxLocals = 4 ∧ X.s.vm.findClass RL = some X.m.cls ∧ (∀ w ∈ BW, w.before #[Value.ref X.b] X.s = true) ∧ X.meth.locks = false ∧ q_K X.G X.dA X.s ∧ X.B ≤ X.s.heap.size ∧ True := X.property.1
theorem LX.hX (X : LX) : va_X X.b X.L X.xs X.s X.s.heap := X.property.2.1
theorem LX.hb (X : LX) : X.b < X.B := X.property.2.2.1
theorem LX.hB (X : LX) : X.s.heap.size = X.B := X.property.2.2.2
def LW (X : LX) (Z : ZZ) (D : DD) (E : EE) (ce sl pc : Nat) (lv : List (Nat × Value)) (st : List Value) : Prop :=
  ∀ (H : Heap) (locs : List Loc) (ls : Array Slot), q_M X.G X.dA X.B Z D E H → va_S (fun q => X.B ≤ q) X.s.heap H locs → lv_has ls 4 lv → X.s.heap.size + ce ≤ X.B + Z.1 →
    W X.p X.l X.e room_1 X.s X.m #[Value.ref X.b] X.below X.meth X.c H locs ce sl (lw_Z X.below #[Value.ref X.b] X.s) (F0 X.m pc ls st)
section LAWROWS
variable {X : LX} {Z : ZZ} {D : DD} {E : EE} {ce sl pc : Nat} {lv : List (Nat × Value)} {st : List Value}
theorem lw_r_iconst {n : Int} (v : Int32) (hd : decode code pc = .ok (.iconst n, 1)) (hv : Int32.ofInt n = v) (k : LW X Z D E ce sl (pc + 1) lv (.int v :: st)) : LW X Z D E ce sl pc lv st := fun H locs ls hM hS hl hA => lv_iconst X.C.1 X.C.2.1 hd hv (k H locs ls hM hS hl hA)
theorem lw_r_bipush {n : Int} (v : Int32) (hd : decode code pc = .ok (.bipush n, 2)) (hv : (Int8.ofInt n).toInt32 = v) (k : LW X Z D E ce sl (pc + 2) lv (.int v :: st)) : LW X Z D E ce sl pc lv st := fun H locs ls hM hS hl hA => lv_bipush X.C.1 X.C.2.1 hd hv (k H locs ls hM hS hl hA)
theorem lw_r_aload_n {q : Fin 4} {x : Nat} (hd : decode code pc = .ok (.aload_n q, 1)) (hl0 : lv.lookup (q : Nat) = some (.ref x)) (k : LW X Z D E ce sl (pc + 1) lv (.ref x :: st)) : LW X Z D E ce sl pc lv st := fun H locs ls hM hS hl hA => lv_aload_n X.C.1 X.C.2.1 hd rfl (lg_at hl hl0) (k H locs ls hM hS hl hA)
theorem lw_r_iload_n {q : Fin 4} {x : Int32} (hd : decode code pc = .ok (.iload_n q, 1)) (hl0 : lv.lookup (q : Nat) = some (.int x)) (k : LW X Z D E ce sl (pc + 1) lv (.int x :: st)) : LW X Z D E ce sl pc lv st := fun H locs ls hM hS hl hA => lv_iload_n X.C.1 X.C.2.1 hd rfl (lg_at hl hl0) (k H locs ls hM hS hl hA)
theorem lw_r_istore_n {j : Fin 4} {x : Int32} (lv' : List (Nat × Value)) (hd : decode code pc = .ok (.istore_n j, 1)) (hn : (j : Nat) < 4) (h' : ((j : Nat), Value.int x) :: lv.filter (fun q => !(q.1 == (j : Nat)) && !(q.1 + 1 == (j : Nat) && q.2.category == 2)) = lv') (k : LW X Z D E ce sl (pc + 1) lv' st) : LW X Z D E ce sl pc lv (.int x :: st) := fun H locs ls hM hS hl hA => lv_istore_n X.C.1 X.C.2.1 hd rfl hl hn h' (fun ls hl => k H locs ls hM hS hl hA)
theorem lw_r_astore_n {j : Fin 4} {x : Nat} (lv' : List (Nat × Value)) (hd : decode code pc = .ok (.astore_n j, 1)) (hn : (j : Nat) < 4) (h' : ((j : Nat), Value.ref x) :: lv.filter (fun q => !(q.1 == (j : Nat)) && !(q.1 + 1 == (j : Nat) && q.2.category == 2)) = lv') (k : LW X Z D E ce sl (pc + 1) lv' st) : LW X Z D E ce sl pc lv (.ref x :: st) := fun H locs ls hM hS hl hA => lv_astore_n X.C.1 X.C.2.1 hd rfl hl hn h' (fun ls hl => k H locs ls hM hS hl hA)
theorem lw_r_iinc {i : Nat} {n : Int} {x : Int32} (v : Int32) (lv' : List (Nat × Value)) (hd : decode code pc = .ok (.iinc i n, 3)) (hl0 : lv.lookup i = some (.int x)) (hv : x + Int32.ofInt n = v) (hn : i < 4) (h' : (i, Value.int v) :: lv.filter (fun q => !(q.1 == i) && !(q.1 + 1 == i && q.2.category == 2)) = lv') (k : LW X Z D E ce sl (pc + 3) lv' st) : LW X Z D E ce sl pc lv st := fun H locs ls hM hS hl hA => (lg_ix hl0).elim (fun _ hk => lv_iinc X.C.1 X.C.2.1 hd hl hk hv hn h' (fun ls hl => k H locs ls hM hS hl hA))
theorem lw_r_iadd {x b : Int32} (hd : decode code pc = .ok (.iadd, 1))  (k : ∀ z : Int32, z = x + b → LW X Z D E ce sl (pc + 1) lv (.int z :: st)) : LW X Z D E ce sl pc lv (.int b :: .int x :: st) := fun H locs ls hM hS hl hA => lv_iadd X.C.1 X.C.2.1 hd  (k _ rfl H locs ls hM hS hl hA)
theorem lw_r_isub {x b : Int32} (hd : decode code pc = .ok (.isub, 1))  (k : ∀ z : Int32, z = x - b → LW X Z D E ce sl (pc + 1) lv (.int z :: st)) : LW X Z D E ce sl pc lv (.int b :: .int x :: st) := fun H locs ls hM hS hl hA => lv_isub X.C.1 X.C.2.1 hd  (k _ rfl H locs ls hM hS hl hA)
theorem lw_r_iand {x b : Int32} (hd : decode code pc = .ok (.iand, 1))  (k : ∀ z : Int32, z = x &&& b → LW X Z D E ce sl (pc + 1) lv (.int z :: st)) : LW X Z D E ce sl pc lv (.int b :: .int x :: st) := fun H locs ls hM hS hl hA => lv_iand X.C.1 X.C.2.1 hd  (k _ rfl H locs ls hM hS hl hA)
theorem lw_r_lcmp {x b : Int64} (hd : decode code pc = .ok (.lcmp, 1)) (k : ∀ z : Int32, z = lg_cmp x b → LW X Z D E ce sl (pc + 1) lv (.int z :: st)) : LW X Z D E ce sl pc lv (.long b :: .long x :: st) := fun H locs ls hM hS hl hA => W.lcmp X.C.1 X.C.2.1 hd (k _ rfl H locs ls hM hS hl hA)
theorem lw_r_dup {v : Value} (hd : decode code pc = .ok (.dup, 1)) (hv : v.category = 1) (k : LW X Z D E ce sl (pc + 1) lv (v :: v :: st)) : LW X Z D E ce sl pc lv (v :: st) := fun H locs ls hM hS hl hA => lv_dup X.C.1 X.C.2.1 hd hv (k H locs ls hM hS hl hA)
theorem lw_r_goto {off : Int} {tgt : Nat} (hd : decode code pc = .ok (.goto off, 3)) (ht : (pc : Int) + off = (tgt : Int)) (k : LW X Z D E ce sl tgt lv st) : LW X Z D E ce sl pc lv st := fun H locs ls hM hS hl hA => lv_goto X.C.1 X.C.2.1 hd ht (k H locs ls hM hS hl hA)
theorem lw_r_if_eq {x : Int32} {off : Int} {tgt : Nat} (hd : decode code pc = .ok (.ifCond .eq off, 3)) (ht : (pc : Int) + off = (tgt : Int)) (kt : x = 0 → LW X Z D E ce sl tgt lv st) (kf : ¬ x = 0 → LW X Z D E ce sl (pc + 3) lv st) : LW X Z D E ce sl pc lv (.int x :: st) := fun H locs ls hM hS hl hA => lv_if_eq X.C.1 X.C.2.1 hd ht (fun q => kt q H locs ls hM hS hl hA) (fun q => kf q H locs ls hM hS hl hA)
theorem lw_r_icmp_eq {x b : Int32} {off : Int} {tgt : Nat} (hd : decode code pc = .ok (.if_icmp .eq off, 3)) (ht : (pc : Int) + off = (tgt : Int)) (kt : x = b → LW X Z D E ce sl tgt lv st) (kf : ¬ x = b → LW X Z D E ce sl (pc + 3) lv st) : LW X Z D E ce sl pc lv (.int b :: .int x :: st) := fun H locs ls hM hS hl hA => lv_icmp_eq X.C.1 X.C.2.1 hd ht (fun q => kt q H locs ls hM hS hl hA) (fun q => kf q H locs ls hM hS hl hA)
theorem lw_r_icmp_gt {x b : Int32} {off : Int} {tgt : Nat} (hd : decode code pc = .ok (.if_icmp .gt off, 3)) (ht : (pc : Int) + off = (tgt : Int)) (kt : b < x → LW X Z D E ce sl tgt lv st) (kf : ¬ b < x → LW X Z D E ce sl (pc + 3) lv st) : LW X Z D E ce sl pc lv (.int b :: .int x :: st) := fun H locs ls hM hS hl hA => lv_icmp_gt X.C.1 X.C.2.1 hd ht (fun q => kt q H locs ls hM hS hl hA) (fun q => kf q H locs ls hM hS hl hA)
theorem lw_r_tabIn {dflt lo hi : Int} {offs : Array Int} {len : Nat} {x : Int32} {off : Int} {tgt : Nat} (hd : decode code pc = .ok (.tableswitch dflt lo hi offs, len)) (h1 : ¬ x.toInt < lo) (h2 : ¬ hi < x.toInt) (ho : offs[(x.toInt - lo).toNat]? = some off) (ht : (pc : Int) + off = (tgt : Int)) (k : LW X Z D E ce sl tgt lv st) : LW X Z D E ce sl pc lv (.int x :: st) := fun H locs ls hM hS hl hA => lv_tableIn X.C.1 X.C.2.1 hd h1 h2 ho ht (k H locs ls hM hS hl hA)
theorem lw_r_tabOut {dflt lo hi : Int} {offs : Array Int} {len : Nat} {x : Int32} {tgt : Nat} (hd : decode code pc = .ok (.tableswitch dflt lo hi offs, len)) (h : x.toInt < lo ∨ hi < x.toInt) (ht : (pc : Int) + dflt = (tgt : Int)) (k : LW X Z D E ce sl tgt lv st) : LW X Z D E ce sl pc lv (.int x :: st) := fun H locs ls hM hS hl hA => lv_tableOut X.C.1 X.C.2.1 hd h ht (k H locs ls hM hS hl hA)
theorem lw_r_new {idx c : Nat} (hw : Cond.classLink RL idx (q_C c) ∈ BW) (hn : Cond.instantiable (q_C c) (q_N c) ∈ BW) (hi : Cond.initialized (q_C c) ∈ BW) (hd : decode code pc = .ok (.new idx, 3)) (hc : c < 7) (h1 : ce + 1 ≤ room_1.cells) (h2 : sl + q_N c ≤ room_1.slots)
    (kk : LW X (Z.1 + 1, upo Z.2.1 Z.1 (c, q_N c), upo Z.2.2 Z.1 (fun _ => none)) (upo D Z.1 fun _ => 0) (upo E Z.1 fun _ => 0) (ce + 1) (sl + q_N c) (pc + 3) lv (.ref (X.B + Z.1) :: st)) : LW X Z D E ce sl pc lv st := fun H locs ls hM hS hl hA => W.size fun hHs => by
  have hsz := q_szeq hM hHs hA X.C.2.2.2.2.2.2.2.2.1 hS
  have hKn := X.C.2.2.2.2.2.2.2.1.1.1 c _ (q_cl c hc)
  refine W.newcK X.C.1 X.C.2.1 X.C.2.2.2.2.1 (X.C.2.2.2.2.2.1 _ hw) (X.C.2.2.2.2.2.1 _ hn) (X.C.2.2.2.2.2.1 _ hi) rfl hd h1 h2 hKn.2.1 hsz fun H1 kC hkC e1 z1 o1 => ?_
  refine kk H1 locs ls (q_push hM hsz (fun q hq => o1 q (by omega)) ?_) ⟨by have := hS.1; omega, fun x h1 h2 => (o1 x (by have := hS.1; omega)).trans (hS.2.1 x h1 h2), hS.2.2⟩ hl (by show _ ≤ X.B + (Z.1 + 1); omega)
  show va_at X.G vwCl (X.B + Z.1, q_cel X.B X.dA (c, q_N c) _ _ _) H1
  unfold q_cel
  rw [if_pos hc]
  exact ⟨_, q_cl c hc, (u_born (q_ty c) X.C.2.2.2.2.2.1 (q_in c hc) hKn hkC e1 (q_tyok c hc)).to (fun j hj => q_dflt hc hj)⟩
theorem lw_r_callV {y' : MethodName} {code' : ByteArray} {nL' n idx : Nat} {ret' : Option FieldType} {rm' : Room} {Q' : QQ} {As stk : List Value} {o ci nf : Nat} (hM' : MR y' code' nL' ret' rm' X.B (.ref (X.B + o) :: As) Z D E Q') (hV : MV y' code' nL' ret' n) (hw : Cond.methodLink RL idx y' ∈ BW) (hd : decode code pc = .ok (.invokevirtual idx, 3)) (hst : stk = As.reverse ++ .ref (X.B + o) :: st) (hn : As.length = n) (ho : o < Z.1) (hz : Z.2.1 o = (ci, nf)) (hc : ci < 7) (hcl : q_C ci = y'.cls) (hcat : (st.map fun v => v.category).sum ≤ 8) (hrm : rm'.frames + 1 ≤ room_1.frames ∧ 8 + (nL' + 11) + rm'.locals ≤ room_1.locals ∧ ce + rm'.cells ≤ room_1.cells ∧ sl + rm'.slots ≤ room_1.slots) (hsz : ∀ v Z' D' E', Q' v Z' D' E' → Z.1 + rm'.cells ≤ Z'.1) (kk : ∀ v Z' D' E', Q' v Z' D' E' → LW X Z' D' E' (ce + rm'.cells) (sl + rm'.slots) (pc + 3) lv (v.toList ++ st)) : LW X Z D E ce sl pc lv stk := fun H locs ls hM hS hl hA => W.size fun hHs => by
  obtain ⟨⟨g1, g2, g3, g4, g5⟩, g6, g7⟩ := hV
  obtain ⟨k1, k2, k3, k4⟩ := hrm
  subst hst
  have hcw := cwV (R := room_1) (s := X.s) (args := #[Value.ref X.b]) (own := RL) (index := idx) (C := y'.cls) (y := y') (ws := .code y' code' nL' ret' :: BW) (rm := rm') (Ts := BW) n X.C.2.2.2.2.2.1 (bw_good _ (fun w hw9 => by
    rcases List.mem_append.mp hw9 with h | h
    · simp only [List.mem_cons, List.not_mem_nil, or_false] at h
      rcases h with rfl | rfl | rfl | rfl <;> assumption
    · rcases List.mem_cons.mp h with rfl | h
      · exact g1
      · exact h)) rfl rfl rfl ⟨rfl, g3.1, g3.2, g4⟩ ⟨k1, k2⟩
  exact w_run (va_runV (C := y'.cls) (As := As) (rest := st) (b := X.B + o) (Ts := BW) (nL := 4) (own := RL) ⟨X.C.1, X.C.2.1, X.C.2.2.2.1, X.C.2.2.2.2.1, X.C.2.2.2.2.2.1⟩ (hM' X.l X.G X.dA) hcw ⟨q_blind, hcl ▸ q_recv X.C.2.2.2.2.2.2.2.1 hM ho hz hc, fun U hU hW => ⟨rfl, by rw [hU]; exact hM, q_K.moved hW X.C.2.2.2.2.2.2.2.1, by rw [hU]; omega, by rw [hU]; exact Nat.le_trans X.C.2.2.2.2.2.2.2.2.1 hS.1⟩⟩ rfl hn hl.1 rfl (lv_room hcat) hd ⟨k3, k4⟩) hS (fun v Z' D' E' H1 locs1 hq hm hs => kk v Z' D' E' hq H1 locs1 ls hm hs hl (by have := hsz v Z' D' E' hq; omega))
theorem lw_r_callVI {y' : MethodName} {code' : ByteArray} {nL' n idx : Nat} {ret' : Option FieldType} {rm' : Room} {As stk : List Value} {P : Int32 → DD → EE → Prop} {o ci nf : Nat} (hM' : MR y' code' nL' ret' rm' X.B (.ref (X.B + o) :: As) Z D E (Q2 Z (pI P))) (hV : MV y' code' nL' ret' n) (hw : Cond.methodLink RL idx y' ∈ BW) (hd : decode code pc = .ok (.invokevirtual idx, 3)) (hst : stk = As.reverse ++ .ref (X.B + o) :: st) (hn : As.length = n) (ho : o < Z.1) (hz : Z.2.1 o = (ci, nf)) (hc : ci < 7) (hcl : q_C ci = y'.cls) (hcat : (st.map fun v => v.category).sum ≤ 8) (hrm : rm'.frames + 1 ≤ room_1.frames ∧ 8 + (nL' + 11) + rm'.locals ≤ room_1.locals ∧ ce ≤ room_1.cells ∧ sl ≤ room_1.slots) (h0 : rm'.cells = 0 ∧ rm'.slots = 0) (kk : ∀ r D' E', P r D' E' → LW X Z D' E' ce sl (pc + 3) lv (.int r :: st)) : LW X Z D E ce sl pc lv stk := by
  obtain ⟨e1, e2⟩ := h0
  refine lw_r_callV hM' hV hw hd hst hn ho hz hc hcl hcat ⟨hrm.1, hrm.2.1, by rw [e1]; exact hrm.2.2.1, by rw [e2]; exact hrm.2.2.2⟩ (fun v Z' D' E' h => by rw [h.1, e1]; exact Nat.le_refl _) (fun v Z' D' E' h => ?_)
  obtain ⟨rfl, r, rfl, h⟩ := h
  rw [e1, e2]
  exact kk r D' E' h
theorem lw_r_callVL {y' : MethodName} {code' : ByteArray} {nL' n idx : Nat} {ret' : Option FieldType} {rm' : Room} {As stk : List Value} {P : Int64 → DD → EE → Prop} {o ci nf : Nat} (hM' : MR y' code' nL' ret' rm' X.B (.ref (X.B + o) :: As) Z D E (Q2 Z (pL P))) (hV : MV y' code' nL' ret' n) (hw : Cond.methodLink RL idx y' ∈ BW) (hd : decode code pc = .ok (.invokevirtual idx, 3)) (hst : stk = As.reverse ++ .ref (X.B + o) :: st) (hn : As.length = n) (ho : o < Z.1) (hz : Z.2.1 o = (ci, nf)) (hc : ci < 7) (hcl : q_C ci = y'.cls) (hcat : (st.map fun v => v.category).sum ≤ 8) (hrm : rm'.frames + 1 ≤ room_1.frames ∧ 8 + (nL' + 11) + rm'.locals ≤ room_1.locals ∧ ce ≤ room_1.cells ∧ sl ≤ room_1.slots) (h0 : rm'.cells = 0 ∧ rm'.slots = 0) (kk : ∀ r D' E', P r D' E' → LW X Z D' E' ce sl (pc + 3) lv (.long r :: st)) : LW X Z D E ce sl pc lv stk := by
  obtain ⟨e1, e2⟩ := h0
  refine lw_r_callV hM' hV hw hd hst hn ho hz hc hcl hcat ⟨hrm.1, hrm.2.1, by rw [e1]; exact hrm.2.2.1, by rw [e2]; exact hrm.2.2.2⟩ (fun v Z' D' E' h => by rw [h.1, e1]; exact Nat.le_refl _) (fun v Z' D' E' h => ?_)
  obtain ⟨rfl, r, rfl, h⟩ := h
  rw [e1, e2]
  exact kk r D' E' h
theorem lw_r_callI {y' : MethodName} {code' : ByteArray} {nL' n idx : Nat} {rm' : Room} {Q' : QQ} {As stk : List Value} {o : Nat} (hM' : MR y' code' nL' none rm' X.B (.ref (X.B + o) :: As) Z D E Q') (hV : MI y' code' nL' n) (hw : Cond.methodLink RL idx y' ∈ BW) (hd : decode code pc = .ok (.invokespecial idx, 3)) (hst : stk = As.reverse ++ .ref (X.B + o) :: st) (hn : As.length = n) (hcat : (st.map fun v => v.category).sum ≤ 8) (hrm : rm'.frames + 1 ≤ room_1.frames ∧ 8 + (nL' + 11) + rm'.locals ≤ room_1.locals ∧ ce + rm'.cells ≤ room_1.cells ∧ sl + rm'.slots ≤ room_1.slots) (hsz : ∀ v Z' D' E', Q' v Z' D' E' → Z.1 + rm'.cells ≤ Z'.1) (kk : ∀ v Z' D' E', Q' v Z' D' E' → LW X Z' D' E' (ce + rm'.cells) (sl + rm'.slots) (pc + 3) lv (v.toList ++ st)) : LW X Z D E ce sl pc lv stk := fun H locs ls hM hS hl hA => W.size fun hHs => by
  obtain ⟨⟨g1, g2, g3, g4, g5⟩, g6, g7⟩ := hV
  obtain ⟨k1, k2, k3, k4⟩ := hrm
  subst hst
  have hcw := cwI (R := room_1) (s := X.s) (args := #[Value.ref X.b]) (own := RL) (index := idx) (y := y') (bytes := code') (maxL := nL') (ws := .code y' code' nL' none :: BW) (rm := rm') (Ts := BW) n X.C.2.2.2.2.2.1 (bw_good _ (fun w h => by
    rcases List.mem_cons.mp h with rfl | h
    · exact g1
    · exact h)) rfl rfl rfl (X.C.2.2.2.2.2.1 _ g2) (X.C.2.2.2.2.2.1 _ hw) (X.C.2.2.2.2.2.1 _ g6) g7 ⟨g3.1, g3.2, g4⟩ ⟨k1, k2⟩
  exact w_run (va_runI (As := As) (rest := st) (b := X.B + o) (Ts := BW) (nL := 4) (own := RL) ⟨X.C.1, X.C.2.1, X.C.2.2.2.1, X.C.2.2.2.2.1, X.C.2.2.2.2.2.1⟩ (hM' X.l X.G X.dA) hcw ⟨q_blind, fun U hU hW => ⟨rfl, by rw [hU]; exact hM, q_K.moved hW X.C.2.2.2.2.2.2.2.1, by rw [hU]; omega, by rw [hU]; exact Nat.le_trans X.C.2.2.2.2.2.2.2.2.1 hS.1⟩⟩ rfl hn hl.1 rfl (lv_room hcat) hd ⟨k3, k4⟩) hS (fun v Z' D' E' H1 locs1 hq hm hs => kk v Z' D' E' hq H1 locs1 ls hm hs hl (by have := hsz v Z' D' E' hq; omega))
theorem lw_r_sld {i : Int32} (hd : decode code pc = .ok (.iaload, 1)) (hi : vp_in i X.L) (k : LW X Z D E ce sl (pc + 1) lv (.int (X.xs i.toNatClampNeg) :: st)) : LW X Z D E ce sl pc lv (.int i :: .ref X.b :: st) := fun H locs ls hM hS hl hA => va_sld X.C.1 X.C.2.1 X.hX (X.hB ▸ X.hb) (Nat.not_le.mpr X.hb) hS hi hd (k H locs ls hM hS hl hA)
theorem lw_r_slen (hd : decode code pc = .ok (.arraylength, 1)) (k : LW X Z D E ce sl (pc + 1) lv (.int (nI X.L) :: st)) : LW X Z D E ce sl pc lv (.ref X.b :: st) := fun H locs ls hM hS hl hA => va_slen X.C.1 X.C.2.1 X.hX (X.hB ▸ X.hb) (Nat.not_le.mpr X.hb) hS hd (k H locs ls hM hS hl hA)
theorem lw_r_end (hd : decode code pc = .ok (.ireturn, 1)) (h1 : ce ≤ 600000) (h2 : sl ≤ 7302250) : LW X Z D E ce sl pc lv [.int 1] := fun H locs ls hM hS hl hA => va_forget (fun q hq => by rw [X.hB]; exact hS.2.2 q hq) (W.widen h1 h2 (lw_ret X.C.1 X.C.2.1 X.C.2.2.1 X.C.2.2.2.2.2.2.1 hd))
theorem lw_r_Z {Z' : ZZ} {D' : DD} {E' : EE} (h1 : Z'.1 = Z.1) (h2 : ∀ i, i < Z.1 → Z'.2.1 i = Z.2.1 i ∧ Z'.2.2 i = Z.2.2 i ∧ D' i = D i ∧ E' i = E i) (k : LW X Z' D' E' ce sl pc lv st) : LW X Z D E ce sl pc lv st := fun H locs ls hM hS hl hA => k H locs ls (q_Meq h1 h2 hM) hS hl (by rw [h1]; exact hA)
theorem lw_a_new {n : Nat} {f f' : Nat → Nat → Option Nat} {idx c : Nat} (hw : Cond.classLink RL idx (q_C c) ∈ BW) (hn : Cond.instantiable (q_C c) (q_N c) ∈ BW) (hi : Cond.initialized (q_C c) ∈ BW) (hd : decode code pc = .ok (.new idx, 3)) (hc : c < 7) (h1 : ce + 1 ≤ room_1.cells) (h2 : sl + q_N c ≤ room_1.slots) (hk : K0 n = (c, q_N c)) (hf : f' n = nR) (hg : ∀ i, i < n → f' i = f i) (hD : D n = fun _ => 0) (hE : E n = fun _ => 0) (kk : LW X (ZC (n + 1) f') D E (ce + 1) (sl + q_N c) (pc + 3) lv (.ref (X.B + n) :: st)) : LW X (ZC n f) D E ce sl pc lv st :=
  lw_r_new (Z := ZC n f) hw hn hi hd hc h1 h2 (lw_r_Z (Z' := ZC (n + 1) f') rfl (al_eq hk hf hg hD hE) kk)
end LAWROWS
