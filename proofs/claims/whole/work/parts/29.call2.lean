section RWO
variable {y : MethodName} {cc : ByteArray} {nL : Nat} {ret : Option FieldType} {rm : Room} {B : Nat} {Q : QQ} {Z : ZZ} {D : DD} {E : EE} {ce sl pc : Nat} {lv : List (Nat × Value)} {st : List Value}
theorem r_callSO {y' : MethodName} {cc' : ByteArray} {nL' n idx : Nat} {ret' : Option FieldType} {rm' : Room} {Q' : QQ} {As stk : List Value} (hM' : MR y' cc' nL' ret' rm' B As Z D E Q') (hV : MS y' cc' nL' ret' n) (hw : Cond.methodLink y.cls idx y' ∈ BW) (hd : decode cc pc = .ok (.invokestatic idx, 3)) (hst : stk = As.reverse ++ st) (hn : As.length = n) (hcat : (st.map fun v => v.category).sum ≤ 8) (hrm : rm'.frames + 1 ≤ rm.frames ∧ 8 + (nL' + 11) + rm'.locals ≤ rm.locals ∧ ce + rm'.cells ≤ rm.cells ∧ sl + rm'.slots ≤ rm.slots) (hsz : ∀ v Z' D' E', Q' v Z' D' E' → Z.1 + rm'.cells ≤ Z'.1) (kk : ∀ v Z' D' E', Q' v Z' D' E' → RW y cc nL ret rm B Q Z' D' E' (ce + rm'.cells) (sl + rm'.slots) (pc + 3) lv (v.toList ++ st)) : RW y cc nL ret rm B Q Z D E ce sl pc lv stk := fun p l e s m args below meth c G dA H locs ls C hM hS hl hA => W.size fun hHs => by
  obtain ⟨⟨g1, g2, g3, g4, g5⟩, g6⟩ := hV
  obtain ⟨k1, k2, k3, k4⟩ := hrm
  subst hst
  have hcw := va_cwS (R := rm) (s := s) (args := args) (own := y.cls) (index := idx) (y := y') (ws := .code y' cc' nL' ret' :: BW) (rm := rm') (Ts := BW) n C.2.2.2.2.2.1 (bw_good _ (fun w hw9 => by
    rcases List.mem_append.mp hw9 with h | h
    · simp only [List.mem_cons, List.not_mem_nil, or_false] at h
      rcases h with rfl | rfl | rfl
      · exact hw
      · exact g6
      · exact g2
    · rcases List.mem_cons.mp h with rfl | h
      · exact g1
      · exact h)) rfl rfl rfl ⟨g3.1, g3.2, g4⟩ ⟨k1, k2⟩
  exact w_run (va_runS (As := As) (rest := st) (Ts := BW) (nL := nL) (own := y.cls) ⟨C.1, C.2.1, C.2.2.2.1, C.2.2.2.2.1, C.2.2.2.2.2.1⟩ (hM' l G dA) hcw ⟨q_blind, fun U hU hW => ⟨rfl, by rw [hU]; exact hM, q_K.moved hW C.2.2.2.2.2.2.2.1, by rw [hU]; omega, by rw [hU]; exact Nat.le_trans C.2.2.2.2.2.2.2.2.1 hS.1⟩⟩ rfl hn hl.1 rfl (lv_room hcat) hd ⟨k3, k4⟩) hS (fun v Z' D' E' H1 locs1 hq hm hs => kk v Z' D' E' hq p l e s m args below meth c G dA H1 locs1 ls C hm hs hl (by have := hsz v Z' D' E' hq; omega))
theorem r_callSOI {y' : MethodName} {cc' : ByteArray} {nL' n idx : Nat} {ret' : Option FieldType} {rm' : Room} {As stk : List Value} {P : Int32 → DD → EE → Prop} (hM' : MR y' cc' nL' ret' rm' B As Z D E (Q2 Z (pI P))) (hV : MS y' cc' nL' ret' n) (hw : Cond.methodLink y.cls idx y' ∈ BW) (hd : decode cc pc = .ok (.invokestatic idx, 3)) (hst : stk = As.reverse ++ st) (hn : As.length = n) (hcat : (st.map fun v => v.category).sum ≤ 8) (hrm : rm'.frames + 1 ≤ rm.frames ∧ 8 + (nL' + 11) + rm'.locals ≤ rm.locals ∧ ce ≤ rm.cells ∧ sl ≤ rm.slots) (h0 : rm'.cells = 0 ∧ rm'.slots = 0) (kk : ∀ r D' E', P r D' E' → RW y cc nL ret rm B Q Z D' E' ce sl (pc + 3) lv (.int r :: st)) : RW y cc nL ret rm B Q Z D E ce sl pc lv stk := by
  obtain ⟨e1, e2⟩ := h0
  refine r_callSO hM' hV hw hd hst hn hcat ⟨hrm.1, hrm.2.1, by rw [e1]; exact hrm.2.2.1, by rw [e2]; exact hrm.2.2.2⟩ (fun v Z' D' E' h => by rw [h.1, e1]; exact Nat.le_refl _) (fun v Z' D' E' h => ?_)
  obtain ⟨rfl, r, rfl, h⟩ := h
  rw [e1, e2]
  exact kk r D' E' h
end RWO
def bc1 (x : Int32) : Int32 := x - ((x.toUInt32 >>> ((nI 1).toUInt32 &&& Int32.toUInt32 31)).toInt32 &&& 1431655765)
def bc2 (x : Int32) : Int32 := (bc1 x &&& 858993459) + (((bc1 x).toUInt32 >>> ((nI 2).toUInt32 &&& Int32.toUInt32 31)).toInt32 &&& 858993459)
def bc3 (x : Int32) : Int32 := (bc2 x + ((bc2 x).toUInt32 >>> ((nI 4).toUInt32 &&& Int32.toUInt32 31)).toInt32) &&& 252645135
def bc4 (x : Int32) : Int32 := bc3 x + ((bc3 x).toUInt32 >>> ((nI 8).toUInt32 &&& Int32.toUInt32 31)).toInt32
def bc5 (x : Int32) : Int32 := bc4 x + ((bc4 x).toUInt32 >>> ((nI 16).toUInt32 &&& Int32.toUInt32 31)).toInt32
/-- how many of six bits -/
def s_bits (n : Nat) : Nat := n % 2 + n / 2 % 2 + n / 4 % 2 + n / 8 % 2 + n / 16 % 2 + n / 32 % 2
theorem bc_n : ∀ n, n < 64 → bc5 (nI n) &&& nI 63 = nI (s_bits n) := by decide +kernel
