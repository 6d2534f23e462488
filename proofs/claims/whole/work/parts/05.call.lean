section RWC
variable {y : MethodName} {cc : ByteArray} {nL : Nat} {ret : Option FieldType} {rm : Room} {B : Nat} {Q : QQ} {Z : ZZ} {D : DD} {E : EE} {ce sl pc : Nat} {lv : List (Nat × Value)} {st : List Value}
theorem bw_good (ws : List Cond) (h : ∀ w ∈ ws, w ∈ BW) : GoodIn BW ws := fun w hw => ⟨h w hw, good_of_word (List.mem_filter.mp (h w hw)).2⟩
def MN (y : MethodName) (cc : ByteArray) (nL : Nat) (ret : Option FieldType) (n : Nat) : Prop := Cond.code y cc nL ret ∈ BW ∧ Cond.initialized y.cls ∈ BW ∧ (y.cls ≠ "java/lang/invoke/MethodHandle" ∧ y.cls ≠ "java/lang/invoke/VarHandle") ∧ (parseMethodDescriptor y.desc).map (fun d => d.parameters.length) = some n ∧ plainName y.cls = true
def MV (y : MethodName) (cc : ByteArray) (nL : Nat) (ret : Option FieldType) (n : Nat) : Prop := MN y cc nL ret n ∧ Cond.instanceMethod y ∈ BW ∧ Cond.selects y.cls y y ∈ BW
def MS (y : MethodName) (cc : ByteArray) (nL : Nat) (ret : Option FieldType) (n : Nat) : Prop := MN y cc nL ret n ∧ Cond.static y ∈ BW
def MI (y : MethodName) (cc : ByteArray) (nL : Nat) (n : Nat) : Prop := MN y cc nL none n ∧ Cond.instanceMethod y ∈ BW ∧ y.name = "<init>"
theorem q_blind {av : List Value} {G : va_G} {dA : Nat → ClassId} : FrameBlind (va_Pc av (fun U => q_M G dA B Z D E U.heap ∧ q_K G dA U ∧ U.heap.size ≤ B + Z.1 ∧ B ≤ U.heap.size)) := by
  intro a U g mk h
  obtain ⟨h1, h2, h3, h4, h5⟩ := h
  exact ⟨h1, h2, q_K.same (u := U) (U := U.calling g mk a) rfl h3, h4, h5⟩
theorem r_enter {av : List Value} (lv : List (Nat × Value)) (hy : plainName y.cls = true) (hlen : (lg_sl av).length ≤ nL) (hlv : lv_args 0 av = lv) (h : RW y cc nL ret rm B Q Z D E 0 0 0 lv []) : MR y cc nL ret rm B av Z D E Q := by
  intro l G dA
  refine Met.ofW (cc := cc) (maxL := nL) (ret := ret) hy rfl ?_
  intro p e s m args below meth c s₁ Bd hml hv
  obtain ⟨rfl, hM, hK, hsz, hB⟩ := hv
  rw [lg_entry_eq]
  have hts := atoms_spec (ws := Cond.code y cc nL ret :: BW) Bd.pre
  refine h p l e s m _ below meth c G dA s.heap [] _ ⟨Bd.exec, Bd.bytes, Bd.returns, hml, findClass_of_methodNamed Bd.named, fun w hw => hts w (List.mem_cons_of_mem _ hw), Bd.notSynchronized, hK, hB, (name_of_methodNamed Bd.named Bd.method).1⟩ hM va_S.rf ?_ hsz
  subst hlv
  exact lv_entry av hlen
theorem w_run {p : Program} {l : Launch} {e : Env} {R : Room} {s : State} {m : MethodId} {args : Array Value} {below : List Frame} {meth : Method} {c : Code} {H : Heap} {locs : List Loc} {cells slots mc ms : Nat} {Qf : State → Prop} {g : JFrame} {rest : List Value} {Q' : QQ} {G : va_G} {dA : Nat → ClassId} {av : Array Value}
    (hr : va_Run p l e R s m args below meth c H locs cells slots mc ms g rest (QC G dA B Q' av) (fun q => B ≤ q)) (hS : va_S (fun q => B ≤ q) s.heap H locs)
    (kk : ∀ (v : Option Value) (Z' : ZZ) (D' : DD) (E' : EE) (H1 : Heap) (locs1 : List Loc), Q' v Z' D' E' → q_M G dA B Z' D' E' H1 → va_S (fun q => B ≤ q) s.heap H1 locs1 → W p l e R s m args below meth c H1 locs1 (cells + mc) (slots + ms) Qf { g with pc := g.pc + 3, stack := v.toList ++ rest }) : W p l e R s m args below meth c H locs cells slots Qf g := by
  intro T hT X
  obtain ⟨v, st₀, t, T', L, h0, X', hL, e1, e2, ⟨⟨v', Z', D', E', hv, hq, hm⟩, hz, hk⟩, st⟩ := hr T hT X
  cases hv
  rw [h0] at hz hk
  rw [← e1] at hm hz hk
  obtain ⟨t2, a1, b1⟩ := kk v Z' D' E' T'.heap (locs ++ L) hq hm ⟨Nat.le_trans hS.1 hz, fun q h1 h2 => (hk q (Nat.lt_of_lt_of_le h1 hS.1) h2).trans (hS.2.1 q h1 h2), fun q hq => by
      rcases List.mem_append.mp hq with h | h
      · exact hS.2.2 q h
      · exact hL q h⟩ T' rfl X'
  exact ⟨t2, st t2 a1, b1⟩
theorem q_recv {G : va_G} {dA : Nat → ClassId} {s : State} {H : Heap} {o ci nf : Nat} (hK : q_K G dA s) (hM : q_M G dA B Z D E H) (ho : o < Z.1) (hz : Z.2.1 o = (ci, nf)) (hc : ci < 7) : ∃ cell : Cell, H[B + o]? = some cell ∧ cell.vm.isStatics = false ∧ s.vm.findClass (q_C ci) = some cell.cls :=
  va_recv hK.1 hM (q_cl ci hc) ((q_get ho).trans (congrArg some (q_wfo hz hc)))
theorem r_callV {y' : MethodName} {cc' : ByteArray} {nL' n idx : Nat} {ret' : Option FieldType} {rm' : Room} {Q' : QQ} {As stk : List Value} {o ci nf : Nat} (hM' : MR y' cc' nL' ret' rm' B (.ref (B + o) :: As) Z D E Q') (hV : MV y' cc' nL' ret' n) (hw : Cond.methodLink y.cls idx y' ∈ BW) (hd : decode cc pc = .ok (.invokevirtual idx, 3)) (hst : stk = As.reverse ++ .ref (B + o) :: st) (hn : As.length = n) (ho : o < Z.1) (hz : Z.2.1 o = (ci, nf)) (hc : ci < 7) (hcl : q_C ci = y'.cls) (hcat : (st.map fun v => v.category).sum ≤ 8) (hrm : rm'.frames + 1 ≤ rm.frames ∧ 8 + (nL' + 11) + rm'.locals ≤ rm.locals ∧ ce + rm'.cells ≤ rm.cells ∧ sl + rm'.slots ≤ rm.slots) (hsz : ∀ v Z' D' E', Q' v Z' D' E' → Z.1 + rm'.cells ≤ Z'.1) (kk : ∀ v Z' D' E', Q' v Z' D' E' → RW y cc nL ret rm B Q Z' D' E' (ce + rm'.cells) (sl + rm'.slots) (pc + 3) lv (v.toList ++ st)) : RW y cc nL ret rm B Q Z D E ce sl pc lv stk := fun p l e s m args below meth c G dA H locs ls C hM hS hl hA => W.size fun hHs => by
  obtain ⟨⟨g1, g2, g3, g4, g5⟩, g6, g7⟩ := hV
  obtain ⟨k1, k2, k3, k4⟩ := hrm
  subst hst
  have hcw := cwV (R := rm) (s := s) (args := args) (own := y.cls) (index := idx) (C := y'.cls) (y := y') (ws := .code y' cc' nL' ret' :: BW) (rm := rm') (Ts := BW) n C.2.2.2.2.2.1 (bw_good _ (fun w hw9 => by
    rcases List.mem_append.mp hw9 with h | h
    · simp only [List.mem_cons, List.not_mem_nil, or_false] at h
      rcases h with rfl | rfl | rfl | rfl <;> assumption
    · rcases List.mem_cons.mp h with rfl | h
      · exact g1
      · exact h)) rfl rfl rfl ⟨rfl, g3.1, g3.2, g4⟩ ⟨k1, k2⟩
  exact w_run (va_runV (C := y'.cls) (As := As) (rest := st) (b := B + o) (Ts := BW) (nL := nL) (own := y.cls) ⟨C.1, C.2.1, C.2.2.2.1, C.2.2.2.2.1, C.2.2.2.2.2.1⟩ (hM' l G dA) hcw ⟨q_blind, hcl ▸ q_recv C.2.2.2.2.2.2.2.1 hM ho hz hc, fun U hU hW => ⟨rfl, by rw [hU]; exact hM, q_K.moved hW C.2.2.2.2.2.2.2.1, by rw [hU]; omega, by rw [hU]; exact Nat.le_trans C.2.2.2.2.2.2.2.2.1 hS.1⟩⟩ rfl hn hl.1 rfl (lv_room hcat) hd ⟨k3, k4⟩) hS (fun v Z' D' E' H1 locs1 hq hm hs => kk v Z' D' E' hq p l e s m args below meth c G dA H1 locs1 ls C hm hs hl (by have := hsz v Z' D' E' hq; omega))
theorem r_callS {y' : MethodName} {cc' : ByteArray} {nL' n idx : Nat} {ret' : Option FieldType} {rm' : Room} {Q' : QQ} {As stk : List Value} (hM' : MR y' cc' nL' ret' rm' B As Z D E Q') (hV : MS y' cc' nL' ret' n) (hw : Cond.methodLink y.cls idx y' ∈ BW) (hyc : y'.cls = y.cls) (hd : decode cc pc = .ok (.invokestatic idx, 3)) (hst : stk = As.reverse ++ st) (hn : As.length = n) (hcat : (st.map fun v => v.category).sum ≤ 8) (hrm : rm'.frames + 1 ≤ rm.frames ∧ 8 + (nL' + 11) + rm'.locals ≤ rm.locals ∧ ce + rm'.cells ≤ rm.cells ∧ sl + rm'.slots ≤ rm.slots) (hsz : ∀ v Z' D' E', Q' v Z' D' E' → Z.1 + rm'.cells ≤ Z'.1) (kk : ∀ v Z' D' E', Q' v Z' D' E' → RW y cc nL ret rm B Q Z' D' E' (ce + rm'.cells) (sl + rm'.slots) (pc + 3) lv (v.toList ++ st)) : RW y cc nL ret rm B Q Z D E ce sl pc lv stk := fun p l e s m args below meth c G dA H locs ls C hM hS hl hA => W.size fun hHs => by
  obtain ⟨⟨g1, g2, g3, g4, g5⟩, g6⟩ := hV
  obtain ⟨k1, k2, k3, k4⟩ := hrm
  subst hst
  have hcw := cwS (R := rm) (s := s) (args := args) (own := y.cls) (index := idx) (y := y') (ws := .code y' cc' nL' ret' :: BW) (rm := rm') (Ts := BW) n C.2.2.2.2.2.1 (bw_good _ (fun w hw9 => by
    rcases List.mem_append.mp hw9 with h | h
    · simp only [List.mem_cons, List.not_mem_nil, or_false] at h
      rcases h with rfl | rfl | rfl
      · exact hw
      · exact g6
      · exact hyc ▸ g2
    · rcases List.mem_cons.mp h with rfl | h
      · exact g1
      · exact h)) rfl rfl rfl ⟨hyc, g3.1, g3.2, g4⟩ ⟨k1, k2⟩
  exact w_run (va_runS (As := As) (rest := st) (Ts := BW) (nL := nL) (own := y.cls) ⟨C.1, C.2.1, C.2.2.2.1, C.2.2.2.2.1, C.2.2.2.2.2.1⟩ (hM' l G dA) hcw ⟨q_blind, fun U hU hW => ⟨rfl, by rw [hU]; exact hM, q_K.moved hW C.2.2.2.2.2.2.2.1, by rw [hU]; omega, by rw [hU]; exact Nat.le_trans C.2.2.2.2.2.2.2.2.1 hS.1⟩⟩ rfl hn hl.1 rfl (lv_room hcat) hd ⟨k3, k4⟩) hS (fun v Z' D' E' H1 locs1 hq hm hs => kk v Z' D' E' hq p l e s m args below meth c G dA H1 locs1 ls C hm hs hl (by have := hsz v Z' D' E' hq; omega))
theorem r_callSN {y' : MethodName} {cc' : ByteArray} {nL' n idx : Nat} {ret' : Option FieldType} {rm' : Room} {Q' : QQ} {As stk : List Value} (hM' : MR y' cc' nL' ret' rm' B As Z D E Q') (hV : MS y' cc' nL' ret' n) (hw : Cond.methodLinkNest y.cls idx y' "BlueHue" ∈ q_nest) (hd : decode cc pc = .ok (.invokestatic idx, 3)) (hst : stk = As.reverse ++ st) (hn : As.length = n) (hcat : (st.map fun v => v.category).sum ≤ 8) (hrm : rm'.frames + 1 ≤ rm.frames ∧ 8 + (nL' + 11) + rm'.locals ≤ rm.locals ∧ ce + rm'.cells ≤ rm.cells ∧ sl + rm'.slots ≤ rm.slots) (hsz : ∀ v Z' D' E', Q' v Z' D' E' → Z.1 + rm'.cells ≤ Z'.1) (kk : ∀ v Z' D' E', Q' v Z' D' E' → RW y cc nL ret rm B Q Z' D' E' (ce + rm'.cells) (sl + rm'.slots) (pc + 3) lv (v.toList ++ st)) : RW y cc nL ret rm B Q Z D E ce sl pc lv stk := fun p l e s m args below meth c G dA H locs ls C hM hS hl hA => W.size fun hHs => by
  obtain ⟨⟨g1, g2, g3, g4, g5⟩, g6⟩ := hV
  obtain ⟨k1, k2, k3, k4⟩ := hrm
  subst hst
  have hcw := va_cnB (R := rm) (s := s) (args := args) (own := y.cls) (host := "BlueHue") (index := idx) (y := y') (ws := .code y' cc' nL' ret' :: BW) (rm := rm') (Ts := BW) n C.2.2.2.2.2.1 (bw_good _ (fun w h => by
    rcases List.mem_cons.mp h with rfl | h
    · exact g1
    · exact h)) rfl rfl rfl (C.2.2.2.2.2.2.2.1.2.1 _ hw) (C.2.2.2.2.2.1 _ g2) ⟨g3.1, g3.2, g4⟩ ⟨k1, k2⟩
  exact w_run (va_runSN (As := As) (rest := st) (Ts := BW) (nL := nL) (own := y.cls) ⟨C.1, C.2.1, C.2.2.2.1, C.2.2.2.2.1, C.2.2.2.2.2.1⟩ (hM' l G dA) ⟨hcw, C.2.2.2.2.2.1 _ g6, trivial⟩ ⟨q_blind, fun U hU hW => ⟨rfl, by rw [hU]; exact hM, q_K.moved hW C.2.2.2.2.2.2.2.1, by rw [hU]; omega, by rw [hU]; exact Nat.le_trans C.2.2.2.2.2.2.2.2.1 hS.1⟩⟩ rfl hn hl.1 rfl (lv_room hcat) hd ⟨k3, k4⟩) hS (fun v Z' D' E' H1 locs1 hq hm hs => kk v Z' D' E' hq p l e s m args below meth c G dA H1 locs1 ls C hm hs hl (by have := hsz v Z' D' E' hq; omega))
theorem r_callI {y' : MethodName} {cc' : ByteArray} {nL' n idx : Nat} {rm' : Room} {Q' : QQ} {As stk : List Value} {o : Nat} (hM' : MR y' cc' nL' none rm' B (.ref (B + o) :: As) Z D E Q') (hV : MI y' cc' nL' n) (hw : Cond.methodLink y.cls idx y' ∈ BW) (hd : decode cc pc = .ok (.invokespecial idx, 3)) (hst : stk = As.reverse ++ .ref (B + o) :: st) (hn : As.length = n) (hcat : (st.map fun v => v.category).sum ≤ 8) (hrm : rm'.frames + 1 ≤ rm.frames ∧ 8 + (nL' + 11) + rm'.locals ≤ rm.locals ∧ ce + rm'.cells ≤ rm.cells ∧ sl + rm'.slots ≤ rm.slots) (hsz : ∀ v Z' D' E', Q' v Z' D' E' → Z.1 + rm'.cells ≤ Z'.1) (kk : ∀ v Z' D' E', Q' v Z' D' E' → RW y cc nL ret rm B Q Z' D' E' (ce + rm'.cells) (sl + rm'.slots) (pc + 3) lv (v.toList ++ st)) : RW y cc nL ret rm B Q Z D E ce sl pc lv stk := fun p l e s m args below meth c G dA H locs ls C hM hS hl hA => W.size fun hHs => by
  obtain ⟨⟨g1, g2, g3, g4, g5⟩, g6, g7⟩ := hV
  obtain ⟨k1, k2, k3, k4⟩ := hrm
  subst hst
  have hcw := cwI (R := rm) (s := s) (args := args) (own := y.cls) (index := idx) (y := y') (bytes := cc') (maxL := nL') (ws := .code y' cc' nL' none :: BW) (rm := rm') (Ts := BW) n C.2.2.2.2.2.1 (bw_good _ (fun w h => by
    rcases List.mem_cons.mp h with rfl | h
    · exact g1
    · exact h)) rfl rfl rfl (C.2.2.2.2.2.1 _ g2) (C.2.2.2.2.2.1 _ hw) (C.2.2.2.2.2.1 _ g6) g7 ⟨g3.1, g3.2, g4⟩ ⟨k1, k2⟩
  exact w_run (va_runI (As := As) (rest := st) (b := B + o) (Ts := BW) (nL := nL) (own := y.cls) ⟨C.1, C.2.1, C.2.2.2.1, C.2.2.2.2.1, C.2.2.2.2.2.1⟩ (hM' l G dA) hcw ⟨q_blind, fun U hU hW => ⟨rfl, by rw [hU]; exact hM, q_K.moved hW C.2.2.2.2.2.2.2.1, by rw [hU]; omega, by rw [hU]; exact Nat.le_trans C.2.2.2.2.2.2.2.2.1 hS.1⟩⟩ rfl hn hl.1 rfl (lv_room hcat) hd ⟨k3, k4⟩) hS (fun v Z' D' E' H1 locs1 hq hm hs => kk v Z' D' E' hq p l e s m args below meth c G dA H1 locs1 ls C hm hs hl (by have := hsz v Z' D' E' hq; omega))
theorem r_callIN {y' : MethodName} {cc' : ByteArray} {nL' n idx : Nat} {rm' : Room} {Q' : QQ} {As stk : List Value} {o : Nat} (hM' : MR y' cc' nL' none rm' B (.ref (B + o) :: As) Z D E Q') (hV : MI y' cc' nL' n) (hw : Cond.methodLinkNest y.cls idx y' "BlueHue" ∈ q_nest) (hd : decode cc pc = .ok (.invokespecial idx, 3)) (hst : stk = As.reverse ++ .ref (B + o) :: st) (hn : As.length = n) (hcat : (st.map fun v => v.category).sum ≤ 8) (hrm : rm'.frames + 1 ≤ rm.frames ∧ 8 + (nL' + 11) + rm'.locals ≤ rm.locals ∧ ce + rm'.cells ≤ rm.cells ∧ sl + rm'.slots ≤ rm.slots) (hsz : ∀ v Z' D' E', Q' v Z' D' E' → Z.1 + rm'.cells ≤ Z'.1) (kk : ∀ v Z' D' E', Q' v Z' D' E' → RW y cc nL ret rm B Q Z' D' E' (ce + rm'.cells) (sl + rm'.slots) (pc + 3) lv (v.toList ++ st)) : RW y cc nL ret rm B Q Z D E ce sl pc lv stk := fun p l e s m args below meth c G dA H locs ls C hM hS hl hA => W.size fun hHs => by
  obtain ⟨⟨g1, g2, g3, g4, g5⟩, g6, g7⟩ := hV
  obtain ⟨k1, k2, k3, k4⟩ := hrm
  subst hst
  have hcw := va_cnB (R := rm) (s := s) (args := args) (own := y.cls) (host := "BlueHue") (index := idx) (y := y') (ws := .code y' cc' nL' none :: BW) (rm := rm') (Ts := BW) n C.2.2.2.2.2.1 (bw_good _ (fun w h => by
    rcases List.mem_cons.mp h with rfl | h
    · exact g1
    · exact h)) rfl rfl rfl (C.2.2.2.2.2.2.2.1.2.1 _ hw) (C.2.2.2.2.2.1 _ g2) ⟨g3.1, g3.2, g4⟩ ⟨k1, k2⟩
  exact w_run (va_runIN (As := As) (rest := st) (b := B + o) (Ts := BW) (nL := nL) (own := y.cls) ⟨C.1, C.2.1, C.2.2.2.1, C.2.2.2.2.1, C.2.2.2.2.2.1⟩ (hM' l G dA) ⟨hcw, g7, C.2.2.2.2.2.1 _ g6⟩ ⟨q_blind, fun U hU hW => ⟨rfl, by rw [hU]; exact hM, q_K.moved hW C.2.2.2.2.2.2.2.1, by rw [hU]; omega, by rw [hU]; exact Nat.le_trans C.2.2.2.2.2.2.2.2.1 hS.1⟩⟩ rfl hn hl.1 rfl (lv_room hcat) hd ⟨k3, k4⟩) hS (fun v Z' D' E' H1 locs1 hq hm hs => kk v Z' D' E' hq p l e s m args below meth c G dA H1 locs1 ls C hm hs hl (by have := hsz v Z' D' E' hq; omega))
end RWC
