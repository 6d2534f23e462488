/-! rows of rows: an array of arrays at once -/
theorem q_ext {G : va_G} {dA : Nat → ClassId} {B : Nat} {Z Z' : ZZ} {D D' : DD} {E E' : EE} {H H1 : Heap} (h : q_M G dA B Z D E H) (hold : ∀ q, q < H.size → H1[q]? = H[q]?) (h1 : Z.1 ≤ Z'.1) (h2 : ∀ i, i < Z.1 → Z'.2.1 i = Z.2.1 i ∧ Z'.2.2 i = Z.2.2 i ∧ D' i = D i ∧ E' i = E i) (h3 : ∀ i, Z.1 ≤ i → i < Z'.1 → va_at G vwCl (q_wf B dA Z' D' E' i) H1) : q_M G dA B Z' D' E' H1 := by
  intro k q hk
  have hl : k < Z'.1 := by
    have := (List.getElem?_eq_some_iff.mp hk).1
    simpa [q_w] using this
  rw [q_get hl] at hk
  cases hk
  by_cases u : k < Z.1
  · have e : q_wf B dA Z' D' E' k = q_wf B dA Z D E k := by
      obtain ⟨a, b, c, d⟩ := h2 k u
      unfold q_wf
      rw [a, b, c, d]
    rw [e]
    have h9 := h k _ (q_get u)
    exact h9.kept (hold _ h9.lt)
  · exact h3 k (by omega) hl
theorem vr_out (c : ClassId) (N h0 : Nat) : ∀ i : Nat, Jvm.Free.Multi.outerC c N h0 i = arrV c N (fun j => va_rf (if j < i then some (h0 + 1 + j) else none))
  | 0 => by
    show ({ cls := c, slots := Array.replicate N .null, vm := .none } : Cell) = _
    rw [arrV_new]
    refine congrArg (arrV c N) (funext fun j => ?_)
    rw [if_neg (Nat.not_lt_zero j)]
    rfl
  | i + 1 => by
    show (Jvm.Free.Multi.outerC c N h0 i).setSlot i (.ref (h0 + 1 + i)) = _
    rw [vr_out c N h0 i, arrV_store]
    refine congrArg (arrV c N) (funext fun j => ?_)
    unfold updV
    by_cases e : j = i
    · subst e
      rw [if_pos rfl, if_pos (Nat.lt_succ_self j)]
      rfl
    · rw [if_neg e]
      show va_rf (if j < i then some (h0 + 1 + j) else none) = _
      by_cases h : j < i
      · rw [if_pos h, if_pos (by omega)]
      · rw [if_neg h, if_neg (by omega)]
theorem r_mna {y : MethodName} {cc : ByteArray} {nL : Nat} {ret : Option FieldType} {rm : Room} {B : Nat} {Q : QQ} {D : DD} {E : EE} {ce sl pc : Nat} {lv : List (Nat × Value)} {st : List Value} {f : Nat → Nat → Option Nat} {idx : Nat} (hw : Cond.classLink y.cls idx ("[" ++ (FieldType.array .int).toString) ∈ BW) (hd : decode cc pc = .ok (.multianewarray idx 2, 4)) (h1 : ce + 9 ≤ rm.cells) (h2 : sl + 328 ≤ rm.slots) (hf4 : f 4 = iR) (hf5 : ∀ j, j < 8 → f (5 + j) = nR) (hD : ∀ i, 4 ≤ i → D i = fun _ => 0) (hE : ∀ i, 4 ≤ i → E i = fun _ => 0)
    (kk : RW y cc nL ret rm B Q (ZC 13 f) D E (ce + 9) (sl + 328) (pc + 4) lv (.ref (B + 4) :: st)) : RW y cc nL ret rm B Q (ZC 4 f) D E ce sl pc lv (.int (nI 40) :: .int (nI 8) :: st) := fun p l e s m args below meth c G dA H locs ls C hM hS hl hA => W.size fun hHs => by
  have hsz : H.size = B + 4 := q_szeq hM hHs hA C.2.2.2.2.2.2.2.2.1 hS
  have e8 : (nI 8).toNatClampNeg = 8 := nI_clamp (by decide)
  have e40 : (nI 40).toNatClampNeg = 40 := nI_clamp (by decide)
  intro T hT Xs
  obtain ⟨vm₁, cA, comp, -, fA, fC, hO, -, X', step⟩ := Xs.multianewarray2F C.1 (own := y.cls) (index := idx) (ty := .int) C.2.2.2.2.1 (C.2.2.2.2.2.1 _ hw) C.2.2.2.2.2.2.2.1.2.2.2.2 (C.2.2.2.2.2.1 _ wa_int) (g := F0 m pc ls (.int (nI 40) :: .int (nI 8) :: st)) rfl (by rw [C.2.1]; exact hd) rfl (nI_pos (by decide)) (nI_pos (by decide)) (by rw [e8]; decide) (by rw [e40]; show 40 * 4 ≤ _; decide) (by rw [e40]; decide) rfl rfl (by rw [e8]; omega) (by rw [e8, e40]; omega)
  rw [e8, e40] at X' step
  have hcA : cA = dA 15 := by
    have h9 := (C.2.2.2.2.2.2.2.1.1.2 5 _ rfl).2
    exact Option.some.inj (fA.symm.trans h9)
  have hcC : comp = dA 10 := by
    have h9 := (C.2.2.2.2.2.2.2.1.1.2 0 _ rfl).2
    exact Option.some.inj (fC.symm.trans h9)
  subst hcA hcC
  have hTh : (T.setVm vm₁).heap = H := hT
  obtain ⟨f1, f2, -, -⟩ := Jvm.Free.Multi.fill_facts (T.setVm vm₁) (dA 15) (dA 10) 8 40 (defaultValue .int) 8
  have hold : ∀ x : Nat, x < H.size → (Jvm.Free.Multi.fill (T.setVm vm₁) (dA 15) (dA 10) 8 40 (defaultValue .int) 8).heap[x]? = H[x]? := fun x hx => by
    have := Jvm.Free.Multi.fill_old (T.setVm vm₁) (dA 15) (dA 10) 8 40 (defaultValue .int) (a := x) (by rw [hTh]; exact hx) 8
    rw [hTh] at this
    exact this
  have hrow : ∀ j : Nat, j < 8 → (Jvm.Free.Multi.fill (T.setVm vm₁) (dA 15) (dA 10) 8 40 (defaultValue .int) 8).heap[H.size + 1 + j]? = some (arrV (dA 10) 40 (fun _ => .int 0)) := fun j hj => by
    have := Jvm.Free.Multi.fill_inner (T.setVm vm₁) (dA 15) (dA 10) 8 40 (defaultValue .int) 8 j hj
    rw [hTh] at this
    rw [this]
    show some ({ cls := dA 10, slots := Array.replicate 40 (.int 0), vm := .none } : Cell) = _
    rw [arrV_new]
  rw [hTh, vr_out] at f2
  rw [hTh] at f1
  generalize Jvm.Free.Multi.fill (T.setVm vm₁) (dA 15) (dA 10) 8 40 (defaultValue .int) 8 = F at X' step f1 f2 hold hrow
  have hM2 : q_M G dA B (ZC 13 f) D E F.heap := by
    refine q_ext hM hold (by show 4 ≤ 13; decide) (fun i hi => ⟨rfl, rfl, rfl, rfl⟩) (fun i hi1 hi2 => ?_)
    have hi1' : 4 ≤ i := hi1
    have hi2' : i < 13 := hi2
    by_cases q : i = 4
    · subst q
      have e4 : q_wf B dA (ZC 13 f) D E 4 = (B + 4, .inl (dA 15, 8, .inr (.inr (.inr (.inr (fun j => (f 4 j).map (fun i => B + i))))))) := by
        unfold q_wf q_cel
        rw [show (ZC 13 f).2.1 4 = (15, 8) from k_4]
        rfl
      rw [e4]
      show F.heap[B + 4]? = some (arrV (dA 15) 8 (fun j => va_rf ((f 4 j).map (fun i => B + i))))
      rw [← hsz, f2, hf4, hsz]
      congr 2
      funext j
      unfold iR
      by_cases h : j < 8
      · rw [if_pos h, if_pos h]
        show va_rf (some (B + 4 + 1 + j)) = va_rf (some (B + (5 + j)))
        rw [show B + 4 + 1 + j = B + (5 + j) by omega]
      · rw [if_neg h, if_neg h]; rfl
    · obtain ⟨j, hj, rfl⟩ : ∃ j, j < 8 ∧ i = 5 + j := ⟨i - 5, by omega, by omega⟩
      have e5 : q_wf B dA (ZC 13 f) D E (5 + j) = (B + (5 + j), .inl (dA 10, 40, .inl (D (5 + j)))) := by
        unfold q_wf q_cel
        rw [show (ZC 13 f).2.1 (5 + j) = (10, 40) from (items_z j hj).2]
        rfl
      rw [e5, hD (5 + j) (by omega)]
      show F.heap[B + (5 + j)]? = some (arrV (dA 10) 40 (fun _ => .int 0))
      rw [show B + (5 + j) = H.size + 1 + j by omega]
      exact hrow j hj
  obtain ⟨t, a1, b1⟩ := kk p l e s m args below meth c G dA F.heap locs ls C hM2 ⟨by rw [f1]; have := hS.1; omega, fun x h1 h2 => (hold x (Nat.lt_of_lt_of_le h1 hS.1)).trans (hS.2.1 x h1 h2), hS.2.2⟩ hl (by show _ ≤ B + 13; have : s.heap.size + ce ≤ B + 4 := hA; omega) F rfl X'
  refine ⟨t, step t ?_, b1⟩
  have e : T.heap.size = B + 4 := by rw [hT]; exact hsz
  rw [e]
  exact a1
