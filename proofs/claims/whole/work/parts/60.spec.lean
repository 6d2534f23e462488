/-! the shape as it grows -/
def ZC (n : Nat) (f : Nat → Nat → Option Nat) : ZZ := (n, K0, f)
theorem q_Meq {G : va_G} {dA : Nat → ClassId} {B : Nat} {Z Z' : ZZ} {D D' : DD} {E E' : EE} {H : Heap} (h1 : Z'.1 = Z.1) (h2 : ∀ i, i < Z.1 → Z'.2.1 i = Z.2.1 i ∧ Z'.2.2 i = Z.2.2 i ∧ D' i = D i ∧ E' i = E i) (h : q_M G dA B Z D E H) : q_M G dA B Z' D' E' H := by
  have e : q_w B dA Z' D' E' = q_w B dA Z D E := by
    unfold q_w
    rw [h1]
    apply List.map_congr_left
    intro i hi
    obtain ⟨a, b, c, d⟩ := h2 i (List.mem_range.mp hi)
    unfold q_wf
    rw [a, b, c, d]
  unfold q_M
  rw [e]
  exact h
def updR (g : Nat → Option Nat) (k v : Nat) : Nat → Option Nat := fun j => if j = k then some v else g j
def nR : Nat → Option Nat := fun _ => none
theorem upR {f : Nat → Nat → Option Nat} {g : Nat → Option Nat} {o k v : Nat} : up2 (upo f o g) o k (some v) = upo f o (updR g k v) := by
  funext i j
  unfold up2 upo updR
  by_cases h : i = o
  · simp [h]
  · simp [h]
section GRW
variable {y : MethodName} {cc : ByteArray} {nL : Nat} {ret : Option FieldType} {rm : Room} {B : Nat} {Q : QQ} {D : DD} {E : EE} {ce sl pc : Nat} {lv : List (Nat × Value)} {st : List Value} {n : Nat} {f f' : Nat → Nat → Option Nat}
theorem r_Z {Z Z' : ZZ} {D' : DD} {E' : EE} (h1 : Z'.1 = Z.1) (h2 : ∀ i, i < Z.1 → Z'.2.1 i = Z.2.1 i ∧ Z'.2.2 i = Z.2.2 i ∧ D' i = D i ∧ E' i = E i) (k : RW y cc nL ret rm B Q Z' D' E' ce sl pc lv st) : RW y cc nL ret rm B Q Z D E ce sl pc lv st := fun p l e s m args below meth c G dA H locs ls C hM hS hl hA => k p l e s m args below meth c G dA H locs ls C (q_Meq h1 h2 hM) hS hl (by rw [h1]; exact hA)
theorem al_eq {kd : Nat × Nat} (hk : K0 n = kd) (hf : f' n = nR) (hg : ∀ i, i < n → f' i = f i) (hD : D n = fun _ => 0) (hE : E n = fun _ => 0) : ∀ i, i < n + 1 → K0 i = upo K0 n kd i ∧ f' i = upo f n (fun _ => none) i ∧ D i = upo D n (fun _ => 0) i ∧ E i = upo E n (fun _ => 0) i := by
  intro i hi
  by_cases q : i = n
  · subst q
    rw [upo_s, upo_s, upo_s, upo_s]
    exact ⟨hk, hf, hD, hE⟩
  · rw [upo_n q, upo_n q, upo_n q, upo_n q]
    exact ⟨rfl, hg i (by omega), rfl, rfl⟩
theorem a_I {N : Nat} (hd : decode cc pc = .ok (.newarray .int, 2)) (hN : N ≤ 100000) (h1 : ce + 1 ≤ rm.cells) (h2 : sl + N ≤ rm.slots) (hk : K0 n = (10, N)) (hf : f' n = nR) (hg : ∀ i, i < n → f' i = f i) (hD : D n = fun _ => 0) (hE : E n = fun _ => 0) (kk : RW y cc nL ret rm B Q (ZC (n + 1) f') D E (ce + 1) (sl + N) (pc + 2) lv (.ref (B + n) :: st)) : RW y cc nL ret rm B Q (ZC n f) D E ce sl pc lv (.int (nI N) :: st) :=
  r_newaI (Z := ZC n f) N hd (nI_pos (by omega)) (nI_clamp (by omega)) (by show N * 4 ≤ _; omega) h1 h2 (r_Z (Z' := ZC (n + 1) f') rfl (al_eq hk hf hg hD hE) kk)
theorem a_L {N : Nat} (hd : decode cc pc = .ok (.newarray .long, 2)) (hN : N ≤ 100000) (h1 : ce + 1 ≤ rm.cells) (h2 : sl + N ≤ rm.slots) (hk : K0 n = (11, N)) (hf : f' n = nR) (hg : ∀ i, i < n → f' i = f i) (hD : D n = fun _ => 0) (hE : E n = fun _ => 0) (kk : RW y cc nL ret rm B Q (ZC (n + 1) f') D E (ce + 1) (sl + N) (pc + 2) lv (.ref (B + n) :: st)) : RW y cc nL ret rm B Q (ZC n f) D E ce sl pc lv (.int (nI N) :: st) :=
  r_newaL (Z := ZC n f) N hd (nI_pos (by omega)) (nI_clamp (by omega)) (by show N * 8 ≤ _; omega) h1 h2 (r_Z (Z' := ZC (n + 1) f') rfl (al_eq hk hf hg hD hE) kk)
theorem a_Z {N : Nat} (hd : decode cc pc = .ok (.newarray .boolean, 2)) (hN : N ≤ 100000) (h1 : ce + 1 ≤ rm.cells) (h2 : sl + N ≤ rm.slots) (hk : K0 n = (12, N)) (hf : f' n = nR) (hg : ∀ i, i < n → f' i = f i) (hD : D n = fun _ => 0) (hE : E n = fun _ => 0) (kk : RW y cc nL ret rm B Q (ZC (n + 1) f') D E (ce + 1) (sl + N) (pc + 2) lv (.ref (B + n) :: st)) : RW y cc nL ret rm B Q (ZC n f) D E ce sl pc lv (.int (nI N) :: st) :=
  r_newaZ (Z := ZC n f) N hd (nI_pos (by omega)) (nI_clamp (by omega)) (by show N * 1 ≤ _; omega) h1 h2 (r_Z (Z' := ZC (n + 1) f') rfl (al_eq hk hf hg hD hE) kk)
theorem a_qL {N idx : Nat} (hw : Cond.classLink y.cls idx RX1 ∈ BW) (hd : decode cc pc = .ok (.anewarray idx, 3)) (hN : N ≤ 100000) (h1 : ce + 1 ≤ rm.cells) (h2 : sl + N ≤ rm.slots) (hk : K0 n = (13, N)) (hf : f' n = nR) (hg : ∀ i, i < n → f' i = f i) (hD : D n = fun _ => 0) (hE : E n = fun _ => 0) (kk : RW y cc nL ret rm B Q (ZC (n + 1) f') D E (ce + 1) (sl + N) (pc + 3) lv (.ref (B + n) :: st)) : RW y cc nL ret rm B Q (ZC n f) D E ce sl pc lv (.int (nI N) :: st) :=
  r_newqLand (Z := ZC n f) N hw hd (nI_pos (by omega)) (nI_clamp (by omega)) (by omega) h1 h2 (r_Z (Z' := ZC (n + 1) f') rfl (al_eq hk hf hg hD hE) kk)
theorem a_qC {N idx : Nat} (hw : Cond.classLink y.cls idx RX0 ∈ BW) (hd : decode cc pc = .ok (.anewarray idx, 3)) (hN : N ≤ 100000) (h1 : ce + 1 ≤ rm.cells) (h2 : sl + N ≤ rm.slots) (hk : K0 n = (14, N)) (hf : f' n = nR) (hg : ∀ i, i < n → f' i = f i) (hD : D n = fun _ => 0) (hE : E n = fun _ => 0) (kk : RW y cc nL ret rm B Q (ZC (n + 1) f') D E (ce + 1) (sl + N) (pc + 3) lv (.ref (B + n) :: st)) : RW y cc nL ret rm B Q (ZC n f) D E ce sl pc lv (.int (nI N) :: st) :=
  r_newqCourse (Z := ZC n f) N hw hd (nI_pos (by omega)) (nI_clamp (by omega)) (by omega) h1 h2 (r_Z (Z' := ZC (n + 1) f') rfl (al_eq hk hf hg hD hE) kk)
theorem a_new {idx c : Nat} (hw : Cond.classLink y.cls idx (q_C c) ∈ BW) (hn : Cond.instantiable (q_C c) (q_N c) ∈ BW) (hi : Cond.initialized (q_C c) ∈ BW) (hd : decode cc pc = .ok (.new idx, 3)) (hc : c < 7) (h1 : ce + 1 ≤ rm.cells) (h2 : sl + q_N c ≤ rm.slots) (hk : K0 n = (c, q_N c)) (hf : f' n = nR) (hg : ∀ i, i < n → f' i = f i) (hD : D n = fun _ => 0) (hE : E n = fun _ => 0) (kk : RW y cc nL ret rm B Q (ZC (n + 1) f') D E (ce + 1) (sl + q_N c) (pc + 3) lv (.ref (B + n) :: st)) : RW y cc nL ret rm B Q (ZC n f) D E ce sl pc lv st :=
  r_new (Z := ZC n f) hw hn hi hd hc h1 h2 (r_Z (Z' := ZC (n + 1) f') rfl (al_eq hk hf hg hD hE) kk)
theorem a_put {i o ci nf k v : Nat} (hw : Cond.fieldLink y.cls i (q_T ci k).1 (q_T ci k).2.1 (q_T ci k).2.2.1 ∈ BW) (hd : decode cc pc = .ok (.putfield i, 3)) (ho : o < n) (hz : K0 o = (ci, nf)) (hc : ci < 7) (hk : k < q_N ci) (ht : ∀ d : Int32, ∀ r, q_fv B (q_ty ci k) d r = va_rf (r.map (fun i => B + i))) (hi : y.name = "<init>") (hcl : (q_T ci k).1 = y.cls) (hfi : (q_T ci k).2.2.2 = true) (hnn : narrow (q_ty ci k) (.ref (B + v)) = .ref (B + v)) (hff : fits (q_ty ci k) (.ref (B + v)) = true) (hg : ∀ i, i < n → f' i = up2 f o k (some v) i) (kk : RW y cc nL ret rm B Q (ZC n f') D E ce sl (pc + 3) lv st) : RW y cc nL ret rm B Q (ZC n f) D E ce sl pc lv (.ref (B + v) :: .ref (B + o) :: st) :=
  r_putR (Z := ZC n f) hw hd ho hz hc hk ht hi hcl hfi hnn hff (r_Z (Z' := ZC n f') rfl (fun i hi => ⟨rfl, hg i hi, rfl, rfl⟩) kk)
theorem a_aast {o N a v ci nf : Nat} {i : Nat} (hd : decode cc pc = .ok (.aastore, 1)) (ho : o < n) (hz : K0 o = (a, N)) (ha : a = 13 ∧ ci = 1 ∨ a = 14 ∧ ci = 0) (hi : i < N) (hN : N ≤ 1000) (hv : v < n) (hzv : K0 v = (ci, nf)) (hg : ∀ j, j < n → f' j = up2 f o i (some v) j) (kk : RW y cc nL ret rm B Q (ZC n f') D E ce sl (pc + 1) lv st) : RW y cc nL ret rm B Q (ZC n f) D E ce sl pc lv (.ref (B + v) :: .int (nI i) :: .ref (B + o) :: st) :=
  r_aast (Z := ZC n f) hd ho hz ha (vp_in_nI hi (by omega)) hv hzv (r_Z (Z' := ZC n f') rfl (fun j hj => ⟨rfl, (hg j hj).trans (by rw [nI_clamp (by omega)]; rfl), rfl, rfl⟩) kk)
end GRW
/-- a Course's, a Land's references -/
def cR (o : Nat) : Nat → Option Nat := updR (updR (updR (updR (updR nR 6 (o + 1)) 7 (o + 2)) 8 (o + 3)) 9 (o + 4)) 10 (o + 5)
def lR (o : Nat) : Nat → Option Nat := updR (updR (updR (updR (updR nR 5 (o + 1)) 6 (o + 2)) 7 (o + 3)) 8 (o + 4)) 9 (o + 5)
theorem R0_of {o : Nat} {l : List (Nat × Nat)} (h : q_rfs.lookup o = some l) : R0 o = fun k => l.lookup k := by
  funext k
  unfold R0
  rw [h]
  rfl
theorem R0_none {o : Nat} (h : q_rfs.lookup o = none) : R0 o = nR := by
  funext k
  unfold R0
  rw [h]
  rfl
theorem lk_upd {a b : Nat} {l : List (Nat × Nat)} : (fun k => List.lookup k ((a, b) :: l)) = updR (fun k => l.lookup k) a b := by
  funext k
  rw [List.lookup_cons]
  unfold updR
  by_cases h : k = a
  · subst h; simp
  · rw [if_neg h]
    have : (k == a) = false := beq_eq_false_iff_ne.mpr h
    rw [this]
theorem lk_nil : (fun k => List.lookup k ([] : List (Nat × Nat))) = nR := rfl
theorem R0_c : ∀ o, o ∈ cIds → R0 o = cR o := by
  have h : ∀ o, o ∈ cIds → q_rfs.lookup o = some [(6, o + 1), (7, o + 2), (8, o + 3), (9, o + 4), (10, o + 5)] := by decide +kernel
  intro o ho
  rw [R0_of (h o ho), lk_upd, lk_upd, lk_upd, lk_upd, lk_upd, lk_nil]
  funext k
  unfold cR updR
  by_cases h6 : k = 6
  · subst h6; rfl
  · by_cases h7 : k = 7
    · subst h7; rfl
    · by_cases h8 : k = 8
      · subst h8; rfl
      · by_cases h9 : k = 9
        · subst h9; rfl
        · by_cases h10 : k = 10
          · subst h10; rfl
          · simp only [if_neg h6, if_neg h7, if_neg h8, if_neg h9, if_neg h10]
theorem R0_l : ∀ o, o ∈ lIds → R0 o = lR o := by
  have h : ∀ o, o ∈ lIds → q_rfs.lookup o = some [(5, o + 1), (6, o + 2), (7, o + 3), (8, o + 4), (9, o + 5)] := by decide +kernel
  intro o ho
  rw [R0_of (h o ho), lk_upd, lk_upd, lk_upd, lk_upd, lk_upd, lk_nil]
  funext k
  unfold lR updR
  by_cases h6 : k = 6
  · subst h6; rfl
  · by_cases h7 : k = 7
    · subst h7; rfl
    · by_cases h8 : k = 8
      · subst h8; rfl
      · by_cases h9 : k = 9
        · subst h9; rfl
        · by_cases h5 : k = 5
          · subst h5; rfl
          · simp only [if_neg h6, if_neg h7, if_neg h8, if_neg h9, if_neg h5]
theorem R0_arr : ∀ o, o ∈ cIds ++ lIds → ∀ j, 1 ≤ j → j ≤ 5 → R0 (o + j) = nR := by
  have h : ∀ o, o ∈ cIds ++ lIds → ∀ j, j < 6 → 1 ≤ j → q_rfs.lookup (o + j) = none := by decide +kernel
  intro o ho j h1 h2
  exact R0_none (h o ho j (by omega) h1)
theorem upR_o {F : Nat → Nat → Option Nat} {h : Nat → Option Nat} {o q k : Nat} {v : Option Nat} (hq : o ≠ q) : up2 (upo F q h) o k v = upo (up2 F o k v) q h := by
  funext i j
  unfold up2 upo
  by_cases a : i = q
  · subst a
    have : ¬ (i = o ∧ j = k) := fun e => hq e.1.symm
    simp [this]
  · simp [a]
def m1 (k : Nat) : Nat → Int32 := fun j => if j < k then -1 else 0
theorem m1_0 : m1 0 = fun _ => 0 := rfl
theorem m1_s {D : DD} {D' : DD} {o k : Nat} (e : D' = up2 (upo D o (m1 k)) o k (-1)) : D' = upo D o (m1 (k + 1)) := by
  rw [e, up2_upo]
  congr 1
  funext j
  unfold upd m1
  by_cases h : j = k
  · subst h; rw [if_pos rfl, if_pos (by omega)]
  · rw [if_neg h]
    by_cases u : j < k
    · rw [if_pos u, if_pos (by omega)]
    · rw [if_neg u, if_neg (by omega)]
def Dz : DD := fun _ _ => 0
def Ez : EE := fun _ _ => 0
def Dr : DD := upo Dz 3 (m1 8)
def Dq : DD := upo Dr 220 (m1 8)
def tR : Nat → Option Nat := updR nR 0 14
def wR : Nat → Option Nat := updR (updR (updR nR 0 2) 1 3) 2 4
def iR : Nat → Option Nat := fun j => if j < 8 then some (5 + j) else none
def pR : Nat → Option Nat := updR nR 0 28
def ringR (k : Nat) : Nat → Option Nat := fun j => if j < k then some (29 + 6 * j) else none
theorem ringR_s {k : Nat} : updR (ringR k) k (29 + 6 * k) = ringR (k + 1) := by
  funext j
  unfold updR ringR
  by_cases h : j = k
  · subst h; rw [if_pos rfl, if_pos (by omega)]
  · rw [if_neg h]
    by_cases u : j < k
    · rw [if_pos u, if_pos (by omega)]
    · rw [if_neg u, if_neg (by omega)]
theorem R0_13 : R0 13 = tR := by
  rw [R0_of (show q_rfs.lookup 13 = some [(0, 14)] by decide +kernel), lk_upd, lk_nil]
  rfl
theorem R0_27 : R0 27 = pR := by
  rw [R0_of (show q_rfs.lookup 27 = some [(0, 28)] by decide +kernel), lk_upd, lk_nil]
  rfl
theorem R0_1 : R0 1 = wR := by
  rw [R0_of (show q_rfs.lookup 1 = some [(0, 2), (1, 3), (2, 4)] by decide +kernel), lk_upd, lk_upd, lk_upd, lk_nil]
  funext k
  unfold wR updR
  by_cases h0 : k = 0
  · subst h0; rfl
  · by_cases h1 : k = 1
    · subst h1; rfl
    · by_cases h2 : k = 2
      · subst h2; rfl
      · simp only [if_neg h0, if_neg h1, if_neg h2]
theorem lg_mem9 {l : List (Nat × Nat)} {i v : Nat} (h : l.lookup i = some v) : (i, v) ∈ l := by
  induction l with
  | nil => simp at h
  | cons q t ih =>
    obtain ⟨j, w⟩ := q
    rw [List.lookup_cons] at h
    by_cases hj : i == j
    · simp [hj] at h
      have : i = j := by simpa using hj
      subst this; subst h
      exact List.mem_cons_self
    · simp [hj] at h
      exact List.mem_cons_of_mem _ (ih h)
theorem lk_rg {l : List (Nat × Nat)} {n : Nat} {g : Nat → Nat} (h : ∀ k, k < n → List.lookup k l = some (g k)) (h2 : ∀ q ∈ l, q.1 < n) : (fun k => List.lookup k l) = fun k => if k < n then some (g k) else none := by
  funext k
  by_cases u : k < n
  · rw [if_pos u, h k u]
  · rw [if_neg u]
    cases e : List.lookup k l with
    | none => rfl
    | some v =>
      have := h2 _ (lg_mem9 e)
      exact absurd this u
def rf4 : List (Nat × Nat) := (q_rfs.lookup 4).getD []
def rf28 : List (Nat × Nat) := (q_rfs.lookup 28).getD []
theorem R0_4 : R0 4 = iR := (R0_of (show q_rfs.lookup 4 = some rf4 by decide +kernel)).trans (lk_rg (n := 8) (g := fun j => 5 + j) (by decide +kernel) (by decide +kernel))
theorem R0_28 : R0 28 = ringR 24 := (R0_of (show q_rfs.lookup 28 = some rf28 by decide +kernel)).trans (lk_rg (n := 24) (g := fun j => 29 + 6 * j) (by decide +kernel) (by decide +kernel))
