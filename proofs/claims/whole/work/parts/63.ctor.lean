theorem lk_same {l l' : List (Nat × Nat)} {n : Nat} (h : ∀ k, k < n → List.lookup k l = List.lookup k l') (h1 : ∀ q ∈ l, q.1 < n) (h2 : ∀ q ∈ l', q.1 < n) : (fun k => List.lookup k l) = fun k => List.lookup k l' := by
  funext k
  by_cases u : k < n
  · exact h k u
  · cases e : List.lookup k l with
    | some v => exact absurd (h1 _ (lg_mem9 e)) u
    | none => cases e2 : List.lookup k l' with
      | some v => exact absurd (h2 _ (lg_mem9 e2)) u
      | none => rfl
def rf0 : List (Nat × Nat) := (q_rfs.lookup 0).getD []
theorem R0_0 : R0 0 = updR (updR (updR (updR (updR (updR (updR (updR (updR (updR (updR (updR (nR) 0 (1)) 1 (13)) 2 (15)) 3 (21)) 4 (27)) 5 (173)) 6 (179)) 7 (185)) 8 (191)) 9 (192)) 11 (193)) 12 (194) := (R0_of (show q_rfs.lookup 0 = some rf0 by decide +kernel)).trans ((lk_same (l' := [(12, 194), (11, 193), (9, 192), (8, 191), (7, 185), (6, 179), (5, 173), (4, 27), (3, 21), (2, 15), (1, 13), (0, 1)]) (n := 13) (by decide +kernel) (by decide +kernel) (by decide +kernel)).trans (by rw [lk_upd, lk_upd, lk_upd, lk_upd, lk_upd, lk_upd, lk_upd, lk_upd, lk_upd, lk_upd, lk_upd, lk_upd, lk_nil]))
def rf191 : List (Nat × Nat) := (q_rfs.lookup 191).getD []
theorem R0_191 : R0 191 = updR (updR (nR) 0 (195)) 1 (207) := (R0_of (show q_rfs.lookup 191 = some rf191 by decide +kernel)).trans ((lk_same (l' := [(1, 207), (0, 195)]) (n := 2) (by decide +kernel) (by decide +kernel) (by decide +kernel)).trans (by rw [lk_upd, lk_upd, lk_nil]))
def rf192 : List (Nat × Nat) := (q_rfs.lookup 192).getD []
theorem R0_192 : R0 192 = updR (updR (nR) 0 (201)) 1 (213) := (R0_of (show q_rfs.lookup 192 = some rf192 by decide +kernel)).trans ((lk_same (l' := [(1, 213), (0, 201)]) (n := 2) (by decide +kernel) (by decide +kernel) (by decide +kernel)).trans (by rw [lk_upd, lk_upd, lk_nil]))
def rf219 : List (Nat × Nat) := (q_rfs.lookup 219).getD []
theorem R0_219 : R0 219 = updR (updR (updR (updR (updR (updR (updR (updR (updR (updR (updR (updR (updR (updR (nR) 2 (220)) 3 (221)) 4 (222)) 5 (223)) 6 (224)) 7 (225)) 8 (226)) 10 (227)) 19 (228)) 20 (229)) 21 (230)) 22 (231)) 23 (232)) 24 (233) := (R0_of (show q_rfs.lookup 219 = some rf219 by decide +kernel)).trans ((lk_same (l' := [(24, 233), (23, 232), (22, 231), (21, 230), (20, 229), (19, 228), (10, 227), (8, 226), (7, 225), (6, 224), (5, 223), (4, 222), (3, 221), (2, 220)]) (n := 25) (by decide +kernel) (by decide +kernel) (by decide +kernel)).trans (by rw [lk_upd, lk_upd, lk_upd, lk_upd, lk_upd, lk_upd, lk_upd, lk_upd, lk_upd, lk_upd, lk_upd, lk_upd, lk_upd, lk_upd, lk_nil]))
set_option maxRecDepth 100000 in
set_option maxHeartbeats 4000000 in
theorem c_X3_init (B : Nat) (D : DD) (E : EE) (f : Nat → Nat → Option Nat) (hf : f 1 = wR) (h2 : f 2 = nR) (h3 : f 3 = nR) (h4 : f 4 = iR) (h5 : ∀ j, j < 8 → f (5 + j) = nR) (hD : ∀ i, 1 < i → D i = fun _ => 0) (hE : ∀ i, 1 < i → E i = fun _ => 0) : MR yX3_init cX3_init 2 none rX3_init B [.ref (B + 1)] (ZC 2 (upo f 1 nR)) D E (Q2 (ZC 13 f) (pV (fun D' E' => D' = upo D 3 (m1 8) ∧ E' = E))) := by
  refine r_enter [(0, .ref (B + 1))] hi_X3_init.1.2.2.2.2 (Nat.le_of_ble_eq_true rfl) rfl ?_
  refine r_aload_n dX3_init_0 rfl ?_
  refine r_objinit wm_X3_3 dX3_init_1 (Nat.le_of_ble_eq_true rfl) (Nat.le_of_ble_eq_true rfl) ?_
  refine r_aload_n dX3_init_4 rfl ?_
  refine r_bipush (nI 8) dX3_init_5 (by decide) ?_
  refine a_I (f' := upo f 1 (nR)) dX3_init_7 (by decide) (Nat.le_of_ble_eq_true rfl) (Nat.le_of_ble_eq_true rfl) k_2 ((upo_n (by decide)).trans h2) (fun _ _ => rfl) (hD _ (by decide)) (hE _ (by decide)) ?_
  refine a_put (f' := upo f 1 (updR (nR) 0 (2))) (ci := 3) (k := 0) wf_X3_9 dX3_init_9 (show 1 < 3 by decide) k_1 (by decide) (by decide) (fun _ _ => rfl) rfl rfl rfl rfl rfl (fun i _ => congrFun (by rw [upR]) i) ?_
  refine r_aload_n dX3_init_12 rfl ?_
  refine r_bipush (nI 8) dX3_init_13 (by decide) ?_
  refine a_I (f' := upo f 1 (updR (nR) 0 (2))) dX3_init_15 (by decide) (Nat.le_of_ble_eq_true rfl) (Nat.le_of_ble_eq_true rfl) k_3 ((upo_n (by decide)).trans h3) (fun _ _ => rfl) (hD _ (by decide)) (hE _ (by decide)) ?_
  refine a_put (f' := upo f 1 (updR (updR (nR) 0 (2)) 1 (3))) (ci := 3) (k := 1) wf_X3_15 dX3_init_17 (show 1 < 4 by decide) k_1 (by decide) (by decide) (fun _ _ => rfl) rfl rfl rfl rfl rfl (fun i _ => congrFun (by rw [upR]) i) ?_
  refine r_aload_n dX3_init_20 rfl ?_
  refine r_bipush (nI 8) dX3_init_21 (by decide) ?_
  refine r_bipush (nI 40) dX3_init_23 (by decide) ?_
  refine r_mna (f := upo f 1 (updR (updR (nR) 0 (2)) 1 (3))) wk_X3_18 dX3_init_25 (Nat.le_of_ble_eq_true rfl) (Nat.le_of_ble_eq_true rfl) ((upo_n (by decide)).trans h4) (fun j hj => (upo_n (by omega)).trans (h5 j hj)) (fun i hi => hD i (by omega)) (fun i hi => hE i (by omega)) ?_
  refine a_put (f' := upo f 1 (updR (updR (updR (nR) 0 (2)) 1 (3)) 2 (4))) (ci := 3) (k := 2) wf_X3_20 dX3_init_29 (show 1 < 13 by decide) k_1 (by decide) (by decide) (fun _ _ => rfl) rfl rfl rfl rfl rfl (fun i _ => congrFun (by rw [upR]) i) ?_
  refine r_iconst (nI 0) dX3_init_32 (by decide) ?_
  refine r_istore_n [(1, .int (nI 0)), (0, .ref (B + 1))] dX3_init_33 (by decide) rfl ?_
  refine r_iload_n dX3_init_34 rfl ?_
  refine r_bipush (nI 8) dX3_init_35 (by decide) ?_
  refine r_icmp_ge (tgt := 53) dX3_init_37 (by decide) (fun c9 => ?_) (fun c9 => ?_)
  · exact absurd c9 (by decide)
  refine r_aload_n dX3_init_40 rfl ?_
  refine r_getR (v := 3) (ci := 3) (k := 1) wf_X3_15 dX3_init_41 (show 1 < 13 by decide) k_1 (by decide) (by decide) (fun _ _ => rfl) (by show upo f 1 _ 1 1 = _; rw [upo_s]; rfl) ?_
  refine r_iload_n dX3_init_44 rfl ?_
  refine r_iconst (-1) dX3_init_45 (by decide) ?_
  refine r_Z (Z' := ZC 13 (upo f 1 (updR (updR (updR (nR) 0 (2)) 1 (3)) 2 (4)))) (D' := upo D 3 (m1 0)) (E' := E) rfl (fun i hi => ⟨rfl, rfl, ?_, rfl⟩) ?_
  · by_cases q : i = 3
    · subst q; rw [upo_s]; exact (hD 3 (by decide)).symm
    · exact upo_n q
  refine r_iast (o := 3) (n := 8) dX3_init_46 (show 3 < 13 by decide) k_3 (vp_in_nI (by decide) (by decide)) (fun D9 e9 => ?_)
  obtain rfl : D9 = upo D 3 (m1 1) := m1_s (k := 0) (e9.trans (by rw [nI_clamp (by decide)]))
  clear e9
  refine r_iinc (nI 1) [(1, .int (nI 1)), (0, .ref (B + 1))] dX3_init_47 rfl (nI_1 _) (by decide) rfl ?_
  refine r_goto (tgt := 34) dX3_init_50 (by decide) ?_
  refine r_iload_n dX3_init_34 rfl ?_
  refine r_bipush (nI 8) dX3_init_35 (by decide) ?_
  refine r_icmp_ge (tgt := 53) dX3_init_37 (by decide) (fun c9 => ?_) (fun c9 => ?_)
  · exact absurd c9 (by decide)
  refine r_aload_n dX3_init_40 rfl ?_
  refine r_getR (v := 3) (ci := 3) (k := 1) wf_X3_15 dX3_init_41 (show 1 < 13 by decide) k_1 (by decide) (by decide) (fun _ _ => rfl) (by show upo f 1 _ 1 1 = _; rw [upo_s]; rfl) ?_
  refine r_iload_n dX3_init_44 rfl ?_
  refine r_iconst (-1) dX3_init_45 (by decide) ?_
  refine r_iast (o := 3) (n := 8) dX3_init_46 (show 3 < 13 by decide) k_3 (vp_in_nI (by decide) (by decide)) (fun D9 e9 => ?_)
  obtain rfl : D9 = upo D 3 (m1 2) := m1_s (k := 1) (e9.trans (by rw [nI_clamp (by decide)]))
  clear e9
  refine r_iinc (nI 2) [(1, .int (nI 2)), (0, .ref (B + 1))] dX3_init_47 rfl (nI_1 _) (by decide) rfl ?_
  refine r_goto (tgt := 34) dX3_init_50 (by decide) ?_
  refine r_iload_n dX3_init_34 rfl ?_
  refine r_bipush (nI 8) dX3_init_35 (by decide) ?_
  refine r_icmp_ge (tgt := 53) dX3_init_37 (by decide) (fun c9 => ?_) (fun c9 => ?_)
  · exact absurd c9 (by decide)
  refine r_aload_n dX3_init_40 rfl ?_
  refine r_getR (v := 3) (ci := 3) (k := 1) wf_X3_15 dX3_init_41 (show 1 < 13 by decide) k_1 (by decide) (by decide) (fun _ _ => rfl) (by show upo f 1 _ 1 1 = _; rw [upo_s]; rfl) ?_
  refine r_iload_n dX3_init_44 rfl ?_
  refine r_iconst (-1) dX3_init_45 (by decide) ?_
  refine r_iast (o := 3) (n := 8) dX3_init_46 (show 3 < 13 by decide) k_3 (vp_in_nI (by decide) (by decide)) (fun D9 e9 => ?_)
  obtain rfl : D9 = upo D 3 (m1 3) := m1_s (k := 2) (e9.trans (by rw [nI_clamp (by decide)]))
  clear e9
  refine r_iinc (nI 3) [(1, .int (nI 3)), (0, .ref (B + 1))] dX3_init_47 rfl (nI_1 _) (by decide) rfl ?_
  refine r_goto (tgt := 34) dX3_init_50 (by decide) ?_
  refine r_iload_n dX3_init_34 rfl ?_
  refine r_bipush (nI 8) dX3_init_35 (by decide) ?_
  refine r_icmp_ge (tgt := 53) dX3_init_37 (by decide) (fun c9 => ?_) (fun c9 => ?_)
  · exact absurd c9 (by decide)
  refine r_aload_n dX3_init_40 rfl ?_
  refine r_getR (v := 3) (ci := 3) (k := 1) wf_X3_15 dX3_init_41 (show 1 < 13 by decide) k_1 (by decide) (by decide) (fun _ _ => rfl) (by show upo f 1 _ 1 1 = _; rw [upo_s]; rfl) ?_
  refine r_iload_n dX3_init_44 rfl ?_
  refine r_iconst (-1) dX3_init_45 (by decide) ?_
  refine r_iast (o := 3) (n := 8) dX3_init_46 (show 3 < 13 by decide) k_3 (vp_in_nI (by decide) (by decide)) (fun D9 e9 => ?_)
  obtain rfl : D9 = upo D 3 (m1 4) := m1_s (k := 3) (e9.trans (by rw [nI_clamp (by decide)]))
  clear e9
  refine r_iinc (nI 4) [(1, .int (nI 4)), (0, .ref (B + 1))] dX3_init_47 rfl (nI_1 _) (by decide) rfl ?_
  refine r_goto (tgt := 34) dX3_init_50 (by decide) ?_
  refine r_iload_n dX3_init_34 rfl ?_
  refine r_bipush (nI 8) dX3_init_35 (by decide) ?_
  refine r_icmp_ge (tgt := 53) dX3_init_37 (by decide) (fun c9 => ?_) (fun c9 => ?_)
  · exact absurd c9 (by decide)
  refine r_aload_n dX3_init_40 rfl ?_
  refine r_getR (v := 3) (ci := 3) (k := 1) wf_X3_15 dX3_init_41 (show 1 < 13 by decide) k_1 (by decide) (by decide) (fun _ _ => rfl) (by show upo f 1 _ 1 1 = _; rw [upo_s]; rfl) ?_
  refine r_iload_n dX3_init_44 rfl ?_
  refine r_iconst (-1) dX3_init_45 (by decide) ?_
  refine r_iast (o := 3) (n := 8) dX3_init_46 (show 3 < 13 by decide) k_3 (vp_in_nI (by decide) (by decide)) (fun D9 e9 => ?_)
  obtain rfl : D9 = upo D 3 (m1 5) := m1_s (k := 4) (e9.trans (by rw [nI_clamp (by decide)]))
  clear e9
  refine r_iinc (nI 5) [(1, .int (nI 5)), (0, .ref (B + 1))] dX3_init_47 rfl (nI_1 _) (by decide) rfl ?_
  refine r_goto (tgt := 34) dX3_init_50 (by decide) ?_
  refine r_iload_n dX3_init_34 rfl ?_
  refine r_bipush (nI 8) dX3_init_35 (by decide) ?_
  refine r_icmp_ge (tgt := 53) dX3_init_37 (by decide) (fun c9 => ?_) (fun c9 => ?_)
  · exact absurd c9 (by decide)
  refine r_aload_n dX3_init_40 rfl ?_
  refine r_getR (v := 3) (ci := 3) (k := 1) wf_X3_15 dX3_init_41 (show 1 < 13 by decide) k_1 (by decide) (by decide) (fun _ _ => rfl) (by show upo f 1 _ 1 1 = _; rw [upo_s]; rfl) ?_
  refine r_iload_n dX3_init_44 rfl ?_
  refine r_iconst (-1) dX3_init_45 (by decide) ?_
  refine r_iast (o := 3) (n := 8) dX3_init_46 (show 3 < 13 by decide) k_3 (vp_in_nI (by decide) (by decide)) (fun D9 e9 => ?_)
  obtain rfl : D9 = upo D 3 (m1 6) := m1_s (k := 5) (e9.trans (by rw [nI_clamp (by decide)]))
  clear e9
  refine r_iinc (nI 6) [(1, .int (nI 6)), (0, .ref (B + 1))] dX3_init_47 rfl (nI_1 _) (by decide) rfl ?_
  refine r_goto (tgt := 34) dX3_init_50 (by decide) ?_
  refine r_iload_n dX3_init_34 rfl ?_
  refine r_bipush (nI 8) dX3_init_35 (by decide) ?_
  refine r_icmp_ge (tgt := 53) dX3_init_37 (by decide) (fun c9 => ?_) (fun c9 => ?_)
  · exact absurd c9 (by decide)
  refine r_aload_n dX3_init_40 rfl ?_
  refine r_getR (v := 3) (ci := 3) (k := 1) wf_X3_15 dX3_init_41 (show 1 < 13 by decide) k_1 (by decide) (by decide) (fun _ _ => rfl) (by show upo f 1 _ 1 1 = _; rw [upo_s]; rfl) ?_
  refine r_iload_n dX3_init_44 rfl ?_
  refine r_iconst (-1) dX3_init_45 (by decide) ?_
  refine r_iast (o := 3) (n := 8) dX3_init_46 (show 3 < 13 by decide) k_3 (vp_in_nI (by decide) (by decide)) (fun D9 e9 => ?_)
  obtain rfl : D9 = upo D 3 (m1 7) := m1_s (k := 6) (e9.trans (by rw [nI_clamp (by decide)]))
  clear e9
  refine r_iinc (nI 7) [(1, .int (nI 7)), (0, .ref (B + 1))] dX3_init_47 rfl (nI_1 _) (by decide) rfl ?_
  refine r_goto (tgt := 34) dX3_init_50 (by decide) ?_
  refine r_iload_n dX3_init_34 rfl ?_
  refine r_bipush (nI 8) dX3_init_35 (by decide) ?_
  refine r_icmp_ge (tgt := 53) dX3_init_37 (by decide) (fun c9 => ?_) (fun c9 => ?_)
  · exact absurd c9 (by decide)
  refine r_aload_n dX3_init_40 rfl ?_
  refine r_getR (v := 3) (ci := 3) (k := 1) wf_X3_15 dX3_init_41 (show 1 < 13 by decide) k_1 (by decide) (by decide) (fun _ _ => rfl) (by show upo f 1 _ 1 1 = _; rw [upo_s]; rfl) ?_
  refine r_iload_n dX3_init_44 rfl ?_
  refine r_iconst (-1) dX3_init_45 (by decide) ?_
  refine r_iast (o := 3) (n := 8) dX3_init_46 (show 3 < 13 by decide) k_3 (vp_in_nI (by decide) (by decide)) (fun D9 e9 => ?_)
  obtain rfl : D9 = upo D 3 (m1 8) := m1_s (k := 7) (e9.trans (by rw [nI_clamp (by decide)]))
  clear e9
  refine r_iinc (nI 8) [(1, .int (nI 8)), (0, .ref (B + 1))] dX3_init_47 rfl (nI_1 _) (by decide) rfl ?_
  refine r_goto (tgt := 34) dX3_init_50 (by decide) ?_
  refine r_iload_n dX3_init_34 rfl ?_
  refine r_bipush (nI 8) dX3_init_35 (by decide) ?_
  refine r_icmp_ge (tgt := 53) dX3_init_37 (by decide) (fun c9 => ?_) (fun c9 => ?_)
  rotate_left
  · exact absurd (by decide) c9
  refine r_Z (Z' := ZC 13 f) (D' := upo D 3 (m1 8)) (E' := E) rfl (fun i hi => ⟨rfl, ?_, rfl, rfl⟩) ?_
  · by_cases q : i = 1
    · subst q; show f 1 = upo f 1 _ 1; rw [upo_s]; exact hf
    · show _ = upo _ _ _ i; rw [upo_n q]; rfl
  exact r_vret dX3_init_53 rfl (Nat.le_of_ble_eq_true rfl) (Nat.le_of_ble_eq_true rfl) ⟨rfl, rfl, rfl, rfl⟩
set_option maxRecDepth 100000 in
set_option maxHeartbeats 4000000 in
theorem c_X5_init (B : Nat)  : MR yX5_init cX5_init 2 none rX5_init B [.ref (B + 0)] (ZC 1 (upo R0 0 nR)) Dz Ez (Q2 (ZC 219 R0) (pV (fun D' E' => D' = Dr ∧ E' = Ez))) := by
  refine r_enter [(0, .ref (B + 0))] hi_X5_init.1.2.2.2.2 (Nat.le_of_ble_eq_true rfl) rfl ?_
  refine r_aload_n dX5_init_0 rfl ?_
  refine r_objinit wm_X5_1 dX5_init_1 (Nat.le_of_ble_eq_true rfl) (Nat.le_of_ble_eq_true rfl) ?_
  refine r_aload_n dX5_init_4 rfl ?_
  refine a_new (c := 3) (f' := upo (upo R0 0 (nR)) 1 nR) wk_X5_7 wn_X3 wi_X3 dX5_init_5 (by decide) (Nat.le_of_ble_eq_true rfl) (Nat.le_of_ble_eq_true rfl) k_1 upo_s (fun i hi => upo_n (show i ≠ 1 by omega)) (show Dz _ = _ from rfl) (show Ez _ = _ from rfl) ?_
  refine r_dup dX5_init_8 rfl ?_
  refine r_callI (As := []) (o := 1) (c_X3_init B Dz Ez (upo R0 0 (nR)) ((upo_n (by omega)).trans (R0_1)) ((upo_n (by omega)).trans (R0_none (by decide +kernel))) ((upo_n (by omega)).trans (R0_none (by decide +kernel))) ((upo_n (by omega)).trans (R0_4)) (fun j hj => ((upo_n (by omega)).trans ((show ∀ j, j < 8 → R0 (5 + j) = nR from fun j hj => R0_none ((show ∀ j, j < 8 → q_rfs.lookup (5 + j) = none by decide +kernel) j hj)) j hj))) (fun i hi => rfl) (fun i hi => rfl)) hi_X3_init wm_X5_9 dX5_init_9 rfl rfl (Nat.le_of_ble_eq_true rfl) ⟨(Nat.le_of_ble_eq_true rfl), (Nat.le_of_ble_eq_true rfl), (Nat.le_of_ble_eq_true rfl), (Nat.le_of_ble_eq_true rfl)⟩ (fun v9 Z9 D9 E9 h9 => by obtain ⟨rfl, -⟩ := h9; exact Nat.le_refl _) (fun v9 Z9 D9 E9 h9 => ?_)
  obtain ⟨hz9, hv9, hd9, he9⟩ := h9
  obtain rfl := hz9.symm
  obtain rfl := hv9.symm
  obtain rfl := hd9.symm
  obtain rfl := he9.symm
  refine a_put (f' := upo R0 0 (updR (nR) 0 (1))) (ci := 5) (k := 0) wf_X5_10 dX5_init_12 (show 0 < 13 by decide) k_0 (by decide) (by decide) (fun _ _ => rfl) rfl rfl rfl rfl rfl (fun i _ => congrFun (by rw [upR]) i) ?_
  refine r_aload_n dX5_init_15 rfl ?_
  refine a_new (c := 4) (f' := upo (upo R0 0 (updR (nR) 0 (1))) 13 nR) wk_X5_16 wn_X4 wi_X4 dX5_init_16 (by decide) (Nat.le_of_ble_eq_true rfl) (Nat.le_of_ble_eq_true rfl) k_13 upo_s (fun i hi => upo_n (show i ≠ 13 by omega)) (show upo Dz 3 (m1 8) _ = _ from upo_n (by decide)) (show Ez _ = _ from rfl) ?_
  refine r_dup dX5_init_19 rfl ?_
  refine r_callIN (As := []) (o := 13) (c_X4_init B Dr Ez (upo R0 0 (updR (nR) 0 (1))) ((upo_n (by omega)).trans (R0_13)) ((upo_n (by omega)).trans (R0_none (by decide +kernel))) (fun i hi => (show upo Dz 3 (m1 8) i = _ from upo_n (by omega))) (fun i hi => rfl)) hi_X4_init (by decide) dX5_init_20 rfl rfl (Nat.le_of_ble_eq_true rfl) ⟨(Nat.le_of_ble_eq_true rfl), (Nat.le_of_ble_eq_true rfl), (Nat.le_of_ble_eq_true rfl), (Nat.le_of_ble_eq_true rfl)⟩ (fun v9 Z9 D9 E9 h9 => by obtain ⟨rfl, -⟩ := h9; exact Nat.le_refl _) (fun v9 Z9 D9 E9 h9 => ?_)
  obtain ⟨hz9, hv9, hd9, he9⟩ := h9
  obtain rfl := hz9.symm
  obtain rfl := hv9.symm
  obtain rfl := hd9.symm
  obtain rfl := he9.symm
  refine a_put (f' := upo R0 0 (updR (updR (nR) 0 (1)) 1 (13))) (ci := 5) (k := 1) wf_X5_19 dX5_init_23 (show 0 < 15 by decide) k_0 (by decide) (by decide) (fun _ _ => rfl) rfl rfl rfl rfl rfl (fun i _ => congrFun (by rw [upR]) i) ?_
  refine r_aload_n dX5_init_26 rfl ?_
  refine a_new (c := 1) (f' := upo (upo R0 0 (updR (updR (nR) 0 (1)) 1 (13))) 15 nR) wk_X5_23 wn_X1 wi_X1 dX5_init_27 (by decide) (Nat.le_of_ble_eq_true rfl) (Nat.le_of_ble_eq_true rfl) k_15 upo_s (fun i hi => upo_n (show i ≠ 15 by omega)) (show upo Dz 3 (m1 8) _ = _ from upo_n (by decide)) (show Ez _ = _ from rfl) ?_
  refine r_dup dX5_init_30 rfl ?_
  refine r_callIN (As := []) (o := 15) (c_X1_init B Dr Ez 15 (upo R0 0 (updR (updR (nR) 0 (1)) 1 (13))) (isL_in 15 (by decide)) ((upo_n (by omega)).trans (R0_l 15 (by decide))) (fun j h1 h2 => ((upo_n (by omega)).trans (R0_arr 15 (by decide) j h1 h2))) (fun i hi => (show upo Dz 3 (m1 8) i = _ from upo_n (by omega))) (fun i hi => rfl)) hi_X1_init (by decide) dX5_init_31 rfl rfl (Nat.le_of_ble_eq_true rfl) ⟨(Nat.le_of_ble_eq_true rfl), (Nat.le_of_ble_eq_true rfl), (Nat.le_of_ble_eq_true rfl), (Nat.le_of_ble_eq_true rfl)⟩ (fun v9 Z9 D9 E9 h9 => by obtain ⟨rfl, -⟩ := h9; exact Nat.le_refl _) (fun v9 Z9 D9 E9 h9 => ?_)
  obtain ⟨hz9, hv9, hd9, he9⟩ := h9
  obtain rfl := hz9.symm
  obtain rfl := hv9.symm
  obtain rfl := hd9.symm
  obtain rfl := he9.symm
  refine a_put (f' := upo R0 0 (updR (updR (updR (nR) 0 (1)) 1 (13)) 2 (15))) (ci := 5) (k := 2) wf_X5_26 dX5_init_34 (show 0 < 21 by decide) k_0 (by decide) (by decide) (fun _ _ => rfl) rfl rfl rfl rfl rfl (fun i _ => congrFun (by rw [upR]) i) ?_
  refine r_aload_n dX5_init_37 rfl ?_
  refine a_new (c := 0) (f' := upo (upo R0 0 (updR (updR (updR (nR) 0 (1)) 1 (13)) 2 (15))) 21 nR) wk_X5_30 wn_X0 wi_X0 dX5_init_38 (by decide) (Nat.le_of_ble_eq_true rfl) (Nat.le_of_ble_eq_true rfl) k_21 upo_s (fun i hi => upo_n (show i ≠ 21 by omega)) (show upo Dz 3 (m1 8) _ = _ from upo_n (by decide)) (show Ez _ = _ from rfl) ?_
  refine r_dup dX5_init_41 rfl ?_
  refine r_callIN (As := []) (o := 21) (c_X0_init B Dr Ez 21 (upo R0 0 (updR (updR (updR (nR) 0 (1)) 1 (13)) 2 (15))) (isC_in 21 (by decide)) ((upo_n (by omega)).trans (R0_c 21 (by decide))) (fun j h1 h2 => ((upo_n (by omega)).trans (R0_arr 21 (by decide) j h1 h2))) (fun i hi => (show upo Dz 3 (m1 8) i = _ from upo_n (by omega))) (fun i hi => rfl)) hi_X0_init (by decide) dX5_init_42 rfl rfl (Nat.le_of_ble_eq_true rfl) ⟨(Nat.le_of_ble_eq_true rfl), (Nat.le_of_ble_eq_true rfl), (Nat.le_of_ble_eq_true rfl), (Nat.le_of_ble_eq_true rfl)⟩ (fun v9 Z9 D9 E9 h9 => by obtain ⟨rfl, -⟩ := h9; exact Nat.le_refl _) (fun v9 Z9 D9 E9 h9 => ?_)
  obtain ⟨hz9, hv9, hd9, he9⟩ := h9
  obtain rfl := hz9.symm
  obtain rfl := hv9.symm
  obtain rfl := hd9.symm
  obtain rfl := he9.symm
  refine a_put (f' := upo R0 0 (updR (updR (updR (updR (nR) 0 (1)) 1 (13)) 2 (15)) 3 (21))) (ci := 5) (k := 3) wf_X5_33 dX5_init_45 (show 0 < 27 by decide) k_0 (by decide) (by decide) (fun _ _ => rfl) rfl rfl rfl rfl rfl (fun i _ => congrFun (by rw [upR]) i) ?_
  refine r_aload_n dX5_init_48 rfl ?_
  refine a_new (c := 2) (f' := upo (upo R0 0 (updR (updR (updR (updR (nR) 0 (1)) 1 (13)) 2 (15)) 3 (21))) 27 nR) wk_X5_37 wn_X2 wi_X2 dX5_init_49 (by decide) (Nat.le_of_ble_eq_true rfl) (Nat.le_of_ble_eq_true rfl) k_27 upo_s (fun i hi => upo_n (show i ≠ 27 by omega)) (show upo Dz 3 (m1 8) _ = _ from upo_n (by decide)) (show Ez _ = _ from rfl) ?_
  refine r_dup dX5_init_52 rfl ?_
  refine r_callI (As := []) (o := 27) (c_X2_init B Dr Ez (upo R0 0 (updR (updR (updR (updR (nR) 0 (1)) 1 (13)) 2 (15)) 3 (21))) ((upo_n (by omega)).trans (R0_27)) ((upo_n (by omega)).trans (R0_28)) (fun k hk => ((upo_n (by omega)).trans (R0_c _ ((show ∀ k, k < 24 → 29 + 6 * k ∈ cIds by decide) k hk)))) (fun k j hk h1 h2 => ((upo_n (by omega)).trans (R0_arr _ ((show ∀ k, k < 24 → 29 + 6 * k ∈ cIds ++ lIds by decide) k hk) j h1 h2))) (fun i hi => (show upo Dz 3 (m1 8) i = _ from upo_n (by omega))) (fun i hi => rfl)) hi_X2_init wm_X5_39 dX5_init_53 rfl rfl (Nat.le_of_ble_eq_true rfl) ⟨(Nat.le_of_ble_eq_true rfl), (Nat.le_of_ble_eq_true rfl), (Nat.le_of_ble_eq_true rfl), (Nat.le_of_ble_eq_true rfl)⟩ (fun v9 Z9 D9 E9 h9 => by obtain ⟨rfl, -⟩ := h9; exact Nat.le_refl _) (fun v9 Z9 D9 E9 h9 => ?_)
  obtain ⟨hz9, hv9, hd9, he9⟩ := h9
  obtain rfl := hz9.symm
  obtain rfl := hv9.symm
  obtain rfl := hd9.symm
  obtain rfl := he9.symm
  refine a_put (f' := upo R0 0 (updR (updR (updR (updR (updR (nR) 0 (1)) 1 (13)) 2 (15)) 3 (21)) 4 (27))) (ci := 5) (k := 4) wf_X5_40 dX5_init_56 (show 0 < 173 by decide) k_0 (by decide) (by decide) (fun _ _ => rfl) rfl rfl rfl rfl rfl (fun i _ => congrFun (by rw [upR]) i) ?_
  refine r_aload_n dX5_init_59 rfl ?_
  refine a_new (c := 0) (f' := upo (upo R0 0 (updR (updR (updR (updR (updR (nR) 0 (1)) 1 (13)) 2 (15)) 3 (21)) 4 (27))) 173 nR) wk_X5_30 wn_X0 wi_X0 dX5_init_60 (by decide) (Nat.le_of_ble_eq_true rfl) (Nat.le_of_ble_eq_true rfl) k_173 upo_s (fun i hi => upo_n (show i ≠ 173 by omega)) (show upo Dz 3 (m1 8) _ = _ from upo_n (by decide)) (show Ez _ = _ from rfl) ?_
  refine r_dup dX5_init_63 rfl ?_
  refine r_callIN (As := []) (o := 173) (c_X0_init B Dr Ez 173 (upo R0 0 (updR (updR (updR (updR (updR (nR) 0 (1)) 1 (13)) 2 (15)) 3 (21)) 4 (27))) (isC_in 173 (by decide)) ((upo_n (by omega)).trans (R0_c 173 (by decide))) (fun j h1 h2 => ((upo_n (by omega)).trans (R0_arr 173 (by decide) j h1 h2))) (fun i hi => (show upo Dz 3 (m1 8) i = _ from upo_n (by omega))) (fun i hi => rfl)) hi_X0_init (by decide) dX5_init_64 rfl rfl (Nat.le_of_ble_eq_true rfl) ⟨(Nat.le_of_ble_eq_true rfl), (Nat.le_of_ble_eq_true rfl), (Nat.le_of_ble_eq_true rfl), (Nat.le_of_ble_eq_true rfl)⟩ (fun v9 Z9 D9 E9 h9 => by obtain ⟨rfl, -⟩ := h9; exact Nat.le_refl _) (fun v9 Z9 D9 E9 h9 => ?_)
  obtain ⟨hz9, hv9, hd9, he9⟩ := h9
  obtain rfl := hz9.symm
  obtain rfl := hv9.symm
  obtain rfl := hd9.symm
  obtain rfl := he9.symm
  refine a_put (f' := upo R0 0 (updR (updR (updR (updR (updR (updR (nR) 0 (1)) 1 (13)) 2 (15)) 3 (21)) 4 (27)) 5 (173))) (ci := 5) (k := 5) wf_X5_44 dX5_init_67 (show 0 < 179 by decide) k_0 (by decide) (by decide) (fun _ _ => rfl) rfl rfl rfl rfl rfl (fun i _ => congrFun (by rw [upR]) i) ?_
  refine r_aload_n dX5_init_70 rfl ?_
  refine a_new (c := 1) (f' := upo (upo R0 0 (updR (updR (updR (updR (updR (updR (nR) 0 (1)) 1 (13)) 2 (15)) 3 (21)) 4 (27)) 5 (173))) 179 nR) wk_X5_23 wn_X1 wi_X1 dX5_init_71 (by decide) (Nat.le_of_ble_eq_true rfl) (Nat.le_of_ble_eq_true rfl) k_179 upo_s (fun i hi => upo_n (show i ≠ 179 by omega)) (show upo Dz 3 (m1 8) _ = _ from upo_n (by decide)) (show Ez _ = _ from rfl) ?_
  refine r_dup dX5_init_74 rfl ?_
  refine r_callIN (As := []) (o := 179) (c_X1_init B Dr Ez 179 (upo R0 0 (updR (updR (updR (updR (updR (updR (nR) 0 (1)) 1 (13)) 2 (15)) 3 (21)) 4 (27)) 5 (173))) (isL_in 179 (by decide)) ((upo_n (by omega)).trans (R0_l 179 (by decide))) (fun j h1 h2 => ((upo_n (by omega)).trans (R0_arr 179 (by decide) j h1 h2))) (fun i hi => (show upo Dz 3 (m1 8) i = _ from upo_n (by omega))) (fun i hi => rfl)) hi_X1_init (by decide) dX5_init_75 rfl rfl (Nat.le_of_ble_eq_true rfl) ⟨(Nat.le_of_ble_eq_true rfl), (Nat.le_of_ble_eq_true rfl), (Nat.le_of_ble_eq_true rfl), (Nat.le_of_ble_eq_true rfl)⟩ (fun v9 Z9 D9 E9 h9 => by obtain ⟨rfl, -⟩ := h9; exact Nat.le_refl _) (fun v9 Z9 D9 E9 h9 => ?_)
  obtain ⟨hz9, hv9, hd9, he9⟩ := h9
  obtain rfl := hz9.symm
  obtain rfl := hv9.symm
  obtain rfl := hd9.symm
  obtain rfl := he9.symm
  refine a_put (f' := upo R0 0 (updR (updR (updR (updR (updR (updR (updR (nR) 0 (1)) 1 (13)) 2 (15)) 3 (21)) 4 (27)) 5 (173)) 6 (179))) (ci := 5) (k := 6) wf_X5_47 dX5_init_78 (show 0 < 185 by decide) k_0 (by decide) (by decide) (fun _ _ => rfl) rfl rfl rfl rfl rfl (fun i _ => congrFun (by rw [upR]) i) ?_
  refine r_aload_n dX5_init_81 rfl ?_
  refine a_new (c := 0) (f' := upo (upo R0 0 (updR (updR (updR (updR (updR (updR (updR (nR) 0 (1)) 1 (13)) 2 (15)) 3 (21)) 4 (27)) 5 (173)) 6 (179))) 185 nR) wk_X5_30 wn_X0 wi_X0 dX5_init_82 (by decide) (Nat.le_of_ble_eq_true rfl) (Nat.le_of_ble_eq_true rfl) k_185 upo_s (fun i hi => upo_n (show i ≠ 185 by omega)) (show upo Dz 3 (m1 8) _ = _ from upo_n (by decide)) (show Ez _ = _ from rfl) ?_
  refine r_dup dX5_init_85 rfl ?_
  refine r_callIN (As := []) (o := 185) (c_X0_init B Dr Ez 185 (upo R0 0 (updR (updR (updR (updR (updR (updR (updR (nR) 0 (1)) 1 (13)) 2 (15)) 3 (21)) 4 (27)) 5 (173)) 6 (179))) (isC_in 185 (by decide)) ((upo_n (by omega)).trans (R0_c 185 (by decide))) (fun j h1 h2 => ((upo_n (by omega)).trans (R0_arr 185 (by decide) j h1 h2))) (fun i hi => (show upo Dz 3 (m1 8) i = _ from upo_n (by omega))) (fun i hi => rfl)) hi_X0_init (by decide) dX5_init_86 rfl rfl (Nat.le_of_ble_eq_true rfl) ⟨(Nat.le_of_ble_eq_true rfl), (Nat.le_of_ble_eq_true rfl), (Nat.le_of_ble_eq_true rfl), (Nat.le_of_ble_eq_true rfl)⟩ (fun v9 Z9 D9 E9 h9 => by obtain ⟨rfl, -⟩ := h9; exact Nat.le_refl _) (fun v9 Z9 D9 E9 h9 => ?_)
  obtain ⟨hz9, hv9, hd9, he9⟩ := h9
  obtain rfl := hz9.symm
  obtain rfl := hv9.symm
  obtain rfl := hd9.symm
  obtain rfl := he9.symm
  refine a_put (f' := upo R0 0 (updR (updR (updR (updR (updR (updR (updR (updR (nR) 0 (1)) 1 (13)) 2 (15)) 3 (21)) 4 (27)) 5 (173)) 6 (179)) 7 (185))) (ci := 5) (k := 7) wf_X5_50 dX5_init_89 (show 0 < 191 by decide) k_0 (by decide) (by decide) (fun _ _ => rfl) rfl rfl rfl rfl rfl (fun i _ => congrFun (by rw [upR]) i) ?_
  refine r_aload_n dX5_init_92 rfl ?_
  refine r_iconst (nI 2) dX5_init_93 (by decide) ?_
  refine a_qL (f' := upo (upo R0 0 (updR (updR (updR (updR (updR (updR (updR (updR (nR) 0 (1)) 1 (13)) 2 (15)) 3 (21)) 4 (27)) 5 (173)) 6 (179)) 7 (185))) 191 (nR)) wk_X5_23 dX5_init_94 (by decide) (Nat.le_of_ble_eq_true rfl) (Nat.le_of_ble_eq_true rfl) k_191 (upo_s) (fun i hi => upo_n (show i ≠ 191 by omega)) (show upo Dz 3 (m1 8) _ = _ from upo_n (by decide)) (show Ez _ = _ from rfl) ?_
  refine a_put (f' := upo (upo R0 0 (updR (updR (updR (updR (updR (updR (updR (updR (updR (nR) 0 (1)) 1 (13)) 2 (15)) 3 (21)) 4 (27)) 5 (173)) 6 (179)) 7 (185)) 8 (191))) 191 (nR)) (ci := 5) (k := 8) wf_X5_53 dX5_init_97 (show 0 < 192 by decide) k_0 (by decide) (by decide) (fun _ _ => rfl) rfl rfl rfl rfl rfl (fun i _ => congrFun (by rw [upR_o (by decide), upR]) i) ?_
  refine r_aload_n dX5_init_100 rfl ?_
  refine r_iconst (nI 2) dX5_init_101 (by decide) ?_
  refine a_qC (f' := upo (upo (upo R0 0 (updR (updR (updR (updR (updR (updR (updR (updR (updR (nR) 0 (1)) 1 (13)) 2 (15)) 3 (21)) 4 (27)) 5 (173)) 6 (179)) 7 (185)) 8 (191))) 191 (nR)) 192 (nR)) wk_X5_30 dX5_init_102 (by decide) (Nat.le_of_ble_eq_true rfl) (Nat.le_of_ble_eq_true rfl) k_192 (upo_s) (fun i hi => upo_n (show i ≠ 192 by omega)) (show upo Dz 3 (m1 8) _ = _ from upo_n (by decide)) (show Ez _ = _ from rfl) ?_
  refine a_put (f' := upo (upo (upo R0 0 (updR (updR (updR (updR (updR (updR (updR (updR (updR (updR (nR) 0 (1)) 1 (13)) 2 (15)) 3 (21)) 4 (27)) 5 (173)) 6 (179)) 7 (185)) 8 (191)) 9 (192))) 191 (nR)) 192 (nR)) (ci := 5) (k := 9) wf_X5_57 dX5_init_105 (show 0 < 193 by decide) k_0 (by decide) (by decide) (fun _ _ => rfl) rfl rfl rfl rfl rfl (fun i _ => congrFun (by rw [upR_o (by decide), upR_o (by decide), upR]) i) ?_
  refine r_aload_n dX5_init_108 rfl ?_
  refine r_bipush (nI 101) dX5_init_109 (by decide) ?_
  refine a_L (f' := upo (upo (upo R0 0 (updR (updR (updR (updR (updR (updR (updR (updR (updR (updR (nR) 0 (1)) 1 (13)) 2 (15)) 3 (21)) 4 (27)) 5 (173)) 6 (179)) 7 (185)) 8 (191)) 9 (192))) 191 (nR)) 192 (nR)) dX5_init_111 (by decide) (Nat.le_of_ble_eq_true rfl) (Nat.le_of_ble_eq_true rfl) k_193 ((upo_n (by omega)).trans ((upo_n (by omega)).trans ((upo_n (by omega)).trans (R0_none (by decide +kernel))))) (fun _ _ => rfl) (show upo Dz 3 (m1 8) _ = _ from upo_n (by decide)) (show Ez _ = _ from rfl) ?_
  refine a_put (f' := upo (upo (upo R0 0 (updR (updR (updR (updR (updR (updR (updR (updR (updR (updR (updR (nR) 0 (1)) 1 (13)) 2 (15)) 3 (21)) 4 (27)) 5 (173)) 6 (179)) 7 (185)) 8 (191)) 9 (192)) 11 (193))) 191 (nR)) 192 (nR)) (ci := 5) (k := 11) wf_X5_61 dX5_init_113 (show 0 < 194 by decide) k_0 (by decide) (by decide) (fun _ _ => rfl) rfl rfl rfl rfl rfl (fun i _ => congrFun (by rw [upR_o (by decide), upR_o (by decide), upR]) i) ?_
  refine r_aload_n dX5_init_116 rfl ?_
  refine r_bipush (nI 16) dX5_init_117 (by decide) ?_
  refine a_I (f' := upo (upo (upo R0 0 (updR (updR (updR (updR (updR (updR (updR (updR (updR (updR (updR (nR) 0 (1)) 1 (13)) 2 (15)) 3 (21)) 4 (27)) 5 (173)) 6 (179)) 7 (185)) 8 (191)) 9 (192)) 11 (193))) 191 (nR)) 192 (nR)) dX5_init_119 (by decide) (Nat.le_of_ble_eq_true rfl) (Nat.le_of_ble_eq_true rfl) k_194 ((upo_n (by omega)).trans ((upo_n (by omega)).trans ((upo_n (by omega)).trans (R0_none (by decide +kernel))))) (fun _ _ => rfl) (show upo Dz 3 (m1 8) _ = _ from upo_n (by decide)) (show Ez _ = _ from rfl) ?_
  refine a_put (f' := upo (upo (upo R0 0 (updR (updR (updR (updR (updR (updR (updR (updR (updR (updR (updR (updR (nR) 0 (1)) 1 (13)) 2 (15)) 3 (21)) 4 (27)) 5 (173)) 6 (179)) 7 (185)) 8 (191)) 9 (192)) 11 (193)) 12 (194))) 191 (nR)) 192 (nR)) (ci := 5) (k := 12) wf_X5_65 dX5_init_121 (show 0 < 195 by decide) k_0 (by decide) (by decide) (fun _ _ => rfl) rfl rfl rfl rfl rfl (fun i _ => congrFun (by rw [upR_o (by decide), upR_o (by decide), upR]) i) ?_
  refine r_iconst (nI 0) dX5_init_124 (by decide) ?_
  refine r_istore_n [(1, .int (nI 0)), (0, .ref (B + 0))] dX5_init_125 (by decide) rfl ?_
  refine r_iload_n dX5_init_126 rfl ?_
  refine r_iconst (nI 2) dX5_init_127 (by decide) ?_
  refine r_icmp_ge (tgt := 163) dX5_init_128 (by decide) (fun c9 => ?_) (fun c9 => ?_)
  · exact absurd c9 (by decide)
  refine r_aload_n dX5_init_131 rfl ?_
  refine r_getR (v := 191) (ci := 5) (k := 8) wf_X5_53 dX5_init_132 (show 0 < 195 by decide) k_0 (by decide) (by decide) (fun _ _ => rfl) (show (upo (upo (upo R0 0 (updR (updR (updR (updR (updR (updR (updR (updR (updR (updR (updR (updR (nR) 0 (1)) 1 (13)) 2 (15)) 3 (21)) 4 (27)) 5 (173)) 6 (179)) 7 (185)) 8 (191)) 9 (192)) 11 (193)) 12 (194))) 191 (nR)) 192 (nR)) 0 8 = some 191 by rw [upo_n (by decide), upo_n (by decide), upo_s]; rfl) ?_
  refine r_iload_n dX5_init_135 rfl ?_
  refine a_new (c := 1) (f' := upo (upo (upo (upo R0 0 (updR (updR (updR (updR (updR (updR (updR (updR (updR (updR (updR (updR (nR) 0 (1)) 1 (13)) 2 (15)) 3 (21)) 4 (27)) 5 (173)) 6 (179)) 7 (185)) 8 (191)) 9 (192)) 11 (193)) 12 (194))) 191 (nR)) 192 (nR)) 195 nR) wk_X5_23 wn_X1 wi_X1 dX5_init_136 (by decide) (Nat.le_of_ble_eq_true rfl) (Nat.le_of_ble_eq_true rfl) k_195 upo_s (fun i hi => upo_n (show i ≠ 195 by omega)) (show upo Dz 3 (m1 8) _ = _ from upo_n (by decide)) (show Ez _ = _ from rfl) ?_
  refine r_dup dX5_init_139 rfl ?_
  refine r_callIN (As := []) (o := 195) (c_X1_init B Dr Ez 195 (upo (upo (upo R0 0 (updR (updR (updR (updR (updR (updR (updR (updR (updR (updR (updR (updR (nR) 0 (1)) 1 (13)) 2 (15)) 3 (21)) 4 (27)) 5 (173)) 6 (179)) 7 (185)) 8 (191)) 9 (192)) 11 (193)) 12 (194))) 191 (nR)) 192 (nR)) (isL_in 195 (by decide)) ((upo_n (by omega)).trans ((upo_n (by omega)).trans ((upo_n (by omega)).trans (R0_l 195 (by decide))))) (fun j h1 h2 => ((upo_n (by omega)).trans ((upo_n (by omega)).trans ((upo_n (by omega)).trans (R0_arr 195 (by decide) j h1 h2))))) (fun i hi => (show upo Dz 3 (m1 8) i = _ from upo_n (by omega))) (fun i hi => rfl)) hi_X1_init (by decide) dX5_init_140 rfl rfl (Nat.le_of_ble_eq_true rfl) ⟨(Nat.le_of_ble_eq_true rfl), (Nat.le_of_ble_eq_true rfl), (Nat.le_of_ble_eq_true rfl), (Nat.le_of_ble_eq_true rfl)⟩ (fun v9 Z9 D9 E9 h9 => by obtain ⟨rfl, -⟩ := h9; exact Nat.le_refl _) (fun v9 Z9 D9 E9 h9 => ?_)
  obtain ⟨hz9, hv9, hd9, he9⟩ := h9
  obtain rfl := hz9.symm
  obtain rfl := hv9.symm
  obtain rfl := hd9.symm
  obtain rfl := he9.symm
  refine a_aast (f' := upo (upo (upo R0 0 (updR (updR (updR (updR (updR (updR (updR (updR (updR (updR (updR (updR (nR) 0 (1)) 1 (13)) 2 (15)) 3 (21)) 4 (27)) 5 (173)) 6 (179)) 7 (185)) 8 (191)) 9 (192)) 11 (193)) 12 (194))) 191 (updR (nR) 0 (195))) 192 (nR)) dX5_init_143 (show 191 < 201 by decide) k_191 (Or.inl ⟨rfl, rfl⟩) (by decide) (by decide) (show 195 < 201 by decide) k_195 (fun i _ => congrFun (by rw [upR_o (by decide), upR]) i) ?_
  refine r_aload_n dX5_init_144 rfl ?_
  refine r_getR (v := 192) (ci := 5) (k := 9) wf_X5_57 dX5_init_145 (show 0 < 201 by decide) k_0 (by decide) (by decide) (fun _ _ => rfl) (show (upo (upo (upo R0 0 (updR (updR (updR (updR (updR (updR (updR (updR (updR (updR (updR (updR (nR) 0 (1)) 1 (13)) 2 (15)) 3 (21)) 4 (27)) 5 (173)) 6 (179)) 7 (185)) 8 (191)) 9 (192)) 11 (193)) 12 (194))) 191 (updR (nR) 0 (195))) 192 (nR)) 0 9 = some 192 by rw [upo_n (by decide), upo_n (by decide), upo_s]; rfl) ?_
  refine r_iload_n dX5_init_148 rfl ?_
  refine a_new (c := 0) (f' := upo (upo (upo (upo R0 0 (updR (updR (updR (updR (updR (updR (updR (updR (updR (updR (updR (updR (nR) 0 (1)) 1 (13)) 2 (15)) 3 (21)) 4 (27)) 5 (173)) 6 (179)) 7 (185)) 8 (191)) 9 (192)) 11 (193)) 12 (194))) 191 (updR (nR) 0 (195))) 192 (nR)) 201 nR) wk_X5_30 wn_X0 wi_X0 dX5_init_149 (by decide) (Nat.le_of_ble_eq_true rfl) (Nat.le_of_ble_eq_true rfl) k_201 upo_s (fun i hi => upo_n (show i ≠ 201 by omega)) (show upo Dz 3 (m1 8) _ = _ from upo_n (by decide)) (show Ez _ = _ from rfl) ?_
  refine r_dup dX5_init_152 rfl ?_
  refine r_callIN (As := []) (o := 201) (c_X0_init B Dr Ez 201 (upo (upo (upo R0 0 (updR (updR (updR (updR (updR (updR (updR (updR (updR (updR (updR (updR (nR) 0 (1)) 1 (13)) 2 (15)) 3 (21)) 4 (27)) 5 (173)) 6 (179)) 7 (185)) 8 (191)) 9 (192)) 11 (193)) 12 (194))) 191 (updR (nR) 0 (195))) 192 (nR)) (isC_in 201 (by decide)) ((upo_n (by omega)).trans ((upo_n (by omega)).trans ((upo_n (by omega)).trans (R0_c 201 (by decide))))) (fun j h1 h2 => ((upo_n (by omega)).trans ((upo_n (by omega)).trans ((upo_n (by omega)).trans (R0_arr 201 (by decide) j h1 h2))))) (fun i hi => (show upo Dz 3 (m1 8) i = _ from upo_n (by omega))) (fun i hi => rfl)) hi_X0_init (by decide) dX5_init_153 rfl rfl (Nat.le_of_ble_eq_true rfl) ⟨(Nat.le_of_ble_eq_true rfl), (Nat.le_of_ble_eq_true rfl), (Nat.le_of_ble_eq_true rfl), (Nat.le_of_ble_eq_true rfl)⟩ (fun v9 Z9 D9 E9 h9 => by obtain ⟨rfl, -⟩ := h9; exact Nat.le_refl _) (fun v9 Z9 D9 E9 h9 => ?_)
  obtain ⟨hz9, hv9, hd9, he9⟩ := h9
  obtain rfl := hz9.symm
  obtain rfl := hv9.symm
  obtain rfl := hd9.symm
  obtain rfl := he9.symm
  refine a_aast (f' := upo (upo (upo R0 0 (updR (updR (updR (updR (updR (updR (updR (updR (updR (updR (updR (updR (nR) 0 (1)) 1 (13)) 2 (15)) 3 (21)) 4 (27)) 5 (173)) 6 (179)) 7 (185)) 8 (191)) 9 (192)) 11 (193)) 12 (194))) 191 (updR (nR) 0 (195))) 192 (updR (nR) 0 (201))) dX5_init_156 (show 192 < 207 by decide) k_192 (Or.inr ⟨rfl, rfl⟩) (by decide) (by decide) (show 201 < 207 by decide) k_201 (fun i _ => congrFun (by rw [upR]) i) ?_
  refine r_iinc (nI 1) [(1, .int (nI 1)), (0, .ref (B + 0))] dX5_init_157 rfl (nI_1 _) (by decide) rfl ?_
  refine r_goto (tgt := 126) dX5_init_160 (by decide) ?_
  refine r_iload_n dX5_init_126 rfl ?_
  refine r_iconst (nI 2) dX5_init_127 (by decide) ?_
  refine r_icmp_ge (tgt := 163) dX5_init_128 (by decide) (fun c9 => ?_) (fun c9 => ?_)
  · exact absurd c9 (by decide)
  refine r_aload_n dX5_init_131 rfl ?_
  refine r_getR (v := 191) (ci := 5) (k := 8) wf_X5_53 dX5_init_132 (show 0 < 207 by decide) k_0 (by decide) (by decide) (fun _ _ => rfl) (show (upo (upo (upo R0 0 (updR (updR (updR (updR (updR (updR (updR (updR (updR (updR (updR (updR (nR) 0 (1)) 1 (13)) 2 (15)) 3 (21)) 4 (27)) 5 (173)) 6 (179)) 7 (185)) 8 (191)) 9 (192)) 11 (193)) 12 (194))) 191 (updR (nR) 0 (195))) 192 (updR (nR) 0 (201))) 0 8 = some 191 by rw [upo_n (by decide), upo_n (by decide), upo_s]; rfl) ?_
  refine r_iload_n dX5_init_135 rfl ?_
  refine a_new (c := 1) (f' := upo (upo (upo (upo R0 0 (updR (updR (updR (updR (updR (updR (updR (updR (updR (updR (updR (updR (nR) 0 (1)) 1 (13)) 2 (15)) 3 (21)) 4 (27)) 5 (173)) 6 (179)) 7 (185)) 8 (191)) 9 (192)) 11 (193)) 12 (194))) 191 (updR (nR) 0 (195))) 192 (updR (nR) 0 (201))) 207 nR) wk_X5_23 wn_X1 wi_X1 dX5_init_136 (by decide) (Nat.le_of_ble_eq_true rfl) (Nat.le_of_ble_eq_true rfl) k_207 upo_s (fun i hi => upo_n (show i ≠ 207 by omega)) (show upo Dz 3 (m1 8) _ = _ from upo_n (by decide)) (show Ez _ = _ from rfl) ?_
  refine r_dup dX5_init_139 rfl ?_
  refine r_callIN (As := []) (o := 207) (c_X1_init B Dr Ez 207 (upo (upo (upo R0 0 (updR (updR (updR (updR (updR (updR (updR (updR (updR (updR (updR (updR (nR) 0 (1)) 1 (13)) 2 (15)) 3 (21)) 4 (27)) 5 (173)) 6 (179)) 7 (185)) 8 (191)) 9 (192)) 11 (193)) 12 (194))) 191 (updR (nR) 0 (195))) 192 (updR (nR) 0 (201))) (isL_in 207 (by decide)) ((upo_n (by omega)).trans ((upo_n (by omega)).trans ((upo_n (by omega)).trans (R0_l 207 (by decide))))) (fun j h1 h2 => ((upo_n (by omega)).trans ((upo_n (by omega)).trans ((upo_n (by omega)).trans (R0_arr 207 (by decide) j h1 h2))))) (fun i hi => (show upo Dz 3 (m1 8) i = _ from upo_n (by omega))) (fun i hi => rfl)) hi_X1_init (by decide) dX5_init_140 rfl rfl (Nat.le_of_ble_eq_true rfl) ⟨(Nat.le_of_ble_eq_true rfl), (Nat.le_of_ble_eq_true rfl), (Nat.le_of_ble_eq_true rfl), (Nat.le_of_ble_eq_true rfl)⟩ (fun v9 Z9 D9 E9 h9 => by obtain ⟨rfl, -⟩ := h9; exact Nat.le_refl _) (fun v9 Z9 D9 E9 h9 => ?_)
  obtain ⟨hz9, hv9, hd9, he9⟩ := h9
  obtain rfl := hz9.symm
  obtain rfl := hv9.symm
  obtain rfl := hd9.symm
  obtain rfl := he9.symm
  refine a_aast (f' := upo (upo (upo R0 0 (updR (updR (updR (updR (updR (updR (updR (updR (updR (updR (updR (updR (nR) 0 (1)) 1 (13)) 2 (15)) 3 (21)) 4 (27)) 5 (173)) 6 (179)) 7 (185)) 8 (191)) 9 (192)) 11 (193)) 12 (194))) 191 (updR (updR (nR) 0 (195)) 1 (207))) 192 (updR (nR) 0 (201))) dX5_init_143 (show 191 < 213 by decide) k_191 (Or.inl ⟨rfl, rfl⟩) (by decide) (by decide) (show 207 < 213 by decide) k_207 (fun i _ => congrFun (by rw [upR_o (by decide), upR]) i) ?_
  refine r_aload_n dX5_init_144 rfl ?_
  refine r_getR (v := 192) (ci := 5) (k := 9) wf_X5_57 dX5_init_145 (show 0 < 213 by decide) k_0 (by decide) (by decide) (fun _ _ => rfl) (show (upo (upo (upo R0 0 (updR (updR (updR (updR (updR (updR (updR (updR (updR (updR (updR (updR (nR) 0 (1)) 1 (13)) 2 (15)) 3 (21)) 4 (27)) 5 (173)) 6 (179)) 7 (185)) 8 (191)) 9 (192)) 11 (193)) 12 (194))) 191 (updR (updR (nR) 0 (195)) 1 (207))) 192 (updR (nR) 0 (201))) 0 9 = some 192 by rw [upo_n (by decide), upo_n (by decide), upo_s]; rfl) ?_
  refine r_iload_n dX5_init_148 rfl ?_
  refine a_new (c := 0) (f' := upo (upo (upo (upo R0 0 (updR (updR (updR (updR (updR (updR (updR (updR (updR (updR (updR (updR (nR) 0 (1)) 1 (13)) 2 (15)) 3 (21)) 4 (27)) 5 (173)) 6 (179)) 7 (185)) 8 (191)) 9 (192)) 11 (193)) 12 (194))) 191 (updR (updR (nR) 0 (195)) 1 (207))) 192 (updR (nR) 0 (201))) 213 nR) wk_X5_30 wn_X0 wi_X0 dX5_init_149 (by decide) (Nat.le_of_ble_eq_true rfl) (Nat.le_of_ble_eq_true rfl) k_213 upo_s (fun i hi => upo_n (show i ≠ 213 by omega)) (show upo Dz 3 (m1 8) _ = _ from upo_n (by decide)) (show Ez _ = _ from rfl) ?_
  refine r_dup dX5_init_152 rfl ?_
  refine r_callIN (As := []) (o := 213) (c_X0_init B Dr Ez 213 (upo (upo (upo R0 0 (updR (updR (updR (updR (updR (updR (updR (updR (updR (updR (updR (updR (nR) 0 (1)) 1 (13)) 2 (15)) 3 (21)) 4 (27)) 5 (173)) 6 (179)) 7 (185)) 8 (191)) 9 (192)) 11 (193)) 12 (194))) 191 (updR (updR (nR) 0 (195)) 1 (207))) 192 (updR (nR) 0 (201))) (isC_in 213 (by decide)) ((upo_n (by omega)).trans ((upo_n (by omega)).trans ((upo_n (by omega)).trans (R0_c 213 (by decide))))) (fun j h1 h2 => ((upo_n (by omega)).trans ((upo_n (by omega)).trans ((upo_n (by omega)).trans (R0_arr 213 (by decide) j h1 h2))))) (fun i hi => (show upo Dz 3 (m1 8) i = _ from upo_n (by omega))) (fun i hi => rfl)) hi_X0_init (by decide) dX5_init_153 rfl rfl (Nat.le_of_ble_eq_true rfl) ⟨(Nat.le_of_ble_eq_true rfl), (Nat.le_of_ble_eq_true rfl), (Nat.le_of_ble_eq_true rfl), (Nat.le_of_ble_eq_true rfl)⟩ (fun v9 Z9 D9 E9 h9 => by obtain ⟨rfl, -⟩ := h9; exact Nat.le_refl _) (fun v9 Z9 D9 E9 h9 => ?_)
  obtain ⟨hz9, hv9, hd9, he9⟩ := h9
  obtain rfl := hz9.symm
  obtain rfl := hv9.symm
  obtain rfl := hd9.symm
  obtain rfl := he9.symm
  refine a_aast (f' := upo (upo (upo R0 0 (updR (updR (updR (updR (updR (updR (updR (updR (updR (updR (updR (updR (nR) 0 (1)) 1 (13)) 2 (15)) 3 (21)) 4 (27)) 5 (173)) 6 (179)) 7 (185)) 8 (191)) 9 (192)) 11 (193)) 12 (194))) 191 (updR (updR (nR) 0 (195)) 1 (207))) 192 (updR (updR (nR) 0 (201)) 1 (213))) dX5_init_156 (show 192 < 219 by decide) k_192 (Or.inr ⟨rfl, rfl⟩) (by decide) (by decide) (show 213 < 219 by decide) k_213 (fun i _ => congrFun (by rw [upR]) i) ?_
  refine r_iinc (nI 2) [(1, .int (nI 2)), (0, .ref (B + 0))] dX5_init_157 rfl (nI_1 _) (by decide) rfl ?_
  refine r_goto (tgt := 126) dX5_init_160 (by decide) ?_
  refine r_iload_n dX5_init_126 rfl ?_
  refine r_iconst (nI 2) dX5_init_127 (by decide) ?_
  refine r_icmp_ge (tgt := 163) dX5_init_128 (by decide) (fun c9 => ?_) (fun c9 => ?_)
  rotate_left
  · exact absurd (by decide) c9
  refine r_Z (Z' := ZC 219 R0) (D' := Dr) (E' := Ez) rfl (fun i hi => ⟨rfl, ?_, rfl, rfl⟩) ?_
  · show R0 i = (upo (upo (upo R0 0 (updR (updR (updR (updR (updR (updR (updR (updR (updR (updR (updR (updR (nR) 0 (1)) 1 (13)) 2 (15)) 3 (21)) 4 (27)) 5 (173)) 6 (179)) 7 (185)) 8 (191)) 9 (192)) 11 (193)) 12 (194))) 191 (updR (updR (nR) 0 (195)) 1 (207))) 192 (updR (updR (nR) 0 (201)) 1 (213))) i
    by_cases q : i = 192
    · subst q; rw [upo_s]; exact R0_192
    · rw [upo_n q]
      by_cases q1 : i = 191
      · subst q1; rw [upo_s]; exact R0_191
      · rw [upo_n q1]
        by_cases q2 : i = 0
        · subst q2; rw [upo_s]; exact R0_0
        · rw [upo_n q2]
  exact r_vret dX5_init_163 rfl (Nat.le_of_ble_eq_true rfl) (Nat.le_of_ble_eq_true rfl) ⟨rfl, rfl, rfl, rfl⟩
set_option maxRecDepth 100000 in
set_option maxHeartbeats 4000000 in
theorem c_X6_init (B : Nat)  : MR yX6_init cX6_init 1 none rX6_init B [.ref (B + 219)] (ZC 220 (upo R0 219 nR)) Dr Ez (Q2 (ZC 234 R0) (pV (fun D' E' => D' = Dq ∧ E' = Ez))) := by
  refine r_enter [(0, .ref (B + 219))] hi_X6_init.1.2.2.2.2 (Nat.le_of_ble_eq_true rfl) rfl ?_
  refine r_aload_n dX6_init_0 rfl ?_
  refine r_objinit wm_X6_1 dX6_init_1 (Nat.le_of_ble_eq_true rfl) (Nat.le_of_ble_eq_true rfl) ?_
  refine r_aload_n dX6_init_4 rfl ?_
  refine r_bipush (nI 8) dX6_init_5 (by decide) ?_
  refine a_I (f' := upo R0 219 (nR)) dX6_init_7 (by decide) (Nat.le_of_ble_eq_true rfl) (Nat.le_of_ble_eq_true rfl) k_220 ((upo_n (by decide)).trans (R0_none (by decide +kernel))) (fun _ _ => rfl) (show upo Dz 3 (m1 8) 220 = _ from upo_n (by decide)) (show Ez _ = _ from rfl) ?_
  refine r_dup dX6_init_9 rfl ?_
  refine r_iconst (nI 0) dX6_init_10 (by decide) ?_
  refine r_iconst (-1) dX6_init_11 (by decide) ?_
  refine r_Z (Z' := ZC 221 (upo R0 219 (nR))) (D' := upo Dr 220 (m1 0)) (E' := Ez) rfl (fun i hi => ⟨rfl, rfl, ?_, rfl⟩) ?_
  · by_cases q : i = 220
    · subst q; rw [upo_s]; exact (show upo Dz 3 (m1 8) 220 = _ from upo_n (by decide)).symm
    · exact upo_n q
  refine r_iast (o := 220) (n := 8) dX6_init_12 (show 220 < 221 by decide) k_220 (vp_in_nI (by decide) (by decide)) (fun D9 e9 => ?_)
  obtain rfl : D9 = upo Dr 220 (m1 1) := m1_s (k := 0) (e9.trans (by rw [nI_clamp (by decide)]))
  clear e9
  refine r_dup dX6_init_13 rfl ?_
  refine r_iconst (nI 1) dX6_init_14 (by decide) ?_
  refine r_iconst (-1) dX6_init_15 (by decide) ?_
  refine r_iast (o := 220) (n := 8) dX6_init_16 (show 220 < 221 by decide) k_220 (vp_in_nI (by decide) (by decide)) (fun D9 e9 => ?_)
  obtain rfl : D9 = upo Dr 220 (m1 2) := m1_s (k := 1) (e9.trans (by rw [nI_clamp (by decide)]))
  clear e9
  refine r_dup dX6_init_17 rfl ?_
  refine r_iconst (nI 2) dX6_init_18 (by decide) ?_
  refine r_iconst (-1) dX6_init_19 (by decide) ?_
  refine r_iast (o := 220) (n := 8) dX6_init_20 (show 220 < 221 by decide) k_220 (vp_in_nI (by decide) (by decide)) (fun D9 e9 => ?_)
  obtain rfl : D9 = upo Dr 220 (m1 3) := m1_s (k := 2) (e9.trans (by rw [nI_clamp (by decide)]))
  clear e9
  refine r_dup dX6_init_21 rfl ?_
  refine r_iconst (nI 3) dX6_init_22 (by decide) ?_
  refine r_iconst (-1) dX6_init_23 (by decide) ?_
  refine r_iast (o := 220) (n := 8) dX6_init_24 (show 220 < 221 by decide) k_220 (vp_in_nI (by decide) (by decide)) (fun D9 e9 => ?_)
  obtain rfl : D9 = upo Dr 220 (m1 4) := m1_s (k := 3) (e9.trans (by rw [nI_clamp (by decide)]))
  clear e9
  refine r_dup dX6_init_25 rfl ?_
  refine r_iconst (nI 4) dX6_init_26 (by decide) ?_
  refine r_iconst (-1) dX6_init_27 (by decide) ?_
  refine r_iast (o := 220) (n := 8) dX6_init_28 (show 220 < 221 by decide) k_220 (vp_in_nI (by decide) (by decide)) (fun D9 e9 => ?_)
  obtain rfl : D9 = upo Dr 220 (m1 5) := m1_s (k := 4) (e9.trans (by rw [nI_clamp (by decide)]))
  clear e9
  refine r_dup dX6_init_29 rfl ?_
  refine r_iconst (nI 5) dX6_init_30 (by decide) ?_
  refine r_iconst (-1) dX6_init_31 (by decide) ?_
  refine r_iast (o := 220) (n := 8) dX6_init_32 (show 220 < 221 by decide) k_220 (vp_in_nI (by decide) (by decide)) (fun D9 e9 => ?_)
  obtain rfl : D9 = upo Dr 220 (m1 6) := m1_s (k := 5) (e9.trans (by rw [nI_clamp (by decide)]))
  clear e9
  refine r_dup dX6_init_33 rfl ?_
  refine r_bipush (nI 6) dX6_init_34 (by decide) ?_
  refine r_iconst (-1) dX6_init_36 (by decide) ?_
  refine r_iast (o := 220) (n := 8) dX6_init_37 (show 220 < 221 by decide) k_220 (vp_in_nI (by decide) (by decide)) (fun D9 e9 => ?_)
  obtain rfl : D9 = upo Dr 220 (m1 7) := m1_s (k := 6) (e9.trans (by rw [nI_clamp (by decide)]))
  clear e9
  refine r_dup dX6_init_38 rfl ?_
  refine r_bipush (nI 7) dX6_init_39 (by decide) ?_
  refine r_iconst (-1) dX6_init_41 (by decide) ?_
  refine r_iast (o := 220) (n := 8) dX6_init_42 (show 220 < 221 by decide) k_220 (vp_in_nI (by decide) (by decide)) (fun D9 e9 => ?_)
  obtain rfl : D9 = upo Dr 220 (m1 8) := m1_s (k := 7) (e9.trans (by rw [nI_clamp (by decide)]))
  clear e9
  refine a_put (f' := upo R0 219 (updR (nR) 2 (220))) (ci := 6) (k := 2) wf_X6_7 dX6_init_43 (show 219 < 221 by decide) k_219 (by decide) (by decide) (fun _ _ => rfl) rfl rfl rfl rfl rfl (fun i _ => congrFun (by rw [upR]) i) ?_
  refine r_aload_n dX6_init_46 rfl ?_
  refine r_bipush (nI 8) dX6_init_47 (by decide) ?_
  refine a_I (f' := upo R0 219 (updR (nR) 2 (220))) dX6_init_49 (by decide) (Nat.le_of_ble_eq_true rfl) (Nat.le_of_ble_eq_true rfl) k_221 ((upo_n (by decide)).trans (R0_none (by decide +kernel))) (fun _ _ => rfl) (show upo (upo Dz 3 (m1 8)) 220 (m1 8) 221 = _ from (upo_n (by decide)).trans (upo_n (by decide))) (show Ez _ = _ from rfl) ?_
  refine a_put (f' := upo R0 219 (updR (updR (nR) 2 (220)) 3 (221))) (ci := 6) (k := 3) wf_X6_13 dX6_init_51 (show 219 < 222 by decide) k_219 (by decide) (by decide) (fun _ _ => rfl) rfl rfl rfl rfl rfl (fun i _ => congrFun (by rw [upR]) i) ?_
  refine r_aload_n dX6_init_54 rfl ?_
  refine r_sipush (nI 320) dX6_init_55 (by decide) ?_
  refine a_I (f' := upo R0 219 (updR (updR (nR) 2 (220)) 3 (221))) dX6_init_58 (by decide) (Nat.le_of_ble_eq_true rfl) (Nat.le_of_ble_eq_true rfl) k_222 ((upo_n (by decide)).trans (R0_none (by decide +kernel))) (fun _ _ => rfl) (show upo (upo Dz 3 (m1 8)) 220 (m1 8) 222 = _ from (upo_n (by decide)).trans (upo_n (by decide))) (show Ez _ = _ from rfl) ?_
  refine a_put (f' := upo R0 219 (updR (updR (updR (nR) 2 (220)) 3 (221)) 4 (222))) (ci := 6) (k := 4) wf_X6_16 dX6_init_60 (show 219 < 223 by decide) k_219 (by decide) (by decide) (fun _ _ => rfl) rfl rfl rfl rfl rfl (fun i _ => congrFun (by rw [upR]) i) ?_
  refine r_aload_n dX6_init_63 rfl ?_
  refine r_bipush (nI 64) dX6_init_64 (by decide) ?_
  refine a_I (f' := upo R0 219 (updR (updR (updR (nR) 2 (220)) 3 (221)) 4 (222))) dX6_init_66 (by decide) (Nat.le_of_ble_eq_true rfl) (Nat.le_of_ble_eq_true rfl) k_223 ((upo_n (by decide)).trans (R0_none (by decide +kernel))) (fun _ _ => rfl) (show upo (upo Dz 3 (m1 8)) 220 (m1 8) 223 = _ from (upo_n (by decide)).trans (upo_n (by decide))) (show Ez _ = _ from rfl) ?_
  refine a_put (f' := upo R0 219 (updR (updR (updR (updR (nR) 2 (220)) 3 (221)) 4 (222)) 5 (223))) (ci := 6) (k := 5) wf_X6_19 dX6_init_68 (show 219 < 224 by decide) k_219 (by decide) (by decide) (fun _ _ => rfl) rfl rfl rfl rfl rfl (fun i _ => congrFun (by rw [upR]) i) ?_
  refine r_aload_n dX6_init_71 rfl ?_
  refine r_bipush (nI 64) dX6_init_72 (by decide) ?_
  refine a_I (f' := upo R0 219 (updR (updR (updR (updR (nR) 2 (220)) 3 (221)) 4 (222)) 5 (223))) dX6_init_74 (by decide) (Nat.le_of_ble_eq_true rfl) (Nat.le_of_ble_eq_true rfl) k_224 ((upo_n (by decide)).trans (R0_none (by decide +kernel))) (fun _ _ => rfl) (show upo (upo Dz 3 (m1 8)) 220 (m1 8) 224 = _ from (upo_n (by decide)).trans (upo_n (by decide))) (show Ez _ = _ from rfl) ?_
  refine a_put (f' := upo R0 219 (updR (updR (updR (updR (updR (nR) 2 (220)) 3 (221)) 4 (222)) 5 (223)) 6 (224))) (ci := 6) (k := 6) wf_X6_22 dX6_init_76 (show 219 < 225 by decide) k_219 (by decide) (by decide) (fun _ _ => rfl) rfl rfl rfl rfl rfl (fun i _ => congrFun (by rw [upR]) i) ?_
  refine r_aload_n dX6_init_79 rfl ?_
  refine r_bipush (nI 64) dX6_init_80 (by decide) ?_
  refine a_I (f' := upo R0 219 (updR (updR (updR (updR (updR (nR) 2 (220)) 3 (221)) 4 (222)) 5 (223)) 6 (224))) dX6_init_82 (by decide) (Nat.le_of_ble_eq_true rfl) (Nat.le_of_ble_eq_true rfl) k_225 ((upo_n (by decide)).trans (R0_none (by decide +kernel))) (fun _ _ => rfl) (show upo (upo Dz 3 (m1 8)) 220 (m1 8) 225 = _ from (upo_n (by decide)).trans (upo_n (by decide))) (show Ez _ = _ from rfl) ?_
  refine a_put (f' := upo R0 219 (updR (updR (updR (updR (updR (updR (nR) 2 (220)) 3 (221)) 4 (222)) 5 (223)) 6 (224)) 7 (225))) (ci := 6) (k := 7) wf_X6_25 dX6_init_84 (show 219 < 226 by decide) k_219 (by decide) (by decide) (fun _ _ => rfl) rfl rfl rfl rfl rfl (fun i _ => congrFun (by rw [upR]) i) ?_
  refine r_aload_n dX6_init_87 rfl ?_
  refine r_sipush (nI 1536) dX6_init_88 (by decide) ?_
  refine a_I (f' := upo R0 219 (updR (updR (updR (updR (updR (updR (nR) 2 (220)) 3 (221)) 4 (222)) 5 (223)) 6 (224)) 7 (225))) dX6_init_91 (by decide) (Nat.le_of_ble_eq_true rfl) (Nat.le_of_ble_eq_true rfl) k_226 ((upo_n (by decide)).trans (R0_none (by decide +kernel))) (fun _ _ => rfl) (show upo (upo Dz 3 (m1 8)) 220 (m1 8) 226 = _ from (upo_n (by decide)).trans (upo_n (by decide))) (show Ez _ = _ from rfl) ?_
  refine a_put (f' := upo R0 219 (updR (updR (updR (updR (updR (updR (updR (nR) 2 (220)) 3 (221)) 4 (222)) 5 (223)) 6 (224)) 7 (225)) 8 (226))) (ci := 6) (k := 8) wf_X6_28 dX6_init_93 (show 219 < 227 by decide) k_219 (by decide) (by decide) (fun _ _ => rfl) rfl rfl rfl rfl rfl (fun i _ => congrFun (by rw [upR]) i) ?_
  refine r_aload_n dX6_init_96 rfl ?_
  refine r_bipush (nI 120) dX6_init_97 (by decide) ?_
  refine a_I (f' := upo R0 219 (updR (updR (updR (updR (updR (updR (updR (nR) 2 (220)) 3 (221)) 4 (222)) 5 (223)) 6 (224)) 7 (225)) 8 (226))) dX6_init_99 (by decide) (Nat.le_of_ble_eq_true rfl) (Nat.le_of_ble_eq_true rfl) k_227 ((upo_n (by decide)).trans (R0_none (by decide +kernel))) (fun _ _ => rfl) (show upo (upo Dz 3 (m1 8)) 220 (m1 8) 227 = _ from (upo_n (by decide)).trans (upo_n (by decide))) (show Ez _ = _ from rfl) ?_
  refine a_put (f' := upo R0 219 (updR (updR (updR (updR (updR (updR (updR (updR (nR) 2 (220)) 3 (221)) 4 (222)) 5 (223)) 6 (224)) 7 (225)) 8 (226)) 10 (227))) (ci := 6) (k := 10) wf_X6_31 dX6_init_101 (show 219 < 228 by decide) k_219 (by decide) (by decide) (fun _ _ => rfl) rfl rfl rfl rfl rfl (fun i _ => congrFun (by rw [upR]) i) ?_
  refine r_aload_n dX6_init_104 rfl ?_
  refine r_bipush (nI 36) dX6_init_105 (by decide) ?_
  refine a_I (f' := upo R0 219 (updR (updR (updR (updR (updR (updR (updR (updR (nR) 2 (220)) 3 (221)) 4 (222)) 5 (223)) 6 (224)) 7 (225)) 8 (226)) 10 (227))) dX6_init_107 (by decide) (Nat.le_of_ble_eq_true rfl) (Nat.le_of_ble_eq_true rfl) k_228 ((upo_n (by decide)).trans (R0_none (by decide +kernel))) (fun _ _ => rfl) (show upo (upo Dz 3 (m1 8)) 220 (m1 8) 228 = _ from (upo_n (by decide)).trans (upo_n (by decide))) (show Ez _ = _ from rfl) ?_
  refine a_put (f' := upo R0 219 (updR (updR (updR (updR (updR (updR (updR (updR (updR (nR) 2 (220)) 3 (221)) 4 (222)) 5 (223)) 6 (224)) 7 (225)) 8 (226)) 10 (227)) 19 (228))) (ci := 6) (k := 19) wf_X6_34 dX6_init_109 (show 219 < 229 by decide) k_219 (by decide) (by decide) (fun _ _ => rfl) rfl rfl rfl rfl rfl (fun i _ => congrFun (by rw [upR]) i) ?_
  refine r_aload_n dX6_init_112 rfl ?_
  refine r_bipush (nI 6) dX6_init_113 (by decide) ?_
  refine a_I (f' := upo R0 219 (updR (updR (updR (updR (updR (updR (updR (updR (updR (nR) 2 (220)) 3 (221)) 4 (222)) 5 (223)) 6 (224)) 7 (225)) 8 (226)) 10 (227)) 19 (228))) dX6_init_115 (by decide) (Nat.le_of_ble_eq_true rfl) (Nat.le_of_ble_eq_true rfl) k_229 ((upo_n (by decide)).trans (R0_none (by decide +kernel))) (fun _ _ => rfl) (show upo (upo Dz 3 (m1 8)) 220 (m1 8) 229 = _ from (upo_n (by decide)).trans (upo_n (by decide))) (show Ez _ = _ from rfl) ?_
  refine a_put (f' := upo R0 219 (updR (updR (updR (updR (updR (updR (updR (updR (updR (updR (nR) 2 (220)) 3 (221)) 4 (222)) 5 (223)) 6 (224)) 7 (225)) 8 (226)) 10 (227)) 19 (228)) 20 (229))) (ci := 6) (k := 20) wf_X6_37 dX6_init_117 (show 219 < 230 by decide) k_219 (by decide) (by decide) (fun _ _ => rfl) rfl rfl rfl rfl rfl (fun i _ => congrFun (by rw [upR]) i) ?_
  refine r_aload_n dX6_init_120 rfl ?_
  refine r_bipush (nI 101) dX6_init_121 (by decide) ?_
  refine a_L (f' := upo R0 219 (updR (updR (updR (updR (updR (updR (updR (updR (updR (updR (nR) 2 (220)) 3 (221)) 4 (222)) 5 (223)) 6 (224)) 7 (225)) 8 (226)) 10 (227)) 19 (228)) 20 (229))) dX6_init_123 (by decide) (Nat.le_of_ble_eq_true rfl) (Nat.le_of_ble_eq_true rfl) k_230 ((upo_n (by decide)).trans (R0_none (by decide +kernel))) (fun _ _ => rfl) (show upo (upo Dz 3 (m1 8)) 220 (m1 8) 230 = _ from (upo_n (by decide)).trans (upo_n (by decide))) (show Ez _ = _ from rfl) ?_
  refine a_put (f' := upo R0 219 (updR (updR (updR (updR (updR (updR (updR (updR (updR (updR (updR (nR) 2 (220)) 3 (221)) 4 (222)) 5 (223)) 6 (224)) 7 (225)) 8 (226)) 10 (227)) 19 (228)) 20 (229)) 21 (230))) (ci := 6) (k := 21) wf_X6_40 dX6_init_125 (show 219 < 231 by decide) k_219 (by decide) (by decide) (fun _ _ => rfl) rfl rfl rfl rfl rfl (fun i _ => congrFun (by rw [upR]) i) ?_
  refine r_aload_n dX6_init_128 rfl ?_
  refine r_iconst (nI 2) dX6_init_129 (by decide) ?_
  refine a_Z (f' := upo R0 219 (updR (updR (updR (updR (updR (updR (updR (updR (updR (updR (updR (nR) 2 (220)) 3 (221)) 4 (222)) 5 (223)) 6 (224)) 7 (225)) 8 (226)) 10 (227)) 19 (228)) 20 (229)) 21 (230))) dX6_init_130 (by decide) (Nat.le_of_ble_eq_true rfl) (Nat.le_of_ble_eq_true rfl) k_231 ((upo_n (by decide)).trans (R0_none (by decide +kernel))) (fun _ _ => rfl) (show upo (upo Dz 3 (m1 8)) 220 (m1 8) 231 = _ from (upo_n (by decide)).trans (upo_n (by decide))) (show Ez _ = _ from rfl) ?_
  refine a_put (f' := upo R0 219 (updR (updR (updR (updR (updR (updR (updR (updR (updR (updR (updR (updR (nR) 2 (220)) 3 (221)) 4 (222)) 5 (223)) 6 (224)) 7 (225)) 8 (226)) 10 (227)) 19 (228)) 20 (229)) 21 (230)) 22 (231))) (ci := 6) (k := 22) wf_X6_44 dX6_init_132 (show 219 < 232 by decide) k_219 (by decide) (by decide) (fun _ _ => rfl) rfl rfl rfl rfl rfl (fun i _ => congrFun (by rw [upR]) i) ?_
  refine r_aload_n dX6_init_135 rfl ?_
  refine r_sipush (nI 128) dX6_init_136 (by decide) ?_
  refine a_I (f' := upo R0 219 (updR (updR (updR (updR (updR (updR (updR (updR (updR (updR (updR (updR (nR) 2 (220)) 3 (221)) 4 (222)) 5 (223)) 6 (224)) 7 (225)) 8 (226)) 10 (227)) 19 (228)) 20 (229)) 21 (230)) 22 (231))) dX6_init_139 (by decide) (Nat.le_of_ble_eq_true rfl) (Nat.le_of_ble_eq_true rfl) k_232 ((upo_n (by decide)).trans (R0_none (by decide +kernel))) (fun _ _ => rfl) (show upo (upo Dz 3 (m1 8)) 220 (m1 8) 232 = _ from (upo_n (by decide)).trans (upo_n (by decide))) (show Ez _ = _ from rfl) ?_
  refine a_put (f' := upo R0 219 (updR (updR (updR (updR (updR (updR (updR (updR (updR (updR (updR (updR (updR (nR) 2 (220)) 3 (221)) 4 (222)) 5 (223)) 6 (224)) 7 (225)) 8 (226)) 10 (227)) 19 (228)) 20 (229)) 21 (230)) 22 (231)) 23 (232))) (ci := 6) (k := 23) wf_X6_48 dX6_init_141 (show 219 < 233 by decide) k_219 (by decide) (by decide) (fun _ _ => rfl) rfl rfl rfl rfl rfl (fun i _ => congrFun (by rw [upR]) i) ?_
  refine r_aload_n dX6_init_144 rfl ?_
  refine r_bipush (nI 16) dX6_init_145 (by decide) ?_
  refine a_I (f' := upo R0 219 (updR (updR (updR (updR (updR (updR (updR (updR (updR (updR (updR (updR (updR (nR) 2 (220)) 3 (221)) 4 (222)) 5 (223)) 6 (224)) 7 (225)) 8 (226)) 10 (227)) 19 (228)) 20 (229)) 21 (230)) 22 (231)) 23 (232))) dX6_init_147 (by decide) (Nat.le_of_ble_eq_true rfl) (Nat.le_of_ble_eq_true rfl) k_233 ((upo_n (by decide)).trans (R0_none (by decide +kernel))) (fun _ _ => rfl) (show upo (upo Dz 3 (m1 8)) 220 (m1 8) 233 = _ from (upo_n (by decide)).trans (upo_n (by decide))) (show Ez _ = _ from rfl) ?_
  refine a_put (f' := upo R0 219 (updR (updR (updR (updR (updR (updR (updR (updR (updR (updR (updR (updR (updR (updR (nR) 2 (220)) 3 (221)) 4 (222)) 5 (223)) 6 (224)) 7 (225)) 8 (226)) 10 (227)) 19 (228)) 20 (229)) 21 (230)) 22 (231)) 23 (232)) 24 (233))) (ci := 6) (k := 24) wf_X6_51 dX6_init_149 (show 219 < 234 by decide) k_219 (by decide) (by decide) (fun _ _ => rfl) rfl rfl rfl rfl rfl (fun i _ => congrFun (by rw [upR]) i) ?_
  refine r_Z (Z' := ZC 234 R0) (D' := Dq) (E' := Ez) rfl (fun i hi => ⟨rfl, ?_, rfl, rfl⟩) ?_
  · show R0 i = (upo R0 219 (updR (updR (updR (updR (updR (updR (updR (updR (updR (updR (updR (updR (updR (updR (nR) 2 (220)) 3 (221)) 4 (222)) 5 (223)) 6 (224)) 7 (225)) 8 (226)) 10 (227)) 19 (228)) 20 (229)) 21 (230)) 22 (231)) 23 (232)) 24 (233))) i
    by_cases q : i = 219
    · subst q; rw [upo_s]; exact R0_219
    · rw [upo_n q]
  exact r_vret dX6_init_152 rfl (Nat.le_of_ble_eq_true rfl) (Nat.le_of_ble_eq_true rfl) ⟨rfl, rfl, rfl, rfl⟩
