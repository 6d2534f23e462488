set_option maxRecDepth 100000 in
set_option maxHeartbeats 4000000 in
theorem c_X0_init (B : Nat) (D : DD) (E : EE) (o : Nat) (f : Nat → Nat → Option Nat) (ho : isC o) (hf : f o = cR o) (hn : ∀ j, 1 ≤ j → j ≤ 5 → f (o + j) = nR) (hD : ∀ i, o < i → D i = fun _ => 0) (hE : ∀ i, o < i → E i = fun _ => 0) : MR yX0_init cX0_init 1 none rX0_init B [.ref (B + o)] (ZC (o + 1) (upo f o nR)) D E (Q2 (ZC (o + 6) f) (pV (fun D' E' => D' = D ∧ E' = E))) := by
  refine r_enter [(0, .ref (B + o))] hi_X0_init.1.2.2.2.2 (Nat.le_of_ble_eq_true rfl) rfl ?_
  refine r_aload_n dX0_init_0 rfl ?_
  refine r_objinit wm_X0_3 dX0_init_1 (Nat.le_of_ble_eq_true rfl) (Nat.le_of_ble_eq_true rfl) ?_
  refine r_aload_n dX0_init_4 rfl ?_
  refine r_bipush (nI 6) dX0_init_5 (by decide) ?_
  refine a_I (f' := upo f o (nR)) dX0_init_7 (by decide) (Nat.le_of_ble_eq_true rfl) (Nat.le_of_ble_eq_true rfl) ho.2.1.2.1 ((upo_n (by omega)).trans (hn 1 (by decide) (by decide))) (fun _ _ => rfl) (hD _ (by omega)) (hE _ (by omega)) ?_
  refine a_put (f' := upo f o (updR (nR) 6 (o + 1))) (ci := 0) (k := 6) wf_X0_9 dX0_init_9 (by show _ < _; omega) ho.2.1.1 (by decide) (by decide) (fun _ _ => rfl) rfl rfl rfl rfl rfl (fun i _ => congrFun (by rw [upR]) i) ?_
  refine r_aload_n dX0_init_12 rfl ?_
  refine r_bipush (nI 6) dX0_init_13 (by decide) ?_
  refine a_I (f' := upo f o (updR (nR) 6 (o + 1))) dX0_init_15 (by decide) (Nat.le_of_ble_eq_true rfl) (Nat.le_of_ble_eq_true rfl) ho.2.1.2.2.1 ((upo_n (by omega)).trans (hn 2 (by decide) (by decide))) (fun _ _ => rfl) (hD _ (by omega)) (hE _ (by omega)) ?_
  refine a_put (f' := upo f o (updR (updR (nR) 6 (o + 1)) 7 (o + 2))) (ci := 0) (k := 7) wf_X0_15 dX0_init_17 (by show _ < _; omega) ho.2.1.1 (by decide) (by decide) (fun _ _ => rfl) rfl rfl rfl rfl rfl (fun i _ => congrFun (by rw [upR]) i) ?_
  refine r_aload_n dX0_init_20 rfl ?_
  refine r_bipush (nI 6) dX0_init_21 (by decide) ?_
  refine a_I (f' := upo f o (updR (updR (nR) 6 (o + 1)) 7 (o + 2))) dX0_init_23 (by decide) (Nat.le_of_ble_eq_true rfl) (Nat.le_of_ble_eq_true rfl) ho.2.1.2.2.2.1 ((upo_n (by omega)).trans (hn 3 (by decide) (by decide))) (fun _ _ => rfl) (hD _ (by omega)) (hE _ (by omega)) ?_
  refine a_put (f' := upo f o (updR (updR (updR (nR) 6 (o + 1)) 7 (o + 2)) 8 (o + 3))) (ci := 0) (k := 8) wf_X0_18 dX0_init_25 (by show _ < _; omega) ho.2.1.1 (by decide) (by decide) (fun _ _ => rfl) rfl rfl rfl rfl rfl (fun i _ => congrFun (by rw [upR]) i) ?_
  refine r_aload_n dX0_init_28 rfl ?_
  refine r_bipush (nI 6) dX0_init_29 (by decide) ?_
  refine a_I (f' := upo f o (updR (updR (updR (nR) 6 (o + 1)) 7 (o + 2)) 8 (o + 3))) dX0_init_31 (by decide) (Nat.le_of_ble_eq_true rfl) (Nat.le_of_ble_eq_true rfl) ho.2.1.2.2.2.2.1 ((upo_n (by omega)).trans (hn 4 (by decide) (by decide))) (fun _ _ => rfl) (hD _ (by omega)) (hE _ (by omega)) ?_
  refine a_put (f' := upo f o (updR (updR (updR (updR (nR) 6 (o + 1)) 7 (o + 2)) 8 (o + 3)) 9 (o + 4))) (ci := 0) (k := 9) wf_X0_21 dX0_init_33 (by show _ < _; omega) ho.2.1.1 (by decide) (by decide) (fun _ _ => rfl) rfl rfl rfl rfl rfl (fun i _ => congrFun (by rw [upR]) i) ?_
  refine r_aload_n dX0_init_36 rfl ?_
  refine r_bipush (nI 6) dX0_init_37 (by decide) ?_
  refine a_I (f' := upo f o (updR (updR (updR (updR (nR) 6 (o + 1)) 7 (o + 2)) 8 (o + 3)) 9 (o + 4))) dX0_init_39 (by decide) (Nat.le_of_ble_eq_true rfl) (Nat.le_of_ble_eq_true rfl) ho.2.1.2.2.2.2.2 ((upo_n (by omega)).trans (hn 5 (by decide) (by decide))) (fun _ _ => rfl) (hD _ (by omega)) (hE _ (by omega)) ?_
  refine a_put (f' := upo f o (updR (updR (updR (updR (updR (nR) 6 (o + 1)) 7 (o + 2)) 8 (o + 3)) 9 (o + 4)) 10 (o + 5))) (ci := 0) (k := 10) wf_X0_24 dX0_init_41 (by show _ < _; omega) ho.2.1.1 (by decide) (by decide) (fun _ _ => rfl) rfl rfl rfl rfl rfl (fun i _ => congrFun (by rw [upR]) i) ?_
  refine r_Z (Z' := ZC (o + 6) f) (D' := D) (E' := E) rfl (fun i hi => ⟨rfl, ?_, rfl, rfl⟩) ?_
  · by_cases q : i = o
    · subst q; exact hf.trans upo_s.symm
    · exact (upo_n q).symm
  exact r_vret dX0_init_44 rfl (Nat.le_of_ble_eq_true rfl) (Nat.le_of_ble_eq_true rfl) ⟨rfl, rfl, rfl, rfl⟩
set_option maxRecDepth 100000 in
set_option maxHeartbeats 4000000 in
theorem c_X1_init (B : Nat) (D : DD) (E : EE) (o : Nat) (f : Nat → Nat → Option Nat) (ho : isL o) (hf : f o = lR o) (hn : ∀ j, 1 ≤ j → j ≤ 5 → f (o + j) = nR) (hD : ∀ i, o < i → D i = fun _ => 0) (hE : ∀ i, o < i → E i = fun _ => 0) : MR yX1_init cX1_init 1 none rX1_init B [.ref (B + o)] (ZC (o + 1) (upo f o nR)) D E (Q2 (ZC (o + 6) f) (pV (fun D' E' => D' = D ∧ E' = E))) := by
  refine r_enter [(0, .ref (B + o))] hi_X1_init.1.2.2.2.2 (Nat.le_of_ble_eq_true rfl) rfl ?_
  refine r_aload_n dX1_init_0 rfl ?_
  refine r_objinit wm_X1_3 dX1_init_1 (Nat.le_of_ble_eq_true rfl) (Nat.le_of_ble_eq_true rfl) ?_
  refine r_aload_n dX1_init_4 rfl ?_
  refine r_bipush (nI 6) dX1_init_5 (by decide) ?_
  refine a_I (f' := upo f o (nR)) dX1_init_7 (by decide) (Nat.le_of_ble_eq_true rfl) (Nat.le_of_ble_eq_true rfl) ho.2.1.2.1 ((upo_n (by omega)).trans (hn 1 (by decide) (by decide))) (fun _ _ => rfl) (hD _ (by omega)) (hE _ (by omega)) ?_
  refine a_put (f' := upo f o (updR (nR) 5 (o + 1))) (ci := 1) (k := 5) wf_X1_9 dX1_init_9 (by show _ < _; omega) ho.2.1.1 (by decide) (by decide) (fun _ _ => rfl) rfl rfl rfl rfl rfl (fun i _ => congrFun (by rw [upR]) i) ?_
  refine r_aload_n dX1_init_12 rfl ?_
  refine r_bipush (nI 36) dX1_init_13 (by decide) ?_
  refine a_I (f' := upo f o (updR (nR) 5 (o + 1))) dX1_init_15 (by decide) (Nat.le_of_ble_eq_true rfl) (Nat.le_of_ble_eq_true rfl) ho.2.1.2.2.1 ((upo_n (by omega)).trans (hn 2 (by decide) (by decide))) (fun _ _ => rfl) (hD _ (by omega)) (hE _ (by omega)) ?_
  refine a_put (f' := upo f o (updR (updR (nR) 5 (o + 1)) 6 (o + 2))) (ci := 1) (k := 6) wf_X1_15 dX1_init_17 (by show _ < _; omega) ho.2.1.1 (by decide) (by decide) (fun _ _ => rfl) rfl rfl rfl rfl rfl (fun i _ => congrFun (by rw [upR]) i) ?_
  refine r_aload_n dX1_init_20 rfl ?_
  refine r_bipush (nI 6) dX1_init_21 (by decide) ?_
  refine a_I (f' := upo f o (updR (updR (nR) 5 (o + 1)) 6 (o + 2))) dX1_init_23 (by decide) (Nat.le_of_ble_eq_true rfl) (Nat.le_of_ble_eq_true rfl) ho.2.1.2.2.2.1 ((upo_n (by omega)).trans (hn 3 (by decide) (by decide))) (fun _ _ => rfl) (hD _ (by omega)) (hE _ (by omega)) ?_
  refine a_put (f' := upo f o (updR (updR (updR (nR) 5 (o + 1)) 6 (o + 2)) 7 (o + 3))) (ci := 1) (k := 7) wf_X1_18 dX1_init_25 (by show _ < _; omega) ho.2.1.1 (by decide) (by decide) (fun _ _ => rfl) rfl rfl rfl rfl rfl (fun i _ => congrFun (by rw [upR]) i) ?_
  refine r_aload_n dX1_init_28 rfl ?_
  refine r_bipush (nI 6) dX1_init_29 (by decide) ?_
  refine a_I (f' := upo f o (updR (updR (updR (nR) 5 (o + 1)) 6 (o + 2)) 7 (o + 3))) dX1_init_31 (by decide) (Nat.le_of_ble_eq_true rfl) (Nat.le_of_ble_eq_true rfl) ho.2.1.2.2.2.2.1 ((upo_n (by omega)).trans (hn 4 (by decide) (by decide))) (fun _ _ => rfl) (hD _ (by omega)) (hE _ (by omega)) ?_
  refine a_put (f' := upo f o (updR (updR (updR (updR (nR) 5 (o + 1)) 6 (o + 2)) 7 (o + 3)) 8 (o + 4))) (ci := 1) (k := 8) wf_X1_21 dX1_init_33 (by show _ < _; omega) ho.2.1.1 (by decide) (by decide) (fun _ _ => rfl) rfl rfl rfl rfl rfl (fun i _ => congrFun (by rw [upR]) i) ?_
  refine r_aload_n dX1_init_36 rfl ?_
  refine r_bipush (nI 6) dX1_init_37 (by decide) ?_
  refine a_I (f' := upo f o (updR (updR (updR (updR (nR) 5 (o + 1)) 6 (o + 2)) 7 (o + 3)) 8 (o + 4))) dX1_init_39 (by decide) (Nat.le_of_ble_eq_true rfl) (Nat.le_of_ble_eq_true rfl) ho.2.1.2.2.2.2.2 ((upo_n (by omega)).trans (hn 5 (by decide) (by decide))) (fun _ _ => rfl) (hD _ (by omega)) (hE _ (by omega)) ?_
  refine a_put (f' := upo f o (updR (updR (updR (updR (updR (nR) 5 (o + 1)) 6 (o + 2)) 7 (o + 3)) 8 (o + 4)) 9 (o + 5))) (ci := 1) (k := 9) wf_X1_24 dX1_init_41 (by show _ < _; omega) ho.2.1.1 (by decide) (by decide) (fun _ _ => rfl) rfl rfl rfl rfl rfl (fun i _ => congrFun (by rw [upR]) i) ?_
  refine r_Z (Z' := ZC (o + 6) f) (D' := D) (E' := E) rfl (fun i hi => ⟨rfl, ?_, rfl, rfl⟩) ?_
  · by_cases q : i = o
    · subst q; exact hf.trans upo_s.symm
    · exact (upo_n q).symm
  exact r_vret dX1_init_44 rfl (Nat.le_of_ble_eq_true rfl) (Nat.le_of_ble_eq_true rfl) ⟨rfl, rfl, rfl, rfl⟩
set_option maxRecDepth 100000 in
set_option maxHeartbeats 4000000 in
theorem c_X4_init (B : Nat) (D : DD) (E : EE) (f : Nat → Nat → Option Nat) (hf : f 13 = tR) (hn : f 14 = nR) (hD : ∀ i, 13 < i → D i = fun _ => 0) (hE : ∀ i, 13 < i → E i = fun _ => 0) : MR yX4_init cX4_init 1 none rX4_init B [.ref (B + 13)] (ZC 14 (upo f 13 nR)) D E (Q2 (ZC 15 f) (pV (fun D' E' => D' = D ∧ E' = E))) := by
  refine r_enter [(0, .ref (B + 13))] hi_X4_init.1.2.2.2.2 (Nat.le_of_ble_eq_true rfl) rfl ?_
  refine r_aload_n dX4_init_0 rfl ?_
  refine r_objinit wm_X4_3 dX4_init_1 (Nat.le_of_ble_eq_true rfl) (Nat.le_of_ble_eq_true rfl) ?_
  refine r_aload_n dX4_init_4 rfl ?_
  refine r_bipush (nI 120) dX4_init_5 (by decide) ?_
  refine a_I (f' := upo f 13 (nR)) dX4_init_7 (by decide) (Nat.le_of_ble_eq_true rfl) (Nat.le_of_ble_eq_true rfl) k_14 ((upo_n (by decide)).trans hn) (fun _ _ => rfl) (hD _ (by decide)) (hE _ (by decide)) ?_
  refine a_put (f' := upo f 13 (updR (nR) 0 (14))) (ci := 4) (k := 0) wf_X4_9 dX4_init_9 (show 13 < 15 by decide) k_13 (by decide) (by decide) (fun _ _ => rfl) rfl rfl rfl rfl rfl (fun i _ => congrFun (by rw [upR]) i) ?_
  refine r_Z (Z' := ZC 15 f) (D' := D) (E' := E) rfl (fun i hi => ⟨rfl, ?_, rfl, rfl⟩) ?_
  · by_cases q : i = 13
    · subst q; show f 13 = upo f 13 (updR nR 0 14) 13; rw [upo_s]; exact hf
    · exact (upo_n q).symm
  exact r_vret dX4_init_12 rfl (Nat.le_of_ble_eq_true rfl) (Nat.le_of_ble_eq_true rfl) ⟨rfl, rfl, rfl, rfl⟩
set_option maxRecDepth 100000 in
set_option maxHeartbeats 4000000 in
theorem c_X2_init (B : Nat) (D : DD) (E : EE) (f : Nat → Nat → Option Nat) (hf : f 27 = pR) (hr : f 28 = ringR 24) (hc : ∀ k, k < 24 → f (29 + 6 * k) = cR (29 + 6 * k)) (ha : ∀ k j, k < 24 → 1 ≤ j → j ≤ 5 → f (29 + 6 * k + j) = nR) (hD : ∀ i, 27 < i → D i = fun _ => 0) (hE : ∀ i, 27 < i → E i = fun _ => 0) : MR yX2_init cX2_init 2 none rX2_init B [.ref (B + 27)] (ZC 28 (upo f 27 nR)) D E (Q2 (ZC 173 f) (pV (fun D' E' => D' = D ∧ E' = E))) := by
  refine r_enter [(0, .ref (B + 27))] hi_X2_init.1.2.2.2.2 (Nat.le_of_ble_eq_true rfl) rfl ?_
  refine r_aload_n dX2_init_0 rfl ?_
  refine r_objinit wm_X2_3 dX2_init_1 (Nat.le_of_ble_eq_true rfl) (Nat.le_of_ble_eq_true rfl) ?_
  refine r_aload_n dX2_init_4 rfl ?_
  refine r_bipush (nI 24) dX2_init_5 (by decide) ?_
  refine a_qC (f' := upo (upo f 27 (nR)) 28 (ringR 0)) wk_X2_9 dX2_init_7 (by decide) (Nat.le_of_ble_eq_true rfl) (Nat.le_of_ble_eq_true rfl) k_28 (upo_s) (fun i hi => upo_n (show i ≠ 28 by omega)) (hD _ (by decide)) (hE _ (by decide)) ?_
  refine a_put (f' := upo (f) 28 (ringR 0)) (ci := 2) (k := 0) wf_X2_11 dX2_init_10 (show 27 < 29 by decide) k_27 (by decide) (by decide) (fun _ _ => rfl) rfl rfl rfl rfl rfl (fun i _ => congrFun (by rw [upR_o (by decide), upR, show updR nR 0 28 = f 27 from hf.symm, upo_id]) i) ?_
  refine r_iconst (nI 0) dX2_init_13 (by decide) ?_
  refine r_istore_n [(1, .int (nI 0)), (0, .ref (B + 27))] dX2_init_14 (by decide) rfl ?_
  refine r_iload_n dX2_init_15 rfl ?_
  refine r_bipush (nI 24) dX2_init_16 (by decide) ?_
  refine r_icmp_ge (tgt := 40) dX2_init_18 (by decide) (fun c9 => ?_) (fun c9 => ?_)
  · exact absurd c9 (by decide)
  refine r_aload_n dX2_init_21 rfl ?_
  refine r_getR (v := 28) (ci := 2) (k := 0) wf_X2_11 dX2_init_22 (show 27 < 29 by decide) k_27 (by decide) (by decide) (fun _ _ => rfl) (show upo f 28 (ringR 0) 27 0 = some 28 by rw [upo_n (by decide), hf]; rfl) ?_
  refine r_iload_n dX2_init_25 rfl ?_
  refine a_new (c := 0) (f' := upo (upo (f) 28 (ringR 0)) 29 nR) wk_X2_9 wn_X0 wi_X0 dX2_init_26 (by decide) (Nat.le_of_ble_eq_true rfl) (Nat.le_of_ble_eq_true rfl) k_29 upo_s (fun i hi => upo_n (show i ≠ 29 by omega)) (hD _ (by decide)) (hE _ (by decide)) ?_
  refine r_dup dX2_init_29 rfl ?_
  refine r_callIN (As := []) (o := 29) (c_X0_init B D E 29 (upo (f) 28 (ringR 0)) (isC_in 29 (by decide)) ((upo_n (by decide)).trans (hc 0 (by decide))) (fun j h1 h2 => (upo_n (by omega)).trans (ha 0 j (by decide) h1 h2)) (fun i hi => hD i (by omega)) (fun i hi => hE i (by omega))) hi_X0_init (by decide) dX2_init_30 rfl rfl (Nat.le_of_ble_eq_true rfl) ⟨(Nat.le_of_ble_eq_true rfl), (Nat.le_of_ble_eq_true rfl), (Nat.le_of_ble_eq_true rfl), (Nat.le_of_ble_eq_true rfl)⟩ (fun v9 Z9 D9 E9 h9 => by obtain ⟨rfl, -⟩ := h9; exact Nat.le_refl _) (fun v9 Z9 D9 E9 h9 => ?_)
  obtain ⟨hz9, hv9, hd9, he9⟩ := h9
  obtain rfl := hz9.symm
  obtain rfl := hv9.symm
  obtain rfl := hd9.symm
  obtain rfl := he9.symm
  refine a_aast (f' := upo (f) 28 (ringR 1)) dX2_init_33 (show 28 < 35 by decide) k_28 (Or.inr ⟨rfl, rfl⟩) (by decide) (by decide) (show 29 < 35 by decide) k_29 (fun i _ => congrFun (by rw [upR, ringR_s]) i) ?_
  refine r_iinc (nI 1) [(1, .int (nI 1)), (0, .ref (B + 27))] dX2_init_34 rfl (nI_1 _) (by decide) rfl ?_
  refine r_goto (tgt := 15) dX2_init_37 (by decide) ?_
  refine r_iload_n dX2_init_15 rfl ?_
  refine r_bipush (nI 24) dX2_init_16 (by decide) ?_
  refine r_icmp_ge (tgt := 40) dX2_init_18 (by decide) (fun c9 => ?_) (fun c9 => ?_)
  · exact absurd c9 (by decide)
  refine r_aload_n dX2_init_21 rfl ?_
  refine r_getR (v := 28) (ci := 2) (k := 0) wf_X2_11 dX2_init_22 (show 27 < 35 by decide) k_27 (by decide) (by decide) (fun _ _ => rfl) (show upo f 28 (ringR 1) 27 0 = some 28 by rw [upo_n (by decide), hf]; rfl) ?_
  refine r_iload_n dX2_init_25 rfl ?_
  refine a_new (c := 0) (f' := upo (upo (f) 28 (ringR 1)) 35 nR) wk_X2_9 wn_X0 wi_X0 dX2_init_26 (by decide) (Nat.le_of_ble_eq_true rfl) (Nat.le_of_ble_eq_true rfl) k_35 upo_s (fun i hi => upo_n (show i ≠ 35 by omega)) (hD _ (by decide)) (hE _ (by decide)) ?_
  refine r_dup dX2_init_29 rfl ?_
  refine r_callIN (As := []) (o := 35) (c_X0_init B D E 35 (upo (f) 28 (ringR 1)) (isC_in 35 (by decide)) ((upo_n (by decide)).trans (hc 1 (by decide))) (fun j h1 h2 => (upo_n (by omega)).trans (ha 1 j (by decide) h1 h2)) (fun i hi => hD i (by omega)) (fun i hi => hE i (by omega))) hi_X0_init (by decide) dX2_init_30 rfl rfl (Nat.le_of_ble_eq_true rfl) ⟨(Nat.le_of_ble_eq_true rfl), (Nat.le_of_ble_eq_true rfl), (Nat.le_of_ble_eq_true rfl), (Nat.le_of_ble_eq_true rfl)⟩ (fun v9 Z9 D9 E9 h9 => by obtain ⟨rfl, -⟩ := h9; exact Nat.le_refl _) (fun v9 Z9 D9 E9 h9 => ?_)
  obtain ⟨hz9, hv9, hd9, he9⟩ := h9
  obtain rfl := hz9.symm
  obtain rfl := hv9.symm
  obtain rfl := hd9.symm
  obtain rfl := he9.symm
  refine a_aast (f' := upo (f) 28 (ringR 2)) dX2_init_33 (show 28 < 41 by decide) k_28 (Or.inr ⟨rfl, rfl⟩) (by decide) (by decide) (show 35 < 41 by decide) k_35 (fun i _ => congrFun (by rw [upR, ringR_s]) i) ?_
  refine r_iinc (nI 2) [(1, .int (nI 2)), (0, .ref (B + 27))] dX2_init_34 rfl (nI_1 _) (by decide) rfl ?_
  refine r_goto (tgt := 15) dX2_init_37 (by decide) ?_
  refine r_iload_n dX2_init_15 rfl ?_
  refine r_bipush (nI 24) dX2_init_16 (by decide) ?_
  refine r_icmp_ge (tgt := 40) dX2_init_18 (by decide) (fun c9 => ?_) (fun c9 => ?_)
  · exact absurd c9 (by decide)
  refine r_aload_n dX2_init_21 rfl ?_
  refine r_getR (v := 28) (ci := 2) (k := 0) wf_X2_11 dX2_init_22 (show 27 < 41 by decide) k_27 (by decide) (by decide) (fun _ _ => rfl) (show upo f 28 (ringR 2) 27 0 = some 28 by rw [upo_n (by decide), hf]; rfl) ?_
  refine r_iload_n dX2_init_25 rfl ?_
  refine a_new (c := 0) (f' := upo (upo (f) 28 (ringR 2)) 41 nR) wk_X2_9 wn_X0 wi_X0 dX2_init_26 (by decide) (Nat.le_of_ble_eq_true rfl) (Nat.le_of_ble_eq_true rfl) k_41 upo_s (fun i hi => upo_n (show i ≠ 41 by omega)) (hD _ (by decide)) (hE _ (by decide)) ?_
  refine r_dup dX2_init_29 rfl ?_
  refine r_callIN (As := []) (o := 41) (c_X0_init B D E 41 (upo (f) 28 (ringR 2)) (isC_in 41 (by decide)) ((upo_n (by decide)).trans (hc 2 (by decide))) (fun j h1 h2 => (upo_n (by omega)).trans (ha 2 j (by decide) h1 h2)) (fun i hi => hD i (by omega)) (fun i hi => hE i (by omega))) hi_X0_init (by decide) dX2_init_30 rfl rfl (Nat.le_of_ble_eq_true rfl) ⟨(Nat.le_of_ble_eq_true rfl), (Nat.le_of_ble_eq_true rfl), (Nat.le_of_ble_eq_true rfl), (Nat.le_of_ble_eq_true rfl)⟩ (fun v9 Z9 D9 E9 h9 => by obtain ⟨rfl, -⟩ := h9; exact Nat.le_refl _) (fun v9 Z9 D9 E9 h9 => ?_)
  obtain ⟨hz9, hv9, hd9, he9⟩ := h9
  obtain rfl := hz9.symm
  obtain rfl := hv9.symm
  obtain rfl := hd9.symm
  obtain rfl := he9.symm
  refine a_aast (f' := upo (f) 28 (ringR 3)) dX2_init_33 (show 28 < 47 by decide) k_28 (Or.inr ⟨rfl, rfl⟩) (by decide) (by decide) (show 41 < 47 by decide) k_41 (fun i _ => congrFun (by rw [upR, ringR_s]) i) ?_
  refine r_iinc (nI 3) [(1, .int (nI 3)), (0, .ref (B + 27))] dX2_init_34 rfl (nI_1 _) (by decide) rfl ?_
  refine r_goto (tgt := 15) dX2_init_37 (by decide) ?_
  refine r_iload_n dX2_init_15 rfl ?_
  refine r_bipush (nI 24) dX2_init_16 (by decide) ?_
  refine r_icmp_ge (tgt := 40) dX2_init_18 (by decide) (fun c9 => ?_) (fun c9 => ?_)
  · exact absurd c9 (by decide)
  refine r_aload_n dX2_init_21 rfl ?_
  refine r_getR (v := 28) (ci := 2) (k := 0) wf_X2_11 dX2_init_22 (show 27 < 47 by decide) k_27 (by decide) (by decide) (fun _ _ => rfl) (show upo f 28 (ringR 3) 27 0 = some 28 by rw [upo_n (by decide), hf]; rfl) ?_
  refine r_iload_n dX2_init_25 rfl ?_
  refine a_new (c := 0) (f' := upo (upo (f) 28 (ringR 3)) 47 nR) wk_X2_9 wn_X0 wi_X0 dX2_init_26 (by decide) (Nat.le_of_ble_eq_true rfl) (Nat.le_of_ble_eq_true rfl) k_47 upo_s (fun i hi => upo_n (show i ≠ 47 by omega)) (hD _ (by decide)) (hE _ (by decide)) ?_
  refine r_dup dX2_init_29 rfl ?_
  refine r_callIN (As := []) (o := 47) (c_X0_init B D E 47 (upo (f) 28 (ringR 3)) (isC_in 47 (by decide)) ((upo_n (by decide)).trans (hc 3 (by decide))) (fun j h1 h2 => (upo_n (by omega)).trans (ha 3 j (by decide) h1 h2)) (fun i hi => hD i (by omega)) (fun i hi => hE i (by omega))) hi_X0_init (by decide) dX2_init_30 rfl rfl (Nat.le_of_ble_eq_true rfl) ⟨(Nat.le_of_ble_eq_true rfl), (Nat.le_of_ble_eq_true rfl), (Nat.le_of_ble_eq_true rfl), (Nat.le_of_ble_eq_true rfl)⟩ (fun v9 Z9 D9 E9 h9 => by obtain ⟨rfl, -⟩ := h9; exact Nat.le_refl _) (fun v9 Z9 D9 E9 h9 => ?_)
  obtain ⟨hz9, hv9, hd9, he9⟩ := h9
  obtain rfl := hz9.symm
  obtain rfl := hv9.symm
  obtain rfl := hd9.symm
  obtain rfl := he9.symm
  refine a_aast (f' := upo (f) 28 (ringR 4)) dX2_init_33 (show 28 < 53 by decide) k_28 (Or.inr ⟨rfl, rfl⟩) (by decide) (by decide) (show 47 < 53 by decide) k_47 (fun i _ => congrFun (by rw [upR, ringR_s]) i) ?_
  refine r_iinc (nI 4) [(1, .int (nI 4)), (0, .ref (B + 27))] dX2_init_34 rfl (nI_1 _) (by decide) rfl ?_
  refine r_goto (tgt := 15) dX2_init_37 (by decide) ?_
  refine r_iload_n dX2_init_15 rfl ?_
  refine r_bipush (nI 24) dX2_init_16 (by decide) ?_
  refine r_icmp_ge (tgt := 40) dX2_init_18 (by decide) (fun c9 => ?_) (fun c9 => ?_)
  · exact absurd c9 (by decide)
  refine r_aload_n dX2_init_21 rfl ?_
  refine r_getR (v := 28) (ci := 2) (k := 0) wf_X2_11 dX2_init_22 (show 27 < 53 by decide) k_27 (by decide) (by decide) (fun _ _ => rfl) (show upo f 28 (ringR 4) 27 0 = some 28 by rw [upo_n (by decide), hf]; rfl) ?_
  refine r_iload_n dX2_init_25 rfl ?_
  refine a_new (c := 0) (f' := upo (upo (f) 28 (ringR 4)) 53 nR) wk_X2_9 wn_X0 wi_X0 dX2_init_26 (by decide) (Nat.le_of_ble_eq_true rfl) (Nat.le_of_ble_eq_true rfl) k_53 upo_s (fun i hi => upo_n (show i ≠ 53 by omega)) (hD _ (by decide)) (hE _ (by decide)) ?_
  refine r_dup dX2_init_29 rfl ?_
  refine r_callIN (As := []) (o := 53) (c_X0_init B D E 53 (upo (f) 28 (ringR 4)) (isC_in 53 (by decide)) ((upo_n (by decide)).trans (hc 4 (by decide))) (fun j h1 h2 => (upo_n (by omega)).trans (ha 4 j (by decide) h1 h2)) (fun i hi => hD i (by omega)) (fun i hi => hE i (by omega))) hi_X0_init (by decide) dX2_init_30 rfl rfl (Nat.le_of_ble_eq_true rfl) ⟨(Nat.le_of_ble_eq_true rfl), (Nat.le_of_ble_eq_true rfl), (Nat.le_of_ble_eq_true rfl), (Nat.le_of_ble_eq_true rfl)⟩ (fun v9 Z9 D9 E9 h9 => by obtain ⟨rfl, -⟩ := h9; exact Nat.le_refl _) (fun v9 Z9 D9 E9 h9 => ?_)
  obtain ⟨hz9, hv9, hd9, he9⟩ := h9
  obtain rfl := hz9.symm
  obtain rfl := hv9.symm
  obtain rfl := hd9.symm
  obtain rfl := he9.symm
  refine a_aast (f' := upo (f) 28 (ringR 5)) dX2_init_33 (show 28 < 59 by decide) k_28 (Or.inr ⟨rfl, rfl⟩) (by decide) (by decide) (show 53 < 59 by decide) k_53 (fun i _ => congrFun (by rw [upR, ringR_s]) i) ?_
  refine r_iinc (nI 5) [(1, .int (nI 5)), (0, .ref (B + 27))] dX2_init_34 rfl (nI_1 _) (by decide) rfl ?_
  refine r_goto (tgt := 15) dX2_init_37 (by decide) ?_
  refine r_iload_n dX2_init_15 rfl ?_
  refine r_bipush (nI 24) dX2_init_16 (by decide) ?_
  refine r_icmp_ge (tgt := 40) dX2_init_18 (by decide) (fun c9 => ?_) (fun c9 => ?_)
  · exact absurd c9 (by decide)
  refine r_aload_n dX2_init_21 rfl ?_
  refine r_getR (v := 28) (ci := 2) (k := 0) wf_X2_11 dX2_init_22 (show 27 < 59 by decide) k_27 (by decide) (by decide) (fun _ _ => rfl) (show upo f 28 (ringR 5) 27 0 = some 28 by rw [upo_n (by decide), hf]; rfl) ?_
  refine r_iload_n dX2_init_25 rfl ?_
  refine a_new (c := 0) (f' := upo (upo (f) 28 (ringR 5)) 59 nR) wk_X2_9 wn_X0 wi_X0 dX2_init_26 (by decide) (Nat.le_of_ble_eq_true rfl) (Nat.le_of_ble_eq_true rfl) k_59 upo_s (fun i hi => upo_n (show i ≠ 59 by omega)) (hD _ (by decide)) (hE _ (by decide)) ?_
  refine r_dup dX2_init_29 rfl ?_
  refine r_callIN (As := []) (o := 59) (c_X0_init B D E 59 (upo (f) 28 (ringR 5)) (isC_in 59 (by decide)) ((upo_n (by decide)).trans (hc 5 (by decide))) (fun j h1 h2 => (upo_n (by omega)).trans (ha 5 j (by decide) h1 h2)) (fun i hi => hD i (by omega)) (fun i hi => hE i (by omega))) hi_X0_init (by decide) dX2_init_30 rfl rfl (Nat.le_of_ble_eq_true rfl) ⟨(Nat.le_of_ble_eq_true rfl), (Nat.le_of_ble_eq_true rfl), (Nat.le_of_ble_eq_true rfl), (Nat.le_of_ble_eq_true rfl)⟩ (fun v9 Z9 D9 E9 h9 => by obtain ⟨rfl, -⟩ := h9; exact Nat.le_refl _) (fun v9 Z9 D9 E9 h9 => ?_)
  obtain ⟨hz9, hv9, hd9, he9⟩ := h9
  obtain rfl := hz9.symm
  obtain rfl := hv9.symm
  obtain rfl := hd9.symm
  obtain rfl := he9.symm
  refine a_aast (f' := upo (f) 28 (ringR 6)) dX2_init_33 (show 28 < 65 by decide) k_28 (Or.inr ⟨rfl, rfl⟩) (by decide) (by decide) (show 59 < 65 by decide) k_59 (fun i _ => congrFun (by rw [upR, ringR_s]) i) ?_
  refine r_iinc (nI 6) [(1, .int (nI 6)), (0, .ref (B + 27))] dX2_init_34 rfl (nI_1 _) (by decide) rfl ?_
  refine r_goto (tgt := 15) dX2_init_37 (by decide) ?_
  refine r_iload_n dX2_init_15 rfl ?_
  refine r_bipush (nI 24) dX2_init_16 (by decide) ?_
  refine r_icmp_ge (tgt := 40) dX2_init_18 (by decide) (fun c9 => ?_) (fun c9 => ?_)
  · exact absurd c9 (by decide)
  refine r_aload_n dX2_init_21 rfl ?_
  refine r_getR (v := 28) (ci := 2) (k := 0) wf_X2_11 dX2_init_22 (show 27 < 65 by decide) k_27 (by decide) (by decide) (fun _ _ => rfl) (show upo f 28 (ringR 6) 27 0 = some 28 by rw [upo_n (by decide), hf]; rfl) ?_
  refine r_iload_n dX2_init_25 rfl ?_
  refine a_new (c := 0) (f' := upo (upo (f) 28 (ringR 6)) 65 nR) wk_X2_9 wn_X0 wi_X0 dX2_init_26 (by decide) (Nat.le_of_ble_eq_true rfl) (Nat.le_of_ble_eq_true rfl) k_65 upo_s (fun i hi => upo_n (show i ≠ 65 by omega)) (hD _ (by decide)) (hE _ (by decide)) ?_
  refine r_dup dX2_init_29 rfl ?_
  refine r_callIN (As := []) (o := 65) (c_X0_init B D E 65 (upo (f) 28 (ringR 6)) (isC_in 65 (by decide)) ((upo_n (by decide)).trans (hc 6 (by decide))) (fun j h1 h2 => (upo_n (by omega)).trans (ha 6 j (by decide) h1 h2)) (fun i hi => hD i (by omega)) (fun i hi => hE i (by omega))) hi_X0_init (by decide) dX2_init_30 rfl rfl (Nat.le_of_ble_eq_true rfl) ⟨(Nat.le_of_ble_eq_true rfl), (Nat.le_of_ble_eq_true rfl), (Nat.le_of_ble_eq_true rfl), (Nat.le_of_ble_eq_true rfl)⟩ (fun v9 Z9 D9 E9 h9 => by obtain ⟨rfl, -⟩ := h9; exact Nat.le_refl _) (fun v9 Z9 D9 E9 h9 => ?_)
  obtain ⟨hz9, hv9, hd9, he9⟩ := h9
  obtain rfl := hz9.symm
  obtain rfl := hv9.symm
  obtain rfl := hd9.symm
  obtain rfl := he9.symm
  refine a_aast (f' := upo (f) 28 (ringR 7)) dX2_init_33 (show 28 < 71 by decide) k_28 (Or.inr ⟨rfl, rfl⟩) (by decide) (by decide) (show 65 < 71 by decide) k_65 (fun i _ => congrFun (by rw [upR, ringR_s]) i) ?_
  refine r_iinc (nI 7) [(1, .int (nI 7)), (0, .ref (B + 27))] dX2_init_34 rfl (nI_1 _) (by decide) rfl ?_
  refine r_goto (tgt := 15) dX2_init_37 (by decide) ?_
  refine r_iload_n dX2_init_15 rfl ?_
  refine r_bipush (nI 24) dX2_init_16 (by decide) ?_
  refine r_icmp_ge (tgt := 40) dX2_init_18 (by decide) (fun c9 => ?_) (fun c9 => ?_)
  · exact absurd c9 (by decide)
  refine r_aload_n dX2_init_21 rfl ?_
  refine r_getR (v := 28) (ci := 2) (k := 0) wf_X2_11 dX2_init_22 (show 27 < 71 by decide) k_27 (by decide) (by decide) (fun _ _ => rfl) (show upo f 28 (ringR 7) 27 0 = some 28 by rw [upo_n (by decide), hf]; rfl) ?_
  refine r_iload_n dX2_init_25 rfl ?_
  refine a_new (c := 0) (f' := upo (upo (f) 28 (ringR 7)) 71 nR) wk_X2_9 wn_X0 wi_X0 dX2_init_26 (by decide) (Nat.le_of_ble_eq_true rfl) (Nat.le_of_ble_eq_true rfl) k_71 upo_s (fun i hi => upo_n (show i ≠ 71 by omega)) (hD _ (by decide)) (hE _ (by decide)) ?_
  refine r_dup dX2_init_29 rfl ?_
  refine r_callIN (As := []) (o := 71) (c_X0_init B D E 71 (upo (f) 28 (ringR 7)) (isC_in 71 (by decide)) ((upo_n (by decide)).trans (hc 7 (by decide))) (fun j h1 h2 => (upo_n (by omega)).trans (ha 7 j (by decide) h1 h2)) (fun i hi => hD i (by omega)) (fun i hi => hE i (by omega))) hi_X0_init (by decide) dX2_init_30 rfl rfl (Nat.le_of_ble_eq_true rfl) ⟨(Nat.le_of_ble_eq_true rfl), (Nat.le_of_ble_eq_true rfl), (Nat.le_of_ble_eq_true rfl), (Nat.le_of_ble_eq_true rfl)⟩ (fun v9 Z9 D9 E9 h9 => by obtain ⟨rfl, -⟩ := h9; exact Nat.le_refl _) (fun v9 Z9 D9 E9 h9 => ?_)
  obtain ⟨hz9, hv9, hd9, he9⟩ := h9
  obtain rfl := hz9.symm
  obtain rfl := hv9.symm
  obtain rfl := hd9.symm
  obtain rfl := he9.symm
  refine a_aast (f' := upo (f) 28 (ringR 8)) dX2_init_33 (show 28 < 77 by decide) k_28 (Or.inr ⟨rfl, rfl⟩) (by decide) (by decide) (show 71 < 77 by decide) k_71 (fun i _ => congrFun (by rw [upR, ringR_s]) i) ?_
  refine r_iinc (nI 8) [(1, .int (nI 8)), (0, .ref (B + 27))] dX2_init_34 rfl (nI_1 _) (by decide) rfl ?_
  refine r_goto (tgt := 15) dX2_init_37 (by decide) ?_
  refine r_iload_n dX2_init_15 rfl ?_
  refine r_bipush (nI 24) dX2_init_16 (by decide) ?_
  refine r_icmp_ge (tgt := 40) dX2_init_18 (by decide) (fun c9 => ?_) (fun c9 => ?_)
  · exact absurd c9 (by decide)
  refine r_aload_n dX2_init_21 rfl ?_
  refine r_getR (v := 28) (ci := 2) (k := 0) wf_X2_11 dX2_init_22 (show 27 < 77 by decide) k_27 (by decide) (by decide) (fun _ _ => rfl) (show upo f 28 (ringR 8) 27 0 = some 28 by rw [upo_n (by decide), hf]; rfl) ?_
  refine r_iload_n dX2_init_25 rfl ?_
  refine a_new (c := 0) (f' := upo (upo (f) 28 (ringR 8)) 77 nR) wk_X2_9 wn_X0 wi_X0 dX2_init_26 (by decide) (Nat.le_of_ble_eq_true rfl) (Nat.le_of_ble_eq_true rfl) k_77 upo_s (fun i hi => upo_n (show i ≠ 77 by omega)) (hD _ (by decide)) (hE _ (by decide)) ?_
  refine r_dup dX2_init_29 rfl ?_
  refine r_callIN (As := []) (o := 77) (c_X0_init B D E 77 (upo (f) 28 (ringR 8)) (isC_in 77 (by decide)) ((upo_n (by decide)).trans (hc 8 (by decide))) (fun j h1 h2 => (upo_n (by omega)).trans (ha 8 j (by decide) h1 h2)) (fun i hi => hD i (by omega)) (fun i hi => hE i (by omega))) hi_X0_init (by decide) dX2_init_30 rfl rfl (Nat.le_of_ble_eq_true rfl) ⟨(Nat.le_of_ble_eq_true rfl), (Nat.le_of_ble_eq_true rfl), (Nat.le_of_ble_eq_true rfl), (Nat.le_of_ble_eq_true rfl)⟩ (fun v9 Z9 D9 E9 h9 => by obtain ⟨rfl, -⟩ := h9; exact Nat.le_refl _) (fun v9 Z9 D9 E9 h9 => ?_)
  obtain ⟨hz9, hv9, hd9, he9⟩ := h9
  obtain rfl := hz9.symm
  obtain rfl := hv9.symm
  obtain rfl := hd9.symm
  obtain rfl := he9.symm
  refine a_aast (f' := upo (f) 28 (ringR 9)) dX2_init_33 (show 28 < 83 by decide) k_28 (Or.inr ⟨rfl, rfl⟩) (by decide) (by decide) (show 77 < 83 by decide) k_77 (fun i _ => congrFun (by rw [upR, ringR_s]) i) ?_
  refine r_iinc (nI 9) [(1, .int (nI 9)), (0, .ref (B + 27))] dX2_init_34 rfl (nI_1 _) (by decide) rfl ?_
  refine r_goto (tgt := 15) dX2_init_37 (by decide) ?_
  refine r_iload_n dX2_init_15 rfl ?_
  refine r_bipush (nI 24) dX2_init_16 (by decide) ?_
  refine r_icmp_ge (tgt := 40) dX2_init_18 (by decide) (fun c9 => ?_) (fun c9 => ?_)
  · exact absurd c9 (by decide)
  refine r_aload_n dX2_init_21 rfl ?_
  refine r_getR (v := 28) (ci := 2) (k := 0) wf_X2_11 dX2_init_22 (show 27 < 83 by decide) k_27 (by decide) (by decide) (fun _ _ => rfl) (show upo f 28 (ringR 9) 27 0 = some 28 by rw [upo_n (by decide), hf]; rfl) ?_
  refine r_iload_n dX2_init_25 rfl ?_
  refine a_new (c := 0) (f' := upo (upo (f) 28 (ringR 9)) 83 nR) wk_X2_9 wn_X0 wi_X0 dX2_init_26 (by decide) (Nat.le_of_ble_eq_true rfl) (Nat.le_of_ble_eq_true rfl) k_83 upo_s (fun i hi => upo_n (show i ≠ 83 by omega)) (hD _ (by decide)) (hE _ (by decide)) ?_
  refine r_dup dX2_init_29 rfl ?_
  refine r_callIN (As := []) (o := 83) (c_X0_init B D E 83 (upo (f) 28 (ringR 9)) (isC_in 83 (by decide)) ((upo_n (by decide)).trans (hc 9 (by decide))) (fun j h1 h2 => (upo_n (by omega)).trans (ha 9 j (by decide) h1 h2)) (fun i hi => hD i (by omega)) (fun i hi => hE i (by omega))) hi_X0_init (by decide) dX2_init_30 rfl rfl (Nat.le_of_ble_eq_true rfl) ⟨(Nat.le_of_ble_eq_true rfl), (Nat.le_of_ble_eq_true rfl), (Nat.le_of_ble_eq_true rfl), (Nat.le_of_ble_eq_true rfl)⟩ (fun v9 Z9 D9 E9 h9 => by obtain ⟨rfl, -⟩ := h9; exact Nat.le_refl _) (fun v9 Z9 D9 E9 h9 => ?_)
  obtain ⟨hz9, hv9, hd9, he9⟩ := h9
  obtain rfl := hz9.symm
  obtain rfl := hv9.symm
  obtain rfl := hd9.symm
  obtain rfl := he9.symm
  refine a_aast (f' := upo (f) 28 (ringR 10)) dX2_init_33 (show 28 < 89 by decide) k_28 (Or.inr ⟨rfl, rfl⟩) (by decide) (by decide) (show 83 < 89 by decide) k_83 (fun i _ => congrFun (by rw [upR, ringR_s]) i) ?_
  refine r_iinc (nI 10) [(1, .int (nI 10)), (0, .ref (B + 27))] dX2_init_34 rfl (nI_1 _) (by decide) rfl ?_
  refine r_goto (tgt := 15) dX2_init_37 (by decide) ?_
  refine r_iload_n dX2_init_15 rfl ?_
  refine r_bipush (nI 24) dX2_init_16 (by decide) ?_
  refine r_icmp_ge (tgt := 40) dX2_init_18 (by decide) (fun c9 => ?_) (fun c9 => ?_)
  · exact absurd c9 (by decide)
  refine r_aload_n dX2_init_21 rfl ?_
  refine r_getR (v := 28) (ci := 2) (k := 0) wf_X2_11 dX2_init_22 (show 27 < 89 by decide) k_27 (by decide) (by decide) (fun _ _ => rfl) (show upo f 28 (ringR 10) 27 0 = some 28 by rw [upo_n (by decide), hf]; rfl) ?_
  refine r_iload_n dX2_init_25 rfl ?_
  refine a_new (c := 0) (f' := upo (upo (f) 28 (ringR 10)) 89 nR) wk_X2_9 wn_X0 wi_X0 dX2_init_26 (by decide) (Nat.le_of_ble_eq_true rfl) (Nat.le_of_ble_eq_true rfl) k_89 upo_s (fun i hi => upo_n (show i ≠ 89 by omega)) (hD _ (by decide)) (hE _ (by decide)) ?_
  refine r_dup dX2_init_29 rfl ?_
  refine r_callIN (As := []) (o := 89) (c_X0_init B D E 89 (upo (f) 28 (ringR 10)) (isC_in 89 (by decide)) ((upo_n (by decide)).trans (hc 10 (by decide))) (fun j h1 h2 => (upo_n (by omega)).trans (ha 10 j (by decide) h1 h2)) (fun i hi => hD i (by omega)) (fun i hi => hE i (by omega))) hi_X0_init (by decide) dX2_init_30 rfl rfl (Nat.le_of_ble_eq_true rfl) ⟨(Nat.le_of_ble_eq_true rfl), (Nat.le_of_ble_eq_true rfl), (Nat.le_of_ble_eq_true rfl), (Nat.le_of_ble_eq_true rfl)⟩ (fun v9 Z9 D9 E9 h9 => by obtain ⟨rfl, -⟩ := h9; exact Nat.le_refl _) (fun v9 Z9 D9 E9 h9 => ?_)
  obtain ⟨hz9, hv9, hd9, he9⟩ := h9
  obtain rfl := hz9.symm
  obtain rfl := hv9.symm
  obtain rfl := hd9.symm
  obtain rfl := he9.symm
  refine a_aast (f' := upo (f) 28 (ringR 11)) dX2_init_33 (show 28 < 95 by decide) k_28 (Or.inr ⟨rfl, rfl⟩) (by decide) (by decide) (show 89 < 95 by decide) k_89 (fun i _ => congrFun (by rw [upR, ringR_s]) i) ?_
  refine r_iinc (nI 11) [(1, .int (nI 11)), (0, .ref (B + 27))] dX2_init_34 rfl (nI_1 _) (by decide) rfl ?_
  refine r_goto (tgt := 15) dX2_init_37 (by decide) ?_
  refine r_iload_n dX2_init_15 rfl ?_
  refine r_bipush (nI 24) dX2_init_16 (by decide) ?_
  refine r_icmp_ge (tgt := 40) dX2_init_18 (by decide) (fun c9 => ?_) (fun c9 => ?_)
  · exact absurd c9 (by decide)
  refine r_aload_n dX2_init_21 rfl ?_
  refine r_getR (v := 28) (ci := 2) (k := 0) wf_X2_11 dX2_init_22 (show 27 < 95 by decide) k_27 (by decide) (by decide) (fun _ _ => rfl) (show upo f 28 (ringR 11) 27 0 = some 28 by rw [upo_n (by decide), hf]; rfl) ?_
  refine r_iload_n dX2_init_25 rfl ?_
  refine a_new (c := 0) (f' := upo (upo (f) 28 (ringR 11)) 95 nR) wk_X2_9 wn_X0 wi_X0 dX2_init_26 (by decide) (Nat.le_of_ble_eq_true rfl) (Nat.le_of_ble_eq_true rfl) k_95 upo_s (fun i hi => upo_n (show i ≠ 95 by omega)) (hD _ (by decide)) (hE _ (by decide)) ?_
  refine r_dup dX2_init_29 rfl ?_
  refine r_callIN (As := []) (o := 95) (c_X0_init B D E 95 (upo (f) 28 (ringR 11)) (isC_in 95 (by decide)) ((upo_n (by decide)).trans (hc 11 (by decide))) (fun j h1 h2 => (upo_n (by omega)).trans (ha 11 j (by decide) h1 h2)) (fun i hi => hD i (by omega)) (fun i hi => hE i (by omega))) hi_X0_init (by decide) dX2_init_30 rfl rfl (Nat.le_of_ble_eq_true rfl) ⟨(Nat.le_of_ble_eq_true rfl), (Nat.le_of_ble_eq_true rfl), (Nat.le_of_ble_eq_true rfl), (Nat.le_of_ble_eq_true rfl)⟩ (fun v9 Z9 D9 E9 h9 => by obtain ⟨rfl, -⟩ := h9; exact Nat.le_refl _) (fun v9 Z9 D9 E9 h9 => ?_)
  obtain ⟨hz9, hv9, hd9, he9⟩ := h9
  obtain rfl := hz9.symm
  obtain rfl := hv9.symm
  obtain rfl := hd9.symm
  obtain rfl := he9.symm
  refine a_aast (f' := upo (f) 28 (ringR 12)) dX2_init_33 (show 28 < 101 by decide) k_28 (Or.inr ⟨rfl, rfl⟩) (by decide) (by decide) (show 95 < 101 by decide) k_95 (fun i _ => congrFun (by rw [upR, ringR_s]) i) ?_
  refine r_iinc (nI 12) [(1, .int (nI 12)), (0, .ref (B + 27))] dX2_init_34 rfl (nI_1 _) (by decide) rfl ?_
  refine r_goto (tgt := 15) dX2_init_37 (by decide) ?_
  refine r_iload_n dX2_init_15 rfl ?_
  refine r_bipush (nI 24) dX2_init_16 (by decide) ?_
  refine r_icmp_ge (tgt := 40) dX2_init_18 (by decide) (fun c9 => ?_) (fun c9 => ?_)
  · exact absurd c9 (by decide)
  refine r_aload_n dX2_init_21 rfl ?_
  refine r_getR (v := 28) (ci := 2) (k := 0) wf_X2_11 dX2_init_22 (show 27 < 101 by decide) k_27 (by decide) (by decide) (fun _ _ => rfl) (show upo f 28 (ringR 12) 27 0 = some 28 by rw [upo_n (by decide), hf]; rfl) ?_
  refine r_iload_n dX2_init_25 rfl ?_
  refine a_new (c := 0) (f' := upo (upo (f) 28 (ringR 12)) 101 nR) wk_X2_9 wn_X0 wi_X0 dX2_init_26 (by decide) (Nat.le_of_ble_eq_true rfl) (Nat.le_of_ble_eq_true rfl) k_101 upo_s (fun i hi => upo_n (show i ≠ 101 by omega)) (hD _ (by decide)) (hE _ (by decide)) ?_
  refine r_dup dX2_init_29 rfl ?_
  refine r_callIN (As := []) (o := 101) (c_X0_init B D E 101 (upo (f) 28 (ringR 12)) (isC_in 101 (by decide)) ((upo_n (by decide)).trans (hc 12 (by decide))) (fun j h1 h2 => (upo_n (by omega)).trans (ha 12 j (by decide) h1 h2)) (fun i hi => hD i (by omega)) (fun i hi => hE i (by omega))) hi_X0_init (by decide) dX2_init_30 rfl rfl (Nat.le_of_ble_eq_true rfl) ⟨(Nat.le_of_ble_eq_true rfl), (Nat.le_of_ble_eq_true rfl), (Nat.le_of_ble_eq_true rfl), (Nat.le_of_ble_eq_true rfl)⟩ (fun v9 Z9 D9 E9 h9 => by obtain ⟨rfl, -⟩ := h9; exact Nat.le_refl _) (fun v9 Z9 D9 E9 h9 => ?_)
  obtain ⟨hz9, hv9, hd9, he9⟩ := h9
  obtain rfl := hz9.symm
  obtain rfl := hv9.symm
  obtain rfl := hd9.symm
  obtain rfl := he9.symm
  refine a_aast (f' := upo (f) 28 (ringR 13)) dX2_init_33 (show 28 < 107 by decide) k_28 (Or.inr ⟨rfl, rfl⟩) (by decide) (by decide) (show 101 < 107 by decide) k_101 (fun i _ => congrFun (by rw [upR, ringR_s]) i) ?_
  refine r_iinc (nI 13) [(1, .int (nI 13)), (0, .ref (B + 27))] dX2_init_34 rfl (nI_1 _) (by decide) rfl ?_
  refine r_goto (tgt := 15) dX2_init_37 (by decide) ?_
  refine r_iload_n dX2_init_15 rfl ?_
  refine r_bipush (nI 24) dX2_init_16 (by decide) ?_
  refine r_icmp_ge (tgt := 40) dX2_init_18 (by decide) (fun c9 => ?_) (fun c9 => ?_)
  · exact absurd c9 (by decide)
  refine r_aload_n dX2_init_21 rfl ?_
  refine r_getR (v := 28) (ci := 2) (k := 0) wf_X2_11 dX2_init_22 (show 27 < 107 by decide) k_27 (by decide) (by decide) (fun _ _ => rfl) (show upo f 28 (ringR 13) 27 0 = some 28 by rw [upo_n (by decide), hf]; rfl) ?_
  refine r_iload_n dX2_init_25 rfl ?_
  refine a_new (c := 0) (f' := upo (upo (f) 28 (ringR 13)) 107 nR) wk_X2_9 wn_X0 wi_X0 dX2_init_26 (by decide) (Nat.le_of_ble_eq_true rfl) (Nat.le_of_ble_eq_true rfl) k_107 upo_s (fun i hi => upo_n (show i ≠ 107 by omega)) (hD _ (by decide)) (hE _ (by decide)) ?_
  refine r_dup dX2_init_29 rfl ?_
  refine r_callIN (As := []) (o := 107) (c_X0_init B D E 107 (upo (f) 28 (ringR 13)) (isC_in 107 (by decide)) ((upo_n (by decide)).trans (hc 13 (by decide))) (fun j h1 h2 => (upo_n (by omega)).trans (ha 13 j (by decide) h1 h2)) (fun i hi => hD i (by omega)) (fun i hi => hE i (by omega))) hi_X0_init (by decide) dX2_init_30 rfl rfl (Nat.le_of_ble_eq_true rfl) ⟨(Nat.le_of_ble_eq_true rfl), (Nat.le_of_ble_eq_true rfl), (Nat.le_of_ble_eq_true rfl), (Nat.le_of_ble_eq_true rfl)⟩ (fun v9 Z9 D9 E9 h9 => by obtain ⟨rfl, -⟩ := h9; exact Nat.le_refl _) (fun v9 Z9 D9 E9 h9 => ?_)
  obtain ⟨hz9, hv9, hd9, he9⟩ := h9
  obtain rfl := hz9.symm
  obtain rfl := hv9.symm
  obtain rfl := hd9.symm
  obtain rfl := he9.symm
  refine a_aast (f' := upo (f) 28 (ringR 14)) dX2_init_33 (show 28 < 113 by decide) k_28 (Or.inr ⟨rfl, rfl⟩) (by decide) (by decide) (show 107 < 113 by decide) k_107 (fun i _ => congrFun (by rw [upR, ringR_s]) i) ?_
  refine r_iinc (nI 14) [(1, .int (nI 14)), (0, .ref (B + 27))] dX2_init_34 rfl (nI_1 _) (by decide) rfl ?_
  refine r_goto (tgt := 15) dX2_init_37 (by decide) ?_
  refine r_iload_n dX2_init_15 rfl ?_
  refine r_bipush (nI 24) dX2_init_16 (by decide) ?_
  refine r_icmp_ge (tgt := 40) dX2_init_18 (by decide) (fun c9 => ?_) (fun c9 => ?_)
  · exact absurd c9 (by decide)
  refine r_aload_n dX2_init_21 rfl ?_
  refine r_getR (v := 28) (ci := 2) (k := 0) wf_X2_11 dX2_init_22 (show 27 < 113 by decide) k_27 (by decide) (by decide) (fun _ _ => rfl) (show upo f 28 (ringR 14) 27 0 = some 28 by rw [upo_n (by decide), hf]; rfl) ?_
  refine r_iload_n dX2_init_25 rfl ?_
  refine a_new (c := 0) (f' := upo (upo (f) 28 (ringR 14)) 113 nR) wk_X2_9 wn_X0 wi_X0 dX2_init_26 (by decide) (Nat.le_of_ble_eq_true rfl) (Nat.le_of_ble_eq_true rfl) k_113 upo_s (fun i hi => upo_n (show i ≠ 113 by omega)) (hD _ (by decide)) (hE _ (by decide)) ?_
  refine r_dup dX2_init_29 rfl ?_
  refine r_callIN (As := []) (o := 113) (c_X0_init B D E 113 (upo (f) 28 (ringR 14)) (isC_in 113 (by decide)) ((upo_n (by decide)).trans (hc 14 (by decide))) (fun j h1 h2 => (upo_n (by omega)).trans (ha 14 j (by decide) h1 h2)) (fun i hi => hD i (by omega)) (fun i hi => hE i (by omega))) hi_X0_init (by decide) dX2_init_30 rfl rfl (Nat.le_of_ble_eq_true rfl) ⟨(Nat.le_of_ble_eq_true rfl), (Nat.le_of_ble_eq_true rfl), (Nat.le_of_ble_eq_true rfl), (Nat.le_of_ble_eq_true rfl)⟩ (fun v9 Z9 D9 E9 h9 => by obtain ⟨rfl, -⟩ := h9; exact Nat.le_refl _) (fun v9 Z9 D9 E9 h9 => ?_)
  obtain ⟨hz9, hv9, hd9, he9⟩ := h9
  obtain rfl := hz9.symm
  obtain rfl := hv9.symm
  obtain rfl := hd9.symm
  obtain rfl := he9.symm
  refine a_aast (f' := upo (f) 28 (ringR 15)) dX2_init_33 (show 28 < 119 by decide) k_28 (Or.inr ⟨rfl, rfl⟩) (by decide) (by decide) (show 113 < 119 by decide) k_113 (fun i _ => congrFun (by rw [upR, ringR_s]) i) ?_
  refine r_iinc (nI 15) [(1, .int (nI 15)), (0, .ref (B + 27))] dX2_init_34 rfl (nI_1 _) (by decide) rfl ?_
  refine r_goto (tgt := 15) dX2_init_37 (by decide) ?_
  refine r_iload_n dX2_init_15 rfl ?_
  refine r_bipush (nI 24) dX2_init_16 (by decide) ?_
  refine r_icmp_ge (tgt := 40) dX2_init_18 (by decide) (fun c9 => ?_) (fun c9 => ?_)
  · exact absurd c9 (by decide)
  refine r_aload_n dX2_init_21 rfl ?_
  refine r_getR (v := 28) (ci := 2) (k := 0) wf_X2_11 dX2_init_22 (show 27 < 119 by decide) k_27 (by decide) (by decide) (fun _ _ => rfl) (show upo f 28 (ringR 15) 27 0 = some 28 by rw [upo_n (by decide), hf]; rfl) ?_
  refine r_iload_n dX2_init_25 rfl ?_
  refine a_new (c := 0) (f' := upo (upo (f) 28 (ringR 15)) 119 nR) wk_X2_9 wn_X0 wi_X0 dX2_init_26 (by decide) (Nat.le_of_ble_eq_true rfl) (Nat.le_of_ble_eq_true rfl) k_119 upo_s (fun i hi => upo_n (show i ≠ 119 by omega)) (hD _ (by decide)) (hE _ (by decide)) ?_
  refine r_dup dX2_init_29 rfl ?_
  refine r_callIN (As := []) (o := 119) (c_X0_init B D E 119 (upo (f) 28 (ringR 15)) (isC_in 119 (by decide)) ((upo_n (by decide)).trans (hc 15 (by decide))) (fun j h1 h2 => (upo_n (by omega)).trans (ha 15 j (by decide) h1 h2)) (fun i hi => hD i (by omega)) (fun i hi => hE i (by omega))) hi_X0_init (by decide) dX2_init_30 rfl rfl (Nat.le_of_ble_eq_true rfl) ⟨(Nat.le_of_ble_eq_true rfl), (Nat.le_of_ble_eq_true rfl), (Nat.le_of_ble_eq_true rfl), (Nat.le_of_ble_eq_true rfl)⟩ (fun v9 Z9 D9 E9 h9 => by obtain ⟨rfl, -⟩ := h9; exact Nat.le_refl _) (fun v9 Z9 D9 E9 h9 => ?_)
  obtain ⟨hz9, hv9, hd9, he9⟩ := h9
  obtain rfl := hz9.symm
  obtain rfl := hv9.symm
  obtain rfl := hd9.symm
  obtain rfl := he9.symm
  refine a_aast (f' := upo (f) 28 (ringR 16)) dX2_init_33 (show 28 < 125 by decide) k_28 (Or.inr ⟨rfl, rfl⟩) (by decide) (by decide) (show 119 < 125 by decide) k_119 (fun i _ => congrFun (by rw [upR, ringR_s]) i) ?_
  refine r_iinc (nI 16) [(1, .int (nI 16)), (0, .ref (B + 27))] dX2_init_34 rfl (nI_1 _) (by decide) rfl ?_
  refine r_goto (tgt := 15) dX2_init_37 (by decide) ?_
  refine r_iload_n dX2_init_15 rfl ?_
  refine r_bipush (nI 24) dX2_init_16 (by decide) ?_
  refine r_icmp_ge (tgt := 40) dX2_init_18 (by decide) (fun c9 => ?_) (fun c9 => ?_)
  · exact absurd c9 (by decide)
  refine r_aload_n dX2_init_21 rfl ?_
  refine r_getR (v := 28) (ci := 2) (k := 0) wf_X2_11 dX2_init_22 (show 27 < 125 by decide) k_27 (by decide) (by decide) (fun _ _ => rfl) (show upo f 28 (ringR 16) 27 0 = some 28 by rw [upo_n (by decide), hf]; rfl) ?_
  refine r_iload_n dX2_init_25 rfl ?_
  refine a_new (c := 0) (f' := upo (upo (f) 28 (ringR 16)) 125 nR) wk_X2_9 wn_X0 wi_X0 dX2_init_26 (by decide) (Nat.le_of_ble_eq_true rfl) (Nat.le_of_ble_eq_true rfl) k_125 upo_s (fun i hi => upo_n (show i ≠ 125 by omega)) (hD _ (by decide)) (hE _ (by decide)) ?_
  refine r_dup dX2_init_29 rfl ?_
  refine r_callIN (As := []) (o := 125) (c_X0_init B D E 125 (upo (f) 28 (ringR 16)) (isC_in 125 (by decide)) ((upo_n (by decide)).trans (hc 16 (by decide))) (fun j h1 h2 => (upo_n (by omega)).trans (ha 16 j (by decide) h1 h2)) (fun i hi => hD i (by omega)) (fun i hi => hE i (by omega))) hi_X0_init (by decide) dX2_init_30 rfl rfl (Nat.le_of_ble_eq_true rfl) ⟨(Nat.le_of_ble_eq_true rfl), (Nat.le_of_ble_eq_true rfl), (Nat.le_of_ble_eq_true rfl), (Nat.le_of_ble_eq_true rfl)⟩ (fun v9 Z9 D9 E9 h9 => by obtain ⟨rfl, -⟩ := h9; exact Nat.le_refl _) (fun v9 Z9 D9 E9 h9 => ?_)
  obtain ⟨hz9, hv9, hd9, he9⟩ := h9
  obtain rfl := hz9.symm
  obtain rfl := hv9.symm
  obtain rfl := hd9.symm
  obtain rfl := he9.symm
  refine a_aast (f' := upo (f) 28 (ringR 17)) dX2_init_33 (show 28 < 131 by decide) k_28 (Or.inr ⟨rfl, rfl⟩) (by decide) (by decide) (show 125 < 131 by decide) k_125 (fun i _ => congrFun (by rw [upR, ringR_s]) i) ?_
  refine r_iinc (nI 17) [(1, .int (nI 17)), (0, .ref (B + 27))] dX2_init_34 rfl (nI_1 _) (by decide) rfl ?_
  refine r_goto (tgt := 15) dX2_init_37 (by decide) ?_
  refine r_iload_n dX2_init_15 rfl ?_
  refine r_bipush (nI 24) dX2_init_16 (by decide) ?_
  refine r_icmp_ge (tgt := 40) dX2_init_18 (by decide) (fun c9 => ?_) (fun c9 => ?_)
  · exact absurd c9 (by decide)
  refine r_aload_n dX2_init_21 rfl ?_
  refine r_getR (v := 28) (ci := 2) (k := 0) wf_X2_11 dX2_init_22 (show 27 < 131 by decide) k_27 (by decide) (by decide) (fun _ _ => rfl) (show upo f 28 (ringR 17) 27 0 = some 28 by rw [upo_n (by decide), hf]; rfl) ?_
  refine r_iload_n dX2_init_25 rfl ?_
  refine a_new (c := 0) (f' := upo (upo (f) 28 (ringR 17)) 131 nR) wk_X2_9 wn_X0 wi_X0 dX2_init_26 (by decide) (Nat.le_of_ble_eq_true rfl) (Nat.le_of_ble_eq_true rfl) k_131 upo_s (fun i hi => upo_n (show i ≠ 131 by omega)) (hD _ (by decide)) (hE _ (by decide)) ?_
  refine r_dup dX2_init_29 rfl ?_
  refine r_callIN (As := []) (o := 131) (c_X0_init B D E 131 (upo (f) 28 (ringR 17)) (isC_in 131 (by decide)) ((upo_n (by decide)).trans (hc 17 (by decide))) (fun j h1 h2 => (upo_n (by omega)).trans (ha 17 j (by decide) h1 h2)) (fun i hi => hD i (by omega)) (fun i hi => hE i (by omega))) hi_X0_init (by decide) dX2_init_30 rfl rfl (Nat.le_of_ble_eq_true rfl) ⟨(Nat.le_of_ble_eq_true rfl), (Nat.le_of_ble_eq_true rfl), (Nat.le_of_ble_eq_true rfl), (Nat.le_of_ble_eq_true rfl)⟩ (fun v9 Z9 D9 E9 h9 => by obtain ⟨rfl, -⟩ := h9; exact Nat.le_refl _) (fun v9 Z9 D9 E9 h9 => ?_)
  obtain ⟨hz9, hv9, hd9, he9⟩ := h9
  obtain rfl := hz9.symm
  obtain rfl := hv9.symm
  obtain rfl := hd9.symm
  obtain rfl := he9.symm
  refine a_aast (f' := upo (f) 28 (ringR 18)) dX2_init_33 (show 28 < 137 by decide) k_28 (Or.inr ⟨rfl, rfl⟩) (by decide) (by decide) (show 131 < 137 by decide) k_131 (fun i _ => congrFun (by rw [upR, ringR_s]) i) ?_
  refine r_iinc (nI 18) [(1, .int (nI 18)), (0, .ref (B + 27))] dX2_init_34 rfl (nI_1 _) (by decide) rfl ?_
  refine r_goto (tgt := 15) dX2_init_37 (by decide) ?_
  refine r_iload_n dX2_init_15 rfl ?_
  refine r_bipush (nI 24) dX2_init_16 (by decide) ?_
  refine r_icmp_ge (tgt := 40) dX2_init_18 (by decide) (fun c9 => ?_) (fun c9 => ?_)
  · exact absurd c9 (by decide)
  refine r_aload_n dX2_init_21 rfl ?_
  refine r_getR (v := 28) (ci := 2) (k := 0) wf_X2_11 dX2_init_22 (show 27 < 137 by decide) k_27 (by decide) (by decide) (fun _ _ => rfl) (show upo f 28 (ringR 18) 27 0 = some 28 by rw [upo_n (by decide), hf]; rfl) ?_
  refine r_iload_n dX2_init_25 rfl ?_
  refine a_new (c := 0) (f' := upo (upo (f) 28 (ringR 18)) 137 nR) wk_X2_9 wn_X0 wi_X0 dX2_init_26 (by decide) (Nat.le_of_ble_eq_true rfl) (Nat.le_of_ble_eq_true rfl) k_137 upo_s (fun i hi => upo_n (show i ≠ 137 by omega)) (hD _ (by decide)) (hE _ (by decide)) ?_
  refine r_dup dX2_init_29 rfl ?_
  refine r_callIN (As := []) (o := 137) (c_X0_init B D E 137 (upo (f) 28 (ringR 18)) (isC_in 137 (by decide)) ((upo_n (by decide)).trans (hc 18 (by decide))) (fun j h1 h2 => (upo_n (by omega)).trans (ha 18 j (by decide) h1 h2)) (fun i hi => hD i (by omega)) (fun i hi => hE i (by omega))) hi_X0_init (by decide) dX2_init_30 rfl rfl (Nat.le_of_ble_eq_true rfl) ⟨(Nat.le_of_ble_eq_true rfl), (Nat.le_of_ble_eq_true rfl), (Nat.le_of_ble_eq_true rfl), (Nat.le_of_ble_eq_true rfl)⟩ (fun v9 Z9 D9 E9 h9 => by obtain ⟨rfl, -⟩ := h9; exact Nat.le_refl _) (fun v9 Z9 D9 E9 h9 => ?_)
  obtain ⟨hz9, hv9, hd9, he9⟩ := h9
  obtain rfl := hz9.symm
  obtain rfl := hv9.symm
  obtain rfl := hd9.symm
  obtain rfl := he9.symm
  refine a_aast (f' := upo (f) 28 (ringR 19)) dX2_init_33 (show 28 < 143 by decide) k_28 (Or.inr ⟨rfl, rfl⟩) (by decide) (by decide) (show 137 < 143 by decide) k_137 (fun i _ => congrFun (by rw [upR, ringR_s]) i) ?_
  refine r_iinc (nI 19) [(1, .int (nI 19)), (0, .ref (B + 27))] dX2_init_34 rfl (nI_1 _) (by decide) rfl ?_
  refine r_goto (tgt := 15) dX2_init_37 (by decide) ?_
  refine r_iload_n dX2_init_15 rfl ?_
  refine r_bipush (nI 24) dX2_init_16 (by decide) ?_
  refine r_icmp_ge (tgt := 40) dX2_init_18 (by decide) (fun c9 => ?_) (fun c9 => ?_)
  · exact absurd c9 (by decide)
  refine r_aload_n dX2_init_21 rfl ?_
  refine r_getR (v := 28) (ci := 2) (k := 0) wf_X2_11 dX2_init_22 (show 27 < 143 by decide) k_27 (by decide) (by decide) (fun _ _ => rfl) (show upo f 28 (ringR 19) 27 0 = some 28 by rw [upo_n (by decide), hf]; rfl) ?_
  refine r_iload_n dX2_init_25 rfl ?_
  refine a_new (c := 0) (f' := upo (upo (f) 28 (ringR 19)) 143 nR) wk_X2_9 wn_X0 wi_X0 dX2_init_26 (by decide) (Nat.le_of_ble_eq_true rfl) (Nat.le_of_ble_eq_true rfl) k_143 upo_s (fun i hi => upo_n (show i ≠ 143 by omega)) (hD _ (by decide)) (hE _ (by decide)) ?_
  refine r_dup dX2_init_29 rfl ?_
  refine r_callIN (As := []) (o := 143) (c_X0_init B D E 143 (upo (f) 28 (ringR 19)) (isC_in 143 (by decide)) ((upo_n (by decide)).trans (hc 19 (by decide))) (fun j h1 h2 => (upo_n (by omega)).trans (ha 19 j (by decide) h1 h2)) (fun i hi => hD i (by omega)) (fun i hi => hE i (by omega))) hi_X0_init (by decide) dX2_init_30 rfl rfl (Nat.le_of_ble_eq_true rfl) ⟨(Nat.le_of_ble_eq_true rfl), (Nat.le_of_ble_eq_true rfl), (Nat.le_of_ble_eq_true rfl), (Nat.le_of_ble_eq_true rfl)⟩ (fun v9 Z9 D9 E9 h9 => by obtain ⟨rfl, -⟩ := h9; exact Nat.le_refl _) (fun v9 Z9 D9 E9 h9 => ?_)
  obtain ⟨hz9, hv9, hd9, he9⟩ := h9
  obtain rfl := hz9.symm
  obtain rfl := hv9.symm
  obtain rfl := hd9.symm
  obtain rfl := he9.symm
  refine a_aast (f' := upo (f) 28 (ringR 20)) dX2_init_33 (show 28 < 149 by decide) k_28 (Or.inr ⟨rfl, rfl⟩) (by decide) (by decide) (show 143 < 149 by decide) k_143 (fun i _ => congrFun (by rw [upR, ringR_s]) i) ?_
  refine r_iinc (nI 20) [(1, .int (nI 20)), (0, .ref (B + 27))] dX2_init_34 rfl (nI_1 _) (by decide) rfl ?_
  refine r_goto (tgt := 15) dX2_init_37 (by decide) ?_
  refine r_iload_n dX2_init_15 rfl ?_
  refine r_bipush (nI 24) dX2_init_16 (by decide) ?_
  refine r_icmp_ge (tgt := 40) dX2_init_18 (by decide) (fun c9 => ?_) (fun c9 => ?_)
  · exact absurd c9 (by decide)
  refine r_aload_n dX2_init_21 rfl ?_
  refine r_getR (v := 28) (ci := 2) (k := 0) wf_X2_11 dX2_init_22 (show 27 < 149 by decide) k_27 (by decide) (by decide) (fun _ _ => rfl) (show upo f 28 (ringR 20) 27 0 = some 28 by rw [upo_n (by decide), hf]; rfl) ?_
  refine r_iload_n dX2_init_25 rfl ?_
  refine a_new (c := 0) (f' := upo (upo (f) 28 (ringR 20)) 149 nR) wk_X2_9 wn_X0 wi_X0 dX2_init_26 (by decide) (Nat.le_of_ble_eq_true rfl) (Nat.le_of_ble_eq_true rfl) k_149 upo_s (fun i hi => upo_n (show i ≠ 149 by omega)) (hD _ (by decide)) (hE _ (by decide)) ?_
  refine r_dup dX2_init_29 rfl ?_
  refine r_callIN (As := []) (o := 149) (c_X0_init B D E 149 (upo (f) 28 (ringR 20)) (isC_in 149 (by decide)) ((upo_n (by decide)).trans (hc 20 (by decide))) (fun j h1 h2 => (upo_n (by omega)).trans (ha 20 j (by decide) h1 h2)) (fun i hi => hD i (by omega)) (fun i hi => hE i (by omega))) hi_X0_init (by decide) dX2_init_30 rfl rfl (Nat.le_of_ble_eq_true rfl) ⟨(Nat.le_of_ble_eq_true rfl), (Nat.le_of_ble_eq_true rfl), (Nat.le_of_ble_eq_true rfl), (Nat.le_of_ble_eq_true rfl)⟩ (fun v9 Z9 D9 E9 h9 => by obtain ⟨rfl, -⟩ := h9; exact Nat.le_refl _) (fun v9 Z9 D9 E9 h9 => ?_)
  obtain ⟨hz9, hv9, hd9, he9⟩ := h9
  obtain rfl := hz9.symm
  obtain rfl := hv9.symm
  obtain rfl := hd9.symm
  obtain rfl := he9.symm
  refine a_aast (f' := upo (f) 28 (ringR 21)) dX2_init_33 (show 28 < 155 by decide) k_28 (Or.inr ⟨rfl, rfl⟩) (by decide) (by decide) (show 149 < 155 by decide) k_149 (fun i _ => congrFun (by rw [upR, ringR_s]) i) ?_
  refine r_iinc (nI 21) [(1, .int (nI 21)), (0, .ref (B + 27))] dX2_init_34 rfl (nI_1 _) (by decide) rfl ?_
  refine r_goto (tgt := 15) dX2_init_37 (by decide) ?_
  refine r_iload_n dX2_init_15 rfl ?_
  refine r_bipush (nI 24) dX2_init_16 (by decide) ?_
  refine r_icmp_ge (tgt := 40) dX2_init_18 (by decide) (fun c9 => ?_) (fun c9 => ?_)
  · exact absurd c9 (by decide)
  refine r_aload_n dX2_init_21 rfl ?_
  refine r_getR (v := 28) (ci := 2) (k := 0) wf_X2_11 dX2_init_22 (show 27 < 155 by decide) k_27 (by decide) (by decide) (fun _ _ => rfl) (show upo f 28 (ringR 21) 27 0 = some 28 by rw [upo_n (by decide), hf]; rfl) ?_
  refine r_iload_n dX2_init_25 rfl ?_
  refine a_new (c := 0) (f' := upo (upo (f) 28 (ringR 21)) 155 nR) wk_X2_9 wn_X0 wi_X0 dX2_init_26 (by decide) (Nat.le_of_ble_eq_true rfl) (Nat.le_of_ble_eq_true rfl) k_155 upo_s (fun i hi => upo_n (show i ≠ 155 by omega)) (hD _ (by decide)) (hE _ (by decide)) ?_
  refine r_dup dX2_init_29 rfl ?_
  refine r_callIN (As := []) (o := 155) (c_X0_init B D E 155 (upo (f) 28 (ringR 21)) (isC_in 155 (by decide)) ((upo_n (by decide)).trans (hc 21 (by decide))) (fun j h1 h2 => (upo_n (by omega)).trans (ha 21 j (by decide) h1 h2)) (fun i hi => hD i (by omega)) (fun i hi => hE i (by omega))) hi_X0_init (by decide) dX2_init_30 rfl rfl (Nat.le_of_ble_eq_true rfl) ⟨(Nat.le_of_ble_eq_true rfl), (Nat.le_of_ble_eq_true rfl), (Nat.le_of_ble_eq_true rfl), (Nat.le_of_ble_eq_true rfl)⟩ (fun v9 Z9 D9 E9 h9 => by obtain ⟨rfl, -⟩ := h9; exact Nat.le_refl _) (fun v9 Z9 D9 E9 h9 => ?_)
  obtain ⟨hz9, hv9, hd9, he9⟩ := h9
  obtain rfl := hz9.symm
  obtain rfl := hv9.symm
  obtain rfl := hd9.symm
  obtain rfl := he9.symm
  refine a_aast (f' := upo (f) 28 (ringR 22)) dX2_init_33 (show 28 < 161 by decide) k_28 (Or.inr ⟨rfl, rfl⟩) (by decide) (by decide) (show 155 < 161 by decide) k_155 (fun i _ => congrFun (by rw [upR, ringR_s]) i) ?_
  refine r_iinc (nI 22) [(1, .int (nI 22)), (0, .ref (B + 27))] dX2_init_34 rfl (nI_1 _) (by decide) rfl ?_
  refine r_goto (tgt := 15) dX2_init_37 (by decide) ?_
  refine r_iload_n dX2_init_15 rfl ?_
  refine r_bipush (nI 24) dX2_init_16 (by decide) ?_
  refine r_icmp_ge (tgt := 40) dX2_init_18 (by decide) (fun c9 => ?_) (fun c9 => ?_)
  · exact absurd c9 (by decide)
  refine r_aload_n dX2_init_21 rfl ?_
  refine r_getR (v := 28) (ci := 2) (k := 0) wf_X2_11 dX2_init_22 (show 27 < 161 by decide) k_27 (by decide) (by decide) (fun _ _ => rfl) (show upo f 28 (ringR 22) 27 0 = some 28 by rw [upo_n (by decide), hf]; rfl) ?_
  refine r_iload_n dX2_init_25 rfl ?_
  refine a_new (c := 0) (f' := upo (upo (f) 28 (ringR 22)) 161 nR) wk_X2_9 wn_X0 wi_X0 dX2_init_26 (by decide) (Nat.le_of_ble_eq_true rfl) (Nat.le_of_ble_eq_true rfl) k_161 upo_s (fun i hi => upo_n (show i ≠ 161 by omega)) (hD _ (by decide)) (hE _ (by decide)) ?_
  refine r_dup dX2_init_29 rfl ?_
  refine r_callIN (As := []) (o := 161) (c_X0_init B D E 161 (upo (f) 28 (ringR 22)) (isC_in 161 (by decide)) ((upo_n (by decide)).trans (hc 22 (by decide))) (fun j h1 h2 => (upo_n (by omega)).trans (ha 22 j (by decide) h1 h2)) (fun i hi => hD i (by omega)) (fun i hi => hE i (by omega))) hi_X0_init (by decide) dX2_init_30 rfl rfl (Nat.le_of_ble_eq_true rfl) ⟨(Nat.le_of_ble_eq_true rfl), (Nat.le_of_ble_eq_true rfl), (Nat.le_of_ble_eq_true rfl), (Nat.le_of_ble_eq_true rfl)⟩ (fun v9 Z9 D9 E9 h9 => by obtain ⟨rfl, -⟩ := h9; exact Nat.le_refl _) (fun v9 Z9 D9 E9 h9 => ?_)
  obtain ⟨hz9, hv9, hd9, he9⟩ := h9
  obtain rfl := hz9.symm
  obtain rfl := hv9.symm
  obtain rfl := hd9.symm
  obtain rfl := he9.symm
  refine a_aast (f' := upo (f) 28 (ringR 23)) dX2_init_33 (show 28 < 167 by decide) k_28 (Or.inr ⟨rfl, rfl⟩) (by decide) (by decide) (show 161 < 167 by decide) k_161 (fun i _ => congrFun (by rw [upR, ringR_s]) i) ?_
  refine r_iinc (nI 23) [(1, .int (nI 23)), (0, .ref (B + 27))] dX2_init_34 rfl (nI_1 _) (by decide) rfl ?_
  refine r_goto (tgt := 15) dX2_init_37 (by decide) ?_
  refine r_iload_n dX2_init_15 rfl ?_
  refine r_bipush (nI 24) dX2_init_16 (by decide) ?_
  refine r_icmp_ge (tgt := 40) dX2_init_18 (by decide) (fun c9 => ?_) (fun c9 => ?_)
  · exact absurd c9 (by decide)
  refine r_aload_n dX2_init_21 rfl ?_
  refine r_getR (v := 28) (ci := 2) (k := 0) wf_X2_11 dX2_init_22 (show 27 < 167 by decide) k_27 (by decide) (by decide) (fun _ _ => rfl) (show upo f 28 (ringR 23) 27 0 = some 28 by rw [upo_n (by decide), hf]; rfl) ?_
  refine r_iload_n dX2_init_25 rfl ?_
  refine a_new (c := 0) (f' := upo (upo (f) 28 (ringR 23)) 167 nR) wk_X2_9 wn_X0 wi_X0 dX2_init_26 (by decide) (Nat.le_of_ble_eq_true rfl) (Nat.le_of_ble_eq_true rfl) k_167 upo_s (fun i hi => upo_n (show i ≠ 167 by omega)) (hD _ (by decide)) (hE _ (by decide)) ?_
  refine r_dup dX2_init_29 rfl ?_
  refine r_callIN (As := []) (o := 167) (c_X0_init B D E 167 (upo (f) 28 (ringR 23)) (isC_in 167 (by decide)) ((upo_n (by decide)).trans (hc 23 (by decide))) (fun j h1 h2 => (upo_n (by omega)).trans (ha 23 j (by decide) h1 h2)) (fun i hi => hD i (by omega)) (fun i hi => hE i (by omega))) hi_X0_init (by decide) dX2_init_30 rfl rfl (Nat.le_of_ble_eq_true rfl) ⟨(Nat.le_of_ble_eq_true rfl), (Nat.le_of_ble_eq_true rfl), (Nat.le_of_ble_eq_true rfl), (Nat.le_of_ble_eq_true rfl)⟩ (fun v9 Z9 D9 E9 h9 => by obtain ⟨rfl, -⟩ := h9; exact Nat.le_refl _) (fun v9 Z9 D9 E9 h9 => ?_)
  obtain ⟨hz9, hv9, hd9, he9⟩ := h9
  obtain rfl := hz9.symm
  obtain rfl := hv9.symm
  obtain rfl := hd9.symm
  obtain rfl := he9.symm
  refine a_aast (f' := upo (f) 28 (ringR 24)) dX2_init_33 (show 28 < 173 by decide) k_28 (Or.inr ⟨rfl, rfl⟩) (by decide) (by decide) (show 167 < 173 by decide) k_167 (fun i _ => congrFun (by rw [upR, ringR_s]) i) ?_
  refine r_iinc (nI 24) [(1, .int (nI 24)), (0, .ref (B + 27))] dX2_init_34 rfl (nI_1 _) (by decide) rfl ?_
  refine r_goto (tgt := 15) dX2_init_37 (by decide) ?_
  refine r_iload_n dX2_init_15 rfl ?_
  refine r_bipush (nI 24) dX2_init_16 (by decide) ?_
  refine r_icmp_ge (tgt := 40) dX2_init_18 (by decide) (fun c9 => ?_) (fun c9 => ?_)
  rotate_left
  · exact absurd (by decide) c9
  refine r_Z (Z' := ZC 173 f) (D' := D) (E' := E) rfl (fun i hi => ⟨rfl, ?_, rfl, rfl⟩) ?_
  · by_cases q : i = 28
    · subst q; show f 28 = upo f 28 (ringR 24) 28; rw [upo_s]; exact hr
    · exact (upo_n q).symm
  exact r_vret dX2_init_40 rfl (Nat.le_of_ble_eq_true rfl) (Nat.le_of_ble_eq_true rfl) ⟨rfl, rfl, rfl, rfl⟩
