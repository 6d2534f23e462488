set_option maxRecDepth 100000 in
set_option maxHeartbeats 4000000 in
theorem c_X5_undo (B : Nat) (D : DD) (E : EE) (wy : Nat → Nat) (r : Row) (kp : Nat) (A : Nat → Row) (hX : XLK D wy r kp A) : MR yX5_undo cX5_undo 1 (some .int) rX5_undo B [.ref (B + 0)] Z0 D E (Q2 Z0 (pI (AP wy D E (a_undo r kp A)))) := by
  obtain ⟨hO2, hCn, hLl, hYY, nx, hK⟩ := id hX
  have hO := hO2.lok
  obtain ⟨l0, l5, l4, l6, l7, l8, l1⟩ := hO.le
  obtain ⟨hk1, hk2, hk3, hk4, hk5⟩ := id hK
  refine r_enter [(0, .ref (B + 0))] hv_X5_undo.1.2.2.2.2 (Nat.le_of_ble_eq_true rfl) rfl ?_
  refine r_aload_n dX5_undo_0 rfl ?_
  refine r_getR (ci := 5) (k := 4) wf_X5_40 dX5_undo_1 z_0 k_0 (by decide) (by decide) (fun _ _ => rfl) f_0_4 ?_
  refine r_getI (ci := 2) (k := 2) wf_X5_149 dX5_undo_4 z_27 k_27 (by decide) (by decide) rfl (fun z1 hz1 => ?_)
  obtain rfl : z1 = nI kp := hz1.trans hk2
  refine r_if_ne (tgt := 13) dX5_undo_7 (by decide) (fun c7 => ?_) (fun c7 => ?_)
  · skip
    rw [nI_z (by omega)] at c7
    refine r_aload_n dX5_undo_13 rfl ?_
    refine r_getR (ci := 5) (k := 4) wf_X5_40 dX5_undo_14 z_0 k_0 (by decide) (by decide) (fun _ _ => rfl) f_0_4 ?_
    refine r_aload_n dX5_undo_17 rfl ?_
    refine r_getR (ci := 5) (k := 3) wf_X5_33 dX5_undo_18 z_0 k_0 (by decide) (by decide) (fun _ _ => rfl) f_0_3 ?_
    refine r_callVV (As := [.ref (B + 21)]) (o := 27) (c_X2_goBack B D E nx kp hk1 hk2 hk3 hk4 (by omega)) hv_X2_goBack wm_X5_153 dX5_undo_21 rfl rfl z_27 k_27 (by decide) rfl (Nat.le_of_ble_eq_true rfl) ⟨Nat.le_of_ble_eq_true rfl, Nat.le_of_ble_eq_true rfl, Nat.zero_le _, Nat.zero_le _⟩ ⟨rfl, rfl⟩ (fun D3 E4 hz2 => ?_)
    obtain ⟨hqD, hqE⟩ := hz2
    obtain rfl := hqE.symm
    have hKD : D3 = backD D nx kp := hqD
    subst hKD
    have hKB := KA_back hK (by omega)
    obtain ⟨g1, g2, -, -⟩ := hk5 (kp - 1) (by omega)
    refine r_aload_n dX5_undo_24 rfl ?_
    refine r_getR (ci := 5) (k := 4) wf_X5_40 dX5_undo_25 z_0 k_0 (by decide) (by decide) (fun _ _ => rfl) f_0_4 ?_
    refine r_getI (ci := 2) (k := 2) wf_X5_149 dX5_undo_28 z_27 k_27 (by decide) (by decide) rfl (fun z5 hz5 => ?_)
    obtain rfl : z5 = nI (kp - 1) := hz5.trans hKB.1.2.1
    refine r_iret2 dX5_undo_31 rfl ⟨Nat.zero_le _, Nat.zero_le _⟩ ?_
    unfold a_undo
    rw [if_neg c7]
    exact ⟨rfl, ⟨Or.inr g1, hKB.2.1, hKB.2.2, fun _ => g2, _, hKB.1⟩, fun q hq => back_fr (by omega) (by omega), rfl⟩
  · skip
    rw [nI_z (by omega)] at c7
    skip
    refine r_ldc wc_X5_152 dX5_undo_10 ?_
    refine r_iret2 dX5_undo_12 rfl ⟨Nat.zero_le _, Nat.zero_le _⟩ ?_
    unfold a_undo
    rw [if_pos c7]
    exact ⟨rfl, hX, HX.rf, rfl⟩
set_option maxRecDepth 100000 in
set_option maxHeartbeats 4000000 in
theorem c_X5_wish (B : Nat) (D : DD) (E : EE) (wy : Nat → Nat) (r : Row) (kp : Nat) (A : Nat → Row) (hX : XLK D wy r kp A) (x y z : Int32) : MR yX5_wish cX5_wish 5 (some .int) rX5_wish B [.ref (B + 0), .int x, .int y, .int z] Z0 D E (Q2 Z0 (pI (AP wy D E (a_wish r kp A x y z)))) := by
  obtain ⟨hO2, hCn, hLl, hYY, nx, hK⟩ := id hX
  have hO := hO2.lok
  obtain ⟨l0, l5, l4, l6, l7, l8, l1⟩ := hO.le
  obtain ⟨hk1, hk2, hk3, hk4, hk5⟩ := id hK
  refine r_enter [(0, .ref (B + 0)), (1, .int x), (2, .int y), (3, .int z)] hv_X5_wish.1.2.2.2.2 (Nat.le_of_ble_eq_true rfl) rfl ?_
  refine r_aload_n dX5_wish_0 rfl ?_
  refine r_iload_n dX5_wish_1 rfl ?_
  refine r_callVI (As := [.int x]) (o := 0) (c_X5_isWisher B D E x (r 5) hLl.1.2.2.2.2) hv_X5_isWisher wm_X5_172 dX5_wish_2 rfl rfl z_0 k_0 (by decide) rfl (Nat.le_of_ble_eq_true rfl) ⟨Nat.le_of_ble_eq_true rfl, Nat.le_of_ble_eq_true rfl, Nat.zero_le _, Nat.zero_le _⟩ ⟨rfl, rfl⟩ (fun z1 D2 E3 hz1 => ?_)
  obtain ⟨hqV, hqD, hqE⟩ := hz1
  obtain rfl : z1 = bI (nI 0 ≤ x ∧ x ≤ nI (r 5) - nI 1) := hqV
  obtain rfl := hqD.symm
  obtain rfl := hqE.symm
  refine r_if_eq (tgt := 26) dX5_wish_5 (by decide) (fun c5 => ?_) (fun c5 => ?_)
  · skip
    rw [bI_0] at c5
    refine r_ldc wc_X5_77 dX5_wish_26 ?_
    refine r_iret2 dX5_wish_28 rfl ⟨Nat.zero_le _, Nat.zero_le _⟩ ?_
    unfold a_wish
    first
      | (rw [if_neg c5]; exact ⟨rfl, hX, HX.rf, rfl⟩)
      | (rw [if_pos c5, if_neg c13]; exact ⟨rfl, hX, HX.rf, rfl⟩)
      | (rw [if_pos c5, if_pos c13, if_neg c23]; exact ⟨rfl, hX, HX.rf, rfl⟩)
  · skip
    rw [bI_n0] at c5
    obtain ⟨w, hw1, rfl⟩ := gd_n (by omega) c5
    have hLK := hO2.w hw1
    obtain ⟨hW, hT, hS⟩ := id hLK
    have hY := hYY hW
    obtain ⟨b1, b2, b3, b4, b5, b6, b7, b8⟩ := hW.1
    obtain ⟨⟨d1, d2⟩, d3, d4, d5, d6, ⟨d7, d8⟩, d9, d10⟩ := hW.2.2.1 w hw1
    have hrr : ∀ w, w < r 5 → r (23 + 8 * w) ≤ 1 := fun w hw => (hW.2.2.1 w hw).2.2.2.2.2.2.2
    have hr5 := rmask_lt (r 5) hrr
    have hp2 := pw2_le b7
    refine r_aload_n dX5_wish_8 rfl ?_
    refine r_iload_n dX5_wish_9 rfl ?_
    refine r_callVI (As := [.int y]) (o := 0) (c_X5_isPlace B D E y (r 0) hLl.1.1) hv_X5_isPlace wm_X5_175 dX5_wish_10 rfl rfl z_0 k_0 (by decide) rfl (Nat.le_of_ble_eq_true rfl) ⟨Nat.le_of_ble_eq_true rfl, Nat.le_of_ble_eq_true rfl, Nat.zero_le _, Nat.zero_le _⟩ ⟨rfl, rfl⟩ (fun z4 D5 E6 hz4 => ?_)
    obtain ⟨hqV, hqD, hqE⟩ := hz4
    obtain rfl : z4 = bI (nI 0 ≤ y ∧ y ≤ nI (r 0) - nI 1) := hqV
    obtain rfl := hqD.symm
    obtain rfl := hqE.symm
    refine r_if_eq (tgt := 26) dX5_wish_13 (by decide) (fun c13 => ?_) (fun c13 => ?_)
    · skip
      rw [bI_0] at c13
      refine r_ldc wc_X5_77 dX5_wish_26 ?_
      refine r_iret2 dX5_wish_28 rfl ⟨Nat.zero_le _, Nat.zero_le _⟩ ?_
      unfold a_wish
      first
        | (rw [if_neg c5]; exact ⟨rfl, hX, HX.rf, rfl⟩)
        | (rw [if_pos c5, if_neg c13]; exact ⟨rfl, hX, HX.rf, rfl⟩)
        | (rw [if_pos c5, if_pos c13, if_neg c23]; exact ⟨rfl, hX, HX.rf, rfl⟩)
    · skip
      rw [bI_n0] at c13
      obtain ⟨p, hp1, rfl⟩ := gd_n (by omega) c13
      refine r_iload_n dX5_wish_16 rfl ?_
      refine r_iconst (nI 0) dX5_wish_17 (by decide) ?_
      refine r_bipush (nI 40) dX5_wish_18 (by decide) ?_
      refine r_callSI (As := [.int z, .int (nI 0), .int (nI 40)]) (c_X5_within B D E z (nI 0) (nI 40)) hs_X5_within wm_X5_73 rfl dX5_wish_20 rfl rfl (Nat.le_of_ble_eq_true rfl) ⟨Nat.le_of_ble_eq_true rfl, Nat.le_of_ble_eq_true rfl, Nat.zero_le _, Nat.zero_le _⟩ ⟨rfl, rfl⟩ (fun z7 D8 E9 hz7 => ?_)
      obtain ⟨hqV, hqD, hqE⟩ := hz7
      obtain rfl : z7 = bI (nI 0 ≤ z ∧ z ≤ nI 40) := hqV
      obtain rfl := hqD.symm
      obtain rfl := hqE.symm
      refine r_if_ne (tgt := 29) dX5_wish_23 (by decide) (fun c23 => ?_) (fun c23 => ?_)
      · skip
        rw [bI_n0] at c23
        obtain ⟨s, hs1, hs2, rfl⟩ := rg (by decide) (by decide) c23
        refine r_bipush (nI 100) dX5_wish_29 (by decide) ?_
        refine r_aload_n dX5_wish_31 rfl ?_
        refine r_getR (ci := 5) (k := 3) wf_X5_33 dX5_wish_32 z_0 k_0 (by decide) (by decide) (fun _ _ => rfl) f_0_3 ?_
        refine r_getR (ci := 0) (k := 7) wf_X5_178 dX5_wish_35 z_21 k_21 (by decide) (by decide) (fun _ _ => rfl) f_21_7 ?_
        refine r_iload_n dX5_wish_38 rfl ?_
        refine r_iald dX5_wish_39 z_23 k_23 (vp_in_nI (by omega) (by decide)) (fun z10 hz10 => ?_)
        rw [nI_clamp (by omega)] at hz10
        obtain rfl : z10 = nI (r (18 + 8 * w)) := hz10.trans (hCn.2.1 w hw1).2.1
        refine r_imul dX5_wish_40 (fun z11 hz11 => ?_)
        obtain rfl : z11 = nI (100 * (r (18 + 8 * w))) := (hz11.trans (pk_mul _ _))
        refine r_aload_n dX5_wish_41 rfl ?_
        refine r_getR (ci := 5) (k := 3) wf_X5_33 dX5_wish_42 z_0 k_0 (by decide) (by decide) (fun _ _ => rfl) f_0_3 ?_
        refine r_getR (ci := 0) (k := 8) wf_X5_181 dX5_wish_45 z_21 k_21 (by decide) (by decide) (fun _ _ => rfl) f_21_8 ?_
        refine r_iload_n dX5_wish_48 rfl ?_
        refine r_iald dX5_wish_49 z_24 k_24 (vp_in_nI (by omega) (by decide)) (fun z12 hz12 => ?_)
        rw [nI_clamp (by omega)] at hz12
        obtain rfl : z12 = nI (r (19 + 8 * w)) := hz12.trans (hCn.2.1 w hw1).2.2.1
        refine r_iadd dX5_wish_50 (fun z13 hz13 => ?_)
        obtain rfl : z13 = nI ((100 * (r (18 + 8 * w))) + (r (19 + 8 * w))) := (hz13.trans (nI_add _ _))
        refine r_istore [(4, .int (nI ((100 * (r (18 + 8 * w))) + (r (19 + 8 * w))))), (0, .ref (B + 0)), (1, .int (nI w)), (2, .int (nI p)), (3, .int (nI s))] dX5_wish_51 (by decide) rfl ?_
        refine r_aload_n dX5_wish_53 rfl ?_
        refine r_getR (ci := 5) (k := 4) wf_X5_40 dX5_wish_54 z_0 k_0 (by decide) (by decide) (fun _ _ => rfl) f_0_4 ?_
        refine r_aload_n dX5_wish_57 rfl ?_
        refine r_getR (ci := 5) (k := 3) wf_X5_33 dX5_wish_58 z_0 k_0 (by decide) (by decide) (fun _ _ => rfl) f_0_3 ?_
        refine r_callVV (As := [.ref (B + 21)]) (o := 27) (c_X2_keep B D E nx kp hk1 hk2 hk3 hk4) hv_X2_keep wm_X5_163 dX5_wish_61 rfl rfl z_27 k_27 (by decide) rfl (Nat.le_of_ble_eq_true rfl) ⟨Nat.le_of_ble_eq_true rfl, Nat.le_of_ble_eq_true rfl, Nat.zero_le _, Nat.zero_le _⟩ ⟨rfl, rfl⟩ (fun D15 E16 hz14 => ?_)
        obtain ⟨hqD, hqE⟩ := hz14
        obtain rfl := hqE.symm
        have hKD : D15 = keepD D nx kp := hqD
        subst hKD
        have hKK := KA_keep hK hLK hY hCn hLl
        have hCk := keep_now (kp := kp) hk3 hCn
        have hLk : LA (keepD D nx kp) 15 wy r := LA_eq hLl (fun j hj => keep_fr hk3 (by omega))
        refine r_aload_n dX5_wish_64 rfl ?_
        refine r_getR (ci := 5) (k := 3) wf_X5_33 dX5_wish_65 z_0 k_0 (by decide) (by decide) (fun _ _ => rfl) f_0_3 ?_
        refine r_getR (ci := 0) (k := 7) wf_X5_178 dX5_wish_68 z_21 k_21 (by decide) (by decide) (fun _ _ => rfl) f_21_7 ?_
        refine r_iload_n dX5_wish_71 rfl ?_
        refine r_iload_n dX5_wish_72 rfl ?_
        refine r_iast dX5_wish_73 z_23 k_23 (vp_in_nI (by omega) (by decide)) (fun D17 hD17 => ?_)
        rw [nI_clamp (by omega)] at hD17
        obtain rfl : D17 = upo (keepD D nx kp) 23 (upd (keepD D nx kp 23) w (nI p)) := hD17.trans up2_eq
        refine r_aload_n dX5_wish_74 rfl ?_
        refine r_getR (ci := 5) (k := 3) wf_X5_33 dX5_wish_75 z_0 k_0 (by decide) (by decide) (fun _ _ => rfl) f_0_3 ?_
        refine r_getR (ci := 0) (k := 8) wf_X5_181 dX5_wish_78 z_21 k_21 (by decide) (by decide) (fun _ _ => rfl) f_21_8 ?_
        refine r_iload_n dX5_wish_81 rfl ?_
        refine r_iload_n dX5_wish_82 rfl ?_
        refine r_iast dX5_wish_83 z_24 k_24 (vp_in_nI (by omega) (by decide)) (fun D18 hD18 => ?_)
        rw [nI_clamp (by omega)] at hD18
        obtain rfl : D18 = upo (upo (keepD D nx kp) 23 (upd (keepD D nx kp 23) w (nI p))) 24 (upd (keepD D nx kp 24) w (nI s)) := hD18.trans (up2_eq.trans (by rw [upo_n (show (24 : Nat) ≠ 23 by decide)]))
        refine r_iload dX5_wish_84 rfl ?_
        refine r_iret2 dX5_wish_86 rfl ⟨Nat.zero_le _, Nat.zero_le _⟩ ?_
        have hc1 := CA_aim (w := w) (s := p) hCk
        have hc2 := CA_str (w := w) (s := s) hc1
        rw [upo_n (show (21 + 3 : Nat) ≠ 21 + 2 by decide)] at hc2
        have hfr : ∀ q, q ≠ 23 → q ≠ 24 → (upo (upo (keepD D nx kp) 23 (upd (keepD D nx kp 23) w (nI p))) 24 (upd (keepD D nx kp 24) w (nI s))) q = keepD D nx kp q := fun q h1 h2 => (upo_n h2).trans (upo_n h1)
        unfold a_wish
        rw [if_pos c5, if_pos c13, if_pos c23, nI_clamp (show w < 2 ^ 31 by omega), nI_clamp (show p < 2 ^ 31 by omega), nI_clamp (show s < 2 ^ 31 by omega)]
        refine ⟨rfl, ⟨Or.inr ⟨WF_set (WF_set hW (Or.inr ⟨w, hw1, by omega⟩)) (Or.inr ⟨w, by rw [rset_n (by omega)]; exact hw1, by omega⟩), T2_set (T2_set hT (by omega)) (by omega), HS_set (HS_set hS (by omega)) (by omega)⟩, hc2, LA_set (LA_set (LA_eq hLk (fun j hj => hfr _ (by omega) (by omega))) (by omega)) (by omega), fun _ => WY_set (WY_set hY (by omega)) (by omega), _, KA_eq hKK (fun q hq => hfr _ (by omega) (by omega))⟩, fun q hq => (hfr q (by omega) (by omega)).trans (keep_HX hk3 q hq), rfl⟩
      · skip
        rw [bI_0] at c23
        refine r_ldc wc_X5_77 dX5_wish_26 ?_
        refine r_iret2 dX5_wish_28 rfl ⟨Nat.zero_le _, Nat.zero_le _⟩ ?_
        unfold a_wish
        first
          | (rw [if_neg c5]; exact ⟨rfl, hX, HX.rf, rfl⟩)
          | (rw [if_pos c5, if_neg c13]; exact ⟨rfl, hX, HX.rf, rfl⟩)
          | (rw [if_pos c5, if_pos c13, if_neg c23]; exact ⟨rfl, hX, HX.rf, rfl⟩)
set_option maxRecDepth 100000 in
set_option maxHeartbeats 4000000 in
theorem c_X5_rest (B : Nat) (D : DD) (E : EE) (wy : Nat → Nat) (r : Row) (kp : Nat) (A : Nat → Row) (hX : XLK D wy r kp A) (x y : Int32) : MR yX5_rest cX5_rest 3 (some .int) rX5_rest B [.ref (B + 0), .int x, .int y] Z0 D E (Q2 Z0 (pI (AP wy D E (a_rest r kp A x y)))) := by
  obtain ⟨hO2, hCn, hLl, hYY, nx, hK⟩ := id hX
  have hO := hO2.lok
  obtain ⟨l0, l5, l4, l6, l7, l8, l1⟩ := hO.le
  obtain ⟨hk1, hk2, hk3, hk4, hk5⟩ := id hK
  refine r_enter [(0, .ref (B + 0)), (1, .int x), (2, .int y)] hv_X5_rest.1.2.2.2.2 (Nat.le_of_ble_eq_true rfl) rfl ?_
  refine r_aload_n dX5_rest_0 rfl ?_
  refine r_iload_n dX5_rest_1 rfl ?_
  refine r_callVI (As := [.int x]) (o := 0) (c_X5_isWisher B D E x (r 5) hLl.1.2.2.2.2) hv_X5_isWisher wm_X5_172 dX5_rest_2 rfl rfl z_0 k_0 (by decide) rfl (Nat.le_of_ble_eq_true rfl) ⟨Nat.le_of_ble_eq_true rfl, Nat.le_of_ble_eq_true rfl, Nat.zero_le _, Nat.zero_le _⟩ ⟨rfl, rfl⟩ (fun z1 D2 E3 hz1 => ?_)
  obtain ⟨hqV, hqD, hqE⟩ := hz1
  obtain rfl : z1 = bI (nI 0 ≤ x ∧ x ≤ nI (r 5) - nI 1) := hqV
  obtain rfl := hqD.symm
  obtain rfl := hqE.symm
  refine r_if_eq (tgt := 17) dX5_rest_5 (by decide) (fun c5 => ?_) (fun c5 => ?_)
  · skip
    rw [bI_0] at c5
    refine r_ldc wc_X5_77 dX5_rest_17 ?_
    refine r_iret2 dX5_rest_19 rfl ⟨Nat.zero_le _, Nat.zero_le _⟩ ?_
    unfold a_rest
    first
      | (rw [if_neg c5]; exact ⟨rfl, hX, HX.rf, rfl⟩)
      | (rw [if_pos c5, if_neg c14]; exact ⟨rfl, hX, HX.rf, rfl⟩)
  · skip
    rw [bI_n0] at c5
    obtain ⟨w, hw1, rfl⟩ := gd_n (by omega) c5
    have hLK := hO2.w hw1
    obtain ⟨hW, hT, hS⟩ := id hLK
    have hY := hYY hW
    obtain ⟨b1, b2, b3, b4, b5, b6, b7, b8⟩ := hW.1
    obtain ⟨⟨d1, d2⟩, d3, d4, d5, d6, ⟨d7, d8⟩, d9, d10⟩ := hW.2.2.1 w hw1
    have hrr : ∀ w, w < r 5 → r (23 + 8 * w) ≤ 1 := fun w hw => (hW.2.2.1 w hw).2.2.2.2.2.2.2
    have hr5 := rmask_lt (r 5) hrr
    have hp2 := pw2_le b7
    refine r_iload_n dX5_rest_8 rfl ?_
    refine r_iconst (nI 0) dX5_rest_9 (by decide) ?_
    refine r_iconst (nI 1) dX5_rest_10 (by decide) ?_
    refine r_callSI (As := [.int y, .int (nI 0), .int (nI 1)]) (c_X5_within B D E y (nI 0) (nI 1)) hs_X5_within wm_X5_73 rfl dX5_rest_11 rfl rfl (Nat.le_of_ble_eq_true rfl) ⟨Nat.le_of_ble_eq_true rfl, Nat.le_of_ble_eq_true rfl, Nat.zero_le _, Nat.zero_le _⟩ ⟨rfl, rfl⟩ (fun z4 D5 E6 hz4 => ?_)
    obtain ⟨hqV, hqD, hqE⟩ := hz4
    obtain rfl : z4 = bI (nI 0 ≤ y ∧ y ≤ nI 1) := hqV
    obtain rfl := hqD.symm
    obtain rfl := hqE.symm
    refine r_if_ne (tgt := 20) dX5_rest_14 (by decide) (fun c14 => ?_) (fun c14 => ?_)
    · skip
      rw [bI_n0] at c14
      obtain ⟨on, ho1, ho2, rfl⟩ := rg (by decide) (by decide) c14
      refine r_aload_n dX5_rest_20 rfl ?_
      refine r_getR (ci := 5) (k := 3) wf_X5_33 dX5_rest_21 z_0 k_0 (by decide) (by decide) (fun _ _ => rfl) f_0_3 ?_
      refine r_getI (ci := 0) (k := 5) wf_X5_184 dX5_rest_24 z_21 k_21 (by decide) (by decide) rfl (fun z7 hz7 => ?_)
      obtain rfl : z7 = nI (rmask r (r 5)) := hz7.trans hCn.1.2.2.2.2.2
      refine r_iload_n dX5_rest_27 rfl ?_
      refine r_callSI (As := [.int (nI (rmask r (r 5))), .int (nI w)]) (c_X5_bit B D E (nI (rmask r (r 5))) (nI w)) hs_X5_bit wm_X5_187 rfl dX5_rest_28 rfl rfl (Nat.le_of_ble_eq_true rfl) ⟨Nat.le_of_ble_eq_true rfl, Nat.le_of_ble_eq_true rfl, Nat.zero_le _, Nat.zero_le _⟩ ⟨rfl, rfl⟩ (fun z8 D9 E10 hz8 => ?_)
      obtain ⟨hq1, hqD, hqE⟩ := hz8
      obtain rfl := hqD.symm
      obtain rfl := hqE.symm
      obtain rfl : z8 = nI (r (23 + 8 * w)) := hq1.trans ((bit_n (by omega) (by omega)).trans (congrArg nI (rmask_bit _ hrr w hw1)))
      refine r_iload_n dX5_rest_31 rfl ?_
      refine r_icmp_ne (tgt := 38) dX5_rest_32 (by decide) (fun c32 => ?_) (fun c32 => ?_)
      · skip
        rw [nI_eq (by omega) (by omega)] at c32
        refine r_aload_n dX5_rest_38 rfl ?_
        refine r_getR (ci := 5) (k := 4) wf_X5_40 dX5_rest_39 z_0 k_0 (by decide) (by decide) (fun _ _ => rfl) f_0_4 ?_
        refine r_aload_n dX5_rest_42 rfl ?_
        refine r_getR (ci := 5) (k := 3) wf_X5_33 dX5_rest_43 z_0 k_0 (by decide) (by decide) (fun _ _ => rfl) f_0_3 ?_
        refine r_callVV (As := [.ref (B + 21)]) (o := 27) (c_X2_keep B D E nx kp hk1 hk2 hk3 hk4) hv_X2_keep wm_X5_163 dX5_rest_46 rfl rfl z_27 k_27 (by decide) rfl (Nat.le_of_ble_eq_true rfl) ⟨Nat.le_of_ble_eq_true rfl, Nat.le_of_ble_eq_true rfl, Nat.zero_le _, Nat.zero_le _⟩ ⟨rfl, rfl⟩ (fun D12 E13 hz11 => ?_)
        obtain ⟨hqD, hqE⟩ := hz11
        obtain rfl := hqE.symm
        have hKD : D12 = keepD D nx kp := hqD
        subst hKD
        have hKK := KA_keep hK hLK hY hCn hLl
        have hCk := keep_now (kp := kp) hk3 hCn
        have hLk : LA (keepD D nx kp) 15 wy r := LA_eq hLl (fun j hj => keep_fr hk3 (by omega))
        refine r_aload_n dX5_rest_49 rfl ?_
        refine r_getR (ci := 5) (k := 3) wf_X5_33 dX5_rest_50 z_0 k_0 (by decide) (by decide) (fun _ _ => rfl) f_0_3 ?_
        refine r_dup dX5_rest_53 rfl ?_
        refine r_getI (ci := 0) (k := 5) wf_X5_184 dX5_rest_54 z_21 k_21 (by decide) (by decide) rfl (fun z14 hz14 => ?_)
        obtain rfl : z14 = nI (rmask r (r 5)) := hz14.trans hCk.1.2.2.2.2.2
        refine r_iconst (nI 1) dX5_rest_57 (by decide) ?_
        refine r_iload_n dX5_rest_58 rfl ?_
        refine r_ishl dX5_rest_59 (fun z15 hz15 => ?_)
        obtain rfl : z15 = nI (2 ^ w) := hz15.trans (shl_1 (by omega))
        refine r_ixor dX5_rest_60 (fun z16 hz16 => ?_)
        obtain rfl : z16 = nI (rmask (rset r (23 + 8 * w) on) (r 5)) := hz16.trans ((nI_xor _ _).trans (congrArg nI (rmask_flip hrr hw1 (by omega) c32)))
        refine r_putI (ci := 0) (k := 5) wf_X5_184 dX5_rest_61 z_21 k_21 (by decide) (by decide) rfl rfl (fun D17 hD17 => ?_)
        obtain rfl : D17 = upo (keepD D nx kp) 21 (upd (keepD D nx kp 21) 5 (nI (rmask (rset r (23 + 8 * w) on) (r 5)))) := hD17.trans up2_eq
        refine r_aload_n dX5_rest_64 rfl ?_
        refine r_getR (ci := 5) (k := 3) wf_X5_33 dX5_rest_65 z_0 k_0 (by decide) (by decide) (fun _ _ => rfl) f_0_3 ?_
        refine r_getI (ci := 0) (k := 5) wf_X5_184 dX5_rest_68 z_21 k_21 (by decide) (by decide) rfl (fun z18 hz18 => ?_)
        obtain rfl : z18 = nI (rmask (rset r (23 + 8 * w) on) (r 5)) := hz18.trans ((congrFun upo_s 5).trans pk_us)
        have hWr : WF (rset r (23 + 8 * w) on) := WF_set hW (Or.inr ⟨w, hw1, by omega⟩)
        have hrm : rmask (rset r (23 + 8 * w) on) (r 5) < 2 ^ r 5 := rmask_lt (r 5) (fun w' hw' => (hWr.2.2.1 w' (by rw [rset_n (by omega)]; exact hw')).2.2.2.2.2.2.2)
        refine r_callSOI (As := [.int (nI (rmask (rset r (23 + 8 * w) on) (r 5)))]) (c_J6_bitCount_0f7a4 B (upo (keepD D nx kp) 21 (upd (keepD D nx kp 21) 5 (nI (rmask (rset r (23 + 8 * w) on) (r 5))))) E (rmask (rset r (23 + 8 * w) on) (r 5)) (by omega)) hs_J6_bitCount_0f7a4 wm_X5_191 dX5_rest_71 rfl rfl (Nat.le_of_ble_eq_true rfl) ⟨Nat.le_of_ble_eq_true rfl, Nat.le_of_ble_eq_true rfl, Nat.zero_le _, Nat.zero_le _⟩ ⟨rfl, rfl⟩ (fun z19 D20 E21 hz19 => ?_)
        obtain ⟨hqV, hqD, hqE⟩ := hz19
        obtain rfl : z19 = nI (s_bits (rmask (rset r (23 + 8 * w) on) (r 5))) := hqV
        obtain rfl := hqD.symm
        obtain rfl := hqE.symm
        refine r_iret2 dX5_rest_74 rfl ⟨Nat.zero_le _, Nat.zero_le _⟩ ?_
        have hfr : ∀ q, q ≠ 21 → (upo (keepD D nx kp) 21 (upd (keepD D nx kp 21) 5 (nI (rmask (rset r (23 + 8 * w) on) (r 5))))) q = keepD D nx kp q := fun q h1 => upo_n h1
        unfold a_rest
        rw [if_pos c5, if_pos c14, nI_clamp (show w < 2 ^ 31 by omega), if_neg (fun q => c32 ((nI_eq (by omega) (by omega)).mp q)), nI_clamp (show on < 2 ^ 31 by omega)]
        refine ⟨rfl, ⟨Or.inr ⟨hWr, T2_set hT (by omega), HS_set hS (by omega)⟩, CA_rs hCk, LA_set (LA_eq hLk (fun j hj => hfr _ (by omega))) (by omega), fun _ => WY_set hY (by omega), _, KA_eq hKK (fun q hq => hfr _ (by omega))⟩, fun q hq => (hfr q (by omega)).trans (keep_HX hk3 q hq), rfl⟩
      · skip
        rw [nI_eq (by omega) (by omega)] at c32
        refine r_ldc wc_X5_152 dX5_rest_35 ?_
        refine r_iret2 dX5_rest_37 rfl ⟨Nat.zero_le _, Nat.zero_le _⟩ ?_
        unfold a_rest
        rw [if_pos c5, if_pos c14, nI_clamp (show w < 2 ^ 31 by omega), if_pos (congrArg nI c32)]
        exact ⟨rfl, hX, HX.rf, rfl⟩
    · skip
      rw [bI_0] at c14
      refine r_ldc wc_X5_77 dX5_rest_17 ?_
      refine r_iret2 dX5_rest_19 rfl ⟨Nat.zero_le _, Nat.zero_le _⟩ ?_
      unfold a_rest
      first
        | (rw [if_neg c5]; exact ⟨rfl, hX, HX.rf, rfl⟩)
        | (rw [if_pos c5, if_neg c14]; exact ⟨rfl, hX, HX.rf, rfl⟩)
