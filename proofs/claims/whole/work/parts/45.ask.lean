set_option maxRecDepth 100000 in
set_option maxHeartbeats 4000000 in
theorem c_X6_began (B : Nat) (D : DD) (E : EE) (b : Int32) (t : TRt) (hT : TRm D t) : MR yX6_began cX6_began 2 none rX6_began B [.ref (B + 219), .int b] Z0 D E (Q2 Z0 (pV (fun D' E' => TRm D' (s_lv t b) ∧ FTm D D' ∧ E' = E))) := by
  obtain ⟨h1, h2, h3⟩ := id hT
  refine r_enter [(0, .ref (B + 219)), (1, .int b)] hv_X6_began.1.2.2.2.2 (Nat.le_of_ble_eq_true rfl) rfl ?_
  refine r_aload_n dX6_began_0 rfl ?_
  refine r_getI (ci := 6) (k := 25) wf_X6_252 dX6_began_1 z_219 k_219 (by decide) (by decide) rfl (fun z1 hz1 => ?_)
  obtain rfl : z1 = nI t.1 := hz1.trans h1
  refine r_bipush (nI 16) dX6_began_4 (by decide) ?_
  refine r_icmp_ge (tgt := 29) dX6_began_6 (by decide) (fun c6 => ?_) (fun c6 => ?_)
  · skip
    rw [nI_leI (by omega) (by omega)] at c6
    refine r_vret2 dX6_began_29 rfl ⟨Nat.zero_le _, Nat.zero_le _⟩ ?_
    first
      | exact ⟨(lvm_ok hT (by omega)).1, (lvm_ok hT (by omega)).2, rfl⟩
      | (unfold s_lv; rw [if_neg (by omega)]; exact ⟨hT, FTm.rf, rfl⟩)
  · skip
    rw [nI_leI (by omega) (by omega)] at c6
    refine r_aload_n dX6_began_9 rfl ?_
    refine r_getR (ci := 6) (k := 24) wf_X6_51 dX6_began_10 z_219 k_219 (by decide) (by decide) (fun _ _ => rfl) f_219_24 ?_
    refine r_aload_n dX6_began_13 rfl ?_
    refine r_getI (ci := 6) (k := 25) wf_X6_252 dX6_began_14 z_219 k_219 (by decide) (by decide) rfl (fun z2 hz2 => ?_)
    obtain rfl : z2 = nI t.1 := hz2.trans h1
    refine r_iload_n dX6_began_17 rfl ?_
    refine r_iast dX6_began_18 z_233 k_233 (vp_in_nI (by omega) (by decide)) (fun D3 hD3 => ?_)
    rw [nI_clamp (by omega)] at hD3
    obtain rfl : D3 = upo D 233 (upd (D 233) t.1 b) := hD3.trans up2_eq
    refine r_aload_n dX6_began_19 rfl ?_
    refine r_dup dX6_began_20 rfl ?_
    refine r_getI (ci := 6) (k := 25) wf_X6_252 dX6_began_21 z_219 k_219 (by decide) (by decide) rfl (fun z4 hz4 => ?_)
    obtain rfl : z4 = nI t.1 := hz4.trans ((congrFun (upo_n (by decide)) 25).trans h1)
    refine r_iconst (nI 1) dX6_began_24 (by decide) ?_
    refine r_iadd dX6_began_25 (fun z5 hz5 => ?_)
    obtain rfl : z5 = nI (t.1 + 1) := (hz5.trans (nI_add _ _))
    refine r_putI (ci := 6) (k := 25) wf_X6_252 dX6_began_26 z_219 k_219 (by decide) (by decide) rfl rfl (fun D6 hD6 => ?_)
    obtain rfl : D6 = lvM D t b := hD6.trans (up2_eq.trans (congrArg (fun g => upo (upo D 233 (upd (D 233) t.1 b)) 219 (upd g 25 (nI (t.1 + 1)))) (upo_n (by decide))))
    refine r_vret2 dX6_began_29 rfl ⟨Nat.zero_le _, Nat.zero_le _⟩ ?_
    first
      | exact ⟨(lvm_ok hT (by omega)).1, (lvm_ok hT (by omega)).2, rfl⟩
      | (unfold s_lv; rw [if_neg (by omega)]; exact ⟨hT, FTm.rf, rfl⟩)
set_option maxRecDepth 100000 in
set_option maxHeartbeats 4000000 in
theorem c_X6_plainSize (B : Nat) (D : DD) (E : EE) (r : Row) (w : Nat) (hM : MA D 223 r) (hk1 : 1 ≤ r (16 + 8 * w)) (hk5 : r (16 + 8 * w) ≤ 5) (hw6 : w < 6) (t : TRt) (hT : TRm D t) : MR yX6_plainSize cX6_plainSize 2 (some .int) rX6_plainSize B [.ref (B + 219), .int (nI w)] Z0 D E (Q2 Z0 (pI (fun v D' E' => v = ((nI (r (19 + 8 * w)), s_lv t (nI 10))).1 ∧ TRm D' ((nI (r (19 + 8 * w)), s_lv t (nI 10))).2 ∧ FTm D D' ∧ E' = E))) := by
  have hM_D := hM
  have hT_D := hT
  have hF_D : FTm D D := FTm.rf
  refine r_enter [(0, .ref (B + 219)), (1, .int (nI w))] hv_X6_plainSize.1.2.2.2.2 (Nat.le_of_ble_eq_true rfl) rfl ?_
  refine r_aload_n dX6_plainSize_0 rfl ?_
  refine r_bipush (nI 10) dX6_plainSize_1 (by decide) ?_
  refine r_callVV (As := [.int (nI 10)]) (o := 219) (c_X6_began B D E (nI 10) _ hT_D) hv_X6_began wm_X6_255 dX6_plainSize_3 rfl rfl z_219 k_219 (by decide) rfl (Nat.le_of_ble_eq_true rfl) ⟨Nat.le_of_ble_eq_true rfl, Nat.le_of_ble_eq_true rfl, Nat.zero_le _, Nat.zero_le _⟩ ⟨rfl, rfl⟩ (fun D2 E3 hz1 => ?_)
  obtain ⟨hq2, hq3, hqE⟩ := hz1
  obtain rfl := hqE.symm
  have hT_D2 := hq2
  have hF_D2 := hF_D.trans hq3
  have hM_D2 := hq3.ma hM_D
  refine r_aload_n dX6_plainSize_6 rfl ?_
  refine r_getR (ci := 6) (k := 5) wf_X6_19 dX6_plainSize_7 z_219 k_219 (by decide) (by decide) (fun _ _ => rfl) f_219_5 ?_
  refine r_iload_n dX6_plainSize_10 rfl ?_
  refine r_iconst (nI 3) dX6_plainSize_11 (by decide) ?_
  refine r_callSI (As := [.ref (B + 223), .int (nI w), .int (nI 3)]) (c_X6_of B D2 E 223 (Or.inl rfl) w 3 (by omega)) hs_X6_of wm_X6_159 rfl dX6_plainSize_12 rfl rfl (Nat.le_of_ble_eq_true rfl) ⟨Nat.le_of_ble_eq_true rfl, Nat.le_of_ble_eq_true rfl, Nat.zero_le _, Nat.zero_le _⟩ ⟨rfl, rfl⟩ (fun z4 D5 E6 hz4 => ?_)
  obtain ⟨hq1, hqD, hqE⟩ := hz4
  obtain rfl := hqD.symm
  obtain rfl := hqE.symm
  obtain rfl : z4 = nI (r (19 + 8 * w)) := hq1.trans (MA_at hM_D2 (by omega) (by omega))
  refine r_iret2 dX6_plainSize_15 rfl ⟨Nat.zero_le _, Nat.zero_le _⟩ ?_
  exact ⟨rfl, hT_D2, hF_D2, rfl⟩
set_option maxRecDepth 100000 in
set_option maxHeartbeats 4000000 in
theorem c_X6_childSize (B : Nat) (D : DD) (E : EE) (r : Row) (w : Nat) (hM : MA D 223 r) (hk1 : 1 ≤ r (16 + 8 * w)) (hk5 : r (16 + 8 * w) ≤ 5) (hw6 : w < 6) (t : TRt) (hT : TRm D t) : MR yX6_childSize cX6_childSize 4 (some .int) rX6_childSize B [.ref (B + 219), .int (nI w)] Z0 D E (Q2 Z0 (pI (fun v D' E' => v = (k_cs r w t).1 ∧ TRm D' (k_cs r w t).2 ∧ FTm D D' ∧ E' = E))) := by
  have hM_D := hM
  have hT_D := hT
  have hF_D : FTm D D := FTm.rf
  refine r_enter [(0, .ref (B + 219)), (1, .int (nI w))] hv_X6_childSize.1.2.2.2.2 (Nat.le_of_ble_eq_true rfl) rfl ?_
  refine r_aload_n dX6_childSize_0 rfl ?_
  refine r_getR (ci := 6) (k := 5) wf_X6_19 dX6_childSize_1 z_219 k_219 (by decide) (by decide) (fun _ _ => rfl) f_219_5 ?_
  refine r_iload_n dX6_childSize_4 rfl ?_
  refine r_iconst (nI 0) dX6_childSize_5 (by decide) ?_
  refine r_callSI (As := [.ref (B + 223), .int (nI w), .int (nI 0)]) (c_X6_of B D E 223 (Or.inl rfl) w 0 (by omega)) hs_X6_of wm_X6_159 rfl dX6_childSize_6 rfl rfl (Nat.le_of_ble_eq_true rfl) ⟨Nat.le_of_ble_eq_true rfl, Nat.le_of_ble_eq_true rfl, Nat.zero_le _, Nat.zero_le _⟩ ⟨rfl, rfl⟩ (fun z1 D2 E3 hz1 => ?_)
  obtain ⟨hq1, hqD, hqE⟩ := hz1
  obtain rfl := hqD.symm
  obtain rfl := hqE.symm
  obtain rfl : z1 = nI (r (16 + 8 * w)) := hq1.trans (MA_at hM_D (by omega) (by omega))
  refine r_iconst (nI 5) dX6_childSize_9 (by decide) ?_
  refine r_icmp_ne (tgt := 17) dX6_childSize_10 (by decide) (fun c10 => ?_) (fun c10 => ?_)
  · skip
    rw [nI_eq (by omega) (by omega)] at c10
    refine r_iconst (nI 0) dX6_childSize_17 (by decide) ?_
    refine r_istore_n [(2, .int (nI 0)), (0, .ref (B + 219)), (1, .int (nI w))] dX6_childSize_18 (by decide) rfl ?_
    refine r_iload_n dX6_childSize_19 rfl ?_
    refine r_if_eq (tgt := 29) dX6_childSize_20 (by decide) (fun c20 => ?_) (fun c20 => ?_)
    · skip
      rw [nI_z (by omega)] at c20
      refine r_aload_n dX6_childSize_29 rfl ?_
      refine r_bipush (nI 13) dX6_childSize_30 (by decide) ?_
      refine r_callVV (As := [.int (nI 13)]) (o := 219) (c_X6_began B D E (nI 13) _ hT_D) hv_X6_began wm_X6_255 dX6_childSize_32 rfl rfl z_219 k_219 (by decide) rfl (Nat.le_of_ble_eq_true rfl) ⟨Nat.le_of_ble_eq_true rfl, Nat.le_of_ble_eq_true rfl, Nat.zero_le _, Nat.zero_le _⟩ ⟨rfl, rfl⟩ (fun D5 E6 hz4 => ?_)
      obtain ⟨hq2, hq3, hqE⟩ := hz4
      obtain rfl := hqE.symm
      have hT_D5 := hq2
      have hF_D5 := hF_D.trans hq3
      have hM_D5 := hq3.ma hM_D
      refine r_aload_n dX6_childSize_35 rfl ?_
      refine r_iload_n dX6_childSize_36 rfl ?_
      refine r_callVI (As := [.int (nI w)]) (o := 219) (c_X6_plainSize B D5 E r w hM_D5 hk1 hk5 hw6 _ hT_D5) hv_X6_plainSize wm_X6_258 dX6_childSize_37 rfl rfl z_219 k_219 (by decide) rfl (Nat.le_of_ble_eq_true rfl) ⟨Nat.le_of_ble_eq_true rfl, Nat.le_of_ble_eq_true rfl, Nat.zero_le _, Nat.zero_le _⟩ ⟨rfl, rfl⟩ (fun z7 D8 E9 hz7 => ?_)
      obtain ⟨hq1, hq2, hq3, hqE⟩ := hz7
      obtain rfl := hq1.symm
      obtain rfl := hqE.symm
      have hT_D8 := hq2
      have hF_D8 := hF_D5.trans hq3
      have hM_D8 := hq3.ma hM_D5
      refine r_bipush (nI 100) dX6_childSize_40 (by decide) ?_
      refine r_isub dX6_childSize_42 (fun z10 hz10 => ?_)
      subst hz10
      refine r_istore_n [(3, .int ((nI (r (19 + 8 * w))) - (nI 100))), (2, .int (nI 0)), (0, .ref (B + 219)), (1, .int (nI w))] dX6_childSize_43 (by decide) rfl ?_
      refine r_iload_n dX6_childSize_44 rfl ?_
      refine r_if_eq (tgt := 54) dX6_childSize_45 (by decide) (fun c45 => ?_) (fun c45 => ?_)
      · skip
        rw [nI_z (by omega)] at c45
        refine r_iload_n dX6_childSize_54 rfl ?_
        refine r_iret2 dX6_childSize_55 rfl ⟨Nat.zero_le _, Nat.zero_le _⟩ ?_
        first
          | (exfalso; omega)
          | (unfold k_cs; rw [if_pos c10]; exact ⟨rfl, hT_D8, hF_D8, rfl⟩)
          | (unfold k_cs; rw [if_neg c10]; exact ⟨rfl, hT_D8, hF_D8, rfl⟩)
      · skip
        rw [nI_z (by omega)] at c45
        refine r_iconst (nI 2) dX6_childSize_48 (by decide) ?_
        refine r_iload_n dX6_childSize_49 rfl ?_
        refine r_imul dX6_childSize_50 (fun z11 hz11 => ?_)
        subst hz11
        refine r_goto (tgt := 55) dX6_childSize_51 (by decide) ?_
        refine r_iret2 dX6_childSize_55 rfl ⟨Nat.zero_le _, Nat.zero_le _⟩ ?_
        first
          | (exfalso; omega)
          | (unfold k_cs; rw [if_pos c10]; exact ⟨rfl, hT_D8, hF_D8, rfl⟩)
          | (unfold k_cs; rw [if_neg c10]; exact ⟨rfl, hT_D8, hF_D8, rfl⟩)
    · skip
      rw [nI_z (by omega)] at c20
      refine r_aload_n dX6_childSize_23 rfl ?_
      refine r_bipush (nI 14) dX6_childSize_24 (by decide) ?_
      refine r_callVV (As := [.int (nI 14)]) (o := 219) (c_X6_began B D E (nI 14) _ hT_D) hv_X6_began wm_X6_255 dX6_childSize_26 rfl rfl z_219 k_219 (by decide) rfl (Nat.le_of_ble_eq_true rfl) ⟨Nat.le_of_ble_eq_true rfl, Nat.le_of_ble_eq_true rfl, Nat.zero_le _, Nat.zero_le _⟩ ⟨rfl, rfl⟩ (fun D13 E14 hz12 => ?_)
      obtain ⟨hq2, hq3, hqE⟩ := hz12
      obtain rfl := hqE.symm
      have hT_D13 := hq2
      have hF_D13 := hF_D.trans hq3
      have hM_D13 := hq3.ma hM_D
      refine r_aload_n dX6_childSize_29 rfl ?_
      refine r_bipush (nI 13) dX6_childSize_30 (by decide) ?_
      refine r_callVV (As := [.int (nI 13)]) (o := 219) (c_X6_began B D13 E (nI 13) _ hT_D13) hv_X6_began wm_X6_255 dX6_childSize_32 rfl rfl z_219 k_219 (by decide) rfl (Nat.le_of_ble_eq_true rfl) ⟨Nat.le_of_ble_eq_true rfl, Nat.le_of_ble_eq_true rfl, Nat.zero_le _, Nat.zero_le _⟩ ⟨rfl, rfl⟩ (fun D16 E17 hz15 => ?_)
      obtain ⟨hq2, hq3, hqE⟩ := hz15
      obtain rfl := hqE.symm
      have hT_D16 := hq2
      have hF_D16 := hF_D13.trans hq3
      have hM_D16 := hq3.ma hM_D13
      refine r_aload_n dX6_childSize_35 rfl ?_
      refine r_iload_n dX6_childSize_36 rfl ?_
      refine r_callVI (As := [.int (nI w)]) (o := 219) (c_X6_plainSize B D16 E r w hM_D16 hk1 hk5 hw6 _ hT_D16) hv_X6_plainSize wm_X6_258 dX6_childSize_37 rfl rfl z_219 k_219 (by decide) rfl (Nat.le_of_ble_eq_true rfl) ⟨Nat.le_of_ble_eq_true rfl, Nat.le_of_ble_eq_true rfl, Nat.zero_le _, Nat.zero_le _⟩ ⟨rfl, rfl⟩ (fun z18 D19 E20 hz18 => ?_)
      obtain ⟨hq1, hq2, hq3, hqE⟩ := hz18
      obtain rfl := hq1.symm
      obtain rfl := hqE.symm
      have hT_D19 := hq2
      have hF_D19 := hF_D16.trans hq3
      have hM_D19 := hq3.ma hM_D16
      refine r_bipush (nI 100) dX6_childSize_40 (by decide) ?_
      refine r_isub dX6_childSize_42 (fun z21 hz21 => ?_)
      subst hz21
      refine r_istore_n [(3, .int ((nI (r (19 + 8 * w))) - (nI 100))), (2, .int (nI 0)), (0, .ref (B + 219)), (1, .int (nI w))] dX6_childSize_43 (by decide) rfl ?_
      refine r_iload_n dX6_childSize_44 rfl ?_
      refine r_if_eq (tgt := 54) dX6_childSize_45 (by decide) (fun c45 => ?_) (fun c45 => ?_)
      · skip
        rw [nI_z (by omega)] at c45
        refine r_iload_n dX6_childSize_54 rfl ?_
        refine r_iret2 dX6_childSize_55 rfl ⟨Nat.zero_le _, Nat.zero_le _⟩ ?_
        first
          | (exfalso; omega)
          | (unfold k_cs; rw [if_pos c10]; exact ⟨rfl, hT_D19, hF_D19, rfl⟩)
          | (unfold k_cs; rw [if_neg c10]; exact ⟨rfl, hT_D19, hF_D19, rfl⟩)
      · skip
        rw [nI_z (by omega)] at c45
        refine r_iconst (nI 2) dX6_childSize_48 (by decide) ?_
        refine r_iload_n dX6_childSize_49 rfl ?_
        refine r_imul dX6_childSize_50 (fun z22 hz22 => ?_)
        subst hz22
        refine r_goto (tgt := 55) dX6_childSize_51 (by decide) ?_
        refine r_iret2 dX6_childSize_55 rfl ⟨Nat.zero_le _, Nat.zero_le _⟩ ?_
        first
          | (exfalso; omega)
          | (unfold k_cs; rw [if_pos c10]; exact ⟨rfl, hT_D19, hF_D19, rfl⟩)
          | (unfold k_cs; rw [if_neg c10]; exact ⟨rfl, hT_D19, hF_D19, rfl⟩)
  · skip
    rw [nI_eq (by omega) (by omega)] at c10
    refine r_iconst (nI 1) dX6_childSize_13 (by decide) ?_
    refine r_goto (tgt := 18) dX6_childSize_14 (by decide) ?_
    refine r_istore_n [(2, .int (nI 1)), (0, .ref (B + 219)), (1, .int (nI w))] dX6_childSize_18 (by decide) rfl ?_
    refine r_iload_n dX6_childSize_19 rfl ?_
    refine r_if_eq (tgt := 29) dX6_childSize_20 (by decide) (fun c20 => ?_) (fun c20 => ?_)
    · skip
      rw [nI_z (by omega)] at c20
      refine r_aload_n dX6_childSize_29 rfl ?_
      refine r_bipush (nI 13) dX6_childSize_30 (by decide) ?_
      refine r_callVV (As := [.int (nI 13)]) (o := 219) (c_X6_began B D E (nI 13) _ hT_D) hv_X6_began wm_X6_255 dX6_childSize_32 rfl rfl z_219 k_219 (by decide) rfl (Nat.le_of_ble_eq_true rfl) ⟨Nat.le_of_ble_eq_true rfl, Nat.le_of_ble_eq_true rfl, Nat.zero_le _, Nat.zero_le _⟩ ⟨rfl, rfl⟩ (fun D24 E25 hz23 => ?_)
      obtain ⟨hq2, hq3, hqE⟩ := hz23
      obtain rfl := hqE.symm
      have hT_D24 := hq2
      have hF_D24 := hF_D.trans hq3
      have hM_D24 := hq3.ma hM_D
      refine r_aload_n dX6_childSize_35 rfl ?_
      refine r_iload_n dX6_childSize_36 rfl ?_
      refine r_callVI (As := [.int (nI w)]) (o := 219) (c_X6_plainSize B D24 E r w hM_D24 hk1 hk5 hw6 _ hT_D24) hv_X6_plainSize wm_X6_258 dX6_childSize_37 rfl rfl z_219 k_219 (by decide) rfl (Nat.le_of_ble_eq_true rfl) ⟨Nat.le_of_ble_eq_true rfl, Nat.le_of_ble_eq_true rfl, Nat.zero_le _, Nat.zero_le _⟩ ⟨rfl, rfl⟩ (fun z26 D27 E28 hz26 => ?_)
      obtain ⟨hq1, hq2, hq3, hqE⟩ := hz26
      obtain rfl := hq1.symm
      obtain rfl := hqE.symm
      have hT_D27 := hq2
      have hF_D27 := hF_D24.trans hq3
      have hM_D27 := hq3.ma hM_D24
      refine r_bipush (nI 100) dX6_childSize_40 (by decide) ?_
      refine r_isub dX6_childSize_42 (fun z29 hz29 => ?_)
      subst hz29
      refine r_istore_n [(3, .int ((nI (r (19 + 8 * w))) - (nI 100))), (2, .int (nI 1)), (0, .ref (B + 219)), (1, .int (nI w))] dX6_childSize_43 (by decide) rfl ?_
      refine r_iload_n dX6_childSize_44 rfl ?_
      refine r_if_eq (tgt := 54) dX6_childSize_45 (by decide) (fun c45 => ?_) (fun c45 => ?_)
      · skip
        rw [nI_z (by omega)] at c45
        refine r_iload_n dX6_childSize_54 rfl ?_
        refine r_iret2 dX6_childSize_55 rfl ⟨Nat.zero_le _, Nat.zero_le _⟩ ?_
        first
          | (exfalso; omega)
          | (unfold k_cs; rw [if_pos c10]; exact ⟨rfl, hT_D27, hF_D27, rfl⟩)
          | (unfold k_cs; rw [if_neg c10]; exact ⟨rfl, hT_D27, hF_D27, rfl⟩)
      · skip
        rw [nI_z (by omega)] at c45
        refine r_iconst (nI 2) dX6_childSize_48 (by decide) ?_
        refine r_iload_n dX6_childSize_49 rfl ?_
        refine r_imul dX6_childSize_50 (fun z30 hz30 => ?_)
        subst hz30
        refine r_goto (tgt := 55) dX6_childSize_51 (by decide) ?_
        refine r_iret2 dX6_childSize_55 rfl ⟨Nat.zero_le _, Nat.zero_le _⟩ ?_
        first
          | (exfalso; omega)
          | (unfold k_cs; rw [if_pos c10]; exact ⟨rfl, hT_D27, hF_D27, rfl⟩)
          | (unfold k_cs; rw [if_neg c10]; exact ⟨rfl, hT_D27, hF_D27, rfl⟩)
    · skip
      rw [nI_z (by omega)] at c20
      refine r_aload_n dX6_childSize_23 rfl ?_
      refine r_bipush (nI 14) dX6_childSize_24 (by decide) ?_
      refine r_callVV (As := [.int (nI 14)]) (o := 219) (c_X6_began B D E (nI 14) _ hT_D) hv_X6_began wm_X6_255 dX6_childSize_26 rfl rfl z_219 k_219 (by decide) rfl (Nat.le_of_ble_eq_true rfl) ⟨Nat.le_of_ble_eq_true rfl, Nat.le_of_ble_eq_true rfl, Nat.zero_le _, Nat.zero_le _⟩ ⟨rfl, rfl⟩ (fun D32 E33 hz31 => ?_)
      obtain ⟨hq2, hq3, hqE⟩ := hz31
      obtain rfl := hqE.symm
      have hT_D32 := hq2
      have hF_D32 := hF_D.trans hq3
      have hM_D32 := hq3.ma hM_D
      refine r_aload_n dX6_childSize_29 rfl ?_
      refine r_bipush (nI 13) dX6_childSize_30 (by decide) ?_
      refine r_callVV (As := [.int (nI 13)]) (o := 219) (c_X6_began B D32 E (nI 13) _ hT_D32) hv_X6_began wm_X6_255 dX6_childSize_32 rfl rfl z_219 k_219 (by decide) rfl (Nat.le_of_ble_eq_true rfl) ⟨Nat.le_of_ble_eq_true rfl, Nat.le_of_ble_eq_true rfl, Nat.zero_le _, Nat.zero_le _⟩ ⟨rfl, rfl⟩ (fun D35 E36 hz34 => ?_)
      obtain ⟨hq2, hq3, hqE⟩ := hz34
      obtain rfl := hqE.symm
      have hT_D35 := hq2
      have hF_D35 := hF_D32.trans hq3
      have hM_D35 := hq3.ma hM_D32
      refine r_aload_n dX6_childSize_35 rfl ?_
      refine r_iload_n dX6_childSize_36 rfl ?_
      refine r_callVI (As := [.int (nI w)]) (o := 219) (c_X6_plainSize B D35 E r w hM_D35 hk1 hk5 hw6 _ hT_D35) hv_X6_plainSize wm_X6_258 dX6_childSize_37 rfl rfl z_219 k_219 (by decide) rfl (Nat.le_of_ble_eq_true rfl) ⟨Nat.le_of_ble_eq_true rfl, Nat.le_of_ble_eq_true rfl, Nat.zero_le _, Nat.zero_le _⟩ ⟨rfl, rfl⟩ (fun z37 D38 E39 hz37 => ?_)
      obtain ⟨hq1, hq2, hq3, hqE⟩ := hz37
      obtain rfl := hq1.symm
      obtain rfl := hqE.symm
      have hT_D38 := hq2
      have hF_D38 := hF_D35.trans hq3
      have hM_D38 := hq3.ma hM_D35
      refine r_bipush (nI 100) dX6_childSize_40 (by decide) ?_
      refine r_isub dX6_childSize_42 (fun z40 hz40 => ?_)
      subst hz40
      refine r_istore_n [(3, .int ((nI (r (19 + 8 * w))) - (nI 100))), (2, .int (nI 1)), (0, .ref (B + 219)), (1, .int (nI w))] dX6_childSize_43 (by decide) rfl ?_
      refine r_iload_n dX6_childSize_44 rfl ?_
      refine r_if_eq (tgt := 54) dX6_childSize_45 (by decide) (fun c45 => ?_) (fun c45 => ?_)
      · skip
        rw [nI_z (by omega)] at c45
        refine r_iload_n dX6_childSize_54 rfl ?_
        refine r_iret2 dX6_childSize_55 rfl ⟨Nat.zero_le _, Nat.zero_le _⟩ ?_
        first
          | (exfalso; omega)
          | (unfold k_cs; rw [if_pos c10]; exact ⟨rfl, hT_D38, hF_D38, rfl⟩)
          | (unfold k_cs; rw [if_neg c10]; exact ⟨rfl, hT_D38, hF_D38, rfl⟩)
      · skip
        rw [nI_z (by omega)] at c45
        refine r_iconst (nI 2) dX6_childSize_48 (by decide) ?_
        refine r_iload_n dX6_childSize_49 rfl ?_
        refine r_imul dX6_childSize_50 (fun z41 hz41 => ?_)
        subst hz41
        refine r_goto (tgt := 55) dX6_childSize_51 (by decide) ?_
        refine r_iret2 dX6_childSize_55 rfl ⟨Nat.zero_le _, Nat.zero_le _⟩ ?_
        first
          | (exfalso; omega)
          | (unfold k_cs; rw [if_pos c10]; exact ⟨rfl, hT_D38, hF_D38, rfl⟩)
          | (unfold k_cs; rw [if_neg c10]; exact ⟨rfl, hT_D38, hF_D38, rfl⟩)
set_option maxRecDepth 100000 in
set_option maxHeartbeats 4000000 in
theorem c_X6_markOf (B : Nat) (D : DD) (E : EE) (r : Row) (w : Nat) (hM : MA D 223 r) (hk1 : 1 ≤ r (16 + 8 * w)) (hk5 : r (16 + 8 * w) ≤ 5) (hw6 : w < 6) (t : TRt) (hT : TRm D t) : MR yX6_markOf cX6_markOf 4 (some .int) rX6_markOf B [.ref (B + 219), .int (nI w)] Z0 D E (Q2 Z0 (pI (fun v D' E' => v = (k_mk r w t).1 ∧ TRm D' (k_mk r w t).2 ∧ FTm D D' ∧ E' = E))) := by
  have hM_D := hM
  have hT_D := hT
  have hF_D : FTm D D := FTm.rf
  refine r_enter [(0, .ref (B + 219)), (1, .int (nI w))] hv_X6_markOf.1.2.2.2.2 (Nat.le_of_ble_eq_true rfl) rfl ?_
  refine r_aload_n dX6_markOf_0 rfl ?_
  refine r_getR (ci := 6) (k := 5) wf_X6_19 dX6_markOf_1 z_219 k_219 (by decide) (by decide) (fun _ _ => rfl) f_219_5 ?_
  refine r_iload_n dX6_markOf_4 rfl ?_
  refine r_iconst (nI 0) dX6_markOf_5 (by decide) ?_
  refine r_callSI (As := [.ref (B + 223), .int (nI w), .int (nI 0)]) (c_X6_of B D E 223 (Or.inl rfl) w 0 (by omega)) hs_X6_of wm_X6_159 rfl dX6_markOf_6 rfl rfl (Nat.le_of_ble_eq_true rfl) ⟨Nat.le_of_ble_eq_true rfl, Nat.le_of_ble_eq_true rfl, Nat.zero_le _, Nat.zero_le _⟩ ⟨rfl, rfl⟩ (fun z1 D2 E3 hz1 => ?_)
  obtain ⟨hq1, hqD, hqE⟩ := hz1
  obtain rfl := hqD.symm
  obtain rfl := hqE.symm
  obtain rfl : z1 = nI (r (16 + 8 * w)) := hq1.trans (MA_at hM_D (by omega) (by omega))
  refine r_istore_n [(2, .int (nI (r (16 + 8 * w)))), (0, .ref (B + 219)), (1, .int (nI w))] dX6_markOf_9 (by decide) rfl ?_
  refine r_iload_n dX6_markOf_10 rfl ?_
  refine r_iconst (nI 4) dX6_markOf_11 (by decide) ?_
  refine r_icmp_lt (tgt := 35) dX6_markOf_12 (by decide) (fun c12 => ?_) (fun c12 => ?_)
  · skip
    rw [nI_ltI (by omega) (by omega)] at c12
    refine r_iload_n dX6_markOf_35 rfl ?_
    refine r_iconst (nI 1) dX6_markOf_36 (by decide) ?_
    refine r_icmp_eq (tgt := 56) dX6_markOf_37 (by decide) (fun c37 => ?_) (fun c37 => ?_)
    · skip
      rw [nI_eq (by omega) (by omega)] at c37
      refine r_aload_n dX6_markOf_56 rfl ?_
      refine r_bipush (nI 21) dX6_markOf_57 (by decide) ?_
      refine r_callVV (As := [.int (nI 21)]) (o := 219) (c_X6_began B D E (nI 21) _ hT_D) hv_X6_began wm_X6_255 dX6_markOf_59 rfl rfl z_219 k_219 (by decide) rfl (Nat.le_of_ble_eq_true rfl) ⟨Nat.le_of_ble_eq_true rfl, Nat.le_of_ble_eq_true rfl, Nat.zero_le _, Nat.zero_le _⟩ ⟨rfl, rfl⟩ (fun D5 E6 hz4 => ?_)
      obtain ⟨hq2, hq3, hqE⟩ := hz4
      obtain rfl := hqE.symm
      have hT_D5 := hq2
      have hF_D5 := hF_D.trans hq3
      have hM_D5 := hq3.ma hM_D
      refine r_aload_n dX6_markOf_62 rfl ?_
      refine r_bipush (nI 20) dX6_markOf_63 (by decide) ?_
      refine r_callVV (As := [.int (nI 20)]) (o := 219) (c_X6_began B D5 E (nI 20) _ hT_D5) hv_X6_began wm_X6_255 dX6_markOf_65 rfl rfl z_219 k_219 (by decide) rfl (Nat.le_of_ble_eq_true rfl) ⟨Nat.le_of_ble_eq_true rfl, Nat.le_of_ble_eq_true rfl, Nat.zero_le _, Nat.zero_le _⟩ ⟨rfl, rfl⟩ (fun D8 E9 hz7 => ?_)
      obtain ⟨hq2, hq3, hqE⟩ := hz7
      obtain rfl := hqE.symm
      have hT_D8 := hq2
      have hF_D8 := hF_D5.trans hq3
      have hM_D8 := hq3.ma hM_D5
      refine r_iload_n dX6_markOf_68 rfl ?_
      refine r_aload_n dX6_markOf_69 rfl ?_
      refine r_getR (ci := 6) (k := 5) wf_X6_19 dX6_markOf_70 z_219 k_219 (by decide) (by decide) (fun _ _ => rfl) f_219_5 ?_
      refine r_iload_n dX6_markOf_73 rfl ?_
      refine r_bipush (nI 6) dX6_markOf_74 (by decide) ?_
      refine r_callSI (As := [.ref (B + 223), .int (nI w), .int (nI 6)]) (c_X6_of B D8 E 223 (Or.inl rfl) w 6 (by omega)) hs_X6_of wm_X6_159 rfl dX6_markOf_76 rfl rfl (Nat.le_of_ble_eq_true rfl) ⟨Nat.le_of_ble_eq_true rfl, Nat.le_of_ble_eq_true rfl, Nat.zero_le _, Nat.zero_le _⟩ ⟨rfl, rfl⟩ (fun z10 D11 E12 hz10 => ?_)
      obtain ⟨hq1, hqD, hqE⟩ := hz10
      obtain rfl := hqD.symm
      obtain rfl := hqE.symm
      obtain rfl : z10 = nI (r (22 + 8 * w)) := hq1.trans (MA_at hM_D8 (by omega) (by omega))
      refine r_iadd dX6_markOf_79 (fun z13 hz13 => ?_)
      obtain rfl : z13 = nI (w + (r (22 + 8 * w))) := (hz13.trans (nI_add _ _))
      refine r_istore_n [(3, .int (nI (w + (r (22 + 8 * w))))), (2, .int (nI (r (16 + 8 * w)))), (0, .ref (B + 219)), (1, .int (nI w))] dX6_markOf_80 (by decide) rfl ?_
      refine r_iload_n dX6_markOf_81 rfl ?_
      refine r_iconst (nI 1) dX6_markOf_82 (by decide) ?_
      refine r_icmp_ne (tgt := 90) dX6_markOf_83 (by decide) (fun c83 => ?_) (fun c83 => ?_)
      · skip
        rw [nI_eq (by omega) (by omega)] at c83
        refine r_iload_n dX6_markOf_90 rfl ?_
        refine r_iconst (nI 3) dX6_markOf_91 (by decide) ?_
        refine r_icmp_ne (tgt := 103) dX6_markOf_92 (by decide) (fun c92 => ?_) (fun c92 => ?_)
        · skip
          rw [nI_eq (by omega) (by omega)] at c92
          refine r_iconst (nI 2) dX6_markOf_103 (by decide) ?_
          refine r_iload_n dX6_markOf_104 rfl ?_
          refine r_imul dX6_markOf_105 (fun z14 hz14 => ?_)
          obtain rfl : z14 = nI (2 * (w + (r (22 + 8 * w)))) := (hz14.trans (pk_mul _ _))
          refine r_iret2 dX6_markOf_106 rfl ⟨Nat.zero_le _, Nat.zero_le _⟩ ?_
          first
            | (exfalso; omega)
            | (unfold k_mk k_gm k_mg; rw [if_pos (by omega), if_neg (by omega), if_neg (by omega)]; exact ⟨rfl, hT_D8, hF_D8, rfl⟩)
            | (unfold k_mk k_gm k_mg; rw [if_pos (by omega), if_neg (by omega), if_pos (by omega)]; exact ⟨rfl, hT_D8, hF_D8, rfl⟩)
            | (unfold k_mk k_gm k_mg; rw [if_pos (by omega), if_pos (by omega)]; exact ⟨rfl, hT_D8, hF_D8, rfl⟩)
        · skip
          rw [nI_eq (by omega) (by omega)] at c92
          refine r_iload_n dX6_markOf_95 rfl ?_
          refine r_sipush (nI 1000) dX6_markOf_96 (by decide) ?_
          refine r_isub dX6_markOf_99 (fun z15 hz15 => ?_)
          subst hz15
          refine r_goto (tgt := 106) dX6_markOf_100 (by decide) ?_
          refine r_iret2 dX6_markOf_106 rfl ⟨Nat.zero_le _, Nat.zero_le _⟩ ?_
          first
            | (exfalso; omega)
            | (unfold k_mk k_gm k_mg; rw [if_pos (by omega), if_neg (by omega), if_neg (by omega)]; exact ⟨rfl, hT_D8, hF_D8, rfl⟩)
            | (unfold k_mk k_gm k_mg; rw [if_pos (by omega), if_neg (by omega), if_pos (by omega)]; exact ⟨rfl, hT_D8, hF_D8, rfl⟩)
            | (unfold k_mk k_gm k_mg; rw [if_pos (by omega), if_pos (by omega)]; exact ⟨rfl, hT_D8, hF_D8, rfl⟩)
      · skip
        rw [nI_eq (by omega) (by omega)] at c83
        refine r_iload_n dX6_markOf_86 rfl ?_
        refine r_goto (tgt := 106) dX6_markOf_87 (by decide) ?_
        refine r_iret2 dX6_markOf_106 rfl ⟨Nat.zero_le _, Nat.zero_le _⟩ ?_
        first
          | (exfalso; omega)
          | (unfold k_mk k_gm k_mg; rw [if_pos (by omega), if_neg (by omega), if_neg (by omega)]; exact ⟨rfl, hT_D8, hF_D8, rfl⟩)
          | (unfold k_mk k_gm k_mg; rw [if_pos (by omega), if_neg (by omega), if_pos (by omega)]; exact ⟨rfl, hT_D8, hF_D8, rfl⟩)
          | (unfold k_mk k_gm k_mg; rw [if_pos (by omega), if_pos (by omega)]; exact ⟨rfl, hT_D8, hF_D8, rfl⟩)
    · skip
      rw [nI_eq (by omega) (by omega)] at c37
      refine r_aload_n dX6_markOf_40 rfl ?_
      refine r_iload_n dX6_markOf_41 rfl ?_
      refine r_iconst (nI 3) dX6_markOf_42 (by decide) ?_
      refine r_icmp_ne (tgt := 51) dX6_markOf_43 (by decide) (fun c43 => ?_) (fun c43 => ?_)
      · skip
        rw [nI_eq (by omega) (by omega)] at c43
        refine r_bipush (nI 24) dX6_markOf_51 (by decide) ?_
        refine r_callVV (As := [.int (nI 24)]) (o := 219) (c_X6_began B D E (nI 24) _ hT_D) hv_X6_began wm_X6_255 dX6_markOf_53 rfl rfl z_219 k_219 (by decide) rfl (Nat.le_of_ble_eq_true rfl) ⟨Nat.le_of_ble_eq_true rfl, Nat.le_of_ble_eq_true rfl, Nat.zero_le _, Nat.zero_le _⟩ ⟨rfl, rfl⟩ (fun D17 E18 hz16 => ?_)
        obtain ⟨hq2, hq3, hqE⟩ := hz16
        obtain rfl := hqE.symm
        have hT_D17 := hq2
        have hF_D17 := hF_D.trans hq3
        have hM_D17 := hq3.ma hM_D
        refine r_aload_n dX6_markOf_56 rfl ?_
        refine r_bipush (nI 21) dX6_markOf_57 (by decide) ?_
        refine r_callVV (As := [.int (nI 21)]) (o := 219) (c_X6_began B D17 E (nI 21) _ hT_D17) hv_X6_began wm_X6_255 dX6_markOf_59 rfl rfl z_219 k_219 (by decide) rfl (Nat.le_of_ble_eq_true rfl) ⟨Nat.le_of_ble_eq_true rfl, Nat.le_of_ble_eq_true rfl, Nat.zero_le _, Nat.zero_le _⟩ ⟨rfl, rfl⟩ (fun D20 E21 hz19 => ?_)
        obtain ⟨hq2, hq3, hqE⟩ := hz19
        obtain rfl := hqE.symm
        have hT_D20 := hq2
        have hF_D20 := hF_D17.trans hq3
        have hM_D20 := hq3.ma hM_D17
        refine r_aload_n dX6_markOf_62 rfl ?_
        refine r_bipush (nI 20) dX6_markOf_63 (by decide) ?_
        refine r_callVV (As := [.int (nI 20)]) (o := 219) (c_X6_began B D20 E (nI 20) _ hT_D20) hv_X6_began wm_X6_255 dX6_markOf_65 rfl rfl z_219 k_219 (by decide) rfl (Nat.le_of_ble_eq_true rfl) ⟨Nat.le_of_ble_eq_true rfl, Nat.le_of_ble_eq_true rfl, Nat.zero_le _, Nat.zero_le _⟩ ⟨rfl, rfl⟩ (fun D23 E24 hz22 => ?_)
        obtain ⟨hq2, hq3, hqE⟩ := hz22
        obtain rfl := hqE.symm
        have hT_D23 := hq2
        have hF_D23 := hF_D20.trans hq3
        have hM_D23 := hq3.ma hM_D20
        refine r_iload_n dX6_markOf_68 rfl ?_
        refine r_aload_n dX6_markOf_69 rfl ?_
        refine r_getR (ci := 6) (k := 5) wf_X6_19 dX6_markOf_70 z_219 k_219 (by decide) (by decide) (fun _ _ => rfl) f_219_5 ?_
        refine r_iload_n dX6_markOf_73 rfl ?_
        refine r_bipush (nI 6) dX6_markOf_74 (by decide) ?_
        refine r_callSI (As := [.ref (B + 223), .int (nI w), .int (nI 6)]) (c_X6_of B D23 E 223 (Or.inl rfl) w 6 (by omega)) hs_X6_of wm_X6_159 rfl dX6_markOf_76 rfl rfl (Nat.le_of_ble_eq_true rfl) ⟨Nat.le_of_ble_eq_true rfl, Nat.le_of_ble_eq_true rfl, Nat.zero_le _, Nat.zero_le _⟩ ⟨rfl, rfl⟩ (fun z25 D26 E27 hz25 => ?_)
        obtain ⟨hq1, hqD, hqE⟩ := hz25
        obtain rfl := hqD.symm
        obtain rfl := hqE.symm
        obtain rfl : z25 = nI (r (22 + 8 * w)) := hq1.trans (MA_at hM_D23 (by omega) (by omega))
        refine r_iadd dX6_markOf_79 (fun z28 hz28 => ?_)
        obtain rfl : z28 = nI (w + (r (22 + 8 * w))) := (hz28.trans (nI_add _ _))
        refine r_istore_n [(3, .int (nI (w + (r (22 + 8 * w))))), (2, .int (nI (r (16 + 8 * w)))), (0, .ref (B + 219)), (1, .int (nI w))] dX6_markOf_80 (by decide) rfl ?_
        refine r_iload_n dX6_markOf_81 rfl ?_
        refine r_iconst (nI 1) dX6_markOf_82 (by decide) ?_
        refine r_icmp_ne (tgt := 90) dX6_markOf_83 (by decide) (fun c83 => ?_) (fun c83 => ?_)
        · skip
          rw [nI_eq (by omega) (by omega)] at c83
          refine r_iload_n dX6_markOf_90 rfl ?_
          refine r_iconst (nI 3) dX6_markOf_91 (by decide) ?_
          refine r_icmp_ne (tgt := 103) dX6_markOf_92 (by decide) (fun c92 => ?_) (fun c92 => ?_)
          · skip
            rw [nI_eq (by omega) (by omega)] at c92
            refine r_iconst (nI 2) dX6_markOf_103 (by decide) ?_
            refine r_iload_n dX6_markOf_104 rfl ?_
            refine r_imul dX6_markOf_105 (fun z29 hz29 => ?_)
            obtain rfl : z29 = nI (2 * (w + (r (22 + 8 * w)))) := (hz29.trans (pk_mul _ _))
            refine r_iret2 dX6_markOf_106 rfl ⟨Nat.zero_le _, Nat.zero_le _⟩ ?_
            first
              | (exfalso; omega)
              | (unfold k_mk k_gm k_mg; rw [if_pos (by omega), if_neg (by omega), if_neg (by omega)]; exact ⟨rfl, hT_D23, hF_D23, rfl⟩)
              | (unfold k_mk k_gm k_mg; rw [if_pos (by omega), if_neg (by omega), if_pos (by omega)]; exact ⟨rfl, hT_D23, hF_D23, rfl⟩)
              | (unfold k_mk k_gm k_mg; rw [if_pos (by omega), if_pos (by omega)]; exact ⟨rfl, hT_D23, hF_D23, rfl⟩)
          · skip
            rw [nI_eq (by omega) (by omega)] at c92
            refine r_iload_n dX6_markOf_95 rfl ?_
            refine r_sipush (nI 1000) dX6_markOf_96 (by decide) ?_
            refine r_isub dX6_markOf_99 (fun z30 hz30 => ?_)
            subst hz30
            refine r_goto (tgt := 106) dX6_markOf_100 (by decide) ?_
            refine r_iret2 dX6_markOf_106 rfl ⟨Nat.zero_le _, Nat.zero_le _⟩ ?_
            first
              | (exfalso; omega)
              | (unfold k_mk k_gm k_mg; rw [if_pos (by omega), if_neg (by omega), if_neg (by omega)]; exact ⟨rfl, hT_D23, hF_D23, rfl⟩)
              | (unfold k_mk k_gm k_mg; rw [if_pos (by omega), if_neg (by omega), if_pos (by omega)]; exact ⟨rfl, hT_D23, hF_D23, rfl⟩)
              | (unfold k_mk k_gm k_mg; rw [if_pos (by omega), if_pos (by omega)]; exact ⟨rfl, hT_D23, hF_D23, rfl⟩)
        · skip
          rw [nI_eq (by omega) (by omega)] at c83
          refine r_iload_n dX6_markOf_86 rfl ?_
          refine r_goto (tgt := 106) dX6_markOf_87 (by decide) ?_
          refine r_iret2 dX6_markOf_106 rfl ⟨Nat.zero_le _, Nat.zero_le _⟩ ?_
          first
            | (exfalso; omega)
            | (unfold k_mk k_gm k_mg; rw [if_pos (by omega), if_neg (by omega), if_neg (by omega)]; exact ⟨rfl, hT_D23, hF_D23, rfl⟩)
            | (unfold k_mk k_gm k_mg; rw [if_pos (by omega), if_neg (by omega), if_pos (by omega)]; exact ⟨rfl, hT_D23, hF_D23, rfl⟩)
            | (unfold k_mk k_gm k_mg; rw [if_pos (by omega), if_pos (by omega)]; exact ⟨rfl, hT_D23, hF_D23, rfl⟩)
      · skip
        rw [nI_eq (by omega) (by omega)] at c43
        refine r_bipush (nI 22) dX6_markOf_46 (by decide) ?_
        refine r_goto (tgt := 53) dX6_markOf_48 (by decide) ?_
        refine r_callVV (As := [.int (nI 22)]) (o := 219) (c_X6_began B D E (nI 22) _ hT_D) hv_X6_began wm_X6_255 dX6_markOf_53 rfl rfl z_219 k_219 (by decide) rfl (Nat.le_of_ble_eq_true rfl) ⟨Nat.le_of_ble_eq_true rfl, Nat.le_of_ble_eq_true rfl, Nat.zero_le _, Nat.zero_le _⟩ ⟨rfl, rfl⟩ (fun D32 E33 hz31 => ?_)
        obtain ⟨hq2, hq3, hqE⟩ := hz31
        obtain rfl := hqE.symm
        have hT_D32 := hq2
        have hF_D32 := hF_D.trans hq3
        have hM_D32 := hq3.ma hM_D
        refine r_aload_n dX6_markOf_56 rfl ?_
        refine r_bipush (nI 21) dX6_markOf_57 (by decide) ?_
        refine r_callVV (As := [.int (nI 21)]) (o := 219) (c_X6_began B D32 E (nI 21) _ hT_D32) hv_X6_began wm_X6_255 dX6_markOf_59 rfl rfl z_219 k_219 (by decide) rfl (Nat.le_of_ble_eq_true rfl) ⟨Nat.le_of_ble_eq_true rfl, Nat.le_of_ble_eq_true rfl, Nat.zero_le _, Nat.zero_le _⟩ ⟨rfl, rfl⟩ (fun D35 E36 hz34 => ?_)
        obtain ⟨hq2, hq3, hqE⟩ := hz34
        obtain rfl := hqE.symm
        have hT_D35 := hq2
        have hF_D35 := hF_D32.trans hq3
        have hM_D35 := hq3.ma hM_D32
        refine r_aload_n dX6_markOf_62 rfl ?_
        refine r_bipush (nI 20) dX6_markOf_63 (by decide) ?_
        refine r_callVV (As := [.int (nI 20)]) (o := 219) (c_X6_began B D35 E (nI 20) _ hT_D35) hv_X6_began wm_X6_255 dX6_markOf_65 rfl rfl z_219 k_219 (by decide) rfl (Nat.le_of_ble_eq_true rfl) ⟨Nat.le_of_ble_eq_true rfl, Nat.le_of_ble_eq_true rfl, Nat.zero_le _, Nat.zero_le _⟩ ⟨rfl, rfl⟩ (fun D38 E39 hz37 => ?_)
        obtain ⟨hq2, hq3, hqE⟩ := hz37
        obtain rfl := hqE.symm
        have hT_D38 := hq2
        have hF_D38 := hF_D35.trans hq3
        have hM_D38 := hq3.ma hM_D35
        refine r_iload_n dX6_markOf_68 rfl ?_
        refine r_aload_n dX6_markOf_69 rfl ?_
        refine r_getR (ci := 6) (k := 5) wf_X6_19 dX6_markOf_70 z_219 k_219 (by decide) (by decide) (fun _ _ => rfl) f_219_5 ?_
        refine r_iload_n dX6_markOf_73 rfl ?_
        refine r_bipush (nI 6) dX6_markOf_74 (by decide) ?_
        refine r_callSI (As := [.ref (B + 223), .int (nI w), .int (nI 6)]) (c_X6_of B D38 E 223 (Or.inl rfl) w 6 (by omega)) hs_X6_of wm_X6_159 rfl dX6_markOf_76 rfl rfl (Nat.le_of_ble_eq_true rfl) ⟨Nat.le_of_ble_eq_true rfl, Nat.le_of_ble_eq_true rfl, Nat.zero_le _, Nat.zero_le _⟩ ⟨rfl, rfl⟩ (fun z40 D41 E42 hz40 => ?_)
        obtain ⟨hq1, hqD, hqE⟩ := hz40
        obtain rfl := hqD.symm
        obtain rfl := hqE.symm
        obtain rfl : z40 = nI (r (22 + 8 * w)) := hq1.trans (MA_at hM_D38 (by omega) (by omega))
        refine r_iadd dX6_markOf_79 (fun z43 hz43 => ?_)
        obtain rfl : z43 = nI (w + (r (22 + 8 * w))) := (hz43.trans (nI_add _ _))
        refine r_istore_n [(3, .int (nI (w + (r (22 + 8 * w))))), (2, .int (nI (r (16 + 8 * w)))), (0, .ref (B + 219)), (1, .int (nI w))] dX6_markOf_80 (by decide) rfl ?_
        refine r_iload_n dX6_markOf_81 rfl ?_
        refine r_iconst (nI 1) dX6_markOf_82 (by decide) ?_
        refine r_icmp_ne (tgt := 90) dX6_markOf_83 (by decide) (fun c83 => ?_) (fun c83 => ?_)
        · skip
          rw [nI_eq (by omega) (by omega)] at c83
          refine r_iload_n dX6_markOf_90 rfl ?_
          refine r_iconst (nI 3) dX6_markOf_91 (by decide) ?_
          refine r_icmp_ne (tgt := 103) dX6_markOf_92 (by decide) (fun c92 => ?_) (fun c92 => ?_)
          · skip
            rw [nI_eq (by omega) (by omega)] at c92
            refine r_iconst (nI 2) dX6_markOf_103 (by decide) ?_
            refine r_iload_n dX6_markOf_104 rfl ?_
            refine r_imul dX6_markOf_105 (fun z44 hz44 => ?_)
            obtain rfl : z44 = nI (2 * (w + (r (22 + 8 * w)))) := (hz44.trans (pk_mul _ _))
            refine r_iret2 dX6_markOf_106 rfl ⟨Nat.zero_le _, Nat.zero_le _⟩ ?_
            first
              | (exfalso; omega)
              | (unfold k_mk k_gm k_mg; rw [if_pos (by omega), if_neg (by omega), if_neg (by omega)]; exact ⟨rfl, hT_D38, hF_D38, rfl⟩)
              | (unfold k_mk k_gm k_mg; rw [if_pos (by omega), if_neg (by omega), if_pos (by omega)]; exact ⟨rfl, hT_D38, hF_D38, rfl⟩)
              | (unfold k_mk k_gm k_mg; rw [if_pos (by omega), if_pos (by omega)]; exact ⟨rfl, hT_D38, hF_D38, rfl⟩)
          · skip
            rw [nI_eq (by omega) (by omega)] at c92
            refine r_iload_n dX6_markOf_95 rfl ?_
            refine r_sipush (nI 1000) dX6_markOf_96 (by decide) ?_
            refine r_isub dX6_markOf_99 (fun z45 hz45 => ?_)
            subst hz45
            refine r_goto (tgt := 106) dX6_markOf_100 (by decide) ?_
            refine r_iret2 dX6_markOf_106 rfl ⟨Nat.zero_le _, Nat.zero_le _⟩ ?_
            first
              | (exfalso; omega)
              | (unfold k_mk k_gm k_mg; rw [if_pos (by omega), if_neg (by omega), if_neg (by omega)]; exact ⟨rfl, hT_D38, hF_D38, rfl⟩)
              | (unfold k_mk k_gm k_mg; rw [if_pos (by omega), if_neg (by omega), if_pos (by omega)]; exact ⟨rfl, hT_D38, hF_D38, rfl⟩)
              | (unfold k_mk k_gm k_mg; rw [if_pos (by omega), if_pos (by omega)]; exact ⟨rfl, hT_D38, hF_D38, rfl⟩)
        · skip
          rw [nI_eq (by omega) (by omega)] at c83
          refine r_iload_n dX6_markOf_86 rfl ?_
          refine r_goto (tgt := 106) dX6_markOf_87 (by decide) ?_
          refine r_iret2 dX6_markOf_106 rfl ⟨Nat.zero_le _, Nat.zero_le _⟩ ?_
          first
            | (exfalso; omega)
            | (unfold k_mk k_gm k_mg; rw [if_pos (by omega), if_neg (by omega), if_neg (by omega)]; exact ⟨rfl, hT_D38, hF_D38, rfl⟩)
            | (unfold k_mk k_gm k_mg; rw [if_pos (by omega), if_neg (by omega), if_pos (by omega)]; exact ⟨rfl, hT_D38, hF_D38, rfl⟩)
            | (unfold k_mk k_gm k_mg; rw [if_pos (by omega), if_pos (by omega)]; exact ⟨rfl, hT_D38, hF_D38, rfl⟩)
  · skip
    rw [nI_ltI (by omega) (by omega)] at c12
    refine r_aload_n dX6_markOf_15 rfl ?_
    refine r_bipush (nI 23) dX6_markOf_16 (by decide) ?_
    refine r_callVV (As := [.int (nI 23)]) (o := 219) (c_X6_began B D E (nI 23) _ hT_D) hv_X6_began wm_X6_255 dX6_markOf_18 rfl rfl z_219 k_219 (by decide) rfl (Nat.le_of_ble_eq_true rfl) ⟨Nat.le_of_ble_eq_true rfl, Nat.le_of_ble_eq_true rfl, Nat.zero_le _, Nat.zero_le _⟩ ⟨rfl, rfl⟩ (fun D47 E48 hz46 => ?_)
    obtain ⟨hq2, hq3, hqE⟩ := hz46
    obtain rfl := hqE.symm
    have hT_D47 := hq2
    have hF_D47 := hF_D.trans hq3
    have hM_D47 := hq3.ma hM_D
    refine r_aload_n dX6_markOf_21 rfl ?_
    refine r_bipush (nI 20) dX6_markOf_22 (by decide) ?_
    refine r_callVV (As := [.int (nI 20)]) (o := 219) (c_X6_began B D47 E (nI 20) _ hT_D47) hv_X6_began wm_X6_255 dX6_markOf_24 rfl rfl z_219 k_219 (by decide) rfl (Nat.le_of_ble_eq_true rfl) ⟨Nat.le_of_ble_eq_true rfl, Nat.le_of_ble_eq_true rfl, Nat.zero_le _, Nat.zero_le _⟩ ⟨rfl, rfl⟩ (fun D50 E51 hz49 => ?_)
    obtain ⟨hq2, hq3, hqE⟩ := hz49
    obtain rfl := hqE.symm
    have hT_D50 := hq2
    have hF_D50 := hF_D47.trans hq3
    have hM_D50 := hq3.ma hM_D47
    refine r_iload_n dX6_markOf_27 rfl ?_
    refine r_aload_n dX6_markOf_28 rfl ?_
    refine r_iload_n dX6_markOf_29 rfl ?_
    refine r_callVI (As := [.int (nI w)]) (o := 219) (c_X6_childSize B D50 E r w hM_D50 hk1 hk5 hw6 _ hT_D50) hv_X6_childSize wm_X6_261 dX6_markOf_30 rfl rfl z_219 k_219 (by decide) rfl (Nat.le_of_ble_eq_true rfl) ⟨Nat.le_of_ble_eq_true rfl, Nat.le_of_ble_eq_true rfl, Nat.zero_le _, Nat.zero_le _⟩ ⟨rfl, rfl⟩ (fun z52 D53 E54 hz52 => ?_)
    obtain ⟨hq1, hq2, hq3, hqE⟩ := hz52
    obtain rfl := hqE.symm
    have hT_D53 := hq2
    have hF_D53 := hF_D50.trans hq3
    have hM_D53 := hq3.ma hM_D50
    refine r_isub dX6_markOf_33 (fun z55 hz55 => ?_)
    subst hz55
    refine r_iret2 dX6_markOf_34 rfl ⟨Nat.zero_le _, Nat.zero_le _⟩ ?_
    unfold k_mk k_cm
    rw [if_neg (by omega), hq1]
    exact ⟨rfl, hT_D53, hF_D53, rfl⟩
set_option maxRecDepth 100000 in
set_option maxHeartbeats 4000000 in
theorem c_X6_sizeOf (B : Nat) (D : DD) (E : EE) (r : Row) (w : Nat) (hM : MA D 223 r) (hk1 : 1 ≤ r (16 + 8 * w)) (hk5 : r (16 + 8 * w) ≤ 5) (hw6 : w < 6) (t : TRt) (hT : TRm D t) : MR yX6_sizeOf cX6_sizeOf 4 (some .int) rX6_sizeOf B [.ref (B + 219), .int (nI w)] Z0 D E (Q2 Z0 (pI (fun v D' E' => v = (k_sz r w t).1 ∧ TRm D' (k_sz r w t).2 ∧ FTm D D' ∧ E' = E))) := by
  have hM_D := hM
  have hT_D := hT
  have hF_D : FTm D D := FTm.rf
  refine r_enter [(0, .ref (B + 219)), (1, .int (nI w))] hv_X6_sizeOf.1.2.2.2.2 (Nat.le_of_ble_eq_true rfl) rfl ?_
  refine r_aload_n dX6_sizeOf_0 rfl ?_
  refine r_getR (ci := 6) (k := 5) wf_X6_19 dX6_sizeOf_1 z_219 k_219 (by decide) (by decide) (fun _ _ => rfl) f_219_5 ?_
  refine r_iload_n dX6_sizeOf_4 rfl ?_
  refine r_iconst (nI 0) dX6_sizeOf_5 (by decide) ?_
  refine r_callSI (As := [.ref (B + 223), .int (nI w), .int (nI 0)]) (c_X6_of B D E 223 (Or.inl rfl) w 0 (by omega)) hs_X6_of wm_X6_159 rfl dX6_sizeOf_6 rfl rfl (Nat.le_of_ble_eq_true rfl) ⟨Nat.le_of_ble_eq_true rfl, Nat.le_of_ble_eq_true rfl, Nat.zero_le _, Nat.zero_le _⟩ ⟨rfl, rfl⟩ (fun z1 D2 E3 hz1 => ?_)
  obtain ⟨hq1, hqD, hqE⟩ := hz1
  obtain rfl := hqD.symm
  obtain rfl := hqE.symm
  obtain rfl : z1 = nI (r (16 + 8 * w)) := hq1.trans (MA_at hM_D (by omega) (by omega))
  refine r_istore_n [(2, .int (nI (r (16 + 8 * w)))), (0, .ref (B + 219)), (1, .int (nI w))] dX6_sizeOf_9 (by decide) rfl ?_
  refine r_iload_n dX6_sizeOf_10 rfl ?_
  refine r_iconst (nI 4) dX6_sizeOf_11 (by decide) ?_
  refine r_icmp_lt (tgt := 21) dX6_sizeOf_12 (by decide) (fun c12 => ?_) (fun c12 => ?_)
  · skip
    rw [nI_ltI (by omega) (by omega)] at c12
    refine r_iload_n dX6_sizeOf_21 rfl ?_
    refine r_iconst (nI 2) dX6_sizeOf_22 (by decide) ?_
    refine r_icmp_ne (tgt := 32) dX6_sizeOf_23 (by decide) (fun c23 => ?_) (fun c23 => ?_)
    · skip
      rw [nI_eq (by omega) (by omega)] at c23
      refine r_aload_n dX6_sizeOf_32 rfl ?_
      refine r_bipush (nI 11) dX6_sizeOf_33 (by decide) ?_
      refine r_callVV (As := [.int (nI 11)]) (o := 219) (c_X6_began B D E (nI 11) _ hT_D) hv_X6_began wm_X6_255 dX6_sizeOf_35 rfl rfl z_219 k_219 (by decide) rfl (Nat.le_of_ble_eq_true rfl) ⟨Nat.le_of_ble_eq_true rfl, Nat.le_of_ble_eq_true rfl, Nat.zero_le _, Nat.zero_le _⟩ ⟨rfl, rfl⟩ (fun D5 E6 hz4 => ?_)
      obtain ⟨hq2, hq3, hqE⟩ := hz4
      obtain rfl := hqE.symm
      have hT_D5 := hq2
      have hF_D5 := hF_D.trans hq3
      have hM_D5 := hq3.ma hM_D
      refine r_aload_n dX6_sizeOf_38 rfl ?_
      refine r_iload_n dX6_sizeOf_39 rfl ?_
      refine r_callVI (As := [.int (nI w)]) (o := 219) (c_X6_plainSize B D5 E r w hM_D5 hk1 hk5 hw6 _ hT_D5) hv_X6_plainSize wm_X6_258 dX6_sizeOf_40 rfl rfl z_219 k_219 (by decide) rfl (Nat.le_of_ble_eq_true rfl) ⟨Nat.le_of_ble_eq_true rfl, Nat.le_of_ble_eq_true rfl, Nat.zero_le _, Nat.zero_le _⟩ ⟨rfl, rfl⟩ (fun z7 D8 E9 hz7 => ?_)
      obtain ⟨hq1, hq2, hq3, hqE⟩ := hz7
      obtain rfl := hq1.symm
      obtain rfl := hqE.symm
      have hT_D8 := hq2
      have hF_D8 := hF_D5.trans hq3
      have hM_D8 := hq3.ma hM_D5
      refine r_istore_n [(3, .int (nI (r (19 + 8 * w)))), (2, .int (nI (r (16 + 8 * w)))), (0, .ref (B + 219)), (1, .int (nI w))] dX6_sizeOf_43 (by decide) rfl ?_
      refine r_iload_n dX6_sizeOf_44 rfl ?_
      refine r_aload_n dX6_sizeOf_45 rfl ?_
      refine r_iload_n dX6_sizeOf_46 rfl ?_
      refine r_callVI (As := [.int (nI w)]) (o := 219) (c_X6_markOf B D8 E r w hM_D8 hk1 hk5 hw6 _ hT_D8) hv_X6_markOf wm_X6_264 dX6_sizeOf_47 rfl rfl z_219 k_219 (by decide) rfl (Nat.le_of_ble_eq_true rfl) ⟨Nat.le_of_ble_eq_true rfl, Nat.le_of_ble_eq_true rfl, Nat.zero_le _, Nat.zero_le _⟩ ⟨rfl, rfl⟩ (fun z10 D11 E12 hz10 => ?_)
      obtain ⟨hq1, hq2, hq3, hqE⟩ := hz10
      unfold k_mk at hq1 hq2
      rw [if_pos (by omega)] at hq1 hq2
      obtain rfl := hqE.symm
      have hT_D11 := hq2
      have hF_D11 := hF_D8.trans hq3
      have hM_D11 := hq3.ma hM_D8
      refine r_iadd dX6_sizeOf_50 (fun z13 hz13 => ?_)
      subst hz13
      refine r_istore_n [(3, .int ((nI (r (19 + 8 * w))) + z10)), (2, .int (nI (r (16 + 8 * w)))), (0, .ref (B + 219)), (1, .int (nI w))] dX6_sizeOf_51 (by decide) rfl ?_
      refine r_iload_n dX6_sizeOf_52 rfl ?_
      refine r_iconst (nI 2) dX6_sizeOf_53 (by decide) ?_
      refine r_icmp_ne (tgt := 62) dX6_sizeOf_54 (by decide) (fun c54 => ?_) (fun c54 => ?_)
      · skip
        rw [nI_eq (by omega) (by omega)] at c54
        refine r_iload_n dX6_sizeOf_62 rfl ?_
        refine r_iret2 dX6_sizeOf_63 rfl ⟨Nat.zero_le _, Nat.zero_le _⟩ ?_
        first
          | (exfalso; omega)
          | (unfold k_sz k_gs k_sg; rw [if_pos (by omega), if_pos c23, hq1]; exact ⟨rfl, hT_D11, hF_D11, rfl⟩)
          | (unfold k_sz k_gs k_sg; rw [if_pos (by omega), if_neg c23, hq1]; exact ⟨rfl, hT_D11, hF_D11, rfl⟩)
      · skip
        rw [nI_eq (by omega) (by omega)] at c54
        refine r_iload_n dX6_sizeOf_57 rfl ?_
        refine r_ineg dX6_sizeOf_58 (fun z14 hz14 => ?_)
        subst hz14
        refine r_goto (tgt := 63) dX6_sizeOf_59 (by decide) ?_
        refine r_iret2 dX6_sizeOf_63 rfl ⟨Nat.zero_le _, Nat.zero_le _⟩ ?_
        first
          | (exfalso; omega)
          | (unfold k_sz k_gs k_sg; rw [if_pos (by omega), if_pos c23, hq1]; exact ⟨rfl, hT_D11, hF_D11, rfl⟩)
          | (unfold k_sz k_gs k_sg; rw [if_pos (by omega), if_neg c23, hq1]; exact ⟨rfl, hT_D11, hF_D11, rfl⟩)
    · skip
      rw [nI_eq (by omega) (by omega)] at c23
      refine r_aload_n dX6_sizeOf_26 rfl ?_
      refine r_bipush (nI 12) dX6_sizeOf_27 (by decide) ?_
      refine r_callVV (As := [.int (nI 12)]) (o := 219) (c_X6_began B D E (nI 12) _ hT_D) hv_X6_began wm_X6_255 dX6_sizeOf_29 rfl rfl z_219 k_219 (by decide) rfl (Nat.le_of_ble_eq_true rfl) ⟨Nat.le_of_ble_eq_true rfl, Nat.le_of_ble_eq_true rfl, Nat.zero_le _, Nat.zero_le _⟩ ⟨rfl, rfl⟩ (fun D16 E17 hz15 => ?_)
      obtain ⟨hq2, hq3, hqE⟩ := hz15
      obtain rfl := hqE.symm
      have hT_D16 := hq2
      have hF_D16 := hF_D.trans hq3
      have hM_D16 := hq3.ma hM_D
      refine r_aload_n dX6_sizeOf_32 rfl ?_
      refine r_bipush (nI 11) dX6_sizeOf_33 (by decide) ?_
      refine r_callVV (As := [.int (nI 11)]) (o := 219) (c_X6_began B D16 E (nI 11) _ hT_D16) hv_X6_began wm_X6_255 dX6_sizeOf_35 rfl rfl z_219 k_219 (by decide) rfl (Nat.le_of_ble_eq_true rfl) ⟨Nat.le_of_ble_eq_true rfl, Nat.le_of_ble_eq_true rfl, Nat.zero_le _, Nat.zero_le _⟩ ⟨rfl, rfl⟩ (fun D19 E20 hz18 => ?_)
      obtain ⟨hq2, hq3, hqE⟩ := hz18
      obtain rfl := hqE.symm
      have hT_D19 := hq2
      have hF_D19 := hF_D16.trans hq3
      have hM_D19 := hq3.ma hM_D16
      refine r_aload_n dX6_sizeOf_38 rfl ?_
      refine r_iload_n dX6_sizeOf_39 rfl ?_
      refine r_callVI (As := [.int (nI w)]) (o := 219) (c_X6_plainSize B D19 E r w hM_D19 hk1 hk5 hw6 _ hT_D19) hv_X6_plainSize wm_X6_258 dX6_sizeOf_40 rfl rfl z_219 k_219 (by decide) rfl (Nat.le_of_ble_eq_true rfl) ⟨Nat.le_of_ble_eq_true rfl, Nat.le_of_ble_eq_true rfl, Nat.zero_le _, Nat.zero_le _⟩ ⟨rfl, rfl⟩ (fun z21 D22 E23 hz21 => ?_)
      obtain ⟨hq1, hq2, hq3, hqE⟩ := hz21
      obtain rfl := hq1.symm
      obtain rfl := hqE.symm
      have hT_D22 := hq2
      have hF_D22 := hF_D19.trans hq3
      have hM_D22 := hq3.ma hM_D19
      refine r_istore_n [(3, .int (nI (r (19 + 8 * w)))), (2, .int (nI (r (16 + 8 * w)))), (0, .ref (B + 219)), (1, .int (nI w))] dX6_sizeOf_43 (by decide) rfl ?_
      refine r_iload_n dX6_sizeOf_44 rfl ?_
      refine r_aload_n dX6_sizeOf_45 rfl ?_
      refine r_iload_n dX6_sizeOf_46 rfl ?_
      refine r_callVI (As := [.int (nI w)]) (o := 219) (c_X6_markOf B D22 E r w hM_D22 hk1 hk5 hw6 _ hT_D22) hv_X6_markOf wm_X6_264 dX6_sizeOf_47 rfl rfl z_219 k_219 (by decide) rfl (Nat.le_of_ble_eq_true rfl) ⟨Nat.le_of_ble_eq_true rfl, Nat.le_of_ble_eq_true rfl, Nat.zero_le _, Nat.zero_le _⟩ ⟨rfl, rfl⟩ (fun z24 D25 E26 hz24 => ?_)
      obtain ⟨hq1, hq2, hq3, hqE⟩ := hz24
      unfold k_mk at hq1 hq2
      rw [if_pos (by omega)] at hq1 hq2
      obtain rfl := hqE.symm
      have hT_D25 := hq2
      have hF_D25 := hF_D22.trans hq3
      have hM_D25 := hq3.ma hM_D22
      refine r_iadd dX6_sizeOf_50 (fun z27 hz27 => ?_)
      subst hz27
      refine r_istore_n [(3, .int ((nI (r (19 + 8 * w))) + z24)), (2, .int (nI (r (16 + 8 * w)))), (0, .ref (B + 219)), (1, .int (nI w))] dX6_sizeOf_51 (by decide) rfl ?_
      refine r_iload_n dX6_sizeOf_52 rfl ?_
      refine r_iconst (nI 2) dX6_sizeOf_53 (by decide) ?_
      refine r_icmp_ne (tgt := 62) dX6_sizeOf_54 (by decide) (fun c54 => ?_) (fun c54 => ?_)
      · skip
        rw [nI_eq (by omega) (by omega)] at c54
        refine r_iload_n dX6_sizeOf_62 rfl ?_
        refine r_iret2 dX6_sizeOf_63 rfl ⟨Nat.zero_le _, Nat.zero_le _⟩ ?_
        first
          | (exfalso; omega)
          | (unfold k_sz k_gs k_sg; rw [if_pos (by omega), if_pos c23, hq1]; exact ⟨rfl, hT_D25, hF_D25, rfl⟩)
          | (unfold k_sz k_gs k_sg; rw [if_pos (by omega), if_neg c23, hq1]; exact ⟨rfl, hT_D25, hF_D25, rfl⟩)
      · skip
        rw [nI_eq (by omega) (by omega)] at c54
        refine r_iload_n dX6_sizeOf_57 rfl ?_
        refine r_ineg dX6_sizeOf_58 (fun z28 hz28 => ?_)
        subst hz28
        refine r_goto (tgt := 63) dX6_sizeOf_59 (by decide) ?_
        refine r_iret2 dX6_sizeOf_63 rfl ⟨Nat.zero_le _, Nat.zero_le _⟩ ?_
        first
          | (exfalso; omega)
          | (unfold k_sz k_gs k_sg; rw [if_pos (by omega), if_pos c23, hq1]; exact ⟨rfl, hT_D25, hF_D25, rfl⟩)
          | (unfold k_sz k_gs k_sg; rw [if_pos (by omega), if_neg c23, hq1]; exact ⟨rfl, hT_D25, hF_D25, rfl⟩)
  · skip
    rw [nI_ltI (by omega) (by omega)] at c12
    refine r_aload_n dX6_sizeOf_15 rfl ?_
    refine r_iload_n dX6_sizeOf_16 rfl ?_
    refine r_callVI (As := [.int (nI w)]) (o := 219) (c_X6_childSize B D E r w hM_D hk1 hk5 hw6 _ hT_D) hv_X6_childSize wm_X6_261 dX6_sizeOf_17 rfl rfl z_219 k_219 (by decide) rfl (Nat.le_of_ble_eq_true rfl) ⟨Nat.le_of_ble_eq_true rfl, Nat.le_of_ble_eq_true rfl, Nat.zero_le _, Nat.zero_le _⟩ ⟨rfl, rfl⟩ (fun z29 D30 E31 hz29 => ?_)
    obtain ⟨hq1, hq2, hq3, hqE⟩ := hz29
    obtain rfl := hqE.symm
    have hT_D30 := hq2
    have hF_D30 := hF_D.trans hq3
    have hM_D30 := hq3.ma hM_D
    refine r_iret2 dX6_sizeOf_20 rfl ⟨Nat.zero_le _, Nat.zero_le _⟩ ?_
    unfold k_sz
    rw [if_neg (by omega)]
    exact ⟨hq1, hT_D30, hF_D30, rfl⟩
