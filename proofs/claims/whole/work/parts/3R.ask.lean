set_option maxRecDepth 100000 in
set_option maxHeartbeats 4000000 in
theorem c_X5_leave (B : Nat) (D : DD) (E : EE) (b : Int32) (t : TRt) (hT : TRc D t) : MR yX5_leave cX5_leave 2 none rX5_leave B [.ref (B + 0), .int b] Z0 D E (Q2 Z0 (pV (fun D' E' => TRc D' (s_lv t b) ∧ FT D D' ∧ E' = E))) := by
  obtain ⟨h1, h2, h3⟩ := id hT
  refine r_enter [(0, .ref (B + 0)), (1, .int b)] hv_X5_leave.1.2.2.2.2 (Nat.le_of_ble_eq_true rfl) rfl ?_
  refine r_aload_n dX5_leave_0 rfl ?_
  refine r_getI (ci := 5) (k := 13) wf_X5_294 dX5_leave_1 z_0 k_0 (by decide) (by decide) rfl (fun z1 hz1 => ?_)
  obtain rfl : z1 = nI t.1 := hz1.trans h1
  refine r_bipush (nI 16) dX5_leave_4 (by decide) ?_
  refine r_icmp_ge (tgt := 29) dX5_leave_6 (by decide) (fun c6 => ?_) (fun c6 => ?_)
  · skip
    rw [nI_leI (by omega) (by omega)] at c6
    refine r_vret2 dX5_leave_29 rfl ⟨Nat.zero_le _, Nat.zero_le _⟩ ?_
    first
      | exact ⟨(lv_ok hT (by omega)).1, (lv_ok hT (by omega)).2, rfl⟩
      | (unfold s_lv; rw [if_neg (by omega)]; exact ⟨hT, FT.rf, rfl⟩)
  · skip
    rw [nI_leI (by omega) (by omega)] at c6
    refine r_aload_n dX5_leave_9 rfl ?_
    refine r_getR (ci := 5) (k := 12) wf_X5_65 dX5_leave_10 z_0 k_0 (by decide) (by decide) (fun _ _ => rfl) f_0_12 ?_
    refine r_aload_n dX5_leave_13 rfl ?_
    refine r_getI (ci := 5) (k := 13) wf_X5_294 dX5_leave_14 z_0 k_0 (by decide) (by decide) rfl (fun z2 hz2 => ?_)
    obtain rfl : z2 = nI t.1 := hz2.trans h1
    refine r_iload_n dX5_leave_17 rfl ?_
    refine r_iast dX5_leave_18 z_194 k_194 (vp_in_nI (by omega) (by decide)) (fun D3 hD3 => ?_)
    rw [nI_clamp (by omega)] at hD3
    obtain rfl : D3 = upo D 194 (upd (D 194) t.1 b) := hD3.trans up2_eq
    refine r_aload_n dX5_leave_19 rfl ?_
    refine r_dup dX5_leave_20 rfl ?_
    refine r_getI (ci := 5) (k := 13) wf_X5_294 dX5_leave_21 z_0 k_0 (by decide) (by decide) rfl (fun z4 hz4 => ?_)
    obtain rfl : z4 = nI t.1 := hz4.trans ((congrFun (upo_n (by decide)) 13).trans h1)
    refine r_iconst (nI 1) dX5_leave_24 (by decide) ?_
    refine r_iadd dX5_leave_25 (fun z5 hz5 => ?_)
    obtain rfl : z5 = nI (t.1 + 1) := (hz5.trans (nI_add _ _))
    refine r_putI (ci := 5) (k := 13) wf_X5_294 dX5_leave_26 z_0 k_0 (by decide) (by decide) rfl rfl (fun D6 hD6 => ?_)
    obtain rfl : D6 = lvD D t b := hD6.trans (up2_eq.trans (congrArg (fun g => upo (upo D 194 (upd (D 194) t.1 b)) 0 (upd g 13 (nI (t.1 + 1)))) (upo_n (by decide))))
    refine r_vret2 dX5_leave_29 rfl ⟨Nat.zero_le _, Nat.zero_le _⟩ ?_
    first
      | exact ⟨(lv_ok hT (by omega)).1, (lv_ok hT (by omega)).2, rfl⟩
      | (unfold s_lv; rw [if_neg (by omega)]; exact ⟨hT, FT.rf, rfl⟩)
set_option maxRecDepth 100000 in
set_option maxHeartbeats 4000000 in
theorem c_X5_lentSize (B : Nat) (D : DD) (E : EE) (r : Row) (w : Nat) (hC : CA D 21 r) (hw : w < r 5) (hk5 : r (16 + 8 * w) ≤ 5) (hw6 : w < 6) (t : TRt) (hT : TRc D t) : MR yX5_lentSize cX5_lentSize 2 (some .int) rX5_lentSize B [.ref (B + 0), .int (nI w)] Z0 D E (Q2 Z0 (pI (fun v D' E' => v = ((nI (r (19 + 8 * w)), s_lv t (nI 10))).1 ∧ TRc D' ((nI (r (19 + 8 * w)), s_lv t (nI 10))).2 ∧ FT D D' ∧ E' = E))) := by
  have hC_D := hC
  have hT_D := hT
  have hF_D : FT D D := FT.rf
  refine r_enter [(0, .ref (B + 0)), (1, .int (nI w))] hv_X5_lentSize.1.2.2.2.2 (Nat.le_of_ble_eq_true rfl) rfl ?_
  refine r_aload_n dX5_lentSize_0 rfl ?_
  refine r_bipush (nI 10) dX5_lentSize_1 (by decide) ?_
  refine r_callVV (As := [.int (nI 10)]) (o := 0) (c_X5_leave B D E (nI 10) t hT_D) hv_X5_leave wm_X5_374 dX5_lentSize_3 rfl rfl z_0 k_0 (by decide) rfl (Nat.le_of_ble_eq_true rfl) ⟨Nat.le_of_ble_eq_true rfl, Nat.le_of_ble_eq_true rfl, Nat.zero_le _, Nat.zero_le _⟩ ⟨rfl, rfl⟩ (fun D2 E3 hz1 => ?_)
  obtain ⟨hq2, hq3, hqE⟩ := hz1
  obtain rfl := hqE.symm
  have hT_D2 := hq2
  have hF_D2 := hF_D.trans hq3
  have hC_D2 := hq3.ca hC_D
  refine r_aload_n dX5_lentSize_6 rfl ?_
  refine r_getR (ci := 5) (k := 3) wf_X5_33 dX5_lentSize_7 z_0 k_0 (by decide) (by decide) (fun _ _ => rfl) f_0_3 ?_
  refine r_getR (ci := 0) (k := 8) wf_X5_181 dX5_lentSize_10 z_21 k_21 (by decide) (by decide) (fun _ _ => rfl) f_21_8 ?_
  refine r_iload_n dX5_lentSize_13 rfl ?_
  refine r_iald dX5_lentSize_14 z_24 k_24 (vp_in_nI (by omega) (by decide)) (fun z4 hz4 => ?_)
  rw [nI_clamp (by omega)] at hz4
  obtain rfl : z4 = nI (r (19 + 8 * w)) := hz4.trans (hC_D2.2.1 w hw).2.2.1
  refine r_iret2 dX5_lentSize_15 rfl ⟨Nat.zero_le _, Nat.zero_le _⟩ ?_
  exact ⟨rfl, hT_D2, hF_D2, rfl⟩
set_option maxRecDepth 100000 in
set_option maxHeartbeats 4000000 in
theorem c_X5_lentMark (B : Nat) (D : DD) (E : EE) (r : Row) (w : Nat) (hC : CA D 21 r) (hw : w < r 5) (hk5 : r (16 + 8 * w) ≤ 5) (hw6 : w < 6) (t : TRt) (hT : TRc D t) : MR yX5_lentMark cX5_lentMark 2 (some .int) rX5_lentMark B [.ref (B + 0), .int (nI w)] Z0 D E (Q2 Z0 (pI (fun v D' E' => v = ((nI w, s_lv t (nI 20))).1 ∧ TRc D' ((nI w, s_lv t (nI 20))).2 ∧ FT D D' ∧ E' = E))) := by
  have hC_D := hC
  have hT_D := hT
  have hF_D : FT D D := FT.rf
  refine r_enter [(0, .ref (B + 0)), (1, .int (nI w))] hv_X5_lentMark.1.2.2.2.2 (Nat.le_of_ble_eq_true rfl) rfl ?_
  refine r_aload_n dX5_lentMark_0 rfl ?_
  refine r_bipush (nI 20) dX5_lentMark_1 (by decide) ?_
  refine r_callVV (As := [.int (nI 20)]) (o := 0) (c_X5_leave B D E (nI 20) t hT_D) hv_X5_leave wm_X5_374 dX5_lentMark_3 rfl rfl z_0 k_0 (by decide) rfl (Nat.le_of_ble_eq_true rfl) ⟨Nat.le_of_ble_eq_true rfl, Nat.le_of_ble_eq_true rfl, Nat.zero_le _, Nat.zero_le _⟩ ⟨rfl, rfl⟩ (fun D2 E3 hz1 => ?_)
  obtain ⟨hq2, hq3, hqE⟩ := hz1
  obtain rfl := hqE.symm
  have hT_D2 := hq2
  have hF_D2 := hF_D.trans hq3
  have hC_D2 := hq3.ca hC_D
  refine r_iload_n dX5_lentMark_6 rfl ?_
  refine r_iret2 dX5_lentMark_7 rfl ⟨Nat.zero_le _, Nat.zero_le _⟩ ?_
  exact ⟨rfl, hT_D2, hF_D2, rfl⟩
set_option maxRecDepth 100000 in
set_option maxHeartbeats 4000000 in
theorem c_X5_markOfGrown (B : Nat) (D : DD) (E : EE) (r : Row) (w : Nat) (hC : CA D 21 r) (hw : w < r 5) (hk5 : r (16 + 8 * w) ≤ 5) (hw6 : w < 6) (t : TRt) (hT : TRc D t) : MR yX5_markOfGrown cX5_markOfGrown 2 (some .int) rX5_markOfGrown B [.ref (B + 0), .int (nI w)] Z0 D E (Q2 Z0 (pI (fun v D' E' => v = (k_mg r w t).1 ∧ TRc D' (k_mg r w t).2 ∧ FT D D' ∧ E' = E))) := by
  have hC_D := hC
  have hT_D := hT
  have hF_D : FT D D := FT.rf
  refine r_enter [(0, .ref (B + 0)), (1, .int (nI w))] hv_X5_markOfGrown.1.2.2.2.2 (Nat.le_of_ble_eq_true rfl) rfl ?_
  refine r_aload_n dX5_markOfGrown_0 rfl ?_
  refine r_bipush (nI 21) dX5_markOfGrown_1 (by decide) ?_
  refine r_callVV (As := [.int (nI 21)]) (o := 0) (c_X5_leave B D E (nI 21) t hT_D) hv_X5_leave wm_X5_374 dX5_markOfGrown_3 rfl rfl z_0 k_0 (by decide) rfl (Nat.le_of_ble_eq_true rfl) ⟨Nat.le_of_ble_eq_true rfl, Nat.le_of_ble_eq_true rfl, Nat.zero_le _, Nat.zero_le _⟩ ⟨rfl, rfl⟩ (fun D2 E3 hz1 => ?_)
  obtain ⟨hq2, hq3, hqE⟩ := hz1
  obtain rfl := hqE.symm
  have hT_D2 := hq2
  have hF_D2 := hF_D.trans hq3
  have hC_D2 := hq3.ca hC_D
  refine r_aload_n dX5_markOfGrown_6 rfl ?_
  refine r_iload_n dX5_markOfGrown_7 rfl ?_
  refine r_callVI (As := [.int (nI w)]) (o := 0) (c_X5_lentMark B D2 E r w hC_D2 hw hk5 hw6 (s_lv t (nI 21)) hT_D2) hv_X5_lentMark wm_X5_389 dX5_markOfGrown_8 rfl rfl z_0 k_0 (by decide) rfl (Nat.le_of_ble_eq_true rfl) ⟨Nat.le_of_ble_eq_true rfl, Nat.le_of_ble_eq_true rfl, Nat.zero_le _, Nat.zero_le _⟩ ⟨rfl, rfl⟩ (fun z4 D5 E6 hz4 => ?_)
  obtain ⟨hq1, hq2, hq3, hqE⟩ := hz4
  obtain rfl := hqE.symm
  obtain rfl := hq1.symm
  have hT_D5 := hq2
  have hF_D5 := hF_D2.trans hq3
  have hC_D5 := hq3.ca hC_D2
  refine r_aload_n dX5_markOfGrown_11 rfl ?_
  refine r_getR (ci := 5) (k := 3) wf_X5_33 dX5_markOfGrown_12 z_0 k_0 (by decide) (by decide) (fun _ _ => rfl) f_0_3 ?_
  refine r_getR (ci := 0) (k := 9) wf_X5_199 dX5_markOfGrown_15 z_21 k_21 (by decide) (by decide) (fun _ _ => rfl) f_21_9 ?_
  refine r_iload_n dX5_markOfGrown_18 rfl ?_
  refine r_iald dX5_markOfGrown_19 z_25 k_25 (vp_in_nI (by omega) (by decide)) (fun z7 hz7 => ?_)
  rw [nI_clamp (by omega)] at hz7
  obtain rfl : z7 = nI (r (22 + 8 * w)) := hz7.trans (hC_D5.2.1 w hw).2.2.2
  refine r_iadd dX5_markOfGrown_20 (fun z8 hz8 => ?_)
  obtain rfl : z8 = nI (w + (r (22 + 8 * w))) := (hz8.trans (nI_add _ _))
  refine r_iret2 dX5_markOfGrown_21 rfl ⟨Nat.zero_le _, Nat.zero_le _⟩ ?_
  exact ⟨rfl, hT_D5, hF_D5, rfl⟩
set_option maxRecDepth 100000 in
set_option maxHeartbeats 4000000 in
theorem c_X5_sizeOfChild (B : Nat) (D : DD) (E : EE) (r : Row) (w : Nat) (hC : CA D 21 r) (hw : w < r 5) (hk5 : r (16 + 8 * w) ≤ 5) (hw6 : w < 6) (t : TRt) (hT : TRc D t) : MR yX5_sizeOfChild cX5_sizeOfChild 2 (some .int) rX5_sizeOfChild B [.ref (B + 0), .int (nI w)] Z0 D E (Q2 Z0 (pI (fun v D' E' => v = ((nI (r (19 + 8 * w)) - nI 100, s_lv (s_lv t (nI 13)) (nI 10))).1 ∧ TRc D' ((nI (r (19 + 8 * w)) - nI 100, s_lv (s_lv t (nI 13)) (nI 10))).2 ∧ FT D D' ∧ E' = E))) := by
  have hC_D := hC
  have hT_D := hT
  have hF_D : FT D D := FT.rf
  refine r_enter [(0, .ref (B + 0)), (1, .int (nI w))] hv_X5_sizeOfChild.1.2.2.2.2 (Nat.le_of_ble_eq_true rfl) rfl ?_
  refine r_aload_n dX5_sizeOfChild_0 rfl ?_
  refine r_bipush (nI 13) dX5_sizeOfChild_1 (by decide) ?_
  refine r_callVV (As := [.int (nI 13)]) (o := 0) (c_X5_leave B D E (nI 13) t hT_D) hv_X5_leave wm_X5_374 dX5_sizeOfChild_3 rfl rfl z_0 k_0 (by decide) rfl (Nat.le_of_ble_eq_true rfl) ⟨Nat.le_of_ble_eq_true rfl, Nat.le_of_ble_eq_true rfl, Nat.zero_le _, Nat.zero_le _⟩ ⟨rfl, rfl⟩ (fun D2 E3 hz1 => ?_)
  obtain ⟨hq2, hq3, hqE⟩ := hz1
  obtain rfl := hqE.symm
  have hT_D2 := hq2
  have hF_D2 := hF_D.trans hq3
  have hC_D2 := hq3.ca hC_D
  refine r_aload_n dX5_sizeOfChild_6 rfl ?_
  refine r_iload_n dX5_sizeOfChild_7 rfl ?_
  refine r_callVI (As := [.int (nI w)]) (o := 0) (c_X5_lentSize B D2 E r w hC_D2 hw hk5 hw6 (s_lv t (nI 13)) hT_D2) hv_X5_lentSize wm_X5_380 dX5_sizeOfChild_8 rfl rfl z_0 k_0 (by decide) rfl (Nat.le_of_ble_eq_true rfl) ⟨Nat.le_of_ble_eq_true rfl, Nat.le_of_ble_eq_true rfl, Nat.zero_le _, Nat.zero_le _⟩ ⟨rfl, rfl⟩ (fun z4 D5 E6 hz4 => ?_)
  obtain ⟨hq1, hq2, hq3, hqE⟩ := hz4
  obtain rfl := hqE.symm
  obtain rfl := hq1.symm
  have hT_D5 := hq2
  have hF_D5 := hF_D2.trans hq3
  have hC_D5 := hq3.ca hC_D2
  refine r_bipush (nI 100) dX5_sizeOfChild_11 (by decide) ?_
  refine r_isub dX5_sizeOfChild_13 (fun z7 hz7 => ?_)
  subst hz7
  refine r_iret2 dX5_sizeOfChild_14 rfl ⟨Nat.zero_le _, Nat.zero_le _⟩ ?_
  exact ⟨rfl, hT_D5, hF_D5, rfl⟩
set_option maxRecDepth 100000 in
set_option maxHeartbeats 4000000 in
theorem c_X5_childSize (B : Nat) (D : DD) (E : EE) (r : Row) (w : Nat) (hC : CA D 21 r) (hw : w < r 5) (hk5 : r (16 + 8 * w) ≤ 5) (hw6 : w < 6) (t : TRt) (hT : TRc D t) : MR yX5_childSize cX5_childSize 2 (some .int) rX5_childSize B [.ref (B + 0), .int (nI w)] Z0 D E (Q2 Z0 (pI (fun v D' E' => v = (k_cs r w t).1 ∧ TRc D' (k_cs r w t).2 ∧ FT D D' ∧ E' = E))) := by
  have hC_D := hC
  have hT_D := hT
  have hF_D : FT D D := FT.rf
  refine r_enter [(0, .ref (B + 0)), (1, .int (nI w))] hv_X5_childSize.1.2.2.2.2 (Nat.le_of_ble_eq_true rfl) rfl ?_
  refine r_aload_n dX5_childSize_0 rfl ?_
  refine r_getR (ci := 5) (k := 3) wf_X5_33 dX5_childSize_1 z_0 k_0 (by decide) (by decide) (fun _ _ => rfl) f_0_3 ?_
  refine r_getR (ci := 0) (k := 6) wf_X5_287 dX5_childSize_4 z_21 k_21 (by decide) (by decide) (fun _ _ => rfl) f_21_6 ?_
  refine r_iload_n dX5_childSize_7 rfl ?_
  refine r_iald dX5_childSize_8 z_22 k_22 (vp_in_nI (by omega) (by decide)) (fun z1 hz1 => ?_)
  rw [nI_clamp (by omega)] at hz1
  obtain rfl : z1 = nI (r (16 + 8 * w)) := hz1.trans (hC_D.2.1 w hw).1
  refine r_iconst (nI 5) dX5_childSize_9 (by decide) ?_
  refine r_icmp_ne (tgt := 27) dX5_childSize_10 (by decide) (fun c10 => ?_) (fun c10 => ?_)
  · skip
    rw [nI_eq (by omega) (by omega)] at c10
    refine r_aload_n dX5_childSize_27 rfl ?_
    refine r_iload_n dX5_childSize_28 rfl ?_
    refine r_callVI (As := [.int (nI w)]) (o := 0) (c_X5_sizeOfChild B D E r w hC_D hw hk5 hw6 t hT_D) hv_X5_sizeOfChild wm_X5_383 dX5_childSize_29 rfl rfl z_0 k_0 (by decide) rfl (Nat.le_of_ble_eq_true rfl) ⟨Nat.le_of_ble_eq_true rfl, Nat.le_of_ble_eq_true rfl, Nat.zero_le _, Nat.zero_le _⟩ ⟨rfl, rfl⟩ (fun z2 D3 E4 hz2 => ?_)
    obtain ⟨hq1, hq2, hq3, hqE⟩ := hz2
    obtain rfl := hqE.symm
    obtain rfl := hq1.symm
    have hT_D3 := hq2
    have hF_D3 := hF_D.trans hq3
    have hC_D3 := hq3.ca hC_D
    refine r_iret2 dX5_childSize_32 rfl ⟨Nat.zero_le _, Nat.zero_le _⟩ ?_
    unfold k_cs
    rw [if_neg c10]
    exact ⟨rfl, hT_D3, hF_D3, rfl⟩
  · skip
    rw [nI_eq (by omega) (by omega)] at c10
    refine r_aload_n dX5_childSize_13 rfl ?_
    refine r_bipush (nI 14) dX5_childSize_14 (by decide) ?_
    refine r_callVV (As := [.int (nI 14)]) (o := 0) (c_X5_leave B D E (nI 14) t hT_D) hv_X5_leave wm_X5_374 dX5_childSize_16 rfl rfl z_0 k_0 (by decide) rfl (Nat.le_of_ble_eq_true rfl) ⟨Nat.le_of_ble_eq_true rfl, Nat.le_of_ble_eq_true rfl, Nat.zero_le _, Nat.zero_le _⟩ ⟨rfl, rfl⟩ (fun D6 E7 hz5 => ?_)
    obtain ⟨hq2, hq3, hqE⟩ := hz5
    obtain rfl := hqE.symm
    have hT_D6 := hq2
    have hF_D6 := hF_D.trans hq3
    have hC_D6 := hq3.ca hC_D
    refine r_iconst (nI 2) dX5_childSize_19 (by decide) ?_
    refine r_aload_n dX5_childSize_20 rfl ?_
    refine r_iload_n dX5_childSize_21 rfl ?_
    refine r_callVI (As := [.int (nI w)]) (o := 0) (c_X5_sizeOfChild B D6 E r w hC_D6 hw hk5 hw6 (s_lv t (nI 14)) hT_D6) hv_X5_sizeOfChild wm_X5_383 dX5_childSize_22 rfl rfl z_0 k_0 (by decide) rfl (Nat.le_of_ble_eq_true rfl) ⟨Nat.le_of_ble_eq_true rfl, Nat.le_of_ble_eq_true rfl, Nat.zero_le _, Nat.zero_le _⟩ ⟨rfl, rfl⟩ (fun z8 D9 E10 hz8 => ?_)
    obtain ⟨hq1, hq2, hq3, hqE⟩ := hz8
    obtain rfl := hqE.symm
    obtain rfl := hq1.symm
    have hT_D9 := hq2
    have hF_D9 := hF_D6.trans hq3
    have hC_D9 := hq3.ca hC_D6
    refine r_imul dX5_childSize_25 (fun z11 hz11 => ?_)
    subst hz11
    refine r_iret2 dX5_childSize_26 rfl ⟨Nat.zero_le _, Nat.zero_le _⟩ ?_
    unfold k_cs
    rw [if_pos c10]
    exact ⟨rfl, hT_D9, hF_D9, rfl⟩
set_option maxRecDepth 100000 in
set_option maxHeartbeats 4000000 in
theorem c_X5_grownMark (B : Nat) (D : DD) (E : EE) (r : Row) (w : Nat) (hC : CA D 21 r) (hw : w < r 5) (hk5 : r (16 + 8 * w) ≤ 5) (hw6 : w < 6) (t : TRt) (hT : TRc D t) : MR yX5_grownMark cX5_grownMark 2 (some .int) rX5_grownMark B [.ref (B + 0), .int (nI w)] Z0 D E (Q2 Z0 (pI (fun v D' E' => v = (k_gm r w t).1 ∧ TRc D' (k_gm r w t).2 ∧ FT D D' ∧ E' = E))) := by
  have hC_D := hC
  have hT_D := hT
  have hF_D : FT D D := FT.rf
  refine r_enter [(0, .ref (B + 0)), (1, .int (nI w))] hv_X5_grownMark.1.2.2.2.2 (Nat.le_of_ble_eq_true rfl) rfl ?_
  refine r_aload_n dX5_grownMark_0 rfl ?_
  refine r_getR (ci := 5) (k := 3) wf_X5_33 dX5_grownMark_1 z_0 k_0 (by decide) (by decide) (fun _ _ => rfl) f_0_3 ?_
  refine r_getR (ci := 0) (k := 6) wf_X5_287 dX5_grownMark_4 z_21 k_21 (by decide) (by decide) (fun _ _ => rfl) f_21_6 ?_
  refine r_iload_n dX5_grownMark_7 rfl ?_
  refine r_iald dX5_grownMark_8 z_22 k_22 (vp_in_nI (by omega) (by decide)) (fun z1 hz1 => ?_)
  rw [nI_clamp (by omega)] at hz1
  obtain rfl : z1 = nI (r (16 + 8 * w)) := hz1.trans (hC_D.2.1 w hw).1
  rcases (show r (16 + 8 * w) = 0 ∨ r (16 + 8 * w) = 1 ∨ r (16 + 8 * w) = 2 ∨ r (16 + 8 * w) = 3 ∨ r (16 + 8 * w) = 4 ∨ r (16 + 8 * w) = 5 by omega) with hk | hk | hk | hk | hk | hk
  · refine r_lookup (off := 57) (tgt := 66) dX5_grownMark_9 (by decide) (by rw [hk]; decide) (by decide) ?_
    refine r_aload_n dX5_grownMark_66 rfl ?_
    refine r_iload_n dX5_grownMark_67 rfl ?_
    refine r_callVI (As := [.int (nI w)]) (o := 0) (c_X5_markOfGrown B D E r w hC_D hw hk5 hw6 t hT_D) hv_X5_markOfGrown wm_X5_386 dX5_grownMark_68 rfl rfl z_0 k_0 (by decide) rfl (Nat.le_of_ble_eq_true rfl) ⟨Nat.le_of_ble_eq_true rfl, Nat.le_of_ble_eq_true rfl, Nat.zero_le _, Nat.zero_le _⟩ ⟨rfl, rfl⟩ (fun z2 D3 E4 hz2 => ?_)
    obtain ⟨hq1, hq2, hq3, hqE⟩ := hz2
    obtain rfl := hqE.symm
    obtain rfl := hq1.symm
    have hT_D3 := hq2
    have hF_D3 := hF_D.trans hq3
    have hC_D3 := hq3.ca hC_D
    refine r_iret2 dX5_grownMark_71 rfl ⟨Nat.zero_le _, Nat.zero_le _⟩ ?_
    unfold k_gm
    rw [if_neg (by omega), if_neg (by omega)]
    exact ⟨rfl, hT_D3, hF_D3, rfl⟩
  · refine r_lookup (off := 57) (tgt := 66) dX5_grownMark_9 (by decide) (by rw [hk]; decide) (by decide) ?_
    refine r_aload_n dX5_grownMark_66 rfl ?_
    refine r_iload_n dX5_grownMark_67 rfl ?_
    refine r_callVI (As := [.int (nI w)]) (o := 0) (c_X5_markOfGrown B D E r w hC_D hw hk5 hw6 t hT_D) hv_X5_markOfGrown wm_X5_386 dX5_grownMark_68 rfl rfl z_0 k_0 (by decide) rfl (Nat.le_of_ble_eq_true rfl) ⟨Nat.le_of_ble_eq_true rfl, Nat.le_of_ble_eq_true rfl, Nat.zero_le _, Nat.zero_le _⟩ ⟨rfl, rfl⟩ (fun z5 D6 E7 hz5 => ?_)
    obtain ⟨hq1, hq2, hq3, hqE⟩ := hz5
    obtain rfl := hqE.symm
    obtain rfl := hq1.symm
    have hT_D6 := hq2
    have hF_D6 := hF_D.trans hq3
    have hC_D6 := hq3.ca hC_D
    refine r_iret2 dX5_grownMark_71 rfl ⟨Nat.zero_le _, Nat.zero_le _⟩ ?_
    unfold k_gm
    rw [if_neg (by omega), if_neg (by omega)]
    exact ⟨rfl, hT_D6, hF_D6, rfl⟩
  · refine r_lookup (off := 27) (tgt := 36) dX5_grownMark_9 (by decide) (by rw [hk]; decide) (by decide) ?_
    refine r_aload_n dX5_grownMark_36 rfl ?_
    refine r_bipush (nI 24) dX5_grownMark_37 (by decide) ?_
    refine r_callVV (As := [.int (nI 24)]) (o := 0) (c_X5_leave B D E (nI 24) t hT_D) hv_X5_leave wm_X5_374 dX5_grownMark_39 rfl rfl z_0 k_0 (by decide) rfl (Nat.le_of_ble_eq_true rfl) ⟨Nat.le_of_ble_eq_true rfl, Nat.le_of_ble_eq_true rfl, Nat.zero_le _, Nat.zero_le _⟩ ⟨rfl, rfl⟩ (fun D9 E10 hz8 => ?_)
    obtain ⟨hq2, hq3, hqE⟩ := hz8
    obtain rfl := hqE.symm
    have hT_D9 := hq2
    have hF_D9 := hF_D.trans hq3
    have hC_D9 := hq3.ca hC_D
    refine r_iconst (nI 2) dX5_grownMark_42 (by decide) ?_
    refine r_aload_n dX5_grownMark_43 rfl ?_
    refine r_iload_n dX5_grownMark_44 rfl ?_
    refine r_callVI (As := [.int (nI w)]) (o := 0) (c_X5_markOfGrown B D9 E r w hC_D9 hw hk5 hw6 (s_lv t (nI 24)) hT_D9) hv_X5_markOfGrown wm_X5_386 dX5_grownMark_45 rfl rfl z_0 k_0 (by decide) rfl (Nat.le_of_ble_eq_true rfl) ⟨Nat.le_of_ble_eq_true rfl, Nat.le_of_ble_eq_true rfl, Nat.zero_le _, Nat.zero_le _⟩ ⟨rfl, rfl⟩ (fun z11 D12 E13 hz11 => ?_)
    obtain ⟨hq1, hq2, hq3, hqE⟩ := hz11
    obtain rfl := hqE.symm
    obtain rfl := hq1.symm
    have hT_D12 := hq2
    have hF_D12 := hF_D9.trans hq3
    have hC_D12 := hq3.ca hC_D9
    refine r_imul dX5_grownMark_48 (fun z14 hz14 => ?_)
    obtain rfl : z14 = nI (2 * (w + r (22 + 8 * w))) := (hz14.trans (pk_mul _ _))
    refine r_iret2 dX5_grownMark_49 rfl ⟨Nat.zero_le _, Nat.zero_le _⟩ ?_
    unfold k_gm
    rw [if_pos hk]
    exact ⟨rfl, hT_D12, hF_D12, rfl⟩
  · refine r_lookup (off := 41) (tgt := 50) dX5_grownMark_9 (by decide) (by rw [hk]; decide) (by decide) ?_
    refine r_aload_n dX5_grownMark_50 rfl ?_
    refine r_bipush (nI 22) dX5_grownMark_51 (by decide) ?_
    refine r_callVV (As := [.int (nI 22)]) (o := 0) (c_X5_leave B D E (nI 22) t hT_D) hv_X5_leave wm_X5_374 dX5_grownMark_53 rfl rfl z_0 k_0 (by decide) rfl (Nat.le_of_ble_eq_true rfl) ⟨Nat.le_of_ble_eq_true rfl, Nat.le_of_ble_eq_true rfl, Nat.zero_le _, Nat.zero_le _⟩ ⟨rfl, rfl⟩ (fun D16 E17 hz15 => ?_)
    obtain ⟨hq2, hq3, hqE⟩ := hz15
    obtain rfl := hqE.symm
    have hT_D16 := hq2
    have hF_D16 := hF_D.trans hq3
    have hC_D16 := hq3.ca hC_D
    refine r_aload_n dX5_grownMark_56 rfl ?_
    refine r_iload_n dX5_grownMark_57 rfl ?_
    refine r_callVI (As := [.int (nI w)]) (o := 0) (c_X5_markOfGrown B D16 E r w hC_D16 hw hk5 hw6 (s_lv t (nI 22)) hT_D16) hv_X5_markOfGrown wm_X5_386 dX5_grownMark_58 rfl rfl z_0 k_0 (by decide) rfl (Nat.le_of_ble_eq_true rfl) ⟨Nat.le_of_ble_eq_true rfl, Nat.le_of_ble_eq_true rfl, Nat.zero_le _, Nat.zero_le _⟩ ⟨rfl, rfl⟩ (fun z18 D19 E20 hz18 => ?_)
    obtain ⟨hq1, hq2, hq3, hqE⟩ := hz18
    obtain rfl := hqE.symm
    obtain rfl := hq1.symm
    have hT_D19 := hq2
    have hF_D19 := hF_D16.trans hq3
    have hC_D19 := hq3.ca hC_D16
    refine r_sipush (nI 1000) dX5_grownMark_61 (by decide) ?_
    refine r_isub dX5_grownMark_64 (fun z21 hz21 => ?_)
    subst hz21
    refine r_iret2 dX5_grownMark_65 rfl ⟨Nat.zero_le _, Nat.zero_le _⟩ ?_
    unfold k_gm
    rw [if_neg (by omega), if_pos hk]
    exact ⟨rfl, hT_D19, hF_D19, rfl⟩
  · refine r_lookup (off := 57) (tgt := 66) dX5_grownMark_9 (by decide) (by rw [hk]; decide) (by decide) ?_
    refine r_aload_n dX5_grownMark_66 rfl ?_
    refine r_iload_n dX5_grownMark_67 rfl ?_
    refine r_callVI (As := [.int (nI w)]) (o := 0) (c_X5_markOfGrown B D E r w hC_D hw hk5 hw6 t hT_D) hv_X5_markOfGrown wm_X5_386 dX5_grownMark_68 rfl rfl z_0 k_0 (by decide) rfl (Nat.le_of_ble_eq_true rfl) ⟨Nat.le_of_ble_eq_true rfl, Nat.le_of_ble_eq_true rfl, Nat.zero_le _, Nat.zero_le _⟩ ⟨rfl, rfl⟩ (fun z22 D23 E24 hz22 => ?_)
    obtain ⟨hq1, hq2, hq3, hqE⟩ := hz22
    obtain rfl := hqE.symm
    obtain rfl := hq1.symm
    have hT_D23 := hq2
    have hF_D23 := hF_D.trans hq3
    have hC_D23 := hq3.ca hC_D
    refine r_iret2 dX5_grownMark_71 rfl ⟨Nat.zero_le _, Nat.zero_le _⟩ ?_
    unfold k_gm
    rw [if_neg (by omega), if_neg (by omega)]
    exact ⟨rfl, hT_D23, hF_D23, rfl⟩
  · refine r_lookup (off := 57) (tgt := 66) dX5_grownMark_9 (by decide) (by rw [hk]; decide) (by decide) ?_
    refine r_aload_n dX5_grownMark_66 rfl ?_
    refine r_iload_n dX5_grownMark_67 rfl ?_
    refine r_callVI (As := [.int (nI w)]) (o := 0) (c_X5_markOfGrown B D E r w hC_D hw hk5 hw6 t hT_D) hv_X5_markOfGrown wm_X5_386 dX5_grownMark_68 rfl rfl z_0 k_0 (by decide) rfl (Nat.le_of_ble_eq_true rfl) ⟨Nat.le_of_ble_eq_true rfl, Nat.le_of_ble_eq_true rfl, Nat.zero_le _, Nat.zero_le _⟩ ⟨rfl, rfl⟩ (fun z25 D26 E27 hz25 => ?_)
    obtain ⟨hq1, hq2, hq3, hqE⟩ := hz25
    obtain rfl := hqE.symm
    obtain rfl := hq1.symm
    have hT_D26 := hq2
    have hF_D26 := hF_D.trans hq3
    have hC_D26 := hq3.ca hC_D
    refine r_iret2 dX5_grownMark_71 rfl ⟨Nat.zero_le _, Nat.zero_le _⟩ ?_
    unfold k_gm
    rw [if_neg (by omega), if_neg (by omega)]
    exact ⟨rfl, hT_D26, hF_D26, rfl⟩
set_option maxRecDepth 100000 in
set_option maxHeartbeats 4000000 in
theorem c_X5_sizeOfGrown (B : Nat) (D : DD) (E : EE) (r : Row) (w : Nat) (hC : CA D 21 r) (hw : w < r 5) (hk5 : r (16 + 8 * w) ≤ 5) (hw6 : w < 6) (t : TRt) (hT : TRc D t) : MR yX5_sizeOfGrown cX5_sizeOfGrown 3 (some .int) rX5_sizeOfGrown B [.ref (B + 0), .int (nI w)] Z0 D E (Q2 Z0 (pI (fun v D' E' => v = (k_sg r w t).1 ∧ TRc D' (k_sg r w t).2 ∧ FT D D' ∧ E' = E))) := by
  have hC_D := hC
  have hT_D := hT
  have hF_D : FT D D := FT.rf
  refine r_enter [(0, .ref (B + 0)), (1, .int (nI w))] hv_X5_sizeOfGrown.1.2.2.2.2 (Nat.le_of_ble_eq_true rfl) rfl ?_
  refine r_aload_n dX5_sizeOfGrown_0 rfl ?_
  refine r_bipush (nI 11) dX5_sizeOfGrown_1 (by decide) ?_
  refine r_callVV (As := [.int (nI 11)]) (o := 0) (c_X5_leave B D E (nI 11) t hT_D) hv_X5_leave wm_X5_374 dX5_sizeOfGrown_3 rfl rfl z_0 k_0 (by decide) rfl (Nat.le_of_ble_eq_true rfl) ⟨Nat.le_of_ble_eq_true rfl, Nat.le_of_ble_eq_true rfl, Nat.zero_le _, Nat.zero_le _⟩ ⟨rfl, rfl⟩ (fun D2 E3 hz1 => ?_)
  obtain ⟨hq2, hq3, hqE⟩ := hz1
  obtain rfl := hqE.symm
  have hT_D2 := hq2
  have hF_D2 := hF_D.trans hq3
  have hC_D2 := hq3.ca hC_D
  refine r_aload_n dX5_sizeOfGrown_6 rfl ?_
  refine r_iload_n dX5_sizeOfGrown_7 rfl ?_
  refine r_callVI (As := [.int (nI w)]) (o := 0) (c_X5_lentSize B D2 E r w hC_D2 hw hk5 hw6 (s_lv t (nI 11)) hT_D2) hv_X5_lentSize wm_X5_380 dX5_sizeOfGrown_8 rfl rfl z_0 k_0 (by decide) rfl (Nat.le_of_ble_eq_true rfl) ⟨Nat.le_of_ble_eq_true rfl, Nat.le_of_ble_eq_true rfl, Nat.zero_le _, Nat.zero_le _⟩ ⟨rfl, rfl⟩ (fun z4 D5 E6 hz4 => ?_)
  obtain ⟨hq1, hq2, hq3, hqE⟩ := hz4
  obtain rfl := hqE.symm
  obtain rfl := hq1.symm
  have hT_D5 := hq2
  have hF_D5 := hF_D2.trans hq3
  have hC_D5 := hq3.ca hC_D2
  refine r_istore_n [(2, .int (nI (r (19 + 8 * w)))), (0, .ref (B + 0)), (1, .int (nI w))] dX5_sizeOfGrown_11 (by decide) rfl ?_
  refine r_iload_n dX5_sizeOfGrown_12 rfl ?_
  refine r_aload_n dX5_sizeOfGrown_13 rfl ?_
  refine r_iload_n dX5_sizeOfGrown_14 rfl ?_
  refine r_callVI (As := [.int (nI w)]) (o := 0) (c_X5_grownMark B D5 E r w hC_D5 hw hk5 hw6 (s_lv (s_lv t (nI 11)) (nI 10)) hT_D5) hv_X5_grownMark wm_X5_303 dX5_sizeOfGrown_15 rfl rfl z_0 k_0 (by decide) rfl (Nat.le_of_ble_eq_true rfl) ⟨Nat.le_of_ble_eq_true rfl, Nat.le_of_ble_eq_true rfl, Nat.zero_le _, Nat.zero_le _⟩ ⟨rfl, rfl⟩ (fun z7 D8 E9 hz7 => ?_)
  obtain ⟨hq1, hq2, hq3, hqE⟩ := hz7
  obtain rfl := hqE.symm
  obtain rfl := hq1.symm
  have hT_D8 := hq2
  have hF_D8 := hF_D5.trans hq3
  have hC_D8 := hq3.ca hC_D5
  refine r_iadd dX5_sizeOfGrown_18 (fun z10 hz10 => ?_)
  subst hz10
  refine r_iret2 dX5_sizeOfGrown_19 rfl ⟨Nat.zero_le _, Nat.zero_le _⟩ ?_
  exact ⟨rfl, hT_D8, hF_D8, rfl⟩
set_option maxRecDepth 100000 in
set_option maxHeartbeats 4000000 in
theorem c_X5_grownSize (B : Nat) (D : DD) (E : EE) (r : Row) (w : Nat) (hC : CA D 21 r) (hw : w < r 5) (hk5 : r (16 + 8 * w) ≤ 5) (hw6 : w < 6) (t : TRt) (hT : TRc D t) : MR yX5_grownSize cX5_grownSize 2 (some .int) rX5_grownSize B [.ref (B + 0), .int (nI w)] Z0 D E (Q2 Z0 (pI (fun v D' E' => v = (k_gs r w t).1 ∧ TRc D' (k_gs r w t).2 ∧ FT D D' ∧ E' = E))) := by
  have hC_D := hC
  have hT_D := hT
  have hF_D : FT D D := FT.rf
  refine r_enter [(0, .ref (B + 0)), (1, .int (nI w))] hv_X5_grownSize.1.2.2.2.2 (Nat.le_of_ble_eq_true rfl) rfl ?_
  refine r_aload_n dX5_grownSize_0 rfl ?_
  refine r_getR (ci := 5) (k := 3) wf_X5_33 dX5_grownSize_1 z_0 k_0 (by decide) (by decide) (fun _ _ => rfl) f_0_3 ?_
  refine r_getR (ci := 0) (k := 6) wf_X5_287 dX5_grownSize_4 z_21 k_21 (by decide) (by decide) (fun _ _ => rfl) f_21_6 ?_
  refine r_iload_n dX5_grownSize_7 rfl ?_
  refine r_iald dX5_grownSize_8 z_22 k_22 (vp_in_nI (by omega) (by decide)) (fun z1 hz1 => ?_)
  rw [nI_clamp (by omega)] at hz1
  obtain rfl : z1 = nI (r (16 + 8 * w)) := hz1.trans (hC_D.2.1 w hw).1
  refine r_iconst (nI 2) dX5_grownSize_9 (by decide) ?_
  refine r_icmp_ne (tgt := 26) dX5_grownSize_10 (by decide) (fun c10 => ?_) (fun c10 => ?_)
  · skip
    rw [nI_eq (by omega) (by omega)] at c10
    refine r_aload_n dX5_grownSize_26 rfl ?_
    refine r_iload_n dX5_grownSize_27 rfl ?_
    refine r_callVI (As := [.int (nI w)]) (o := 0) (c_X5_sizeOfGrown B D E r w hC_D hw hk5 hw6 t hT_D) hv_X5_sizeOfGrown wm_X5_377 dX5_grownSize_28 rfl rfl z_0 k_0 (by decide) rfl (Nat.le_of_ble_eq_true rfl) ⟨Nat.le_of_ble_eq_true rfl, Nat.le_of_ble_eq_true rfl, Nat.zero_le _, Nat.zero_le _⟩ ⟨rfl, rfl⟩ (fun z2 D3 E4 hz2 => ?_)
    obtain ⟨hq1, hq2, hq3, hqE⟩ := hz2
    obtain rfl := hqE.symm
    obtain rfl := hq1.symm
    have hT_D3 := hq2
    have hF_D3 := hF_D.trans hq3
    have hC_D3 := hq3.ca hC_D
    refine r_iret2 dX5_grownSize_31 rfl ⟨Nat.zero_le _, Nat.zero_le _⟩ ?_
    unfold k_gs
    rw [if_neg c10]
    exact ⟨rfl, hT_D3, hF_D3, rfl⟩
  · skip
    rw [nI_eq (by omega) (by omega)] at c10
    refine r_aload_n dX5_grownSize_13 rfl ?_
    refine r_bipush (nI 12) dX5_grownSize_14 (by decide) ?_
    refine r_callVV (As := [.int (nI 12)]) (o := 0) (c_X5_leave B D E (nI 12) t hT_D) hv_X5_leave wm_X5_374 dX5_grownSize_16 rfl rfl z_0 k_0 (by decide) rfl (Nat.le_of_ble_eq_true rfl) ⟨Nat.le_of_ble_eq_true rfl, Nat.le_of_ble_eq_true rfl, Nat.zero_le _, Nat.zero_le _⟩ ⟨rfl, rfl⟩ (fun D6 E7 hz5 => ?_)
    obtain ⟨hq2, hq3, hqE⟩ := hz5
    obtain rfl := hqE.symm
    have hT_D6 := hq2
    have hF_D6 := hF_D.trans hq3
    have hC_D6 := hq3.ca hC_D
    refine r_aload_n dX5_grownSize_19 rfl ?_
    refine r_iload_n dX5_grownSize_20 rfl ?_
    refine r_callVI (As := [.int (nI w)]) (o := 0) (c_X5_sizeOfGrown B D6 E r w hC_D6 hw hk5 hw6 (s_lv t (nI 12)) hT_D6) hv_X5_sizeOfGrown wm_X5_377 dX5_grownSize_21 rfl rfl z_0 k_0 (by decide) rfl (Nat.le_of_ble_eq_true rfl) ⟨Nat.le_of_ble_eq_true rfl, Nat.le_of_ble_eq_true rfl, Nat.zero_le _, Nat.zero_le _⟩ ⟨rfl, rfl⟩ (fun z8 D9 E10 hz8 => ?_)
    obtain ⟨hq1, hq2, hq3, hqE⟩ := hz8
    obtain rfl := hqE.symm
    obtain rfl := hq1.symm
    have hT_D9 := hq2
    have hF_D9 := hF_D6.trans hq3
    have hC_D9 := hq3.ca hC_D6
    refine r_ineg dX5_grownSize_24 (fun z11 hz11 => ?_)
    subst hz11
    refine r_iret2 dX5_grownSize_25 rfl ⟨Nat.zero_le _, Nat.zero_le _⟩ ?_
    unfold k_gs
    rw [if_pos c10]
    exact ⟨rfl, hT_D9, hF_D9, rfl⟩
set_option maxRecDepth 100000 in
set_option maxHeartbeats 4000000 in
theorem c_X5_childMark (B : Nat) (D : DD) (E : EE) (r : Row) (w : Nat) (hC : CA D 21 r) (hw : w < r 5) (hk5 : r (16 + 8 * w) ≤ 5) (hw6 : w < 6) (t : TRt) (hT : TRc D t) : MR yX5_childMark cX5_childMark 3 (some .int) rX5_childMark B [.ref (B + 0), .int (nI w)] Z0 D E (Q2 Z0 (pI (fun v D' E' => v = (k_cm r w t).1 ∧ TRc D' (k_cm r w t).2 ∧ FT D D' ∧ E' = E))) := by
  have hC_D := hC
  have hT_D := hT
  have hF_D : FT D D := FT.rf
  refine r_enter [(0, .ref (B + 0)), (1, .int (nI w))] hv_X5_childMark.1.2.2.2.2 (Nat.le_of_ble_eq_true rfl) rfl ?_
  refine r_aload_n dX5_childMark_0 rfl ?_
  refine r_bipush (nI 23) dX5_childMark_1 (by decide) ?_
  refine r_callVV (As := [.int (nI 23)]) (o := 0) (c_X5_leave B D E (nI 23) t hT_D) hv_X5_leave wm_X5_374 dX5_childMark_3 rfl rfl z_0 k_0 (by decide) rfl (Nat.le_of_ble_eq_true rfl) ⟨Nat.le_of_ble_eq_true rfl, Nat.le_of_ble_eq_true rfl, Nat.zero_le _, Nat.zero_le _⟩ ⟨rfl, rfl⟩ (fun D2 E3 hz1 => ?_)
  obtain ⟨hq2, hq3, hqE⟩ := hz1
  obtain rfl := hqE.symm
  have hT_D2 := hq2
  have hF_D2 := hF_D.trans hq3
  have hC_D2 := hq3.ca hC_D
  refine r_aload_n dX5_childMark_6 rfl ?_
  refine r_iload_n dX5_childMark_7 rfl ?_
  refine r_callVI (As := [.int (nI w)]) (o := 0) (c_X5_lentMark B D2 E r w hC_D2 hw hk5 hw6 (s_lv t (nI 23)) hT_D2) hv_X5_lentMark wm_X5_389 dX5_childMark_8 rfl rfl z_0 k_0 (by decide) rfl (Nat.le_of_ble_eq_true rfl) ⟨Nat.le_of_ble_eq_true rfl, Nat.le_of_ble_eq_true rfl, Nat.zero_le _, Nat.zero_le _⟩ ⟨rfl, rfl⟩ (fun z4 D5 E6 hz4 => ?_)
  obtain ⟨hq1, hq2, hq3, hqE⟩ := hz4
  obtain rfl := hqE.symm
  obtain rfl := hq1.symm
  have hT_D5 := hq2
  have hF_D5 := hF_D2.trans hq3
  have hC_D5 := hq3.ca hC_D2
  refine r_istore_n [(2, .int (nI w)), (0, .ref (B + 0)), (1, .int (nI w))] dX5_childMark_11 (by decide) rfl ?_
  refine r_iload_n dX5_childMark_12 rfl ?_
  refine r_aload_n dX5_childMark_13 rfl ?_
  refine r_iload_n dX5_childMark_14 rfl ?_
  refine r_callVI (As := [.int (nI w)]) (o := 0) (c_X5_childSize B D5 E r w hC_D5 hw hk5 hw6 (s_lv (s_lv t (nI 23)) (nI 20)) hT_D5) hv_X5_childSize wm_X5_300 dX5_childMark_15 rfl rfl z_0 k_0 (by decide) rfl (Nat.le_of_ble_eq_true rfl) ⟨Nat.le_of_ble_eq_true rfl, Nat.le_of_ble_eq_true rfl, Nat.zero_le _, Nat.zero_le _⟩ ⟨rfl, rfl⟩ (fun z7 D8 E9 hz7 => ?_)
  obtain ⟨hq1, hq2, hq3, hqE⟩ := hz7
  obtain rfl := hqE.symm
  obtain rfl := hq1.symm
  have hT_D8 := hq2
  have hF_D8 := hF_D5.trans hq3
  have hC_D8 := hq3.ca hC_D5
  refine r_isub dX5_childMark_18 (fun z10 hz10 => ?_)
  subst hz10
  refine r_iret2 dX5_childMark_19 rfl ⟨Nat.zero_le _, Nat.zero_le _⟩ ?_
  exact ⟨rfl, hT_D8, hF_D8, rfl⟩
set_option maxRecDepth 100000 in
set_option maxHeartbeats 4000000 in
theorem c_X5_ask (B : Nat) (D : DD) (E : EE) (wy : Nat → Nat) (r : Row) (hX : XL D wy r) (t : TRt) (hTt : TRc D t) (x y : Int32) : MR yX5_ask cX5_ask 4 (some .int) rX5_ask B [.ref (B + 0), .int x, .int y] Z0 D E (Q2 Z0 (pI (fun v D' E' => v = (g_ask r x y t).1 ∧ TRc D' (g_ask r x y t).2 ∧ FT D D' ∧ E' = E))) := by
  obtain ⟨hO, hCn, hLl, hYY⟩ := id hX
  obtain ⟨l0, l5, l4, l6, l7, l8, l1⟩ := hO.le
  obtain ⟨h1, h2, h3⟩ := id hTt
  refine r_enter [(0, .ref (B + 0)), (1, .int x), (2, .int y)] hv_X5_ask.1.2.2.2.2 (Nat.le_of_ble_eq_true rfl) rfl ?_
  refine r_aload_n dX5_ask_0 rfl ?_
  refine r_iload_n dX5_ask_1 rfl ?_
  refine r_callVI (As := [.int x]) (o := 0) (c_X5_isWisher B D E x (r 5) hLl.1.2.2.2.2) hv_X5_isWisher wm_X5_172 dX5_ask_2 rfl rfl z_0 k_0 (by decide) rfl (Nat.le_of_ble_eq_true rfl) ⟨Nat.le_of_ble_eq_true rfl, Nat.le_of_ble_eq_true rfl, Nat.zero_le _, Nat.zero_le _⟩ ⟨rfl, rfl⟩ (fun z1 D2 E3 hz1 => ?_)
  obtain ⟨hqV, hqD, hqE⟩ := hz1
  obtain rfl : z1 = bI (nI 0 ≤ x ∧ x ≤ nI (r 5) - nI 1) := hqV
  obtain rfl := hqD.symm
  obtain rfl := hqE.symm
  refine r_if_eq (tgt := 17) dX5_ask_5 (by decide) (fun c5 => ?_) (fun c5 => ?_)
  · skip
    rw [bI_0] at c5
    refine r_ldc wc_X5_77 dX5_ask_17 ?_
    refine r_iret2 dX5_ask_19 rfl ⟨Nat.zero_le _, Nat.zero_le _⟩ ?_
    unfold g_ask
    first
      | (rw [if_neg c5]; exact ⟨rfl, hTt, FT.rf, rfl⟩)
      | (rw [if_pos c5, if_neg c14]; exact ⟨rfl, hTt, FT.rf, rfl⟩)
  · skip
    rw [bI_n0] at c5
    obtain ⟨w, hw, rfl⟩ := gd_n (by omega) c5
    obtain ⟨hW, hT, hH⟩ := hO.w hw
    have hY := hYY hW
    obtain ⟨b1, b2, b3, b4, b5, b6, b7, b8⟩ := hW.1
    obtain ⟨⟨d1, d2⟩, d3, d4, d5, d6, ⟨d7, d8⟩, d9, d10⟩ := hW.2.2.1 w hw
    have hr5 := rmask_lt (r 5) (fun w hw => (hW.2.2.1 w hw).2.2.2.2.2.2.2)
    have hp2 := pw2_le b7
    refine r_iload_n dX5_ask_8 rfl ?_
    refine r_iconst (nI 0) dX5_ask_9 (by decide) ?_
    refine r_iconst (nI 1) dX5_ask_10 (by decide) ?_
    refine r_callSI (As := [.int y, .int (nI 0), .int (nI 1)]) (c_X5_within B D E y (nI 0) (nI 1)) hs_X5_within wm_X5_73 rfl dX5_ask_11 rfl rfl (Nat.le_of_ble_eq_true rfl) ⟨Nat.le_of_ble_eq_true rfl, Nat.le_of_ble_eq_true rfl, Nat.zero_le _, Nat.zero_le _⟩ ⟨rfl, rfl⟩ (fun z4 D5 E6 hz4 => ?_)
    obtain ⟨hqV, hqD, hqE⟩ := hz4
    obtain rfl : z4 = bI (nI 0 ≤ y ∧ y ≤ nI 1) := hqV
    obtain rfl := hqD.symm
    obtain rfl := hqE.symm
    refine r_if_ne (tgt := 20) dX5_ask_14 (by decide) (fun c14 => ?_) (fun c14 => ?_)
    · skip
      rw [bI_n0] at c14
      obtain ⟨wh, hh1, hh2, rfl⟩ := rg (by decide) (by decide) c14
      refine r_aload_n dX5_ask_20 rfl ?_
      refine r_iconst (nI 0) dX5_ask_21 (by decide) ?_
      refine r_putI (ci := 5) (k := 13) wf_X5_294 dX5_ask_22 z_0 k_0 (by decide) (by decide) rfl rfl (fun D7 hD7 => ?_)
      have hT_D7 : TRc D7 (0, t.2) := by rw [hD7]; exact ⟨up2_s, Nat.zero_le _, fun j hj => absurd hj (Nat.not_lt_zero j)⟩
      have hF_D7 : FT D D7 := by rw [hD7]; exact ⟨fun q a b => up2_o a, fun f hf => up2_n (fun q => hf q.2)⟩
      have hC_D7 := hF_D7.ca hCn
      have hk5 := d2
      have hw6 : w < 6 := by omega
      have hgr : s_isA (r (16 + 8 * w)) 1 = true ↔ r (16 + 8 * w) < 4 := s_isA_iff.trans (by omega)
      refine r_aload_n dX5_ask_25 rfl ?_
      refine r_getR (ci := 5) (k := 3) wf_X5_33 dX5_ask_26 z_0 k_0 (by decide) (by decide) (fun _ _ => rfl) f_0_3 ?_
      refine r_getR (ci := 0) (k := 6) wf_X5_287 dX5_ask_29 z_21 k_21 (by decide) (by decide) (fun _ _ => rfl) f_21_6 ?_
      refine r_iload_n dX5_ask_32 rfl ?_
      refine r_iald dX5_ask_33 z_22 k_22 (vp_in_nI (by omega) (by decide)) (fun z8 hz8 => ?_)
      rw [nI_clamp (by omega)] at hz8
      obtain rfl : z8 = nI (r (16 + 8 * w)) := hz8.trans (hC_D7.2.1 w hw).1
      refine r_iconst (nI 1) dX5_ask_34 (by decide) ?_
      refine r_callSI (As := [.int (nI (r (16 + 8 * w))), .int (nI 1)]) (c_X5_isA B D7 E (r (16 + 8 * w)) 1 ⟨d1, d2⟩ (by decide)) hs_X5_isA wm_X5_290 rfl dX5_ask_35 rfl rfl (Nat.le_of_ble_eq_true rfl) ⟨Nat.le_of_ble_eq_true rfl, Nat.le_of_ble_eq_true rfl, Nat.zero_le _, Nat.zero_le _⟩ ⟨rfl, rfl⟩ (fun z9 D10 E11 hz9 => ?_)
      obtain ⟨hqV, hqD, hqE⟩ := hz9
      obtain rfl : z9 = bI (s_isA (r (16 + 8 * w)) 1 = true) := hqV
      obtain rfl := hqD.symm
      obtain rfl := hqE.symm
      refine r_istore_n [(3, .int (bI (s_isA (r (16 + 8 * w)) 1 = true))), (0, .ref (B + 0)), (1, .int (nI w)), (2, .int (nI wh))] dX5_ask_38 (by decide) rfl ?_
      refine r_iload_n dX5_ask_39 rfl ?_
      refine r_if_ne (tgt := 61) dX5_ask_40 (by decide) (fun c40 => ?_) (fun c40 => ?_)
      · skip
        rw [nI_z (by omega)] at c40
        refine r_iload_n dX5_ask_61 rfl ?_
        refine r_if_eq (tgt := 73) dX5_ask_62 (by decide) (fun c62 => ?_) (fun c62 => ?_)
        · skip
          rw [bI_0] at c62
          refine r_aload_n dX5_ask_73 rfl ?_
          refine r_iload_n dX5_ask_74 rfl ?_
          refine r_callVI (As := [.int (nI w)]) (o := 0) (c_X5_childMark B D7 E r w hC_D7 hw hk5 hw6 (0, t.2) hT_D7) hv_X5_childMark wm_X5_306 dX5_ask_75 rfl rfl z_0 k_0 (by decide) rfl (Nat.le_of_ble_eq_true rfl) ⟨Nat.le_of_ble_eq_true rfl, Nat.le_of_ble_eq_true rfl, Nat.zero_le _, Nat.zero_le _⟩ ⟨rfl, rfl⟩ (fun z12 D13 E14 hz12 => ?_)
          obtain ⟨hq1, hq2, hq3, hqE⟩ := hz12
          obtain rfl := hqE.symm
          obtain rfl := hq1.symm
          have hT_D13 := hq2
          have hF_D13 := hF_D7.trans hq3
          have hC_D13 := hq3.ca hC_D7
          refine r_iret2 dX5_ask_78 rfl ⟨Nat.zero_le _, Nat.zero_le _⟩ ?_
          unfold g_ask
          rw [if_pos c5, if_pos c14, nI_clamp (show w < 2 ^ 31 by omega)]
          first
            | (rw [if_pos ((nI_z (by omega)).mpr c40)]; first | (rw [if_pos (hgr.mp c62)]; exact ⟨rfl, hT_D13, hF_D13, rfl⟩) | (rw [if_neg (fun q => c62 (hgr.mpr q))]; exact ⟨rfl, hT_D13, hF_D13, rfl⟩))
            | (rw [if_neg (fun q => c40 ((nI_z (by omega)).mp q))]; first | (rw [if_pos (hgr.mp c62)]; exact ⟨rfl, hT_D13, hF_D13, rfl⟩) | (rw [if_neg (fun q => c62 (hgr.mpr q))]; exact ⟨rfl, hT_D13, hF_D13, rfl⟩))
        · skip
          rw [bI_n0] at c62
          refine r_aload_n dX5_ask_65 rfl ?_
          refine r_iload_n dX5_ask_66 rfl ?_
          refine r_callVI (As := [.int (nI w)]) (o := 0) (c_X5_grownMark B D7 E r w hC_D7 hw hk5 hw6 (0, t.2) hT_D7) hv_X5_grownMark wm_X5_303 dX5_ask_67 rfl rfl z_0 k_0 (by decide) rfl (Nat.le_of_ble_eq_true rfl) ⟨Nat.le_of_ble_eq_true rfl, Nat.le_of_ble_eq_true rfl, Nat.zero_le _, Nat.zero_le _⟩ ⟨rfl, rfl⟩ (fun z15 D16 E17 hz15 => ?_)
          obtain ⟨hq1, hq2, hq3, hqE⟩ := hz15
          obtain rfl := hqE.symm
          obtain rfl := hq1.symm
          have hT_D16 := hq2
          have hF_D16 := hF_D7.trans hq3
          have hC_D16 := hq3.ca hC_D7
          refine r_goto (tgt := 78) dX5_ask_70 (by decide) ?_
          refine r_iret2 dX5_ask_78 rfl ⟨Nat.zero_le _, Nat.zero_le _⟩ ?_
          unfold g_ask
          rw [if_pos c5, if_pos c14, nI_clamp (show w < 2 ^ 31 by omega)]
          first
            | (rw [if_pos ((nI_z (by omega)).mpr c40)]; first | (rw [if_pos (hgr.mp c62)]; exact ⟨rfl, hT_D16, hF_D16, rfl⟩) | (rw [if_neg (fun q => c62 (hgr.mpr q))]; exact ⟨rfl, hT_D16, hF_D16, rfl⟩))
            | (rw [if_neg (fun q => c40 ((nI_z (by omega)).mp q))]; first | (rw [if_pos (hgr.mp c62)]; exact ⟨rfl, hT_D16, hF_D16, rfl⟩) | (rw [if_neg (fun q => c62 (hgr.mpr q))]; exact ⟨rfl, hT_D16, hF_D16, rfl⟩))
      · skip
        rw [nI_z (by omega)] at c40
        refine r_iload_n dX5_ask_43 rfl ?_
        refine r_if_eq (tgt := 55) dX5_ask_44 (by decide) (fun c44 => ?_) (fun c44 => ?_)
        · skip
          rw [bI_0] at c44
          refine r_aload_n dX5_ask_55 rfl ?_
          refine r_iload_n dX5_ask_56 rfl ?_
          refine r_callVI (As := [.int (nI w)]) (o := 0) (c_X5_childSize B D7 E r w hC_D7 hw hk5 hw6 (0, t.2) hT_D7) hv_X5_childSize wm_X5_300 dX5_ask_57 rfl rfl z_0 k_0 (by decide) rfl (Nat.le_of_ble_eq_true rfl) ⟨Nat.le_of_ble_eq_true rfl, Nat.le_of_ble_eq_true rfl, Nat.zero_le _, Nat.zero_le _⟩ ⟨rfl, rfl⟩ (fun z18 D19 E20 hz18 => ?_)
          obtain ⟨hq1, hq2, hq3, hqE⟩ := hz18
          obtain rfl := hqE.symm
          obtain rfl := hq1.symm
          have hT_D19 := hq2
          have hF_D19 := hF_D7.trans hq3
          have hC_D19 := hq3.ca hC_D7
          refine r_iret2 dX5_ask_60 rfl ⟨Nat.zero_le _, Nat.zero_le _⟩ ?_
          unfold g_ask
          rw [if_pos c5, if_pos c14, nI_clamp (show w < 2 ^ 31 by omega)]
          first
            | (rw [if_pos ((nI_z (by omega)).mpr c40)]; first | (rw [if_pos (hgr.mp c44)]; exact ⟨rfl, hT_D19, hF_D19, rfl⟩) | (rw [if_neg (fun q => c44 (hgr.mpr q))]; exact ⟨rfl, hT_D19, hF_D19, rfl⟩))
            | (rw [if_neg (fun q => c40 ((nI_z (by omega)).mp q))]; first | (rw [if_pos (hgr.mp c44)]; exact ⟨rfl, hT_D19, hF_D19, rfl⟩) | (rw [if_neg (fun q => c44 (hgr.mpr q))]; exact ⟨rfl, hT_D19, hF_D19, rfl⟩))
        · skip
          rw [bI_n0] at c44
          refine r_aload_n dX5_ask_47 rfl ?_
          refine r_iload_n dX5_ask_48 rfl ?_
          refine r_callVI (As := [.int (nI w)]) (o := 0) (c_X5_grownSize B D7 E r w hC_D7 hw hk5 hw6 (0, t.2) hT_D7) hv_X5_grownSize wm_X5_297 dX5_ask_49 rfl rfl z_0 k_0 (by decide) rfl (Nat.le_of_ble_eq_true rfl) ⟨Nat.le_of_ble_eq_true rfl, Nat.le_of_ble_eq_true rfl, Nat.zero_le _, Nat.zero_le _⟩ ⟨rfl, rfl⟩ (fun z21 D22 E23 hz21 => ?_)
          obtain ⟨hq1, hq2, hq3, hqE⟩ := hz21
          obtain rfl := hqE.symm
          obtain rfl := hq1.symm
          have hT_D22 := hq2
          have hF_D22 := hF_D7.trans hq3
          have hC_D22 := hq3.ca hC_D7
          refine r_goto (tgt := 60) dX5_ask_52 (by decide) ?_
          refine r_iret2 dX5_ask_60 rfl ⟨Nat.zero_le _, Nat.zero_le _⟩ ?_
          unfold g_ask
          rw [if_pos c5, if_pos c14, nI_clamp (show w < 2 ^ 31 by omega)]
          first
            | (rw [if_pos ((nI_z (by omega)).mpr c40)]; first | (rw [if_pos (hgr.mp c44)]; exact ⟨rfl, hT_D22, hF_D22, rfl⟩) | (rw [if_neg (fun q => c44 (hgr.mpr q))]; exact ⟨rfl, hT_D22, hF_D22, rfl⟩))
            | (rw [if_neg (fun q => c40 ((nI_z (by omega)).mp q))]; first | (rw [if_pos (hgr.mp c44)]; exact ⟨rfl, hT_D22, hF_D22, rfl⟩) | (rw [if_neg (fun q => c44 (hgr.mpr q))]; exact ⟨rfl, hT_D22, hF_D22, rfl⟩))
    · skip
      rw [bI_0] at c14
      refine r_ldc wc_X5_77 dX5_ask_17 ?_
      refine r_iret2 dX5_ask_19 rfl ⟨Nat.zero_le _, Nat.zero_le _⟩ ?_
      unfold g_ask
      first
        | (rw [if_neg c5]; exact ⟨rfl, hTt, FT.rf, rfl⟩)
        | (rw [if_pos c5, if_neg c14]; exact ⟨rfl, hTt, FT.rf, rfl⟩)
