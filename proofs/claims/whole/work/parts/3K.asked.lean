theorem s_isA_iff {a k : Nat} : s_isA a k = true ↔ k = 0 ∨ a = k ∨ (k = 1 ∧ a < 4) ∨ (k = 4 ∧ a = 5) := by
  unfold s_isA
  simp [Bool.or_eq_true, decide_eq_true_eq, or_assoc]
set_option maxRecDepth 100000 in
set_option maxHeartbeats 4000000 in
theorem c_X5_isA (B : Nat) (D : DD) (E : EE) (a k : Nat) (ha : 1 ≤ a ∧ a ≤ 5) (hk : k ≤ 5) : MR yX5_isA cX5_isA 2 (some .boolean) rX5_isA B [.int (nI a), .int (nI k)] Z0 D E (Q2 Z0 (pI (fun v D' E' => v = (bI (s_isA a k = true)) ∧ D' = D ∧ E' = E))) := by
  refine r_enter [(0, .int (nI a)), (1, .int (nI k))] hs_X5_isA.1.2.2.2.2 (Nat.le_of_ble_eq_true rfl) rfl ?_
  refine r_iload_n dX5_isA_0 rfl ?_
  rcases (show k = 0 ∨ k = 1 ∨ k = 2 ∨ k = 3 ∨ k = 4 ∨ k = 5 by omega) with rfl | rfl | rfl | rfl | rfl | rfl
  · refine r_tabIn (off := 35) (tgt := 36) dX5_isA_1 (by decide) (by decide) rfl (by decide) ?_
    refine r_iconst (nI 1) dX5_isA_36 (by decide) ?_
    refine r_zret2 dX5_isA_37 rfl ⟨Nat.zero_le _, Nat.zero_le _⟩ rfl ?_
    first | exact ⟨bI_t (s_isA_iff.mpr (by omega)), rfl, rfl⟩ | exact ⟨bI_f (fun q => by have q1 := s_isA_iff.mp q; omega), rfl, rfl⟩
  · refine r_tabIn (off := 37) (tgt := 38) dX5_isA_1 (by decide) (by decide) rfl (by decide) ?_
    refine r_iload_n dX5_isA_38 rfl ?_
    refine r_iconst (nI 1) dX5_isA_39 (by decide) ?_
    refine r_icmp_eq (tgt := 53) dX5_isA_40 (by decide) (fun c40 => ?_) (fun c40 => ?_)
    · skip
      rw [nI_eq (by omega) (by omega)] at c40
      refine r_iconst (nI 1) dX5_isA_53 (by decide) ?_
      refine r_goto (tgt := 58) dX5_isA_54 (by decide) ?_
      refine r_zret2 dX5_isA_58 rfl ⟨Nat.zero_le _, Nat.zero_le _⟩ rfl ?_
      first | exact ⟨bI_t (s_isA_iff.mpr (by omega)), rfl, rfl⟩ | exact ⟨bI_f (fun q => by have q1 := s_isA_iff.mp q; omega), rfl, rfl⟩
    · skip
      rw [nI_eq (by omega) (by omega)] at c40
      refine r_iload_n dX5_isA_43 rfl ?_
      refine r_iconst (nI 2) dX5_isA_44 (by decide) ?_
      refine r_icmp_eq (tgt := 53) dX5_isA_45 (by decide) (fun c45 => ?_) (fun c45 => ?_)
      · skip
        rw [nI_eq (by omega) (by omega)] at c45
        refine r_iconst (nI 1) dX5_isA_53 (by decide) ?_
        refine r_goto (tgt := 58) dX5_isA_54 (by decide) ?_
        refine r_zret2 dX5_isA_58 rfl ⟨Nat.zero_le _, Nat.zero_le _⟩ rfl ?_
        first | exact ⟨bI_t (s_isA_iff.mpr (by omega)), rfl, rfl⟩ | exact ⟨bI_f (fun q => by have q1 := s_isA_iff.mp q; omega), rfl, rfl⟩
      · skip
        rw [nI_eq (by omega) (by omega)] at c45
        refine r_iload_n dX5_isA_48 rfl ?_
        refine r_iconst (nI 3) dX5_isA_49 (by decide) ?_
        refine r_icmp_ne (tgt := 57) dX5_isA_50 (by decide) (fun c50 => ?_) (fun c50 => ?_)
        · skip
          rw [nI_eq (by omega) (by omega)] at c50
          refine r_iconst (nI 0) dX5_isA_57 (by decide) ?_
          refine r_zret2 dX5_isA_58 rfl ⟨Nat.zero_le _, Nat.zero_le _⟩ rfl ?_
          first | exact ⟨bI_t (s_isA_iff.mpr (by omega)), rfl, rfl⟩ | exact ⟨bI_f (fun q => by have q1 := s_isA_iff.mp q; omega), rfl, rfl⟩
        · skip
          rw [nI_eq (by omega) (by omega)] at c50
          refine r_iconst (nI 1) dX5_isA_53 (by decide) ?_
          refine r_goto (tgt := 58) dX5_isA_54 (by decide) ?_
          refine r_zret2 dX5_isA_58 rfl ⟨Nat.zero_le _, Nat.zero_le _⟩ rfl ?_
          first | exact ⟨bI_t (s_isA_iff.mpr (by omega)), rfl, rfl⟩ | exact ⟨bI_f (fun q => by have q1 := s_isA_iff.mp q; omega), rfl, rfl⟩
  · refine r_tabIn (off := 74) (tgt := 75) dX5_isA_1 (by decide) (by decide) rfl (by decide) ?_
    refine r_iload_n dX5_isA_75 rfl ?_
    refine r_iload_n dX5_isA_76 rfl ?_
    refine r_icmp_ne (tgt := 84) dX5_isA_77 (by decide) (fun c77 => ?_) (fun c77 => ?_)
    · skip
      rw [nI_eq (by omega) (by omega)] at c77
      refine r_iconst (nI 0) dX5_isA_84 (by decide) ?_
      refine r_zret2 dX5_isA_85 rfl ⟨Nat.zero_le _, Nat.zero_le _⟩ rfl ?_
      first | exact ⟨bI_t (s_isA_iff.mpr (by omega)), rfl, rfl⟩ | exact ⟨bI_f (fun q => by have q1 := s_isA_iff.mp q; omega), rfl, rfl⟩
    · skip
      rw [nI_eq (by omega) (by omega)] at c77
      refine r_iconst (nI 1) dX5_isA_80 (by decide) ?_
      refine r_goto (tgt := 85) dX5_isA_81 (by decide) ?_
      refine r_zret2 dX5_isA_85 rfl ⟨Nat.zero_le _, Nat.zero_le _⟩ rfl ?_
      first | exact ⟨bI_t (s_isA_iff.mpr (by omega)), rfl, rfl⟩ | exact ⟨bI_f (fun q => by have q1 := s_isA_iff.mp q; omega), rfl, rfl⟩
  · refine r_tabIn (off := 74) (tgt := 75) dX5_isA_1 (by decide) (by decide) rfl (by decide) ?_
    refine r_iload_n dX5_isA_75 rfl ?_
    refine r_iload_n dX5_isA_76 rfl ?_
    refine r_icmp_ne (tgt := 84) dX5_isA_77 (by decide) (fun c77 => ?_) (fun c77 => ?_)
    · skip
      rw [nI_eq (by omega) (by omega)] at c77
      refine r_iconst (nI 0) dX5_isA_84 (by decide) ?_
      refine r_zret2 dX5_isA_85 rfl ⟨Nat.zero_le _, Nat.zero_le _⟩ rfl ?_
      first | exact ⟨bI_t (s_isA_iff.mpr (by omega)), rfl, rfl⟩ | exact ⟨bI_f (fun q => by have q1 := s_isA_iff.mp q; omega), rfl, rfl⟩
    · skip
      rw [nI_eq (by omega) (by omega)] at c77
      refine r_iconst (nI 1) dX5_isA_80 (by decide) ?_
      refine r_goto (tgt := 85) dX5_isA_81 (by decide) ?_
      refine r_zret2 dX5_isA_85 rfl ⟨Nat.zero_le _, Nat.zero_le _⟩ rfl ?_
      first | exact ⟨bI_t (s_isA_iff.mpr (by omega)), rfl, rfl⟩ | exact ⟨bI_f (fun q => by have q1 := s_isA_iff.mp q; omega), rfl, rfl⟩
  · refine r_tabIn (off := 58) (tgt := 59) dX5_isA_1 (by decide) (by decide) rfl (by decide) ?_
    refine r_iload_n dX5_isA_59 rfl ?_
    refine r_iconst (nI 4) dX5_isA_60 (by decide) ?_
    refine r_icmp_eq (tgt := 69) dX5_isA_61 (by decide) (fun c61 => ?_) (fun c61 => ?_)
    · skip
      rw [nI_eq (by omega) (by omega)] at c61
      refine r_iconst (nI 1) dX5_isA_69 (by decide) ?_
      refine r_goto (tgt := 74) dX5_isA_70 (by decide) ?_
      refine r_zret2 dX5_isA_74 rfl ⟨Nat.zero_le _, Nat.zero_le _⟩ rfl ?_
      first | exact ⟨bI_t (s_isA_iff.mpr (by omega)), rfl, rfl⟩ | exact ⟨bI_f (fun q => by have q1 := s_isA_iff.mp q; omega), rfl, rfl⟩
    · skip
      rw [nI_eq (by omega) (by omega)] at c61
      refine r_iload_n dX5_isA_64 rfl ?_
      refine r_iconst (nI 5) dX5_isA_65 (by decide) ?_
      refine r_icmp_ne (tgt := 73) dX5_isA_66 (by decide) (fun c66 => ?_) (fun c66 => ?_)
      · skip
        rw [nI_eq (by omega) (by omega)] at c66
        refine r_iconst (nI 0) dX5_isA_73 (by decide) ?_
        refine r_zret2 dX5_isA_74 rfl ⟨Nat.zero_le _, Nat.zero_le _⟩ rfl ?_
        first | exact ⟨bI_t (s_isA_iff.mpr (by omega)), rfl, rfl⟩ | exact ⟨bI_f (fun q => by have q1 := s_isA_iff.mp q; omega), rfl, rfl⟩
      · skip
        rw [nI_eq (by omega) (by omega)] at c66
        refine r_iconst (nI 1) dX5_isA_69 (by decide) ?_
        refine r_goto (tgt := 74) dX5_isA_70 (by decide) ?_
        refine r_zret2 dX5_isA_74 rfl ⟨Nat.zero_le _, Nat.zero_le _⟩ rfl ?_
        first | exact ⟨bI_t (s_isA_iff.mpr (by omega)), rfl, rfl⟩ | exact ⟨bI_f (fun q => by have q1 := s_isA_iff.mp q; omega), rfl, rfl⟩
  · refine r_tabOut (tgt := 75) dX5_isA_1 (by decide) (by decide) ?_
    refine r_iload_n dX5_isA_75 rfl ?_
    refine r_iload_n dX5_isA_76 rfl ?_
    refine r_icmp_ne (tgt := 84) dX5_isA_77 (by decide) (fun c77 => ?_) (fun c77 => ?_)
    · skip
      rw [nI_eq (by omega) (by omega)] at c77
      refine r_iconst (nI 0) dX5_isA_84 (by decide) ?_
      refine r_zret2 dX5_isA_85 rfl ⟨Nat.zero_le _, Nat.zero_le _⟩ rfl ?_
      first | exact ⟨bI_t (s_isA_iff.mpr (by omega)), rfl, rfl⟩ | exact ⟨bI_f (fun q => by have q1 := s_isA_iff.mp q; omega), rfl, rfl⟩
    · skip
      rw [nI_eq (by omega) (by omega)] at c77
      refine r_iconst (nI 1) dX5_isA_80 (by decide) ?_
      refine r_goto (tgt := 85) dX5_isA_81 (by decide) ?_
      refine r_zret2 dX5_isA_85 rfl ⟨Nat.zero_le _, Nat.zero_le _⟩ rfl ?_
      first | exact ⟨bI_t (s_isA_iff.mpr (by omega)), rfl, rfl⟩ | exact ⟨bI_f (fun q => by have q1 := s_isA_iff.mp q; omega), rfl, rfl⟩
set_option maxRecDepth 100000 in
set_option maxHeartbeats 4000000 in
theorem c_X5_as (B : Nat) (D : DD) (E : EE) (wy : Nat → Nat) (r : Row) (hX : XL D wy r) (x y : Int32) : MR yX5_as cX5_as 3 (some .int) rX5_as B [.ref (B + 0), .int x, .int y] Z0 D E (Q2 Z0 (pI (fun v D' E' => v = (g_as r x y (D 0 15)).1 ∧ D' 0 15 = (g_as r x y (D 0 15)).2 ∧ FXs D D' ∧ E' = E))) := by
  obtain ⟨hO, hCn, hLl, hYY⟩ := id hX
  obtain ⟨l0, l5, l4, l6, l7, l8, l1⟩ := hO.le
  refine r_enter [(0, .ref (B + 0)), (1, .int x), (2, .int y)] hv_X5_as.1.2.2.2.2 (Nat.le_of_ble_eq_true rfl) rfl ?_
  refine r_aload_n dX5_as_0 rfl ?_
  refine r_iload_n dX5_as_1 rfl ?_
  refine r_callVI (As := [.int x]) (o := 0) (c_X5_isWisher B D E x (r 5) hLl.1.2.2.2.2) hv_X5_isWisher wm_X5_172 dX5_as_2 rfl rfl z_0 k_0 (by decide) rfl (Nat.le_of_ble_eq_true rfl) ⟨Nat.le_of_ble_eq_true rfl, Nat.le_of_ble_eq_true rfl, Nat.zero_le _, Nat.zero_le _⟩ ⟨rfl, rfl⟩ (fun z1 D2 E3 hz1 => ?_)
  obtain ⟨hqV, hqD, hqE⟩ := hz1
  obtain rfl : z1 = bI (nI 0 ≤ x ∧ x ≤ nI (r 5) - nI 1) := hqV
  obtain rfl := hqD.symm
  obtain rfl := hqE.symm
  refine r_if_eq (tgt := 17) dX5_as_5 (by decide) (fun c5 => ?_) (fun c5 => ?_)
  · skip
    rw [bI_0] at c5
    refine r_ldc wc_X5_77 dX5_as_17 ?_
    refine r_iret2 dX5_as_19 rfl ⟨Nat.zero_le _, Nat.zero_le _⟩ ?_
    unfold g_as
    first
      | (rw [if_neg c5]; exact ⟨rfl, rfl, FXs.of SX.rf, rfl⟩)
      | (rw [if_pos c5, if_neg c14]; exact ⟨rfl, rfl, FXs.of SX.rf, rfl⟩)
  · skip
    rw [bI_n0] at c5
    obtain ⟨w, hw1, rfl⟩ := gd_n (by omega) c5
    obtain ⟨hW, hT, hH⟩ := hO.w hw1
    have hY := hYY hW
    obtain ⟨b1, b2, b3, b4, b5, b6, b7, b8⟩ := hW.1
    obtain ⟨⟨d1, d2⟩, d3, d4, d5, d6, ⟨d7, d8⟩, d9, d10⟩ := hW.2.2.1 w hw1
    have hr5 := rmask_lt (r 5) (fun w hw => (hW.2.2.1 w hw).2.2.2.2.2.2.2)
    have hp2 := pw2_le b7
    refine r_iload_n dX5_as_8 rfl ?_
    refine r_iconst (nI 0) dX5_as_9 (by decide) ?_
    refine r_iconst (nI 5) dX5_as_10 (by decide) ?_
    refine r_callSI (As := [.int y, .int (nI 0), .int (nI 5)]) (c_X5_within B D E y (nI 0) (nI 5)) hs_X5_within wm_X5_73 rfl dX5_as_11 rfl rfl (Nat.le_of_ble_eq_true rfl) ⟨Nat.le_of_ble_eq_true rfl, Nat.le_of_ble_eq_true rfl, Nat.zero_le _, Nat.zero_le _⟩ ⟨rfl, rfl⟩ (fun z4 D5 E6 hz4 => ?_)
    obtain ⟨hqV, hqD, hqE⟩ := hz4
    obtain rfl : z4 = bI (nI 0 ≤ y ∧ y ≤ nI 5) := hqV
    obtain rfl := hqD.symm
    obtain rfl := hqE.symm
    refine r_if_ne (tgt := 20) dX5_as_14 (by decide) (fun c14 => ?_) (fun c14 => ?_)
    · skip
      rw [bI_n0] at c14
      obtain ⟨k, hk1, hk2, rfl⟩ := rg (by decide) (by decide) c14
      refine r_aload_n dX5_as_20 rfl ?_
      refine r_getR (ci := 5) (k := 3) wf_X5_33 dX5_as_21 z_0 k_0 (by decide) (by decide) (fun _ _ => rfl) f_0_3 ?_
      refine r_getR (ci := 0) (k := 6) wf_X5_287 dX5_as_24 z_21 k_21 (by decide) (by decide) (fun _ _ => rfl) f_21_6 ?_
      refine r_iload_n dX5_as_27 rfl ?_
      refine r_iald dX5_as_28 z_22 k_22 (vp_in_nI (by omega) (by decide)) (fun z7 hz7 => ?_)
      rw [nI_clamp (by omega)] at hz7
      obtain rfl : z7 = nI (r (16 + 8 * w)) := hz7.trans (hCn.2.1 w hw1).1
      refine r_iload_n dX5_as_29 rfl ?_
      refine r_callSI (As := [.int (nI (r (16 + 8 * w))), .int (nI k)]) (c_X5_isA B D E (r (16 + 8 * w)) k ⟨d1, d2⟩ hk2) hs_X5_isA wm_X5_290 rfl dX5_as_30 rfl rfl (Nat.le_of_ble_eq_true rfl) ⟨Nat.le_of_ble_eq_true rfl, Nat.le_of_ble_eq_true rfl, Nat.zero_le _, Nat.zero_le _⟩ ⟨rfl, rfl⟩ (fun z8 D9 E10 hz8 => ?_)
      obtain ⟨hqV, hqD, hqE⟩ := hz8
      obtain rfl : z8 = bI (s_isA (r (16 + 8 * w)) k = true) := hqV
      obtain rfl := hqD.symm
      obtain rfl := hqE.symm
      refine r_if_eq (tgt := 44) dX5_as_33 (by decide) (fun c33 => ?_) (fun c33 => ?_)
      · skip
        rw [bI_0] at c33
        refine r_aload_n dX5_as_44 rfl ?_
        refine r_iconst (nI 3) dX5_as_45 (by decide) ?_
        refine r_callVI (As := [.int (nI 3)]) (o := 0) (c_X5_found B D E (nI 3)) hv_X5_found wm_X5_78 dX5_as_46 rfl rfl z_0 k_0 (by decide) rfl (Nat.le_of_ble_eq_true rfl) ⟨Nat.le_of_ble_eq_true rfl, Nat.le_of_ble_eq_true rfl, Nat.zero_le _, Nat.zero_le _⟩ ⟨rfl, rfl⟩ (fun z11 D12 E13 hz11 => ?_)
        obtain ⟨hq1, hqD, hqE⟩ := hz11
        obtain rfl := hqE.symm
        subst hqD
        subst hq1
        refine r_iret2 dX5_as_49 rfl ⟨Nat.zero_le _, Nat.zero_le _⟩ ?_
        unfold g_as
        rw [if_pos c5, if_pos c14, nI_clamp (show w < 2 ^ 31 by omega), nI_clamp (show k < 2 ^ 31 by omega)]
        first
          | (rw [if_pos c33]; exact ⟨rfl, st_at, FXs.st SX.rf, rfl⟩)
          | (rw [if_neg c33]; exact ⟨fd_3, st_at, FXs.st SX.rf, rfl⟩)
      · skip
        rw [bI_n0] at c33
        refine r_aload_n dX5_as_36 rfl ?_
        refine r_iload_n dX5_as_37 rfl ?_
        refine r_callVI (As := [.int (nI w)]) (o := 0) (c_X5_fine B D E (nI w)) hv_X5_fine wm_X5_86 dX5_as_38 rfl rfl z_0 k_0 (by decide) rfl (Nat.le_of_ble_eq_true rfl) ⟨Nat.le_of_ble_eq_true rfl, Nat.le_of_ble_eq_true rfl, Nat.zero_le _, Nat.zero_le _⟩ ⟨rfl, rfl⟩ (fun z14 D15 E16 hz14 => ?_)
        obtain ⟨hq1, hqD, hqE⟩ := hz14
        obtain rfl := hqE.symm
        subst hqD
        subst hq1
        refine r_goto (tgt := 49) dX5_as_41 (by decide) ?_
        refine r_iret2 dX5_as_49 rfl ⟨Nat.zero_le _, Nat.zero_le _⟩ ?_
        unfold g_as
        rw [if_pos c5, if_pos c14, nI_clamp (show w < 2 ^ 31 by omega), nI_clamp (show k < 2 ^ 31 by omega)]
        first
          | (rw [if_pos c33]; exact ⟨rfl, st_at, FXs.st SX.rf, rfl⟩)
          | (rw [if_neg c33]; exact ⟨fd_3, st_at, FXs.st SX.rf, rfl⟩)
    · skip
      rw [bI_0] at c14
      refine r_ldc wc_X5_77 dX5_as_17 ?_
      refine r_iret2 dX5_as_19 rfl ⟨Nat.zero_le _, Nat.zero_le _⟩ ?_
      unfold g_as
      first
        | (rw [if_neg c5]; exact ⟨rfl, rfl, FXs.of SX.rf, rfl⟩)
        | (rw [if_pos c5, if_neg c14]; exact ⟨rfl, rfl, FXs.of SX.rf, rfl⟩)
set_option maxRecDepth 100000 in
set_option maxHeartbeats 4000000 in
theorem c_X5_trace (B : Nat) (D : DD) (E : EE) (tn : Nat) (tr : Nat → Int32) (h13 : D 0 13 = nI tn) (ht : tn ≤ 16) (htr : ∀ j, j < tn → D 194 j = tr j) (x : Int32) : MR yX5_trace cX5_trace 2 (some .int) rX5_trace B [.ref (B + 0), .int x] Z0 D E (Q2 Z0 (pI (fun v D' E' => v = (g_trace tn tr x) ∧ D' = D ∧ E' = E))) := by
  refine r_enter [(0, .ref (B + 0)), (1, .int x)] hv_X5_trace.1.2.2.2.2 (Nat.le_of_ble_eq_true rfl) rfl ?_
  refine r_iload_n dX5_trace_0 rfl ?_
  refine r_iconst (nI 0) dX5_trace_1 (by decide) ?_
  refine r_aload_n dX5_trace_2 rfl ?_
  refine r_getI (ci := 5) (k := 13) wf_X5_294 dX5_trace_3 z_0 k_0 (by decide) (by decide) rfl (fun z1 hz1 => ?_)
  obtain rfl : z1 = nI tn := hz1.trans h13
  refine r_iconst (nI 1) dX5_trace_6 (by decide) ?_
  refine r_isub dX5_trace_7 (fun z2 hz2 => ?_)
  subst hz2
  refine r_callSI (As := [.int x, .int (nI 0), .int ((nI tn) - (nI 1))]) (c_X5_within B D E x (nI 0) (nI tn - nI 1)) hs_X5_within wm_X5_73 rfl dX5_trace_8 rfl rfl (Nat.le_of_ble_eq_true rfl) ⟨Nat.le_of_ble_eq_true rfl, Nat.le_of_ble_eq_true rfl, Nat.zero_le _, Nat.zero_le _⟩ ⟨rfl, rfl⟩ (fun z3 D4 E5 hz3 => ?_)
  obtain ⟨hqV, hqD, hqE⟩ := hz3
  obtain rfl : z3 = bI (nI 0 ≤ x ∧ x ≤ nI tn - nI 1) := hqV
  obtain rfl := hqD.symm
  obtain rfl := hqE.symm
  refine r_if_eq (tgt := 23) dX5_trace_11 (by decide) (fun c11 => ?_) (fun c11 => ?_)
  · skip
    rw [bI_0] at c11
    refine r_ldc wc_X5_232 dX5_trace_23 ?_
    refine r_iret2 dX5_trace_25 rfl ⟨Nat.zero_le _, Nat.zero_le _⟩ ?_
    refine ⟨?_, rfl, rfl⟩
    unfold g_trace
    first | rw [if_neg c11] | rw [if_pos c11, nI_clamp (by omega)]
  · skip
    rw [bI_n0] at c11
    obtain ⟨j, hj, rfl⟩ := gd_n (by omega) c11
    refine r_aload_n dX5_trace_14 rfl ?_
    refine r_getR (ci := 5) (k := 12) wf_X5_65 dX5_trace_15 z_0 k_0 (by decide) (by decide) (fun _ _ => rfl) f_0_12 ?_
    refine r_iload_n dX5_trace_18 rfl ?_
    refine r_iald dX5_trace_19 z_194 k_194 (vp_in_nI (by omega) (by decide)) (fun z6 hz6 => ?_)
    rw [nI_clamp (by omega)] at hz6
    obtain rfl : z6 = tr j := hz6.trans (htr j hj)
    refine r_goto (tgt := 25) dX5_trace_20 (by decide) ?_
    refine r_iret2 dX5_trace_25 rfl ⟨Nat.zero_le _, Nat.zero_le _⟩ ?_
    refine ⟨?_, rfl, rfl⟩
    unfold g_trace
    first | rw [if_neg c11] | rw [if_pos c11, nI_clamp (by omega)]
set_option maxRecDepth 100000 in
set_option maxHeartbeats 4000000 in
theorem c_X5_status (B : Nat) (D : DD) (E : EE)  : MR yX5_status cX5_status 1 (some .int) rX5_status B [.ref (B + 0)] Z0 D E (Q2 Z0 (pI (fun v D' E' => v = (D 0 15) ∧ D' = D ∧ E' = E))) := by
  refine r_enter [(0, .ref (B + 0))] hv_X5_status.1.2.2.2.2 (Nat.le_of_ble_eq_true rfl) rfl ?_
  refine r_aload_n dX5_status_0 rfl ?_
  refine r_getI (ci := 5) (k := 15) wf_X5_315 dX5_status_1 z_0 k_0 (by decide) (by decide) rfl (fun z1 hz1 => ?_)
  subst hz1
  refine r_iret2 dX5_status_4 rfl ⟨Nat.zero_le _, Nat.zero_le _⟩ ?_
  exact ⟨rfl, rfl, rfl⟩
set_option maxRecDepth 100000 in
set_option maxHeartbeats 4000000 in
theorem c_X5_fault (B : Nat) (D : DD) (E : EE)  : MR yX5_fault cX5_fault 1 (some .int) rX5_fault B [.ref (B + 0)] Z0 D E (Q2 Z0 (pI (fun v D' E' => v = (D 0 14) ∧ D' = D ∧ E' = E))) := by
  refine r_enter [(0, .ref (B + 0))] hv_X5_fault.1.2.2.2.2 (Nat.le_of_ble_eq_true rfl) rfl ?_
  refine r_aload_n dX5_fault_0 rfl ?_
  refine r_getI (ci := 5) (k := 14) wf_X5_129 dX5_fault_1 z_0 k_0 (by decide) (by decide) rfl (fun z1 hz1 => ?_)
  subst hz1
  refine r_iret2 dX5_fault_4 rfl ⟨Nat.zero_le _, Nat.zero_le _⟩ ?_
  exact ⟨rfl, rfl, rfl⟩
set_option maxRecDepth 100000 in
set_option maxHeartbeats 4000000 in
theorem c_X5_count (B : Nat) (D : DD) (E : EE) (wy : Nat → Nat) (r : Row) (hX : XL D wy r) (w : RWS) (hR : XR D w) (kp tl : Nat) (hkp : D 27 2 = nI kp) (htl : D 13 1 = nI tl) (what : Int32) : MR yX5_count cX5_count 2 (some .int) rX5_count B [.ref (B + 0), .int what] Z0 D E (Q2 Z0 (pI (fun v D' E' => v = (g_count w r kp tl what) ∧ D' = D ∧ E' = E))) := by
  obtain ⟨hO, hCn, hLl, hYY⟩ := id hX
  obtain ⟨l0, l5, l4, l6, l7, l8, l1⟩ := hO.le
  refine r_enter [(0, .ref (B + 0)), (1, .int what)] hv_X5_count.1.2.2.2.2 (Nat.le_of_ble_eq_true rfl) rfl ?_
  refine r_iload_n dX5_count_0 rfl ?_
  rcases sw_or 9 what with ⟨k9, hk9, rfl⟩ | hk9
  · skip
    rcases (show k9 = 0 ∨ k9 = 1 ∨ k9 = 2 ∨ k9 = 3 ∨ k9 = 4 ∨ k9 = 5 ∨ k9 = 6 ∨ k9 = 7 ∨ k9 = 8 ∨ k9 = 9 by omega) with rfl | rfl | rfl | rfl | rfl | rfl | rfl | rfl | rfl | rfl
    · refine r_tabIn (off := 55) (tgt := 56) dX5_count_1 (by decide) (by decide) rfl (by decide) ?_
      refine r_aload_n dX5_count_56 rfl ?_
      refine r_getR (ci := 5) (k := 0) wf_X5_10 dX5_count_57 z_0 k_0 (by decide) (by decide) (fun _ _ => rfl) f_0_0 ?_
      refine r_callVI (As := []) (o := 1) (c_X3_many B D E w hR) hv_X3_many wm_X5_309 dX5_count_60 rfl rfl z_1 k_1 (by decide) rfl (Nat.le_of_ble_eq_true rfl) ⟨Nat.le_of_ble_eq_true rfl, Nat.le_of_ble_eq_true rfl, Nat.zero_le _, Nat.zero_le _⟩ ⟨rfl, rfl⟩ (fun z1 D2 E3 hz1 => ?_)
      obtain ⟨hqV, hqD, hqE⟩ := hz1
      obtain rfl : z1 = nI (s_rows w 8) := hqV
      obtain rfl := hqD.symm
      obtain rfl := hqE.symm
      refine r_iret2 dX5_count_63 rfl ⟨Nat.zero_le _, Nat.zero_le _⟩ ?_
      refine ⟨?_, rfl, rfl⟩
      unfold g_count
      first
        | (rw [if_pos rfl]; done)
        | (rw [if_neg (by decide), if_pos rfl]; done)
        | (rw [if_neg (by decide), if_neg (by decide), if_pos rfl]; done)
        | (rw [if_neg (by decide), if_neg (by decide), if_neg (by decide), if_pos rfl]; done)
        | (rw [if_neg (by decide), if_neg (by decide), if_neg (by decide), if_neg (by decide), if_pos rfl]; done)
        | (rw [if_neg (by decide), if_neg (by decide), if_neg (by decide), if_neg (by decide), if_neg (by decide), if_pos rfl]; done)
        | (rw [if_neg (by decide), if_neg (by decide), if_neg (by decide), if_neg (by decide), if_neg (by decide), if_neg (by decide), if_pos rfl]; done)
        | (rw [if_neg (by decide), if_neg (by decide), if_neg (by decide), if_neg (by decide), if_neg (by decide), if_neg (by decide), if_neg (by decide), if_pos rfl]; done)
        | (rw [if_neg (by decide), if_neg (by decide), if_neg (by decide), if_neg (by decide), if_neg (by decide), if_neg (by decide), if_neg (by decide), if_neg (by decide), if_pos rfl]; done)
        | (rw [if_neg (by decide), if_neg (by decide), if_neg (by decide), if_neg (by decide), if_neg (by decide), if_neg (by decide), if_neg (by decide), if_neg (by decide), if_neg (by decide), if_pos rfl]; done)
        | (rw [if_neg (sw_ne hk9 (show 0 ≤ 9 by decide) (by decide)), if_neg (sw_ne hk9 (show 1 ≤ 9 by decide) (by decide)), if_neg (sw_ne hk9 (show 2 ≤ 9 by decide) (by decide)), if_neg (sw_ne hk9 (show 3 ≤ 9 by decide) (by decide)), if_neg (sw_ne hk9 (show 4 ≤ 9 by decide) (by decide)), if_neg (sw_ne hk9 (show 5 ≤ 9 by decide) (by decide)), if_neg (sw_ne hk9 (show 6 ≤ 9 by decide) (by decide)), if_neg (sw_ne hk9 (show 7 ≤ 9 by decide) (by decide)), if_neg (sw_ne hk9 (show 8 ≤ 9 by decide) (by decide)), if_neg (sw_ne hk9 (show 9 ≤ 9 by decide) (by decide))]; done)
    · refine r_tabIn (off := 63) (tgt := 64) dX5_count_1 (by decide) (by decide) rfl (by decide) ?_
      refine r_aload_n dX5_count_64 rfl ?_
      refine r_getR (ci := 5) (k := 2) wf_X5_26 dX5_count_65 z_0 k_0 (by decide) (by decide) (fun _ _ => rfl) f_0_2 ?_
      refine r_getI (ci := 1) (k := 0) wf_X5_244 dX5_count_68 z_15 k_15 (by decide) (by decide) rfl (fun z4 hz4 => ?_)
      obtain rfl : z4 = nI (r 0) := hz4.trans hLl.1.1
      refine r_iret2 dX5_count_71 rfl ⟨Nat.zero_le _, Nat.zero_le _⟩ ?_
      refine ⟨?_, rfl, rfl⟩
      unfold g_count
      first
        | (rw [if_pos rfl]; done)
        | (rw [if_neg (by decide), if_pos rfl]; done)
        | (rw [if_neg (by decide), if_neg (by decide), if_pos rfl]; done)
        | (rw [if_neg (by decide), if_neg (by decide), if_neg (by decide), if_pos rfl]; done)
        | (rw [if_neg (by decide), if_neg (by decide), if_neg (by decide), if_neg (by decide), if_pos rfl]; done)
        | (rw [if_neg (by decide), if_neg (by decide), if_neg (by decide), if_neg (by decide), if_neg (by decide), if_pos rfl]; done)
        | (rw [if_neg (by decide), if_neg (by decide), if_neg (by decide), if_neg (by decide), if_neg (by decide), if_neg (by decide), if_pos rfl]; done)
        | (rw [if_neg (by decide), if_neg (by decide), if_neg (by decide), if_neg (by decide), if_neg (by decide), if_neg (by decide), if_neg (by decide), if_pos rfl]; done)
        | (rw [if_neg (by decide), if_neg (by decide), if_neg (by decide), if_neg (by decide), if_neg (by decide), if_neg (by decide), if_neg (by decide), if_neg (by decide), if_pos rfl]; done)
        | (rw [if_neg (by decide), if_neg (by decide), if_neg (by decide), if_neg (by decide), if_neg (by decide), if_neg (by decide), if_neg (by decide), if_neg (by decide), if_neg (by decide), if_pos rfl]; done)
        | (rw [if_neg (sw_ne hk9 (show 0 ≤ 9 by decide) (by decide)), if_neg (sw_ne hk9 (show 1 ≤ 9 by decide) (by decide)), if_neg (sw_ne hk9 (show 2 ≤ 9 by decide) (by decide)), if_neg (sw_ne hk9 (show 3 ≤ 9 by decide) (by decide)), if_neg (sw_ne hk9 (show 4 ≤ 9 by decide) (by decide)), if_neg (sw_ne hk9 (show 5 ≤ 9 by decide) (by decide)), if_neg (sw_ne hk9 (show 6 ≤ 9 by decide) (by decide)), if_neg (sw_ne hk9 (show 7 ≤ 9 by decide) (by decide)), if_neg (sw_ne hk9 (show 8 ≤ 9 by decide) (by decide)), if_neg (sw_ne hk9 (show 9 ≤ 9 by decide) (by decide))]; done)
    · refine r_tabIn (off := 71) (tgt := 72) dX5_count_1 (by decide) (by decide) rfl (by decide) ?_
      refine r_aload_n dX5_count_72 rfl ?_
      refine r_getR (ci := 5) (k := 2) wf_X5_26 dX5_count_73 z_0 k_0 (by decide) (by decide) (fun _ _ => rfl) f_0_2 ?_
      refine r_getI (ci := 1) (k := 3) wf_X5_312 dX5_count_76 z_15 k_15 (by decide) (by decide) rfl (fun z5 hz5 => ?_)
      obtain rfl : z5 = nI (r 4) := hz5.trans hLl.1.2.2.2.1
      refine r_iret2 dX5_count_79 rfl ⟨Nat.zero_le _, Nat.zero_le _⟩ ?_
      refine ⟨?_, rfl, rfl⟩
      unfold g_count
      first
        | (rw [if_pos rfl]; done)
        | (rw [if_neg (by decide), if_pos rfl]; done)
        | (rw [if_neg (by decide), if_neg (by decide), if_pos rfl]; done)
        | (rw [if_neg (by decide), if_neg (by decide), if_neg (by decide), if_pos rfl]; done)
        | (rw [if_neg (by decide), if_neg (by decide), if_neg (by decide), if_neg (by decide), if_pos rfl]; done)
        | (rw [if_neg (by decide), if_neg (by decide), if_neg (by decide), if_neg (by decide), if_neg (by decide), if_pos rfl]; done)
        | (rw [if_neg (by decide), if_neg (by decide), if_neg (by decide), if_neg (by decide), if_neg (by decide), if_neg (by decide), if_pos rfl]; done)
        | (rw [if_neg (by decide), if_neg (by decide), if_neg (by decide), if_neg (by decide), if_neg (by decide), if_neg (by decide), if_neg (by decide), if_pos rfl]; done)
        | (rw [if_neg (by decide), if_neg (by decide), if_neg (by decide), if_neg (by decide), if_neg (by decide), if_neg (by decide), if_neg (by decide), if_neg (by decide), if_pos rfl]; done)
        | (rw [if_neg (by decide), if_neg (by decide), if_neg (by decide), if_neg (by decide), if_neg (by decide), if_neg (by decide), if_neg (by decide), if_neg (by decide), if_neg (by decide), if_pos rfl]; done)
        | (rw [if_neg (sw_ne hk9 (show 0 ≤ 9 by decide) (by decide)), if_neg (sw_ne hk9 (show 1 ≤ 9 by decide) (by decide)), if_neg (sw_ne hk9 (show 2 ≤ 9 by decide) (by decide)), if_neg (sw_ne hk9 (show 3 ≤ 9 by decide) (by decide)), if_neg (sw_ne hk9 (show 4 ≤ 9 by decide) (by decide)), if_neg (sw_ne hk9 (show 5 ≤ 9 by decide) (by decide)), if_neg (sw_ne hk9 (show 6 ≤ 9 by decide) (by decide)), if_neg (sw_ne hk9 (show 7 ≤ 9 by decide) (by decide)), if_neg (sw_ne hk9 (show 8 ≤ 9 by decide) (by decide)), if_neg (sw_ne hk9 (show 9 ≤ 9 by decide) (by decide))]; done)
    · refine r_tabIn (off := 79) (tgt := 80) dX5_count_1 (by decide) (by decide) rfl (by decide) ?_
      refine r_aload_n dX5_count_80 rfl ?_
      refine r_getR (ci := 5) (k := 2) wf_X5_26 dX5_count_81 z_0 k_0 (by decide) (by decide) (fun _ _ => rfl) f_0_2 ?_
      refine r_getI (ci := 1) (k := 4) wf_X5_146 dX5_count_84 z_15 k_15 (by decide) (by decide) rfl (fun z6 hz6 => ?_)
      obtain rfl : z6 = nI (r 5) := hz6.trans hLl.1.2.2.2.2
      refine r_iret2 dX5_count_87 rfl ⟨Nat.zero_le _, Nat.zero_le _⟩ ?_
      refine ⟨?_, rfl, rfl⟩
      unfold g_count
      first
        | (rw [if_pos rfl]; done)
        | (rw [if_neg (by decide), if_pos rfl]; done)
        | (rw [if_neg (by decide), if_neg (by decide), if_pos rfl]; done)
        | (rw [if_neg (by decide), if_neg (by decide), if_neg (by decide), if_pos rfl]; done)
        | (rw [if_neg (by decide), if_neg (by decide), if_neg (by decide), if_neg (by decide), if_pos rfl]; done)
        | (rw [if_neg (by decide), if_neg (by decide), if_neg (by decide), if_neg (by decide), if_neg (by decide), if_pos rfl]; done)
        | (rw [if_neg (by decide), if_neg (by decide), if_neg (by decide), if_neg (by decide), if_neg (by decide), if_neg (by decide), if_pos rfl]; done)
        | (rw [if_neg (by decide), if_neg (by decide), if_neg (by decide), if_neg (by decide), if_neg (by decide), if_neg (by decide), if_neg (by decide), if_pos rfl]; done)
        | (rw [if_neg (by decide), if_neg (by decide), if_neg (by decide), if_neg (by decide), if_neg (by decide), if_neg (by decide), if_neg (by decide), if_neg (by decide), if_pos rfl]; done)
        | (rw [if_neg (by decide), if_neg (by decide), if_neg (by decide), if_neg (by decide), if_neg (by decide), if_neg (by decide), if_neg (by decide), if_neg (by decide), if_neg (by decide), if_pos rfl]; done)
        | (rw [if_neg (sw_ne hk9 (show 0 ≤ 9 by decide) (by decide)), if_neg (sw_ne hk9 (show 1 ≤ 9 by decide) (by decide)), if_neg (sw_ne hk9 (show 2 ≤ 9 by decide) (by decide)), if_neg (sw_ne hk9 (show 3 ≤ 9 by decide) (by decide)), if_neg (sw_ne hk9 (show 4 ≤ 9 by decide) (by decide)), if_neg (sw_ne hk9 (show 5 ≤ 9 by decide) (by decide)), if_neg (sw_ne hk9 (show 6 ≤ 9 by decide) (by decide)), if_neg (sw_ne hk9 (show 7 ≤ 9 by decide) (by decide)), if_neg (sw_ne hk9 (show 8 ≤ 9 by decide) (by decide)), if_neg (sw_ne hk9 (show 9 ≤ 9 by decide) (by decide))]; done)
    · refine r_tabIn (off := 87) (tgt := 88) dX5_count_1 (by decide) (by decide) rfl (by decide) ?_
      refine r_aload_n dX5_count_88 rfl ?_
      refine r_getR (ci := 5) (k := 3) wf_X5_33 dX5_count_89 z_0 k_0 (by decide) (by decide) (fun _ _ => rfl) f_0_3 ?_
      refine r_getI (ci := 0) (k := 0) wf_X5_160 dX5_count_92 z_21 k_21 (by decide) (by decide) rfl (fun z7 hz7 => ?_)
      obtain rfl : z7 = nI (r 6) := hz7.trans hCn.1.1
      refine r_iret2 dX5_count_95 rfl ⟨Nat.zero_le _, Nat.zero_le _⟩ ?_
      refine ⟨?_, rfl, rfl⟩
      unfold g_count
      first
        | (rw [if_pos rfl]; done)
        | (rw [if_neg (by decide), if_pos rfl]; done)
        | (rw [if_neg (by decide), if_neg (by decide), if_pos rfl]; done)
        | (rw [if_neg (by decide), if_neg (by decide), if_neg (by decide), if_pos rfl]; done)
        | (rw [if_neg (by decide), if_neg (by decide), if_neg (by decide), if_neg (by decide), if_pos rfl]; done)
        | (rw [if_neg (by decide), if_neg (by decide), if_neg (by decide), if_neg (by decide), if_neg (by decide), if_pos rfl]; done)
        | (rw [if_neg (by decide), if_neg (by decide), if_neg (by decide), if_neg (by decide), if_neg (by decide), if_neg (by decide), if_pos rfl]; done)
        | (rw [if_neg (by decide), if_neg (by decide), if_neg (by decide), if_neg (by decide), if_neg (by decide), if_neg (by decide), if_neg (by decide), if_pos rfl]; done)
        | (rw [if_neg (by decide), if_neg (by decide), if_neg (by decide), if_neg (by decide), if_neg (by decide), if_neg (by decide), if_neg (by decide), if_neg (by decide), if_pos rfl]; done)
        | (rw [if_neg (by decide), if_neg (by decide), if_neg (by decide), if_neg (by decide), if_neg (by decide), if_neg (by decide), if_neg (by decide), if_neg (by decide), if_neg (by decide), if_pos rfl]; done)
        | (rw [if_neg (sw_ne hk9 (show 0 ≤ 9 by decide) (by decide)), if_neg (sw_ne hk9 (show 1 ≤ 9 by decide) (by decide)), if_neg (sw_ne hk9 (show 2 ≤ 9 by decide) (by decide)), if_neg (sw_ne hk9 (show 3 ≤ 9 by decide) (by decide)), if_neg (sw_ne hk9 (show 4 ≤ 9 by decide) (by decide)), if_neg (sw_ne hk9 (show 5 ≤ 9 by decide) (by decide)), if_neg (sw_ne hk9 (show 6 ≤ 9 by decide) (by decide)), if_neg (sw_ne hk9 (show 7 ≤ 9 by decide) (by decide)), if_neg (sw_ne hk9 (show 8 ≤ 9 by decide) (by decide)), if_neg (sw_ne hk9 (show 9 ≤ 9 by decide) (by decide))]; done)
    · refine r_tabIn (off := 95) (tgt := 96) dX5_count_1 (by decide) (by decide) rfl (by decide) ?_
      refine r_aload_n dX5_count_96 rfl ?_
      refine r_callVI (As := []) (o := 0) (c_X5_hasLand B D E (r 0) hLl.1.1 l0) hv_X5_hasLand wm_X5_156 dX5_count_97 rfl rfl z_0 k_0 (by decide) rfl (Nat.le_of_ble_eq_true rfl) ⟨Nat.le_of_ble_eq_true rfl, Nat.le_of_ble_eq_true rfl, Nat.zero_le _, Nat.zero_le _⟩ ⟨rfl, rfl⟩ (fun z8 D9 E10 hz8 => ?_)
      obtain ⟨hqV, hqD, hqE⟩ := hz8
      obtain rfl : z8 = bI (0 < r 0) := hqV
      obtain rfl := hqD.symm
      obtain rfl := hqE.symm
      refine r_if_eq (tgt := 113) dX5_count_100 (by decide) (fun c100 => ?_) (fun c100 => ?_)
      · skip
        rw [bI_0] at c100
        refine r_iconst ((-1)) dX5_count_113 (by decide) ?_
        refine r_iret2 dX5_count_114 rfl ⟨Nat.zero_le _, Nat.zero_le _⟩ ?_
        refine ⟨?_, rfl, rfl⟩
        unfold g_count
        rw [if_neg (by decide), if_neg (by decide), if_neg (by decide), if_neg (by decide), if_neg (by decide), if_pos rfl]
        first | rw [if_pos c100] | rw [if_neg c100]
      · skip
        rw [bI_n0] at c100
        refine r_aload_n dX5_count_103 rfl ?_
        refine r_getR (ci := 5) (k := 3) wf_X5_33 dX5_count_104 z_0 k_0 (by decide) (by decide) (fun _ _ => rfl) f_0_3 ?_
        refine r_getI (ci := 0) (k := 1) wf_X5_169 dX5_count_107 z_21 k_21 (by decide) (by decide) rfl (fun z11 hz11 => ?_)
        obtain rfl : z11 = nI (r 1) := hz11.trans hCn.1.2.1
        refine r_goto (tgt := 114) dX5_count_110 (by decide) ?_
        refine r_iret2 dX5_count_114 rfl ⟨Nat.zero_le _, Nat.zero_le _⟩ ?_
        refine ⟨?_, rfl, rfl⟩
        unfold g_count
        rw [if_neg (by decide), if_neg (by decide), if_neg (by decide), if_neg (by decide), if_neg (by decide), if_pos rfl]
        first | rw [if_pos c100] | rw [if_neg c100]
    · refine r_tabIn (off := 114) (tgt := 115) dX5_count_1 (by decide) (by decide) rfl (by decide) ?_
      refine r_aload_n dX5_count_115 rfl ?_
      refine r_getR (ci := 5) (k := 3) wf_X5_33 dX5_count_116 z_0 k_0 (by decide) (by decide) (fun _ _ => rfl) f_0_3 ?_
      refine r_getI (ci := 0) (k := 2) wf_X5_229 dX5_count_119 z_21 k_21 (by decide) (by decide) rfl (fun z12 hz12 => ?_)
      obtain rfl : z12 = nI (r 7) := hz12.trans hCn.1.2.2.1
      refine r_iret2 dX5_count_122 rfl ⟨Nat.zero_le _, Nat.zero_le _⟩ ?_
      refine ⟨?_, rfl, rfl⟩
      unfold g_count
      first
        | (rw [if_pos rfl]; done)
        | (rw [if_neg (by decide), if_pos rfl]; done)
        | (rw [if_neg (by decide), if_neg (by decide), if_pos rfl]; done)
        | (rw [if_neg (by decide), if_neg (by decide), if_neg (by decide), if_pos rfl]; done)
        | (rw [if_neg (by decide), if_neg (by decide), if_neg (by decide), if_neg (by decide), if_pos rfl]; done)
        | (rw [if_neg (by decide), if_neg (by decide), if_neg (by decide), if_neg (by decide), if_neg (by decide), if_pos rfl]; done)
        | (rw [if_neg (by decide), if_neg (by decide), if_neg (by decide), if_neg (by decide), if_neg (by decide), if_neg (by decide), if_pos rfl]; done)
        | (rw [if_neg (by decide), if_neg (by decide), if_neg (by decide), if_neg (by decide), if_neg (by decide), if_neg (by decide), if_neg (by decide), if_pos rfl]; done)
        | (rw [if_neg (by decide), if_neg (by decide), if_neg (by decide), if_neg (by decide), if_neg (by decide), if_neg (by decide), if_neg (by decide), if_neg (by decide), if_pos rfl]; done)
        | (rw [if_neg (by decide), if_neg (by decide), if_neg (by decide), if_neg (by decide), if_neg (by decide), if_neg (by decide), if_neg (by decide), if_neg (by decide), if_neg (by decide), if_pos rfl]; done)
        | (rw [if_neg (sw_ne hk9 (show 0 ≤ 9 by decide) (by decide)), if_neg (sw_ne hk9 (show 1 ≤ 9 by decide) (by decide)), if_neg (sw_ne hk9 (show 2 ≤ 9 by decide) (by decide)), if_neg (sw_ne hk9 (show 3 ≤ 9 by decide) (by decide)), if_neg (sw_ne hk9 (show 4 ≤ 9 by decide) (by decide)), if_neg (sw_ne hk9 (show 5 ≤ 9 by decide) (by decide)), if_neg (sw_ne hk9 (show 6 ≤ 9 by decide) (by decide)), if_neg (sw_ne hk9 (show 7 ≤ 9 by decide) (by decide)), if_neg (sw_ne hk9 (show 8 ≤ 9 by decide) (by decide)), if_neg (sw_ne hk9 (show 9 ≤ 9 by decide) (by decide))]; done)
    · refine r_tabIn (off := 122) (tgt := 123) dX5_count_1 (by decide) (by decide) rfl (by decide) ?_
      refine r_aload_n dX5_count_123 rfl ?_
      refine r_getR (ci := 5) (k := 3) wf_X5_33 dX5_count_124 z_0 k_0 (by decide) (by decide) (fun _ _ => rfl) f_0_3 ?_
      refine r_getI (ci := 0) (k := 3) wf_X5_258 dX5_count_127 z_21 k_21 (by decide) (by decide) rfl (fun z13 hz13 => ?_)
      obtain rfl : z13 = nI (r 8) := hz13.trans hCn.1.2.2.2.1
      refine r_iret2 dX5_count_130 rfl ⟨Nat.zero_le _, Nat.zero_le _⟩ ?_
      refine ⟨?_, rfl, rfl⟩
      unfold g_count
      first
        | (rw [if_pos rfl]; done)
        | (rw [if_neg (by decide), if_pos rfl]; done)
        | (rw [if_neg (by decide), if_neg (by decide), if_pos rfl]; done)
        | (rw [if_neg (by decide), if_neg (by decide), if_neg (by decide), if_pos rfl]; done)
        | (rw [if_neg (by decide), if_neg (by decide), if_neg (by decide), if_neg (by decide), if_pos rfl]; done)
        | (rw [if_neg (by decide), if_neg (by decide), if_neg (by decide), if_neg (by decide), if_neg (by decide), if_pos rfl]; done)
        | (rw [if_neg (by decide), if_neg (by decide), if_neg (by decide), if_neg (by decide), if_neg (by decide), if_neg (by decide), if_pos rfl]; done)
        | (rw [if_neg (by decide), if_neg (by decide), if_neg (by decide), if_neg (by decide), if_neg (by decide), if_neg (by decide), if_neg (by decide), if_pos rfl]; done)
        | (rw [if_neg (by decide), if_neg (by decide), if_neg (by decide), if_neg (by decide), if_neg (by decide), if_neg (by decide), if_neg (by decide), if_neg (by decide), if_pos rfl]; done)
        | (rw [if_neg (by decide), if_neg (by decide), if_neg (by decide), if_neg (by decide), if_neg (by decide), if_neg (by decide), if_neg (by decide), if_neg (by decide), if_neg (by decide), if_pos rfl]; done)
        | (rw [if_neg (sw_ne hk9 (show 0 ≤ 9 by decide) (by decide)), if_neg (sw_ne hk9 (show 1 ≤ 9 by decide) (by decide)), if_neg (sw_ne hk9 (show 2 ≤ 9 by decide) (by decide)), if_neg (sw_ne hk9 (show 3 ≤ 9 by decide) (by decide)), if_neg (sw_ne hk9 (show 4 ≤ 9 by decide) (by decide)), if_neg (sw_ne hk9 (show 5 ≤ 9 by decide) (by decide)), if_neg (sw_ne hk9 (show 6 ≤ 9 by decide) (by decide)), if_neg (sw_ne hk9 (show 7 ≤ 9 by decide) (by decide)), if_neg (sw_ne hk9 (show 8 ≤ 9 by decide) (by decide)), if_neg (sw_ne hk9 (show 9 ≤ 9 by decide) (by decide))]; done)
    · refine r_tabIn (off := 130) (tgt := 131) dX5_count_1 (by decide) (by decide) rfl (by decide) ?_
      refine r_aload_n dX5_count_131 rfl ?_
      refine r_getR (ci := 5) (k := 4) wf_X5_40 dX5_count_132 z_0 k_0 (by decide) (by decide) (fun _ _ => rfl) f_0_4 ?_
      refine r_getI (ci := 2) (k := 2) wf_X5_149 dX5_count_135 z_27 k_27 (by decide) (by decide) rfl (fun z14 hz14 => ?_)
      obtain rfl : z14 = nI kp := hz14.trans hkp
      refine r_iret2 dX5_count_138 rfl ⟨Nat.zero_le _, Nat.zero_le _⟩ ?_
      refine ⟨?_, rfl, rfl⟩
      unfold g_count
      first
        | (rw [if_pos rfl]; done)
        | (rw [if_neg (by decide), if_pos rfl]; done)
        | (rw [if_neg (by decide), if_neg (by decide), if_pos rfl]; done)
        | (rw [if_neg (by decide), if_neg (by decide), if_neg (by decide), if_pos rfl]; done)
        | (rw [if_neg (by decide), if_neg (by decide), if_neg (by decide), if_neg (by decide), if_pos rfl]; done)
        | (rw [if_neg (by decide), if_neg (by decide), if_neg (by decide), if_neg (by decide), if_neg (by decide), if_pos rfl]; done)
        | (rw [if_neg (by decide), if_neg (by decide), if_neg (by decide), if_neg (by decide), if_neg (by decide), if_neg (by decide), if_pos rfl]; done)
        | (rw [if_neg (by decide), if_neg (by decide), if_neg (by decide), if_neg (by decide), if_neg (by decide), if_neg (by decide), if_neg (by decide), if_pos rfl]; done)
        | (rw [if_neg (by decide), if_neg (by decide), if_neg (by decide), if_neg (by decide), if_neg (by decide), if_neg (by decide), if_neg (by decide), if_neg (by decide), if_pos rfl]; done)
        | (rw [if_neg (by decide), if_neg (by decide), if_neg (by decide), if_neg (by decide), if_neg (by decide), if_neg (by decide), if_neg (by decide), if_neg (by decide), if_neg (by decide), if_pos rfl]; done)
        | (rw [if_neg (sw_ne hk9 (show 0 ≤ 9 by decide) (by decide)), if_neg (sw_ne hk9 (show 1 ≤ 9 by decide) (by decide)), if_neg (sw_ne hk9 (show 2 ≤ 9 by decide) (by decide)), if_neg (sw_ne hk9 (show 3 ≤ 9 by decide) (by decide)), if_neg (sw_ne hk9 (show 4 ≤ 9 by decide) (by decide)), if_neg (sw_ne hk9 (show 5 ≤ 9 by decide) (by decide)), if_neg (sw_ne hk9 (show 6 ≤ 9 by decide) (by decide)), if_neg (sw_ne hk9 (show 7 ≤ 9 by decide) (by decide)), if_neg (sw_ne hk9 (show 8 ≤ 9 by decide) (by decide)), if_neg (sw_ne hk9 (show 9 ≤ 9 by decide) (by decide))]; done)
    · refine r_tabIn (off := 138) (tgt := 139) dX5_count_1 (by decide) (by decide) rfl (by decide) ?_
      refine r_aload_n dX5_count_139 rfl ?_
      refine r_getR (ci := 5) (k := 1) wf_X5_19 dX5_count_140 z_0 k_0 (by decide) (by decide) (fun _ _ => rfl) f_0_1 ?_
      refine r_getI (ci := 4) (k := 1) wf_X5_115 dX5_count_143 z_13 k_13 (by decide) (by decide) rfl (fun z15 hz15 => ?_)
      obtain rfl : z15 = nI tl := hz15.trans htl
      refine r_iret2 dX5_count_146 rfl ⟨Nat.zero_le _, Nat.zero_le _⟩ ?_
      refine ⟨?_, rfl, rfl⟩
      unfold g_count
      first
        | (rw [if_pos rfl]; done)
        | (rw [if_neg (by decide), if_pos rfl]; done)
        | (rw [if_neg (by decide), if_neg (by decide), if_pos rfl]; done)
        | (rw [if_neg (by decide), if_neg (by decide), if_neg (by decide), if_pos rfl]; done)
        | (rw [if_neg (by decide), if_neg (by decide), if_neg (by decide), if_neg (by decide), if_pos rfl]; done)
        | (rw [if_neg (by decide), if_neg (by decide), if_neg (by decide), if_neg (by decide), if_neg (by decide), if_pos rfl]; done)
        | (rw [if_neg (by decide), if_neg (by decide), if_neg (by decide), if_neg (by decide), if_neg (by decide), if_neg (by decide), if_pos rfl]; done)
        | (rw [if_neg (by decide), if_neg (by decide), if_neg (by decide), if_neg (by decide), if_neg (by decide), if_neg (by decide), if_neg (by decide), if_pos rfl]; done)
        | (rw [if_neg (by decide), if_neg (by decide), if_neg (by decide), if_neg (by decide), if_neg (by decide), if_neg (by decide), if_neg (by decide), if_neg (by decide), if_pos rfl]; done)
        | (rw [if_neg (by decide), if_neg (by decide), if_neg (by decide), if_neg (by decide), if_neg (by decide), if_neg (by decide), if_neg (by decide), if_neg (by decide), if_neg (by decide), if_pos rfl]; done)
        | (rw [if_neg (sw_ne hk9 (show 0 ≤ 9 by decide) (by decide)), if_neg (sw_ne hk9 (show 1 ≤ 9 by decide) (by decide)), if_neg (sw_ne hk9 (show 2 ≤ 9 by decide) (by decide)), if_neg (sw_ne hk9 (show 3 ≤ 9 by decide) (by decide)), if_neg (sw_ne hk9 (show 4 ≤ 9 by decide) (by decide)), if_neg (sw_ne hk9 (show 5 ≤ 9 by decide) (by decide)), if_neg (sw_ne hk9 (show 6 ≤ 9 by decide) (by decide)), if_neg (sw_ne hk9 (show 7 ≤ 9 by decide) (by decide)), if_neg (sw_ne hk9 (show 8 ≤ 9 by decide) (by decide)), if_neg (sw_ne hk9 (show 9 ≤ 9 by decide) (by decide))]; done)
  · refine r_tabOut (tgt := 147) dX5_count_1 hk9 (by decide) ?_
    refine r_ldc wc_X5_77 dX5_count_147 ?_
    refine r_iret2 dX5_count_149 rfl ⟨Nat.zero_le _, Nat.zero_le _⟩ ?_
    refine ⟨?_, rfl, rfl⟩
    unfold g_count
    first
      | (rw [if_pos rfl]; done)
      | (rw [if_neg (by decide), if_pos rfl]; done)
      | (rw [if_neg (by decide), if_neg (by decide), if_pos rfl]; done)
      | (rw [if_neg (by decide), if_neg (by decide), if_neg (by decide), if_pos rfl]; done)
      | (rw [if_neg (by decide), if_neg (by decide), if_neg (by decide), if_neg (by decide), if_pos rfl]; done)
      | (rw [if_neg (by decide), if_neg (by decide), if_neg (by decide), if_neg (by decide), if_neg (by decide), if_pos rfl]; done)
      | (rw [if_neg (by decide), if_neg (by decide), if_neg (by decide), if_neg (by decide), if_neg (by decide), if_neg (by decide), if_pos rfl]; done)
      | (rw [if_neg (by decide), if_neg (by decide), if_neg (by decide), if_neg (by decide), if_neg (by decide), if_neg (by decide), if_neg (by decide), if_pos rfl]; done)
      | (rw [if_neg (by decide), if_neg (by decide), if_neg (by decide), if_neg (by decide), if_neg (by decide), if_neg (by decide), if_neg (by decide), if_neg (by decide), if_pos rfl]; done)
      | (rw [if_neg (by decide), if_neg (by decide), if_neg (by decide), if_neg (by decide), if_neg (by decide), if_neg (by decide), if_neg (by decide), if_neg (by decide), if_neg (by decide), if_pos rfl]; done)
      | (rw [if_neg (sw_ne hk9 (show 0 ≤ 9 by decide) (by decide)), if_neg (sw_ne hk9 (show 1 ≤ 9 by decide) (by decide)), if_neg (sw_ne hk9 (show 2 ≤ 9 by decide) (by decide)), if_neg (sw_ne hk9 (show 3 ≤ 9 by decide) (by decide)), if_neg (sw_ne hk9 (show 4 ≤ 9 by decide) (by decide)), if_neg (sw_ne hk9 (show 5 ≤ 9 by decide) (by decide)), if_neg (sw_ne hk9 (show 6 ≤ 9 by decide) (by decide)), if_neg (sw_ne hk9 (show 7 ≤ 9 by decide) (by decide)), if_neg (sw_ne hk9 (show 8 ≤ 9 by decide) (by decide)), if_neg (sw_ne hk9 (show 9 ≤ 9 by decide) (by decide))]; done)
