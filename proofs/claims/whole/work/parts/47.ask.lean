set_option maxRecDepth 100000 in
set_option maxHeartbeats 4000000 in
theorem c_X6_ask (B : Nat) (D : DD) (E : EE) (wy : Nat → Nat) (r : Row) (hX0 : XM D wy r) (t : TRt) (hT0 : TRm D t) (x y : Int32) : MR yX6_ask cX6_ask 3 (some .int) rX6_ask B [.ref (B + 219), .int x, .int y] Z0 D E (Q2 Z0 (pI (fun v D' E' => v = (g_ask r x y t).1 ∧ TRm D' (g_ask r x y t).2 ∧ MXa D D' ∧ E' = E))) := by
  have hX := hX0.th
  obtain ⟨hO, hM, hwy, hYY⟩ := id hX
  obtain ⟨l0, l5, l4, l6, l7, l8, l1⟩ := hO.le
  have hwy0 := hX0.2.2.1
  have hM0 := hX0.2.1
  obtain ⟨h1, h2, h3⟩ := id hT0
  have hTt : TRm (thD D) t := MX.th.tr hT0
  refine r_enter [(0, .ref (B + 219)), (1, .int x), (2, .int y)] hv_X6_ask.1.2.2.2.2 (Nat.le_of_ble_eq_true rfl) rfl ?_
  refine r_aload_n dX6_ask_0 rfl ?_
  refine r_iconst (nI 0) dX6_ask_1 (by decide) ?_
  refine r_putI (ci := 6) (k := 0) wf_X6_54 dX6_ask_2 z_219 k_219 (by decide) (by decide) rfl rfl (fun D1 hD1 => ?_)
  obtain rfl : D1 = thD D := hD1.trans up2_eq
  refine r_aload_n dX6_ask_5 rfl ?_
  refine r_iload_n dX6_ask_6 rfl ?_
  refine r_callVI (As := [.int x]) (o := 219) (c_X6_isWisher B (thD D) E x (r 5) (hM 5 (by decide))) hv_X6_isWisher wm_X6_202 dX6_ask_7 rfl rfl z_219 k_219 (by decide) rfl (Nat.le_of_ble_eq_true rfl) ⟨Nat.le_of_ble_eq_true rfl, Nat.le_of_ble_eq_true rfl, Nat.zero_le _, Nat.zero_le _⟩ ⟨rfl, rfl⟩ (fun z2 D3 E4 hz2 => ?_)
  obtain ⟨hqV, hqD, hqE⟩ := hz2
  obtain rfl : z2 = bI (nI 0 ≤ x ∧ x ≤ nI (r 5) - nI 1) := hqV
  obtain rfl := hqD.symm
  obtain rfl := hqE.symm
  refine r_if_eq (tgt := 23) dX6_ask_10 (by decide) (fun c10 => ?_) (fun c10 => ?_)
  · skip
    rw [bI_0] at c10
    refine r_ldc wc_X6_74 dX6_ask_23 ?_
    refine r_iret2 dX6_ask_25 rfl ⟨Nat.zero_le _, Nat.zero_le _⟩ ?_
    unfold g_ask
    first
      | (rw [if_neg c10]; exact ⟨rfl, hTt, MXa.th, rfl⟩)
      | (rw [if_pos c10, if_neg c20]; exact ⟨rfl, hTt, MXa.th, rfl⟩)
  · skip
    rw [bI_n0] at c10
    obtain ⟨w, hw1, rfl⟩ := gd_n (by omega) c10
    obtain ⟨hW, hT, hH⟩ := hO.w hw1
    have hY := hYY hW
    obtain ⟨b1, b2, b3, b4, b5, b6, b7, b8⟩ := hW.1
    obtain ⟨⟨d1, d2⟩, d3, d4, d5, d6, ⟨d7, d8⟩, d9, d10⟩ := hW.2.2.1 w hw1
    refine r_iload_n dX6_ask_13 rfl ?_
    refine r_i2l dX6_ask_14 (fun z5 hz5 => ?_)
    subst hz5
    refine r_lconst ((nI 0).toInt64) dX6_ask_15 (by decide) ?_
    refine r_lconst ((nI 1).toInt64) dX6_ask_16 (by decide) ?_
    refine r_callSI (As := [.long y.toInt64, .long ((nI 0).toInt64), .long ((nI 1).toInt64)]) (c_X6_in B (thD D) E y (nI 0) (nI 1)) hs_X6_in wm_X6_64 rfl dX6_ask_17 rfl rfl (Nat.le_of_ble_eq_true rfl) ⟨Nat.le_of_ble_eq_true rfl, Nat.le_of_ble_eq_true rfl, Nat.zero_le _, Nat.zero_le _⟩ ⟨rfl, rfl⟩ (fun z6 D7 E8 hz6 => ?_)
    obtain ⟨hqV, hqD, hqE⟩ := hz6
    obtain rfl : z6 = bI (nI 0 ≤ y ∧ y ≤ nI 1) := hqV
    obtain rfl := hqD.symm
    obtain rfl := hqE.symm
    refine r_if_ne (tgt := 26) dX6_ask_20 (by decide) (fun c20 => ?_) (fun c20 => ?_)
    · skip
      rw [bI_n0] at c20
      obtain ⟨wh, hh1, hh2, rfl⟩ := rg (by decide) (by decide) c20
      refine r_aload_n dX6_ask_26 rfl ?_
      refine r_iconst (nI 0) dX6_ask_27 (by decide) ?_
      refine r_putI (ci := 6) (k := 25) wf_X6_252 dX6_ask_28 z_219 k_219 (by decide) (by decide) rfl rfl (fun D9 hD9 => ?_)
      have hT1 : TRm D9 (0, t.2) := by rw [hD9]; exact ⟨up2_s, Nat.zero_le _, fun j hj => absurd hj (Nat.not_lt_zero j)⟩
      have hM1 : MA D9 223 r := by rw [hD9, MA]; exact fun k hk => (congrFun (up2_o (by decide)) k).trans (hM k hk)
      have hX1 : MXa D D9 := by rw [hD9]; exact ⟨fun q a b => (up2_o a).trans (MXa.th.1 q a b), fun f a b => (up2_n (fun q => b q.2)).trans (MXa.th.2 f a b)⟩
      refine r_iload_n dX6_ask_31 rfl ?_
      refine r_if_ne (tgt := 43) dX6_ask_32 (by decide) (fun c32 => ?_) (fun c32 => ?_)
      · skip
        rw [nI_z (by omega)] at c32
        refine r_aload_n dX6_ask_43 rfl ?_
        refine r_iload_n dX6_ask_44 rfl ?_
        refine r_callVI (As := [.int (nI w)]) (o := 219) (c_X6_markOf B D9 E r w hM1 d1 d2 (by omega) _ hT1) hv_X6_markOf wm_X6_264 dX6_ask_45 rfl rfl z_219 k_219 (by decide) rfl (Nat.le_of_ble_eq_true rfl) ⟨Nat.le_of_ble_eq_true rfl, Nat.le_of_ble_eq_true rfl, Nat.zero_le _, Nat.zero_le _⟩ ⟨rfl, rfl⟩ (fun z10 D11 E12 hz10 => ?_)
        obtain ⟨hq1, hq2, hq3, hqE⟩ := hz10
        obtain rfl := hqE.symm
        have hA : (if nI wh = 0 then k_sz r w (0, t.2) else k_mk r w (0, t.2)) = k_mk r w (0, t.2) := if_neg (fun q => c32 ((nI_z (by omega)).mp q))
        rw [← hA] at hq1 hq2
        refine r_iret2 dX6_ask_48 rfl ⟨Nat.zero_le _, Nat.zero_le _⟩ ?_
        have hX2 : MXa D D11 := ⟨fun q a b => (hq3.1 q a b).trans (hX1.1 q a b), fun f a b => (hq3.2 f b).trans (hX1.2 f a b)⟩
        unfold g_ask
        rw [if_pos c10, if_pos c20, nI_clamp (show w < 2 ^ 31 by omega)]
        exact ⟨hq1, hq2, hX2, rfl⟩
      · skip
        rw [nI_z (by omega)] at c32
        refine r_aload_n dX6_ask_35 rfl ?_
        refine r_iload_n dX6_ask_36 rfl ?_
        refine r_callVI (As := [.int (nI w)]) (o := 219) (c_X6_sizeOf B D9 E r w hM1 d1 d2 (by omega) _ hT1) hv_X6_sizeOf wm_X6_267 dX6_ask_37 rfl rfl z_219 k_219 (by decide) rfl (Nat.le_of_ble_eq_true rfl) ⟨Nat.le_of_ble_eq_true rfl, Nat.le_of_ble_eq_true rfl, Nat.zero_le _, Nat.zero_le _⟩ ⟨rfl, rfl⟩ (fun z13 D14 E15 hz13 => ?_)
        obtain ⟨hq1, hq2, hq3, hqE⟩ := hz13
        obtain rfl := hqE.symm
        have hA : (if nI wh = 0 then k_sz r w (0, t.2) else k_mk r w (0, t.2)) = k_sz r w (0, t.2) := if_pos ((nI_z (by omega)).mpr c32)
        rw [← hA] at hq1 hq2
        refine r_goto (tgt := 48) dX6_ask_40 (by decide) ?_
        refine r_iret2 dX6_ask_48 rfl ⟨Nat.zero_le _, Nat.zero_le _⟩ ?_
        have hX2 : MXa D D14 := ⟨fun q a b => (hq3.1 q a b).trans (hX1.1 q a b), fun f a b => (hq3.2 f b).trans (hX1.2 f a b)⟩
        unfold g_ask
        rw [if_pos c10, if_pos c20, nI_clamp (show w < 2 ^ 31 by omega)]
        exact ⟨hq1, hq2, hX2, rfl⟩
    · skip
      rw [bI_0] at c20
      refine r_ldc wc_X6_74 dX6_ask_23 ?_
      refine r_iret2 dX6_ask_25 rfl ⟨Nat.zero_le _, Nat.zero_le _⟩ ?_
      unfold g_ask
      first
        | (rw [if_neg c10]; exact ⟨rfl, hTt, MXa.th, rfl⟩)
        | (rw [if_pos c10, if_neg c20]; exact ⟨rfl, hTt, MXa.th, rfl⟩)
set_option maxRecDepth 100000 in
set_option maxHeartbeats 4000000 in
theorem c_X6_finding (B : Nat) (D : DD) (E : EE) (x : Int32) : MR yX6_finding cX6_finding 2 (some .int) rX6_finding B [.ref (B + 219), .int x] Z0 D E (Q2 Z0 (pI (fun v D' E' => v = (-1000010) - x ∧ D' = stM D x ∧ E' = E))) := by
  refine r_enter [(0, .ref (B + 219)), (1, .int x)] hv_X6_finding.1.2.2.2.2 (Nat.le_of_ble_eq_true rfl) rfl ?_
  refine r_aload_n dX6_finding_0 rfl ?_
  refine r_iload_n dX6_finding_1 rfl ?_
  refine r_putI (ci := 6) (k := 1) wf_X6_58 dX6_finding_2 z_219 k_219 (by decide) (by decide) rfl rfl (fun D1 hD1 => ?_)
  obtain rfl : D1 = stM D x := hD1.trans up2_eq
  refine r_ldc wc_X6_61 dX6_finding_5 ?_
  refine r_iload_n dX6_finding_7 rfl ?_
  refine r_isub dX6_finding_8 (fun z2 hz2 => ?_)
  subst hz2
  refine r_iret2 dX6_finding_9 rfl ⟨Nat.zero_le _, Nat.zero_le _⟩ ?_
  exact ⟨rfl, rfl, rfl⟩
set_option maxRecDepth 100000 in
set_option maxHeartbeats 4000000 in
theorem c_X6_isOf (B : Nat) (D : DD) (E : EE) (a k : Nat) (ha : a ≤ 5) (hk : k ≤ 5) : MR yX6_isOf cX6_isOf 2 (some .boolean) rX6_isOf B [.int (nI a), .int (nI k)] Z0 D E (Q2 Z0 (pI (fun v D' E' => v = (bI (s_isA a k = true)) ∧ D' = D ∧ E' = E))) := by
  refine r_enter [(0, .int (nI a)), (1, .int (nI k))] hs_X6_isOf.1.2.2.2.2 (Nat.le_of_ble_eq_true rfl) rfl ?_
  refine r_iload_n dX6_isOf_0 rfl ?_
  refine r_if_eq (tgt := 29) dX6_isOf_1 (by decide) (fun c1 => ?_) (fun c1 => ?_)
  · skip
    rw [nI_z (by omega)] at c1
    refine r_iconst (nI 1) dX6_isOf_29 (by decide) ?_
    refine r_goto (tgt := 34) dX6_isOf_30 (by decide) ?_
    refine r_zret2 dX6_isOf_34 rfl ⟨Nat.zero_le _, Nat.zero_le _⟩ rfl ?_
    first | exact ⟨bI_t (s_isA_iff.mpr (by omega)), rfl, rfl⟩ | exact ⟨bI_f (fun q => by have q1 := s_isA_iff.mp q; omega), rfl, rfl⟩
  · skip
    rw [nI_z (by omega)] at c1
    refine r_iload_n dX6_isOf_4 rfl ?_
    refine r_iload_n dX6_isOf_5 rfl ?_
    refine r_icmp_eq (tgt := 29) dX6_isOf_6 (by decide) (fun c6 => ?_) (fun c6 => ?_)
    · skip
      rw [nI_eq (by omega) (by omega)] at c6
      refine r_iconst (nI 1) dX6_isOf_29 (by decide) ?_
      refine r_goto (tgt := 34) dX6_isOf_30 (by decide) ?_
      refine r_zret2 dX6_isOf_34 rfl ⟨Nat.zero_le _, Nat.zero_le _⟩ rfl ?_
      first | exact ⟨bI_t (s_isA_iff.mpr (by omega)), rfl, rfl⟩ | exact ⟨bI_f (fun q => by have q1 := s_isA_iff.mp q; omega), rfl, rfl⟩
    · skip
      rw [nI_eq (by omega) (by omega)] at c6
      refine r_iload_n dX6_isOf_9 rfl ?_
      refine r_iconst (nI 1) dX6_isOf_10 (by decide) ?_
      refine r_icmp_ne (tgt := 19) dX6_isOf_11 (by decide) (fun c11 => ?_) (fun c11 => ?_)
      · skip
        rw [nI_eq (by omega) (by omega)] at c11
        refine r_iload_n dX6_isOf_19 rfl ?_
        refine r_iconst (nI 4) dX6_isOf_20 (by decide) ?_
        refine r_icmp_ne (tgt := 33) dX6_isOf_21 (by decide) (fun c21 => ?_) (fun c21 => ?_)
        · skip
          rw [nI_eq (by omega) (by omega)] at c21
          refine r_iconst (nI 0) dX6_isOf_33 (by decide) ?_
          refine r_zret2 dX6_isOf_34 rfl ⟨Nat.zero_le _, Nat.zero_le _⟩ rfl ?_
          first | exact ⟨bI_t (s_isA_iff.mpr (by omega)), rfl, rfl⟩ | exact ⟨bI_f (fun q => by have q1 := s_isA_iff.mp q; omega), rfl, rfl⟩
        · skip
          rw [nI_eq (by omega) (by omega)] at c21
          refine r_iload_n dX6_isOf_24 rfl ?_
          refine r_iconst (nI 5) dX6_isOf_25 (by decide) ?_
          refine r_icmp_ne (tgt := 33) dX6_isOf_26 (by decide) (fun c26 => ?_) (fun c26 => ?_)
          · skip
            rw [nI_eq (by omega) (by omega)] at c26
            refine r_iconst (nI 0) dX6_isOf_33 (by decide) ?_
            refine r_zret2 dX6_isOf_34 rfl ⟨Nat.zero_le _, Nat.zero_le _⟩ rfl ?_
            first | exact ⟨bI_t (s_isA_iff.mpr (by omega)), rfl, rfl⟩ | exact ⟨bI_f (fun q => by have q1 := s_isA_iff.mp q; omega), rfl, rfl⟩
          · skip
            rw [nI_eq (by omega) (by omega)] at c26
            refine r_iconst (nI 1) dX6_isOf_29 (by decide) ?_
            refine r_goto (tgt := 34) dX6_isOf_30 (by decide) ?_
            refine r_zret2 dX6_isOf_34 rfl ⟨Nat.zero_le _, Nat.zero_le _⟩ rfl ?_
            first | exact ⟨bI_t (s_isA_iff.mpr (by omega)), rfl, rfl⟩ | exact ⟨bI_f (fun q => by have q1 := s_isA_iff.mp q; omega), rfl, rfl⟩
      · skip
        rw [nI_eq (by omega) (by omega)] at c11
        refine r_iload_n dX6_isOf_14 rfl ?_
        refine r_iconst (nI 4) dX6_isOf_15 (by decide) ?_
        refine r_icmp_lt (tgt := 29) dX6_isOf_16 (by decide) (fun c16 => ?_) (fun c16 => ?_)
        · skip
          rw [nI_ltI (by omega) (by omega)] at c16
          refine r_iconst (nI 1) dX6_isOf_29 (by decide) ?_
          refine r_goto (tgt := 34) dX6_isOf_30 (by decide) ?_
          refine r_zret2 dX6_isOf_34 rfl ⟨Nat.zero_le _, Nat.zero_le _⟩ rfl ?_
          first | exact ⟨bI_t (s_isA_iff.mpr (by omega)), rfl, rfl⟩ | exact ⟨bI_f (fun q => by have q1 := s_isA_iff.mp q; omega), rfl, rfl⟩
        · skip
          rw [nI_ltI (by omega) (by omega)] at c16
          refine r_iload_n dX6_isOf_19 rfl ?_
          refine r_iconst (nI 4) dX6_isOf_20 (by decide) ?_
          refine r_icmp_ne (tgt := 33) dX6_isOf_21 (by decide) (fun c21 => ?_) (fun c21 => ?_)
          · skip
            rw [nI_eq (by omega) (by omega)] at c21
            refine r_iconst (nI 0) dX6_isOf_33 (by decide) ?_
            refine r_zret2 dX6_isOf_34 rfl ⟨Nat.zero_le _, Nat.zero_le _⟩ rfl ?_
            first | exact ⟨bI_t (s_isA_iff.mpr (by omega)), rfl, rfl⟩ | exact ⟨bI_f (fun q => by have q1 := s_isA_iff.mp q; omega), rfl, rfl⟩
          · skip
            rw [nI_eq (by omega) (by omega)] at c21
            refine r_iload_n dX6_isOf_24 rfl ?_
            refine r_iconst (nI 5) dX6_isOf_25 (by decide) ?_
            refine r_icmp_ne (tgt := 33) dX6_isOf_26 (by decide) (fun c26 => ?_) (fun c26 => ?_)
            · skip
              rw [nI_eq (by omega) (by omega)] at c26
              refine r_iconst (nI 0) dX6_isOf_33 (by decide) ?_
              refine r_zret2 dX6_isOf_34 rfl ⟨Nat.zero_le _, Nat.zero_le _⟩ rfl ?_
              first | exact ⟨bI_t (s_isA_iff.mpr (by omega)), rfl, rfl⟩ | exact ⟨bI_f (fun q => by have q1 := s_isA_iff.mp q; omega), rfl, rfl⟩
            · skip
              rw [nI_eq (by omega) (by omega)] at c26
              refine r_iconst (nI 1) dX6_isOf_29 (by decide) ?_
              refine r_goto (tgt := 34) dX6_isOf_30 (by decide) ?_
              refine r_zret2 dX6_isOf_34 rfl ⟨Nat.zero_le _, Nat.zero_le _⟩ rfl ?_
              first | exact ⟨bI_t (s_isA_iff.mpr (by omega)), rfl, rfl⟩ | exact ⟨bI_f (fun q => by have q1 := s_isA_iff.mp q; omega), rfl, rfl⟩
set_option maxRecDepth 100000 in
set_option maxHeartbeats 4000000 in
theorem c_X6_as (B : Nat) (D : DD) (E : EE) (wy : Nat → Nat) (r : Row) (hX0 : XM D wy r) (x y : Int32) : MR yX6_as cX6_as 3 (some .int) rX6_as B [.ref (B + 219), .int x, .int y] Z0 D E (Q2 Z0 (pI (fun v D' E' => v = (g_as r x y (D 219 1)).1 ∧ D' 219 1 = (g_as r x y (D 219 1)).2 ∧ MXs D D' ∧ E' = E))) := by
  have hX := hX0.th
  obtain ⟨hO, hM, hwy, hYY⟩ := id hX
  obtain ⟨l0, l5, l4, l6, l7, l8, l1⟩ := hO.le
  have hwy0 := hX0.2.2.1
  have hM0 := hX0.2.1
  have h1 : thD D 219 1 = D 219 1 := MX.th.2 1 (by decide)
  refine r_enter [(0, .ref (B + 219)), (1, .int x), (2, .int y)] hv_X6_as.1.2.2.2.2 (Nat.le_of_ble_eq_true rfl) rfl ?_
  refine r_aload_n dX6_as_0 rfl ?_
  refine r_iconst (nI 0) dX6_as_1 (by decide) ?_
  refine r_putI (ci := 6) (k := 0) wf_X6_54 dX6_as_2 z_219 k_219 (by decide) (by decide) rfl rfl (fun D1 hD1 => ?_)
  obtain rfl : D1 = thD D := hD1.trans up2_eq
  refine r_aload_n dX6_as_5 rfl ?_
  refine r_iload_n dX6_as_6 rfl ?_
  refine r_callVI (As := [.int x]) (o := 219) (c_X6_isWisher B (thD D) E x (r 5) (hM 5 (by decide))) hv_X6_isWisher wm_X6_202 dX6_as_7 rfl rfl z_219 k_219 (by decide) rfl (Nat.le_of_ble_eq_true rfl) ⟨Nat.le_of_ble_eq_true rfl, Nat.le_of_ble_eq_true rfl, Nat.zero_le _, Nat.zero_le _⟩ ⟨rfl, rfl⟩ (fun z2 D3 E4 hz2 => ?_)
  obtain ⟨hqV, hqD, hqE⟩ := hz2
  obtain rfl : z2 = bI (nI 0 ≤ x ∧ x ≤ nI (r 5) - nI 1) := hqV
  obtain rfl := hqD.symm
  obtain rfl := hqE.symm
  refine r_if_eq (tgt := 25) dX6_as_10 (by decide) (fun c10 => ?_) (fun c10 => ?_)
  · skip
    rw [bI_0] at c10
    refine r_ldc wc_X6_74 dX6_as_25 ?_
    refine r_iret2 dX6_as_27 rfl ⟨Nat.zero_le _, Nat.zero_le _⟩ ?_
    unfold g_as
    first
      | (rw [if_neg c10]; exact ⟨rfl, h1, MXs.of MX.th, rfl⟩)
      | (rw [if_pos c10, if_neg c22]; exact ⟨rfl, h1, MXs.of MX.th, rfl⟩)
  · skip
    rw [bI_n0] at c10
    obtain ⟨w, hw1, rfl⟩ := gd_n (by omega) c10
    obtain ⟨hW, hT, hH⟩ := hO.w hw1
    have hY := hYY hW
    obtain ⟨b1, b2, b3, b4, b5, b6, b7, b8⟩ := hW.1
    obtain ⟨⟨d1, d2⟩, d3, d4, d5, d6, ⟨d7, d8⟩, d9, d10⟩ := hW.2.2.1 w hw1
    refine r_iload_n dX6_as_13 rfl ?_
    refine r_i2l dX6_as_14 (fun z5 hz5 => ?_)
    subst hz5
    refine r_lconst ((nI 0).toInt64) dX6_as_15 (by decide) ?_
    refine r_ldc2v ((nI 5).toInt64) wg_X6_247 dX6_as_16 (by decide) ?_
    refine r_callSI (As := [.long y.toInt64, .long ((nI 0).toInt64), .long ((nI 5).toInt64)]) (c_X6_in B (thD D) E y (nI 0) (nI 5)) hs_X6_in wm_X6_64 rfl dX6_as_19 rfl rfl (Nat.le_of_ble_eq_true rfl) ⟨Nat.le_of_ble_eq_true rfl, Nat.le_of_ble_eq_true rfl, Nat.zero_le _, Nat.zero_le _⟩ ⟨rfl, rfl⟩ (fun z6 D7 E8 hz6 => ?_)
    obtain ⟨hqV, hqD, hqE⟩ := hz6
    obtain rfl : z6 = bI (nI 0 ≤ y ∧ y ≤ nI 5) := hqV
    obtain rfl := hqD.symm
    obtain rfl := hqE.symm
    refine r_if_ne (tgt := 28) dX6_as_22 (by decide) (fun c22 => ?_) (fun c22 => ?_)
    · skip
      rw [bI_n0] at c22
      obtain ⟨k, hh1, hh2, rfl⟩ := rg (by decide) (by decide) c22
      refine r_aload_n dX6_as_28 rfl ?_
      refine r_iconst (nI 0) dX6_as_29 (by decide) ?_
      refine r_putI (ci := 6) (k := 1) wf_X6_58 dX6_as_30 z_219 k_219 (by decide) (by decide) rfl rfl (fun D9 hD9 => ?_)
      obtain rfl : D9 = stM (thD D) (nI 0) := hD9.trans up2_eq
      refine r_aload_n dX6_as_33 rfl ?_
      refine r_getR (ci := 6) (k := 5) wf_X6_19 dX6_as_34 z_219 k_219 (by decide) (by decide) (fun _ _ => rfl) f_219_5 ?_
      refine r_iload_n dX6_as_37 rfl ?_
      refine r_iconst (nI 0) dX6_as_38 (by decide) ?_
      refine r_callSI (As := [.ref (B + 223), .int (nI w), .int (nI 0)]) (c_X6_of B (stM (thD D) (nI 0)) E 223 (Or.inl rfl) w 0 (by omega)) hs_X6_of wm_X6_159 rfl dX6_as_39 rfl rfl (Nat.le_of_ble_eq_true rfl) ⟨Nat.le_of_ble_eq_true rfl, Nat.le_of_ble_eq_true rfl, Nat.zero_le _, Nat.zero_le _⟩ ⟨rfl, rfl⟩ (fun z10 D11 E12 hz10 => ?_)
      obtain ⟨hq1, hqD, hqE⟩ := hz10
      obtain rfl := hqD.symm
      obtain rfl := hqE.symm
      obtain rfl : z10 = nI (r (16 + 8 * w)) := hq1.trans ((congrFun (stM_q (by decide)) _).trans (MA_at hM (by omega) (by omega)))
      refine r_iload_n dX6_as_42 rfl ?_
      refine r_callSI (As := [.int (nI (r (16 + 8 * w))), .int (nI k)]) (c_X6_isOf B (stM (thD D) (nI 0)) E (r (16 + 8 * w)) k d2 hh2) hs_X6_isOf wm_X6_249 rfl dX6_as_43 rfl rfl (Nat.le_of_ble_eq_true rfl) ⟨Nat.le_of_ble_eq_true rfl, Nat.le_of_ble_eq_true rfl, Nat.zero_le _, Nat.zero_le _⟩ ⟨rfl, rfl⟩ (fun z13 D14 E15 hz13 => ?_)
      obtain ⟨hqV, hqD, hqE⟩ := hz13
      obtain rfl : z13 = bI (s_isA (r (16 + 8 * w)) k = true) := hqV
      obtain rfl := hqD.symm
      obtain rfl := hqE.symm
      refine r_if_eq (tgt := 53) dX6_as_46 (by decide) (fun c46 => ?_) (fun c46 => ?_)
      · skip
        rw [bI_0] at c46
        refine r_aload_n dX6_as_53 rfl ?_
        refine r_iconst (nI 3) dX6_as_54 (by decide) ?_
        refine r_callVI (As := [.int (nI 3)]) (o := 219) (c_X6_finding B (stM (thD D) (nI 0)) E (nI 3)) hv_X6_finding wm_X6_75 dX6_as_55 rfl rfl z_219 k_219 (by decide) rfl (Nat.le_of_ble_eq_true rfl) ⟨Nat.le_of_ble_eq_true rfl, Nat.le_of_ble_eq_true rfl, Nat.zero_le _, Nat.zero_le _⟩ ⟨rfl, rfl⟩ (fun z16 D17 E18 hz16 => ?_)
        obtain ⟨hq1, hqD, hqE⟩ := hz16
        obtain rfl := hqE.symm
        subst hqD
        subst hq1
        refine r_iret2 dX6_as_58 rfl ⟨Nat.zero_le _, Nat.zero_le _⟩ ?_
        unfold g_as
        rw [if_pos c10, if_pos c22, nI_clamp (show w < 2 ^ 31 by omega), nI_clamp (show k < 2 ^ 31 by omega)]
        first
          | (rw [if_pos c46]; exact ⟨rfl, stM_at, (MXs.of MX.th).st, rfl⟩)
          | (rw [if_neg c46]; exact ⟨fd_3, stM_at, (MXs.of MX.th).st.st, rfl⟩)
      · skip
        rw [bI_n0] at c46
        refine r_iload_n dX6_as_49 rfl ?_
        refine r_goto (tgt := 58) dX6_as_50 (by decide) ?_
        refine r_iret2 dX6_as_58 rfl ⟨Nat.zero_le _, Nat.zero_le _⟩ ?_
        unfold g_as
        rw [if_pos c10, if_pos c22, nI_clamp (show w < 2 ^ 31 by omega), nI_clamp (show k < 2 ^ 31 by omega)]
        first
          | (rw [if_pos c46]; exact ⟨rfl, stM_at, (MXs.of MX.th).st, rfl⟩)
          | (rw [if_neg c46]; exact ⟨fd_3, stM_at, (MXs.of MX.th).st.st, rfl⟩)
    · skip
      rw [bI_0] at c22
      refine r_ldc wc_X6_74 dX6_as_25 ?_
      refine r_iret2 dX6_as_27 rfl ⟨Nat.zero_le _, Nat.zero_le _⟩ ?_
      unfold g_as
      first
        | (rw [if_neg c10]; exact ⟨rfl, h1, MXs.of MX.th, rfl⟩)
        | (rw [if_pos c10, if_neg c22]; exact ⟨rfl, h1, MXs.of MX.th, rfl⟩)
