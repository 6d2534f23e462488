set_option maxRecDepth 100000 in
set_option maxHeartbeats 4000000 in
theorem c_X6_set (B : Nat) (D : DD) (E : EE) (w : RWS) (hR0 : MRW D w) (x y z : Int32) : MR yX6_set cX6_set 4 (some .int) rX6_set B [.ref (B + 219), .int x, .int y, .int z] Z0 D E (Q2 Z0 (pI (fun v D' E' => v = (g_set x y z w).1 ∧ MRW D' (g_set x y z w).2 ∧ FRm D D' ∧ E' = E))) := by
  have hR := MX.th.mrw hR0
  have hRs : MRW (stM (thD D) (nI 0)) (w.1, w.2.1, nI 0) := hR.st
  have hFs : FRm D (stM (thD D) (nI 0)) := FRm.th.st
  refine r_enter [(0, .ref (B + 219)), (1, .int x), (2, .int y), (3, .int z)] hv_X6_set.1.2.2.2.2 (Nat.le_of_ble_eq_true rfl) rfl ?_
  refine r_aload_n dX6_set_0 rfl ?_
  refine r_iconst (nI 0) dX6_set_1 (by decide) ?_
  refine r_putI (ci := 6) (k := 0) wf_X6_54 dX6_set_2 z_219 k_219 (by decide) (by decide) rfl rfl (fun D1 hD1 => ?_)
  obtain rfl : D1 = thD D := hD1.trans up2_eq
  refine r_iload_n dX6_set_5 rfl ?_
  refine r_callSI (As := [.int x]) (c_X6_isRow B (thD D) E x) hs_X6_isRow wm_X6_68 rfl dX6_set_6 rfl rfl (Nat.le_of_ble_eq_true rfl) ⟨Nat.le_of_ble_eq_true rfl, Nat.le_of_ble_eq_true rfl, Nat.zero_le _, Nat.zero_le _⟩ ⟨rfl, rfl⟩ (fun z2 D3 E4 hz2 => ?_)
  obtain ⟨hqV, hqD, hqE⟩ := hz2
  obtain rfl : z2 = bI (nI 0 ≤ x ∧ x ≤ nI 7) := hqV
  obtain rfl := hqD.symm
  obtain rfl := hqE.symm
  refine r_if_ne (tgt := 15) dX6_set_9 (by decide) (fun c9 => ?_) (fun c9 => ?_)
  · skip
    rw [bI_n0] at c9
    obtain ⟨ρ, ρh1, ρh2, rfl⟩ := rg (by decide) (by decide) c9
    have hρ : ρ < 8 := by omega
    have hw0 := hR.1 ρ hρ
    refine r_aload_n dX6_set_15 rfl ?_
    refine r_iconst (nI 0) dX6_set_16 (by decide) ?_
    refine r_putI (ci := 6) (k := 1) wf_X6_58 dX6_set_17 z_219 k_219 (by decide) (by decide) rfl rfl (fun D5 hD5 => ?_)
    obtain rfl : D5 = stM (thD D) (nI 0) := hD5.trans up2_eq
    refine r_aload_n dX6_set_20 rfl ?_
    refine r_getR (ci := 6) (k := 2) wf_X6_7 dX6_set_21 z_219 k_219 (by decide) (by decide) (fun _ _ => rfl) f_219_2 ?_
    refine r_iload_n dX6_set_24 rfl ?_
    refine r_iald dX6_set_25 z_220 k_220 (vp_in_nI (by omega) (by decide)) (fun z6 hz6 => ?_)
    rw [nI_clamp (by omega)] at hz6
    obtain rfl : z6 = thD D 220 ρ := hz6.trans (congrFun (stM_q (by decide)) ρ)
    refine r_if_ge (tgt := 35) dX6_set_26 (by decide) (fun c26 => ?_) (fun c26 => ?_)
    · skip
      obtain ⟨l, s, hls⟩ := mlane_s hw0 (Int32.not_lt.mpr c26)
      rw [hls] at hw0
      obtain ⟨hs1, hs2, hs3, hs4, hs5⟩ := hw0
      refine r_iload_n dX6_set_35 rfl ?_
      refine r_i2l dX6_set_36 (fun z7 hz7 => ?_)
      subst hz7
      refine r_lconst ((nI 0).toInt64) dX6_set_37 (by decide) ?_
      refine r_aload_n dX6_set_38 rfl ?_
      refine r_getR (ci := 6) (k := 3) wf_X6_13 dX6_set_39 z_219 k_219 (by decide) (by decide) (fun _ _ => rfl) f_219_3 ?_
      refine r_iload_n dX6_set_42 rfl ?_
      refine r_iald dX6_set_43 z_221 k_221 (vp_in_nI (by omega) (by decide)) (fun z8 hz8 => ?_)
      rw [nI_clamp (by omega)] at hz8
      obtain rfl : z8 = nI s := hz8.trans ((congrFun (stM_q (by decide)) _).trans hs4)
      refine r_iconst (nI 1) dX6_set_44 (by decide) ?_
      refine r_isub dX6_set_45 (fun z9 hz9 => ?_)
      obtain rfl : z9 = nI s - nI 1 := hz9
      refine r_i2l dX6_set_46 (fun z10 hz10 => ?_)
      subst hz10
      refine r_callSI (As := [.long y.toInt64, .long ((nI 0).toInt64), .long ((nI s - nI 1).toInt64)]) (c_X6_in B (stM (thD D) (nI 0)) E y (nI 0) (nI s - nI 1)) hs_X6_in wm_X6_64 rfl dX6_set_47 rfl rfl (Nat.le_of_ble_eq_true rfl) ⟨Nat.le_of_ble_eq_true rfl, Nat.le_of_ble_eq_true rfl, Nat.zero_le _, Nat.zero_le _⟩ ⟨rfl, rfl⟩ (fun z11 D12 E13 hz11 => ?_)
      obtain ⟨hqV, hqD, hqE⟩ := hz11
      obtain rfl : z11 = bI (nI 0 ≤ y ∧ y ≤ nI s - nI 1) := hqV
      obtain rfl := hqD.symm
      obtain rfl := hqE.symm
      refine r_if_ne (tgt := 59) dX6_set_50 (by decide) (fun c50 => ?_) (fun c50 => ?_)
      · skip
        rw [bI_n0] at c50
        have hok := (ok1 hs2).mpr c50
        obtain ⟨k, hk, rfl⟩ := gd_n (by omega) c50
        refine r_aload_n dX6_set_59 rfl ?_
        refine r_getR (ci := 6) (k := 4) wf_X6_16 dX6_set_60 z_219 k_219 (by decide) (by decide) (fun _ _ => rfl) f_219_4 ?_
        refine r_bipush (nI 40) dX6_set_63 (by decide) ?_
        refine r_iload_n dX6_set_65 rfl ?_
        refine r_imul dX6_set_66 (fun z14 hz14 => ?_)
        obtain rfl : z14 = nI (40 * ρ) := (hz14.trans (pk_mul _ _))
        refine r_iload_n dX6_set_67 rfl ?_
        refine r_iadd dX6_set_68 (fun z15 hz15 => ?_)
        obtain rfl : z15 = nI ((40 * ρ) + k) := (hz15.trans (nI_add _ _))
        refine r_aload_n dX6_set_69 rfl ?_
        refine r_getR (ci := 6) (k := 2) wf_X6_7 dX6_set_70 z_219 k_219 (by decide) (by decide) (fun _ _ => rfl) f_219_2 ?_
        refine r_iload_n dX6_set_73 rfl ?_
        refine r_iald dX6_set_74 z_220 k_220 (vp_in_nI (by omega) (by decide)) (fun z16 hz16 => ?_)
        rw [nI_clamp (by omega)] at hz16
        obtain rfl : z16 = nI l := hz16.trans ((congrFun (stM_q (by decide)) _).trans hs3)
        refine r_if_ne (tgt := 83) dX6_set_75 (by decide) (fun c75 => ?_) (fun c75 => ?_)
        · skip
          rw [nI_z (by omega)] at c75
          refine r_aload_n dX6_set_83 rfl ?_
          refine r_getR (ci := 6) (k := 2) wf_X6_7 dX6_set_84 z_219 k_219 (by decide) (by decide) (fun _ _ => rfl) f_219_2 ?_
          refine r_iload_n dX6_set_87 rfl ?_
          refine r_iald dX6_set_88 z_220 k_220 (vp_in_nI (by omega) (by decide)) (fun z17 hz17 => ?_)
          rw [nI_clamp (by omega)] at hz17
          obtain rfl : z17 = nI l := hz17.trans ((congrFun (stM_q (by decide)) _).trans hs3)
          refine r_iconst (nI 1) dX6_set_89 (by decide) ?_
          refine r_icmp_ne (tgt := 98) dX6_set_90 (by decide) (fun c90 => ?_) (fun c90 => ?_)
          · skip
            rw [nI_eq (by omega) (by omega)] at c90
            refine r_iload_n dX6_set_98 rfl ?_
            refine r_iast dX6_set_99 z_222 k_222 (vp_in_nI (by omega) (by decide)) (fun D18 hD18 => ?_)
            rw [nI_clamp (by omega)] at hD18
            have hD9 : D18 = up2 (stM (thD D) (nI 0)) 222 (40 * ρ + k) (trn l z) := hD18.trans (by unfold trn; first | rw [if_pos c75] | rw [if_neg c75, if_pos c90] | rw [if_neg c75, if_neg c90])
            refine r_aload_n dX6_set_100 rfl ?_
            refine r_getR (ci := 6) (k := 4) wf_X6_16 dX6_set_101 z_219 k_219 (by decide) (by decide) (fun _ _ => rfl) f_219_4 ?_
            refine r_bipush (nI 40) dX6_set_104 (by decide) ?_
            refine r_iload_n dX6_set_106 rfl ?_
            refine r_imul dX6_set_107 (fun z19 hz19 => ?_)
            obtain rfl : z19 = nI (40 * ρ) := (hz19.trans (pk_mul _ _))
            refine r_iload_n dX6_set_108 rfl ?_
            refine r_iadd dX6_set_109 (fun z20 hz20 => ?_)
            obtain rfl : z20 = nI ((40 * ρ) + k) := (hz20.trans (nI_add _ _))
            refine r_iald dX6_set_110 z_222 k_222 (vp_in_nI (by omega) (by decide)) (fun z21 hz21 => ?_)
            rw [nI_clamp (by omega)] at hz21
            obtain rfl : z21 = trn l z := hz21.trans (by rw [hD9]; exact up2_s)
            refine r_iret2 dX6_set_111 rfl ⟨Nat.zero_le _, Nat.zero_le _⟩ ?_
            have hEnd := set_end hRs hρ hls hk hD9 hFs
            have he : g_set (nI ρ) (nI k) z w = (if okInB s (nI k) (nI 1) = true then (trn l z, (w.1, upo w.2.1 ρ (upd (w.2.1 ρ) ((nI k)).toNatClampNeg (trn l z)), nI 0)) else (-1000012, (w.1, w.2.1, nI 2))) := by
              unfold g_set
              rw [if_pos c9, nI_clamp (show ρ < 2 ^ 31 by omega), hls]
            rw [he, if_pos hok, nI_clamp (show k < 2 ^ 31 by omega)]
            exact ⟨rfl, hEnd.1, hEnd.2, rfl⟩
          · skip
            rw [nI_eq (by omega) (by omega)] at c90
            refine r_iload_n dX6_set_93 rfl ?_
            refine r_i2s dX6_set_94 (fun z22 hz22 => ?_)
            subst hz22
            refine r_goto (tgt := 99) dX6_set_95 (by decide) ?_
            refine r_iast dX6_set_99 z_222 k_222 (vp_in_nI (by omega) (by decide)) (fun D23 hD23 => ?_)
            rw [nI_clamp (by omega)] at hD23
            have hD9 : D23 = up2 (stM (thD D) (nI 0)) 222 (40 * ρ + k) (trn l z) := hD23.trans (by unfold trn; first | rw [if_pos c75] | rw [if_neg c75, if_pos c90] | rw [if_neg c75, if_neg c90])
            refine r_aload_n dX6_set_100 rfl ?_
            refine r_getR (ci := 6) (k := 4) wf_X6_16 dX6_set_101 z_219 k_219 (by decide) (by decide) (fun _ _ => rfl) f_219_4 ?_
            refine r_bipush (nI 40) dX6_set_104 (by decide) ?_
            refine r_iload_n dX6_set_106 rfl ?_
            refine r_imul dX6_set_107 (fun z24 hz24 => ?_)
            obtain rfl : z24 = nI (40 * ρ) := (hz24.trans (pk_mul _ _))
            refine r_iload_n dX6_set_108 rfl ?_
            refine r_iadd dX6_set_109 (fun z25 hz25 => ?_)
            obtain rfl : z25 = nI ((40 * ρ) + k) := (hz25.trans (nI_add _ _))
            refine r_iald dX6_set_110 z_222 k_222 (vp_in_nI (by omega) (by decide)) (fun z26 hz26 => ?_)
            rw [nI_clamp (by omega)] at hz26
            obtain rfl : z26 = trn l z := hz26.trans (by rw [hD9]; exact up2_s)
            refine r_iret2 dX6_set_111 rfl ⟨Nat.zero_le _, Nat.zero_le _⟩ ?_
            have hEnd := set_end hRs hρ hls hk hD9 hFs
            have he : g_set (nI ρ) (nI k) z w = (if okInB s (nI k) (nI 1) = true then (trn l z, (w.1, upo w.2.1 ρ (upd (w.2.1 ρ) ((nI k)).toNatClampNeg (trn l z)), nI 0)) else (-1000012, (w.1, w.2.1, nI 2))) := by
              unfold g_set
              rw [if_pos c9, nI_clamp (show ρ < 2 ^ 31 by omega), hls]
            rw [he, if_pos hok, nI_clamp (show k < 2 ^ 31 by omega)]
            exact ⟨rfl, hEnd.1, hEnd.2, rfl⟩
        · skip
          rw [nI_z (by omega)] at c75
          refine r_iload_n dX6_set_78 rfl ?_
          refine r_i2b dX6_set_79 (fun z27 hz27 => ?_)
          subst hz27
          refine r_goto (tgt := 99) dX6_set_80 (by decide) ?_
          refine r_iast dX6_set_99 z_222 k_222 (vp_in_nI (by omega) (by decide)) (fun D28 hD28 => ?_)
          rw [nI_clamp (by omega)] at hD28
          have hD9 : D28 = up2 (stM (thD D) (nI 0)) 222 (40 * ρ + k) (trn l z) := hD28.trans (by unfold trn; first | rw [if_pos c75] | rw [if_neg c75, if_pos c90] | rw [if_neg c75, if_neg c90])
          refine r_aload_n dX6_set_100 rfl ?_
          refine r_getR (ci := 6) (k := 4) wf_X6_16 dX6_set_101 z_219 k_219 (by decide) (by decide) (fun _ _ => rfl) f_219_4 ?_
          refine r_bipush (nI 40) dX6_set_104 (by decide) ?_
          refine r_iload_n dX6_set_106 rfl ?_
          refine r_imul dX6_set_107 (fun z29 hz29 => ?_)
          obtain rfl : z29 = nI (40 * ρ) := (hz29.trans (pk_mul _ _))
          refine r_iload_n dX6_set_108 rfl ?_
          refine r_iadd dX6_set_109 (fun z30 hz30 => ?_)
          obtain rfl : z30 = nI ((40 * ρ) + k) := (hz30.trans (nI_add _ _))
          refine r_iald dX6_set_110 z_222 k_222 (vp_in_nI (by omega) (by decide)) (fun z31 hz31 => ?_)
          rw [nI_clamp (by omega)] at hz31
          obtain rfl : z31 = trn l z := hz31.trans (by rw [hD9]; exact up2_s)
          refine r_iret2 dX6_set_111 rfl ⟨Nat.zero_le _, Nat.zero_le _⟩ ?_
          have hEnd := set_end hRs hρ hls hk hD9 hFs
          have he : g_set (nI ρ) (nI k) z w = (if okInB s (nI k) (nI 1) = true then (trn l z, (w.1, upo w.2.1 ρ (upd (w.2.1 ρ) ((nI k)).toNatClampNeg (trn l z)), nI 0)) else (-1000012, (w.1, w.2.1, nI 2))) := by
            unfold g_set
            rw [if_pos c9, nI_clamp (show ρ < 2 ^ 31 by omega), hls]
          rw [he, if_pos hok, nI_clamp (show k < 2 ^ 31 by omega)]
          exact ⟨rfl, hEnd.1, hEnd.2, rfl⟩
      · skip
        rw [bI_0] at c50
        refine r_aload_n dX6_set_53 rfl ?_
        refine r_iconst (nI 2) dX6_set_54 (by decide) ?_
        refine r_callVI (As := [.int (nI 2)]) (o := 219) (c_X6_finding B (stM (thD D) (nI 0)) E (nI 2)) hv_X6_finding wm_X6_75 dX6_set_55 rfl rfl z_219 k_219 (by decide) rfl (Nat.le_of_ble_eq_true rfl) ⟨Nat.le_of_ble_eq_true rfl, Nat.le_of_ble_eq_true rfl, Nat.zero_le _, Nat.zero_le _⟩ ⟨rfl, rfl⟩ (fun z32 D33 E34 hz32 => ?_)
        obtain ⟨hq1, hqD, hqE⟩ := hz32
        obtain rfl := hqE.symm
        subst hqD
        subst hq1
        refine r_iret2 dX6_set_58 rfl ⟨Nat.zero_le _, Nat.zero_le _⟩ ?_
        have he : g_set (nI ρ) y z w = (if okInB s y (nI 1) = true then (trn l z, (w.1, upo w.2.1 ρ (upd (w.2.1 ρ) (y).toNatClampNeg (trn l z)), nI 0)) else (-1000012, (w.1, w.2.1, nI 2))) := by
          unfold g_set
          rw [if_pos c9, nI_clamp (show ρ < 2 ^ 31 by omega), hls]
        rw [he, if_neg (fun q => c50 ((ok1 hs2).mp q))]
        exact ⟨fd_2, hRs.st, hFs.st, rfl⟩
    · skip
      have hn := mlane_n hw0 (Int32.not_le.mp c26)
      refine r_aload_n dX6_set_29 rfl ?_
      refine r_iconst (nI 1) dX6_set_30 (by decide) ?_
      refine r_callVI (As := [.int (nI 1)]) (o := 219) (c_X6_finding B (stM (thD D) (nI 0)) E (nI 1)) hv_X6_finding wm_X6_75 dX6_set_31 rfl rfl z_219 k_219 (by decide) rfl (Nat.le_of_ble_eq_true rfl) ⟨Nat.le_of_ble_eq_true rfl, Nat.le_of_ble_eq_true rfl, Nat.zero_le _, Nat.zero_le _⟩ ⟨rfl, rfl⟩ (fun z35 D36 E37 hz35 => ?_)
      obtain ⟨hq1, hqD, hqE⟩ := hz35
      obtain rfl := hqE.symm
      subst hqD
      subst hq1
      refine r_iret2 dX6_set_34 rfl ⟨Nat.zero_le _, Nat.zero_le _⟩ ?_
      unfold g_set
      rw [if_pos c9, nI_clamp (by omega), hn]
      exact ⟨fd_1, hRs.st, hFs.st, rfl⟩
  · skip
    rw [bI_0] at c9
    refine r_ldc wc_X6_74 dX6_set_12 ?_
    refine r_iret2 dX6_set_14 rfl ⟨Nat.zero_le _, Nat.zero_le _⟩ ?_
    unfold g_set
    rw [if_neg c9]
    exact ⟨rfl, hR, FRm.th, rfl⟩
