set_option maxRecDepth 100000 in
set_option maxHeartbeats 4000000 in
theorem c_X6_drop (B : Nat) (D : DD) (E : EE) (w : RWS) (hR0 : MRW D w) (x : Int32) : MR yX6_drop cX6_drop 2 (some .int) rX6_drop B [.ref (B + 219), .int x] Z0 D E (Q2 Z0 (pI (fun v D' E' => v = (g_drop x w).1 ∧ MRW D' (g_drop x w).2 ∧ FRm D D' ∧ E' = E))) := by
  have hR := MX.th.mrw hR0
  have hRs : MRW (stM (thD D) (nI 0)) (w.1, w.2.1, nI 0) := hR.st
  have hFs : FRm D (stM (thD D) (nI 0)) := FRm.th.st
  refine r_enter [(0, .ref (B + 219)), (1, .int x)] hv_X6_drop.1.2.2.2.2 (Nat.le_of_ble_eq_true rfl) rfl ?_
  refine r_aload_n dX6_drop_0 rfl ?_
  refine r_iconst (nI 0) dX6_drop_1 (by decide) ?_
  refine r_putI (ci := 6) (k := 0) wf_X6_54 dX6_drop_2 z_219 k_219 (by decide) (by decide) rfl rfl (fun D1 hD1 => ?_)
  obtain rfl : D1 = thD D := hD1.trans up2_eq
  refine r_iload_n dX6_drop_5 rfl ?_
  refine r_callSI (As := [.int x]) (c_X6_isRow B (thD D) E x) hs_X6_isRow wm_X6_68 rfl dX6_drop_6 rfl rfl (Nat.le_of_ble_eq_true rfl) ⟨Nat.le_of_ble_eq_true rfl, Nat.le_of_ble_eq_true rfl, Nat.zero_le _, Nat.zero_le _⟩ ⟨rfl, rfl⟩ (fun z2 D3 E4 hz2 => ?_)
  obtain ⟨hqV, hqD, hqE⟩ := hz2
  obtain rfl : z2 = bI (nI 0 ≤ x ∧ x ≤ nI 7) := hqV
  obtain rfl := hqD.symm
  obtain rfl := hqE.symm
  refine r_if_ne (tgt := 15) dX6_drop_9 (by decide) (fun c9 => ?_) (fun c9 => ?_)
  · skip
    rw [bI_n0] at c9
    obtain ⟨ρ, ρh1, ρh2, rfl⟩ := rg (by decide) (by decide) c9
    have hρ : ρ < 8 := by omega
    have hw0 := hR.1 ρ hρ
    refine r_aload_n dX6_drop_15 rfl ?_
    refine r_iconst (nI 0) dX6_drop_16 (by decide) ?_
    refine r_putI (ci := 6) (k := 1) wf_X6_58 dX6_drop_17 z_219 k_219 (by decide) (by decide) rfl rfl (fun D5 hD5 => ?_)
    obtain rfl : D5 = stM (thD D) (nI 0) := hD5.trans up2_eq
    refine r_aload_n dX6_drop_20 rfl ?_
    refine r_getR (ci := 6) (k := 2) wf_X6_7 dX6_drop_21 z_219 k_219 (by decide) (by decide) (fun _ _ => rfl) f_219_2 ?_
    refine r_iload_n dX6_drop_24 rfl ?_
    refine r_iald dX6_drop_25 z_220 k_220 (vp_in_nI (by omega) (by decide)) (fun z6 hz6 => ?_)
    rw [nI_clamp (by omega)] at hz6
    obtain rfl : z6 = thD D 220 ρ := hz6.trans (congrFun (stM_q (by decide)) ρ)
    refine r_if_ge (tgt := 35) dX6_drop_26 (by decide) (fun c26 => ?_) (fun c26 => ?_)
    · skip
      obtain ⟨l, s, hls⟩ := mlane_s hw0 (Int32.not_lt.mpr c26)
      rw [hls] at hw0
      obtain ⟨hs1, hs2, hs3, hs4, hs5⟩ := hw0
      refine r_aload_n dX6_drop_35 rfl ?_
      refine r_getR (ci := 6) (k := 2) wf_X6_7 dX6_drop_36 z_219 k_219 (by decide) (by decide) (fun _ _ => rfl) f_219_2 ?_
      refine r_iload_n dX6_drop_39 rfl ?_
      refine r_iconst ((-1)) dX6_drop_40 (by decide) ?_
      refine r_iast dX6_drop_41 z_220 k_220 (vp_in_nI (by omega) (by decide)) (fun D7 hD7 => ?_)
      rw [nI_clamp (by omega)] at hD7
      have hD9 := hD7
      refine r_aload_n dX6_drop_42 rfl ?_
      refine r_getR (ci := 6) (k := 3) wf_X6_13 dX6_drop_43 z_219 k_219 (by decide) (by decide) (fun _ _ => rfl) f_219_3 ?_
      refine r_iload_n dX6_drop_46 rfl ?_
      refine r_iald dX6_drop_47 z_221 k_221 (vp_in_nI (by omega) (by decide)) (fun z8 hz8 => ?_)
      rw [nI_clamp (by omega)] at hz8
      obtain rfl : z8 = nI s := hz8.trans (by rw [hD9]; exact (congrFun (up2_o (by decide)) _).trans ((congrFun (stM_q (by decide)) _).trans hs4))
      refine r_iret2 dX6_drop_48 rfl ⟨Nat.zero_le _, Nat.zero_le _⟩ ?_
      have hEnd : MRW D7 (upo w.1 ρ none, upo w.2.1 ρ (w.2.1 ρ), nI 0) := by
        rw [hD9]
        exact MRW_set (w := (w.1, w.2.1, nI 0)) hRs (show _ = _ from up2_s) (fun i hi => ⟨up2_n (fun q => hi q.2), congrFun (up2_o (by decide)) _⟩) (fun i hi j hj => congrFun (up2_o (by decide)) _) ((congrFun (up2_o (by decide)) _).trans stM_at)
      rw [upo_id] at hEnd
      have hFe : FRm D D7 := by rw [hD9]; exact hFs.up (Or.inl rfl)
      unfold g_drop
      rw [if_pos c9, nI_clamp (by omega), hls]
      exact ⟨rfl, hEnd, hFe, rfl⟩
    · skip
      have hn := mlane_n hw0 (Int32.not_le.mp c26)
      refine r_aload_n dX6_drop_29 rfl ?_
      refine r_iconst (nI 1) dX6_drop_30 (by decide) ?_
      refine r_callVI (As := [.int (nI 1)]) (o := 219) (c_X6_finding B (stM (thD D) (nI 0)) E (nI 1)) hv_X6_finding wm_X6_75 dX6_drop_31 rfl rfl z_219 k_219 (by decide) rfl (Nat.le_of_ble_eq_true rfl) ⟨Nat.le_of_ble_eq_true rfl, Nat.le_of_ble_eq_true rfl, Nat.zero_le _, Nat.zero_le _⟩ ⟨rfl, rfl⟩ (fun z9 D10 E11 hz9 => ?_)
      obtain ⟨hq1, hqD, hqE⟩ := hz9
      obtain rfl := hqE.symm
      subst hqD
      subst hq1
      refine r_iret2 dX6_drop_34 rfl ⟨Nat.zero_le _, Nat.zero_le _⟩ ?_
      unfold g_drop
      rw [if_pos c9, nI_clamp (by omega), hn]
      exact ⟨fd_1, hRs.st, hFs.st, rfl⟩
  · skip
    rw [bI_0] at c9
    refine r_ldc wc_X6_74 dX6_drop_12 ?_
    refine r_iret2 dX6_drop_14 rfl ⟨Nat.zero_le _, Nat.zero_le _⟩ ?_
    unfold g_drop
    rw [if_neg c9]
    exact ⟨rfl, hR, FRm.th, rfl⟩
set_option maxRecDepth 100000 in
set_option maxHeartbeats 4000000 in
theorem c_X6_row (B : Nat) (D : DD) (E : EE) (w : RWS) (hR0 : MRW D w) (x y z : Int32) : MR yX6_row cX6_row 5 (some .int) rX6_row B [.ref (B + 219), .int x, .int y, .int z] Z0 D E (Q2 Z0 (pI (fun v D' E' => v = (g_row x y z w).1 ∧ MRW D' (g_row x y z w).2 ∧ FRm D D' ∧ E' = E))) := by
  have hR := MX.th.mrw hR0
  have hRs : MRW (stM (thD D) (nI 0)) (w.1, w.2.1, nI 0) := hR.st
  have hFs : FRm D (stM (thD D) (nI 0)) := FRm.th.st
  refine r_enter [(0, .ref (B + 219)), (1, .int x), (2, .int y), (3, .int z)] hv_X6_row.1.2.2.2.2 (Nat.le_of_ble_eq_true rfl) rfl ?_
  refine r_aload_n dX6_row_0 rfl ?_
  refine r_iconst (nI 0) dX6_row_1 (by decide) ?_
  refine r_putI (ci := 6) (k := 0) wf_X6_54 dX6_row_2 z_219 k_219 (by decide) (by decide) rfl rfl (fun D1 hD1 => ?_)
  obtain rfl : D1 = thD D := hD1.trans up2_eq
  refine r_iload_n dX6_row_5 rfl ?_
  refine r_callSI (As := [.int x]) (c_X6_isRow B (thD D) E x) hs_X6_isRow wm_X6_68 rfl dX6_row_6 rfl rfl (Nat.le_of_ble_eq_true rfl) ⟨Nat.le_of_ble_eq_true rfl, Nat.le_of_ble_eq_true rfl, Nat.zero_le _, Nat.zero_le _⟩ ⟨rfl, rfl⟩ (fun z2 D3 E4 hz2 => ?_)
  obtain ⟨hqV, hqD, hqE⟩ := hz2
  obtain rfl : z2 = bI (nI 0 ≤ x ∧ x ≤ nI 7) := hqV
  obtain rfl := hqD.symm
  obtain rfl := hqE.symm
  refine r_if_eq (tgt := 30) dX6_row_9 (by decide) (fun c9 => ?_) (fun c9 => ?_)
  · skip
    rw [bI_0] at c9
    refine r_ldc wc_X6_74 dX6_row_30 ?_
    refine r_iret2 dX6_row_32 rfl ⟨Nat.zero_le _, Nat.zero_le _⟩ ?_
    unfold g_row
    first
      | (rw [if_neg c9]; exact ⟨rfl, hR, FRm.th, rfl⟩)
      | (rw [if_pos c9, if_neg c21]; exact ⟨rfl, hR, FRm.th, rfl⟩)
      | (rw [if_pos c9, if_pos c21, if_neg c27]; exact ⟨rfl, hR, FRm.th, rfl⟩)
  · skip
    rw [bI_n0] at c9
    obtain ⟨ρ, ρh1, ρh2, rfl⟩ := rg (by decide) (by decide) c9
    have hρ : ρ < 8 := by omega
    have hw0 := hR.1 ρ hρ
    refine r_iload_n dX6_row_12 rfl ?_
    refine r_i2l dX6_row_13 (fun z5 hz5 => ?_)
    subst hz5
    refine r_lconst ((nI 0).toInt64) dX6_row_14 (by decide) ?_
    refine r_ldc2v ((nI 2).toInt64) wg_X6_72 dX6_row_15 (by decide) ?_
    refine r_callSI (As := [.long y.toInt64, .long ((nI 0).toInt64), .long ((nI 2).toInt64)]) (c_X6_in B (thD D) E y (nI 0) (nI 2)) hs_X6_in wm_X6_64 rfl dX6_row_18 rfl rfl (Nat.le_of_ble_eq_true rfl) ⟨Nat.le_of_ble_eq_true rfl, Nat.le_of_ble_eq_true rfl, Nat.zero_le _, Nat.zero_le _⟩ ⟨rfl, rfl⟩ (fun z6 D7 E8 hz6 => ?_)
    obtain ⟨hqV, hqD, hqE⟩ := hz6
    obtain rfl : z6 = bI (nI 0 ≤ y ∧ y ≤ nI 2) := hqV
    obtain rfl := hqD.symm
    obtain rfl := hqE.symm
    refine r_if_eq (tgt := 30) dX6_row_21 (by decide) (fun c21 => ?_) (fun c21 => ?_)
    · skip
      rw [bI_0] at c21
      refine r_ldc wc_X6_74 dX6_row_30 ?_
      refine r_iret2 dX6_row_32 rfl ⟨Nat.zero_le _, Nat.zero_le _⟩ ?_
      unfold g_row
      first
        | (rw [if_neg c9]; exact ⟨rfl, hR, FRm.th, rfl⟩)
        | (rw [if_pos c9, if_neg c21]; exact ⟨rfl, hR, FRm.th, rfl⟩)
        | (rw [if_pos c9, if_pos c21, if_neg c27]; exact ⟨rfl, hR, FRm.th, rfl⟩)
    · skip
      rw [bI_n0] at c21
      obtain ⟨l, hl1, hl2, rfl⟩ := rg (by decide) (by decide) c21
      refine r_iload_n dX6_row_24 rfl ?_
      refine r_bipush (nI 40) dX6_row_25 (by decide) ?_
      refine r_icmp_le (tgt := 33) dX6_row_27 (by decide) (fun c27 => ?_) (fun c27 => ?_)
      · skip
        refine r_aload_n dX6_row_33 rfl ?_
        refine r_iconst (nI 0) dX6_row_34 (by decide) ?_
        refine r_putI (ci := 6) (k := 1) wf_X6_58 dX6_row_35 z_219 k_219 (by decide) (by decide) rfl rfl (fun D9 hD9 => ?_)
        obtain rfl : D9 = stM (thD D) (nI 0) := hD9.trans up2_eq
        refine r_iload_n dX6_row_38 rfl ?_
        refine r_if_ge (tgt := 48) dX6_row_39 (by decide) (fun c39 => ?_) (fun c39 => ?_)
        · skip
          obtain ⟨n, hn1, hn2, rfl⟩ := rg (a := 0) (b := 40) (by decide) (by decide) ⟨c39, c27⟩
          refine r_aload_n dX6_row_48 rfl ?_
          refine r_getR (ci := 6) (k := 2) wf_X6_7 dX6_row_49 z_219 k_219 (by decide) (by decide) (fun _ _ => rfl) f_219_2 ?_
          refine r_iload_n dX6_row_52 rfl ?_
          refine r_iload_n dX6_row_53 rfl ?_
          refine r_iast dX6_row_54 z_220 k_220 (vp_in_nI (by omega) (by decide)) (fun D10 hD10 => ?_)
          rw [nI_clamp (by omega)] at hD10
          have hE1 := hD10
          refine r_aload_n dX6_row_55 rfl ?_
          refine r_getR (ci := 6) (k := 3) wf_X6_13 dX6_row_56 z_219 k_219 (by decide) (by decide) (fun _ _ => rfl) f_219_3 ?_
          refine r_iload_n dX6_row_59 rfl ?_
          refine r_iload_n dX6_row_60 rfl ?_
          refine r_iast dX6_row_61 z_221 k_221 (vp_in_nI (by omega) (by decide)) (fun D11 hD11 => ?_)
          rw [nI_clamp (by omega)] at hD11
          have hE2 := hD11
          refine r_iconst (nI 0) dX6_row_62 (by decide) ?_
          refine r_istore [(4, .int (nI 0)), (0, .ref (B + 219)), (1, .int (nI ρ)), (2, .int (nI l)), (3, .int (nI n))] dX6_row_63 (by decide) rfl ?_
          have L : ∀ (fu k : Nat) (Dk : DD), k ≤ 40 → 40 - k < fu → (ZR D11 Dk ρ k) → RW yX6_row cX6_row 5 (some .int) rX6_row B (Q2 Z0 (pI (fun v D' E' => v = (g_row (nI ρ) (nI l) (nI n) w).1 ∧ MRW D' (g_row (nI ρ) (nI l) (nI n) w).2 ∧ FRm D D' ∧ E' = E))) Z0 Dk E 0 0 65 [(4, .int (nI k)), (0, .ref (B + 219)), (1, .int (nI ρ)), (2, .int (nI l)), (3, .int (nI n))] [] := by
            intro fu
            induction fu with
            | zero => intro k Dk hku hfu _; omega
            | succ fu ih =>
              intro k Dk hku hfu hI
              refine r_iload dX6_row_65 rfl ?_
              refine r_bipush (nI 40) dX6_row_67 (by decide) ?_
              refine r_icmp_ge (tgt := 91) dX6_row_69 (by decide) (fun c69 => ?_) (fun c69 => ?_)
              · skip
                rw [nI_leI (by omega) (by omega)] at c69
                refine r_iload_n dX6_row_91 rfl ?_
                refine r_iret2 dX6_row_92 rfl ⟨Nat.zero_le _, Nat.zero_le _⟩ ?_
                obtain rfl : k = 40 := by omega
                have hEnd := row_end hRs hl2 hn2 hE1 hE2 hI hFs
                unfold g_row
                rw [if_pos c9, if_pos c21, if_pos c27, if_pos c39, nI_clamp (show ρ < 2 ^ 31 by omega), nI_clamp (show l < 2 ^ 31 by omega), nI_clamp (show n < 2 ^ 31 by omega)]
                exact ⟨rfl, hEnd.1, hEnd.2, rfl⟩
              · skip
                rw [nI_leI (by omega) (by omega)] at c69
                refine r_aload_n dX6_row_72 rfl ?_
                refine r_getR (ci := 6) (k := 4) wf_X6_16 dX6_row_73 z_219 k_219 (by decide) (by decide) (fun _ _ => rfl) f_219_4 ?_
                refine r_bipush (nI 40) dX6_row_76 (by decide) ?_
                refine r_iload_n dX6_row_78 rfl ?_
                refine r_imul dX6_row_79 (fun z12 hz12 => ?_)
                obtain rfl : z12 = nI (40 * ρ) := (hz12.trans (pk_mul _ _))
                refine r_iload dX6_row_80 rfl ?_
                refine r_iadd dX6_row_82 (fun z13 hz13 => ?_)
                obtain rfl : z13 = nI ((40 * ρ) + k) := (hz13.trans (nI_add _ _))
                refine r_iconst (nI 0) dX6_row_83 (by decide) ?_
                refine r_iast dX6_row_84 z_222 k_222 (vp_in_nI (by omega) (by decide)) (fun D14 hD14 => ?_)
                rw [nI_clamp (by omega)] at hD14
                have hS9 := ZR_s (by omega) hI hD14
                refine r_iinc (nI (k + 1)) [(4, .int (nI (k + 1))), (0, .ref (B + 219)), (1, .int (nI ρ)), (2, .int (nI l)), (3, .int (nI n))] dX6_row_85 rfl (nI_1 _) (by decide) rfl ?_
                refine r_goto (tgt := 65) dX6_row_88 (by decide) ?_
                exact r_lv [(4, .int (nI (k + 1))), (0, .ref (B + 219)), (1, .int (nI ρ)), (2, .int (nI l)), (3, .int (nI n))] (List.forall_mem_cons.mpr ⟨rfl, List.forall_mem_cons.mpr ⟨rfl, List.forall_mem_cons.mpr ⟨rfl, List.forall_mem_cons.mpr ⟨rfl, List.forall_mem_cons.mpr ⟨rfl, fun _ h => absurd h List.not_mem_nil⟩⟩⟩⟩⟩) (ih (k + 1) D14 (by omega) (by omega) hS9)
          exact r_lv [(4, .int (nI 0)), (0, .ref (B + 219)), (1, .int (nI ρ)), (2, .int (nI l)), (3, .int (nI n))] (List.forall_mem_cons.mpr ⟨rfl, List.forall_mem_cons.mpr ⟨rfl, List.forall_mem_cons.mpr ⟨rfl, List.forall_mem_cons.mpr ⟨rfl, List.forall_mem_cons.mpr ⟨rfl, fun _ h => absurd h List.not_mem_nil⟩⟩⟩⟩⟩) (L (40 + 1) 0 D11 (by omega) (by omega) ZR_0)
        · skip
          refine r_aload_n dX6_row_42 rfl ?_
          refine r_iconst (nI 4) dX6_row_43 (by decide) ?_
          refine r_callVI (As := [.int (nI 4)]) (o := 219) (c_X6_finding B (stM (thD D) (nI 0)) E (nI 4)) hv_X6_finding wm_X6_75 dX6_row_44 rfl rfl z_219 k_219 (by decide) rfl (Nat.le_of_ble_eq_true rfl) ⟨Nat.le_of_ble_eq_true rfl, Nat.le_of_ble_eq_true rfl, Nat.zero_le _, Nat.zero_le _⟩ ⟨rfl, rfl⟩ (fun z15 D16 E17 hz15 => ?_)
          obtain ⟨hq1, hqD, hqE⟩ := hz15
          obtain rfl := hqE.symm
          subst hqD
          subst hq1
          refine r_iret2 dX6_row_47 rfl ⟨Nat.zero_le _, Nat.zero_le _⟩ ?_
          unfold g_row
          rw [if_pos c9, if_pos c21, if_pos c27, if_neg c39]
          exact ⟨fd_4, hRs.st, hFs.st, rfl⟩
      · skip
        refine r_ldc wc_X6_74 dX6_row_30 ?_
        refine r_iret2 dX6_row_32 rfl ⟨Nat.zero_le _, Nat.zero_le _⟩ ?_
        unfold g_row
        first
          | (rw [if_neg c9]; exact ⟨rfl, hR, FRm.th, rfl⟩)
          | (rw [if_pos c9, if_neg c21]; exact ⟨rfl, hR, FRm.th, rfl⟩)
          | (rw [if_pos c9, if_pos c21, if_neg c27]; exact ⟨rfl, hR, FRm.th, rfl⟩)
