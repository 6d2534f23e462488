set_option maxRecDepth 100000 in
set_option maxHeartbeats 4000000 in
theorem c_X6_copy (B : Nat) (D : DD) (E : EE) (w : RWS) (hR0 : MRW D w) (x y z t n : Int32) : MR yX6_copy cX6_copy 9 (some .int) rX6_copy B [.ref (B + 219), .int x, .int y, .int z, .int t, .int n] Z0 D E (Q2 Z0 (pI (fun v D' E' => v = (g_copy x y z t n w).1 ∧ MRW D' (g_copy x y z t n w).2 ∧ FRm D D' ∧ E' = E))) := by
  have hR := MX.th.mrw hR0
  have hRs : MRW (stM (thD D) (nI 0)) (w.1, w.2.1, nI 0) := hR.st
  have hFs : FRm D (stM (thD D) (nI 0)) := FRm.th.st
  refine r_enter [(0, .ref (B + 219)), (1, .int x), (2, .int y), (3, .int z), (4, .int t), (5, .int n)] hv_X6_copy.1.2.2.2.2 (Nat.le_of_ble_eq_true rfl) rfl ?_
  refine r_aload_n dX6_copy_0 rfl ?_
  refine r_iconst (nI 0) dX6_copy_1 (by decide) ?_
  refine r_putI (ci := 6) (k := 0) wf_X6_54 dX6_copy_2 z_219 k_219 (by decide) (by decide) rfl rfl (fun D1 hD1 => ?_)
  obtain rfl : D1 = thD D := hD1.trans up2_eq
  refine r_iload_n dX6_copy_5 rfl ?_
  refine r_callSI (As := [.int x]) (c_X6_isRow B (thD D) E x) hs_X6_isRow wm_X6_68 rfl dX6_copy_6 rfl rfl (Nat.le_of_ble_eq_true rfl) ⟨Nat.le_of_ble_eq_true rfl, Nat.le_of_ble_eq_true rfl, Nat.zero_le _, Nat.zero_le _⟩ ⟨rfl, rfl⟩ (fun z2 D3 E4 hz2 => ?_)
  obtain ⟨hqV, hqD, hqE⟩ := hz2
  obtain rfl : z2 = bI (nI 0 ≤ x ∧ x ≤ nI 7) := hqV
  obtain rfl := hqD.symm
  obtain rfl := hqE.symm
  refine r_if_eq (tgt := 19) dX6_copy_9 (by decide) (fun c9 => ?_) (fun c9 => ?_)
  · skip
    rw [bI_0] at c9
    refine r_ldc wc_X6_74 dX6_copy_19 ?_
    refine r_iret2 dX6_copy_21 rfl ⟨Nat.zero_le _, Nat.zero_le _⟩ ?_
    have e : g_copy x y z t n w = (-1000001, w) := by
      unfold g_copy
      first | rw [if_neg c9] | rw [if_pos c9, if_neg c16]
    rw [e]
    exact ⟨rfl, hR, FRm.th, rfl⟩
  · skip
    rw [bI_n0] at c9
    refine r_iload_n dX6_copy_12 rfl ?_
    refine r_callSI (As := [.int z]) (c_X6_isRow B (thD D) E z) hs_X6_isRow wm_X6_68 rfl dX6_copy_13 rfl rfl (Nat.le_of_ble_eq_true rfl) ⟨Nat.le_of_ble_eq_true rfl, Nat.le_of_ble_eq_true rfl, Nat.zero_le _, Nat.zero_le _⟩ ⟨rfl, rfl⟩ (fun z5 D6 E7 hz5 => ?_)
    obtain ⟨hqV, hqD, hqE⟩ := hz5
    obtain rfl : z5 = bI (nI 0 ≤ z ∧ z ≤ nI 7) := hqV
    obtain rfl := hqD.symm
    obtain rfl := hqE.symm
    refine r_if_ne (tgt := 22) dX6_copy_16 (by decide) (fun c16 => ?_) (fun c16 => ?_)
    · skip
      rw [bI_n0] at c16
      obtain ⟨ρ, ρh1, ρh2, rfl⟩ := rg (by decide) (by decide) c9
      have hρ : ρ < 8 := by omega
      obtain ⟨σ, σh1, σh2, rfl⟩ := rg (by decide) (by decide) c16
      have hσ : σ < 8 := by omega
      have h1 := hR.1 ρ hρ
      have h2 := hR.1 σ hσ
      have he : g_copy (nI ρ) y (nI σ) t n w = (match w.1 ρ, w.1 σ with
          | some (l, s), some (l', s') => if l = l' then (if okInB s y n = true ∧ okInB s' t n = true then (n, (w.1, upo w.2.1 σ (va_cpy (w.2.1 ρ) (w.2.1 σ) y.toNatClampNeg t.toNatClampNeg n.toNatClampNeg), nI 0)) else (-1000012, (w.1, w.2.1, nI 2))) else (-1000015, (w.1, w.2.1, nI 5))
          | _, _ => ((-1000011 : Int32), (w.1, w.2.1, nI 1))) := by
        unfold g_copy
        rw [if_pos c9, if_pos c16, nI_clamp (show ρ < 2 ^ 31 by omega), nI_clamp (show σ < 2 ^ 31 by omega)]
        try rfl
      refine r_aload_n dX6_copy_22 rfl ?_
      refine r_iconst (nI 0) dX6_copy_23 (by decide) ?_
      refine r_putI (ci := 6) (k := 1) wf_X6_58 dX6_copy_24 z_219 k_219 (by decide) (by decide) rfl rfl (fun D8 hD8 => ?_)
      obtain rfl : D8 = stM (thD D) (nI 0) := hD8.trans up2_eq
      refine r_aload_n dX6_copy_27 rfl ?_
      refine r_getR (ci := 6) (k := 2) wf_X6_7 dX6_copy_28 z_219 k_219 (by decide) (by decide) (fun _ _ => rfl) f_219_2 ?_
      refine r_iload_n dX6_copy_31 rfl ?_
      refine r_iald dX6_copy_32 z_220 k_220 (vp_in_nI (by omega) (by decide)) (fun z9 hz9 => ?_)
      rw [nI_clamp (by omega)] at hz9
      obtain rfl : z9 = thD D 220 ρ := hz9.trans (congrFun (stM_q (by decide)) ρ)
      refine r_if_lt (tgt := 45) dX6_copy_33 (by decide) (fun c33 => ?_) (fun c33 => ?_)
      · skip
        have nρ := mlane_n h1 c33
        refine r_aload_n dX6_copy_45 rfl ?_
        refine r_iconst (nI 1) dX6_copy_46 (by decide) ?_
        refine r_callVI (As := [.int (nI 1)]) (o := 219) (c_X6_finding B (stM (thD D) (nI 0)) E (nI 1)) hv_X6_finding wm_X6_75 dX6_copy_47 rfl rfl z_219 k_219 (by decide) rfl (Nat.le_of_ble_eq_true rfl) ⟨Nat.le_of_ble_eq_true rfl, Nat.le_of_ble_eq_true rfl, Nat.zero_le _, Nat.zero_le _⟩ ⟨rfl, rfl⟩ (fun z10 D11 E12 hz10 => ?_)
        obtain ⟨hq1, hqD, hqE⟩ := hz10
        obtain rfl := hqE.symm
        subst hqD
        subst hq1
        refine r_iret2 dX6_copy_50 rfl ⟨Nat.zero_le _, Nat.zero_le _⟩ ?_
        have e : g_copy (nI ρ) y (nI σ) t n w = (-1000011, (w.1, w.2.1, nI 1)) := by
          rw [he]
          first | rw [nρ] | rw [eρ, nσ]
        rw [e]
        exact ⟨fd_1, hRs.st, hFs.st, rfl⟩
      · skip
        obtain ⟨l, s, eρ⟩ := mlane_s h1 c33
        rw [eρ] at h1
        obtain ⟨p1, p2, p3, p4, p5⟩ := h1
        refine r_aload_n dX6_copy_36 rfl ?_
        refine r_getR (ci := 6) (k := 2) wf_X6_7 dX6_copy_37 z_219 k_219 (by decide) (by decide) (fun _ _ => rfl) f_219_2 ?_
        refine r_iload_n dX6_copy_40 rfl ?_
        refine r_iald dX6_copy_41 z_220 k_220 (vp_in_nI (by omega) (by decide)) (fun z13 hz13 => ?_)
        rw [nI_clamp (by omega)] at hz13
        obtain rfl : z13 = thD D 220 σ := hz13.trans (congrFun (stM_q (by decide)) σ)
        refine r_if_ge (tgt := 51) dX6_copy_42 (by decide) (fun c42 => ?_) (fun c42 => ?_)
        · skip
          obtain ⟨l', s', eσ⟩ := mlane_s h2 (Int32.not_lt.mpr c42)
          rw [eσ] at h2
          obtain ⟨q1, q2, q3, q4, q5⟩ := h2
          refine r_aload_n dX6_copy_51 rfl ?_
          refine r_getR (ci := 6) (k := 2) wf_X6_7 dX6_copy_52 z_219 k_219 (by decide) (by decide) (fun _ _ => rfl) f_219_2 ?_
          refine r_iload_n dX6_copy_55 rfl ?_
          refine r_iald dX6_copy_56 z_220 k_220 (vp_in_nI (by omega) (by decide)) (fun z14 hz14 => ?_)
          rw [nI_clamp (by omega)] at hz14
          obtain rfl : z14 = nI l := hz14.trans ((congrFun (stM_q (by decide)) _).trans p3)
          refine r_aload_n dX6_copy_57 rfl ?_
          refine r_getR (ci := 6) (k := 2) wf_X6_7 dX6_copy_58 z_219 k_219 (by decide) (by decide) (fun _ _ => rfl) f_219_2 ?_
          refine r_iload_n dX6_copy_61 rfl ?_
          refine r_iald dX6_copy_62 z_220 k_220 (vp_in_nI (by omega) (by decide)) (fun z15 hz15 => ?_)
          rw [nI_clamp (by omega)] at hz15
          obtain rfl : z15 = nI l' := hz15.trans ((congrFun (stM_q (by decide)) _).trans q3)
          refine r_icmp_eq (tgt := 72) dX6_copy_63 (by decide) (fun c63 => ?_) (fun c63 => ?_)
          · skip
            rw [nI_eq (by omega) (by omega)] at c63
            rw [eρ, eσ] at he
            have he2 : g_copy (nI ρ) y (nI σ) t n w = (if okInB s y n = true ∧ okInB s' t n = true then (n, (w.1, upo w.2.1 σ (va_cpy (w.2.1 ρ) (w.2.1 σ) y.toNatClampNeg t.toNatClampNeg n.toNatClampNeg), nI 0)) else (-1000012, (w.1, w.2.1, nI 2))) := he.trans (if_pos c63)
            refine r_iload_n dX6_copy_72 rfl ?_
            refine r_if_lt (tgt := 121) dX6_copy_73 (by decide) (fun c73 => ?_) (fun c73 => ?_)
            · skip
              have hno : ¬ (okInB s y n = true ∧ okInB s' t n = true) := fun q => Int32.not_lt.mpr (okInB_iff.mp q.1).1 c73
              refine r_aload_n dX6_copy_121 rfl ?_
              refine r_iconst (nI 2) dX6_copy_122 (by decide) ?_
              refine r_callVI (As := [.int (nI 2)]) (o := 219) (c_X6_finding B (stM (thD D) (nI 0)) E (nI 2)) hv_X6_finding wm_X6_75 dX6_copy_123 rfl rfl z_219 k_219 (by decide) rfl (Nat.le_of_ble_eq_true rfl) ⟨Nat.le_of_ble_eq_true rfl, Nat.le_of_ble_eq_true rfl, Nat.zero_le _, Nat.zero_le _⟩ ⟨rfl, rfl⟩ (fun z16 D17 E18 hz16 => ?_)
              obtain ⟨hq1, hqD, hqE⟩ := hz16
              obtain rfl := hqE.symm
              subst hqD
              subst hq1
              refine r_iret2 dX6_copy_126 rfl ⟨Nat.zero_le _, Nat.zero_le _⟩ ?_
              have he3 := he2.trans (if_neg hno)
              rw [he3]
              exact ⟨fd_2, hRs.st, hFs.st, rfl⟩
            · skip
              refine r_iload dX6_copy_76 rfl ?_
              refine r_if_lt (tgt := 121) dX6_copy_78 (by decide) (fun c78 => ?_) (fun c78 => ?_)
              · skip
                have hno : ¬ (okInB s y n = true ∧ okInB s' t n = true) := fun q => Int32.not_lt.mpr (okInB_iff.mp q.2).1 c78
                refine r_aload_n dX6_copy_121 rfl ?_
                refine r_iconst (nI 2) dX6_copy_122 (by decide) ?_
                refine r_callVI (As := [.int (nI 2)]) (o := 219) (c_X6_finding B (stM (thD D) (nI 0)) E (nI 2)) hv_X6_finding wm_X6_75 dX6_copy_123 rfl rfl z_219 k_219 (by decide) rfl (Nat.le_of_ble_eq_true rfl) ⟨Nat.le_of_ble_eq_true rfl, Nat.le_of_ble_eq_true rfl, Nat.zero_le _, Nat.zero_le _⟩ ⟨rfl, rfl⟩ (fun z19 D20 E21 hz19 => ?_)
                obtain ⟨hq1, hqD, hqE⟩ := hz19
                obtain rfl := hqE.symm
                subst hqD
                subst hq1
                refine r_iret2 dX6_copy_126 rfl ⟨Nat.zero_le _, Nat.zero_le _⟩ ?_
                have he3 := he2.trans (if_neg hno)
                rw [he3]
                exact ⟨fd_2, hRs.st, hFs.st, rfl⟩
              · skip
                refine r_iload dX6_copy_81 rfl ?_
                refine r_if_lt (tgt := 121) dX6_copy_83 (by decide) (fun c83 => ?_) (fun c83 => ?_)
                · skip
                  have hno : ¬ (okInB s y n = true ∧ okInB s' t n = true) := fun q => Int32.not_lt.mpr (okInB_iff.mp q.1).2.1 c83
                  refine r_aload_n dX6_copy_121 rfl ?_
                  refine r_iconst (nI 2) dX6_copy_122 (by decide) ?_
                  refine r_callVI (As := [.int (nI 2)]) (o := 219) (c_X6_finding B (stM (thD D) (nI 0)) E (nI 2)) hv_X6_finding wm_X6_75 dX6_copy_123 rfl rfl z_219 k_219 (by decide) rfl (Nat.le_of_ble_eq_true rfl) ⟨Nat.le_of_ble_eq_true rfl, Nat.le_of_ble_eq_true rfl, Nat.zero_le _, Nat.zero_le _⟩ ⟨rfl, rfl⟩ (fun z22 D23 E24 hz22 => ?_)
                  obtain ⟨hq1, hqD, hqE⟩ := hz22
                  obtain rfl := hqE.symm
                  subst hqD
                  subst hq1
                  refine r_iret2 dX6_copy_126 rfl ⟨Nat.zero_le _, Nat.zero_le _⟩ ?_
                  have he3 := he2.trans (if_neg hno)
                  rw [he3]
                  exact ⟨fd_2, hRs.st, hFs.st, rfl⟩
                · skip
                  refine r_iload_n dX6_copy_86 rfl ?_
                  refine r_i2l dX6_copy_87 (fun z25 hz25 => ?_)
                  subst hz25
                  refine r_iload dX6_copy_88 rfl ?_
                  refine r_i2l dX6_copy_90 (fun z26 hz26 => ?_)
                  subst hz26
                  refine r_ladd dX6_copy_91 (fun z27 hz27 => ?_)
                  subst hz27
                  refine r_aload_n dX6_copy_92 rfl ?_
                  refine r_getR (ci := 6) (k := 3) wf_X6_13 dX6_copy_93 z_219 k_219 (by decide) (by decide) (fun _ _ => rfl) f_219_3 ?_
                  refine r_iload_n dX6_copy_96 rfl ?_
                  refine r_iald dX6_copy_97 z_221 k_221 (vp_in_nI (by omega) (by decide)) (fun z28 hz28 => ?_)
                  rw [nI_clamp (by omega)] at hz28
                  obtain rfl : z28 = nI s := hz28.trans ((congrFun (stM_q (by decide)) _).trans p4)
                  refine r_i2l dX6_copy_98 (fun z29 hz29 => ?_)
                  subst hz29
                  refine r_lcmp dX6_copy_99 (fun z30 hz30 => ?_)
                  subst hz30
                  refine r_if_gt (tgt := 121) dX6_copy_100 (by decide) (fun c100 => ?_) (fun c100 => ?_)
                  · skip
                    rw [lgs_n p2 c73 c83] at c100
                    have hno : ¬ (okInB s y n = true ∧ okInB s' t n = true) := fun q => c100 q.1
                    refine r_aload_n dX6_copy_121 rfl ?_
                    refine r_iconst (nI 2) dX6_copy_122 (by decide) ?_
                    refine r_callVI (As := [.int (nI 2)]) (o := 219) (c_X6_finding B (stM (thD D) (nI 0)) E (nI 2)) hv_X6_finding wm_X6_75 dX6_copy_123 rfl rfl z_219 k_219 (by decide) rfl (Nat.le_of_ble_eq_true rfl) ⟨Nat.le_of_ble_eq_true rfl, Nat.le_of_ble_eq_true rfl, Nat.zero_le _, Nat.zero_le _⟩ ⟨rfl, rfl⟩ (fun z31 D32 E33 hz31 => ?_)
                    obtain ⟨hq1, hqD, hqE⟩ := hz31
                    obtain rfl := hqE.symm
                    subst hqD
                    subst hq1
                    refine r_iret2 dX6_copy_126 rfl ⟨Nat.zero_le _, Nat.zero_le _⟩ ?_
                    have he3 := he2.trans (if_neg hno)
                    rw [he3]
                    exact ⟨fd_2, hRs.st, hFs.st, rfl⟩
                  · skip
                    rw [lgs_n p2 c73 c83] at c100
                    have ok1 := Classical.not_not.mp c100
                    refine r_iload dX6_copy_103 rfl ?_
                    refine r_i2l dX6_copy_105 (fun z34 hz34 => ?_)
                    subst hz34
                    refine r_iload dX6_copy_106 rfl ?_
                    refine r_i2l dX6_copy_108 (fun z35 hz35 => ?_)
                    subst hz35
                    refine r_ladd dX6_copy_109 (fun z36 hz36 => ?_)
                    subst hz36
                    refine r_aload_n dX6_copy_110 rfl ?_
                    refine r_getR (ci := 6) (k := 3) wf_X6_13 dX6_copy_111 z_219 k_219 (by decide) (by decide) (fun _ _ => rfl) f_219_3 ?_
                    refine r_iload_n dX6_copy_114 rfl ?_
                    refine r_iald dX6_copy_115 z_221 k_221 (vp_in_nI (by omega) (by decide)) (fun z37 hz37 => ?_)
                    rw [nI_clamp (by omega)] at hz37
                    obtain rfl : z37 = nI s' := hz37.trans ((congrFun (stM_q (by decide)) _).trans q4)
                    refine r_i2l dX6_copy_116 (fun z38 hz38 => ?_)
                    subst hz38
                    refine r_lcmp dX6_copy_117 (fun z39 hz39 => ?_)
                    subst hz39
                    refine r_if_le (tgt := 127) dX6_copy_118 (by decide) (fun c118 => ?_) (fun c118 => ?_)
                    · skip
                      rw [lgs q2 c78 c83] at c118
                      obtain ⟨a, m, rfl, rfl, hac⟩ := okIn_n (by omega) (okInB_iff.mp ok1)
                      obtain ⟨c, m', rfl, hmm, hbc⟩ := okIn_n (by omega) (okInB_iff.mp c118)
                      have hm9 : m = m' := (nI_eq (by omega) (by omega)).mp hmm
                      subst hm9
                      have he3 : g_copy (nI ρ) (nI a) (nI σ) (nI c) (nI m) w = (nI m, (w.1, upo w.2.1 σ (va_cpy (w.2.1 ρ) (w.2.1 σ) (nI a).toNatClampNeg (nI c).toNatClampNeg (nI m).toNatClampNeg), nI 0)) := he2.trans (if_pos ⟨ok1, c118⟩)
                      refine r_iload_n dX6_copy_127 rfl ?_
                      refine r_iload dX6_copy_128 rfl ?_
                      refine r_icmp_lt (tgt := 137) dX6_copy_130 (by decide) (fun c130 => ?_) (fun c130 => ?_)
                      · skip
                        rw [nI_ltI (by omega) (by omega)] at c130
                        refine r_iconst (nI 0) dX6_copy_137 (by decide) ?_
                        refine r_istore [(6, .int (nI 0)), (0, .ref (B + 219)), (1, .int (nI ρ)), (2, .int (nI a)), (3, .int (nI σ)), (4, .int (nI c)), (5, .int (nI m))] dX6_copy_138 (by decide) rfl ?_
                        refine r_lv [(6, .int (bI (c ≤ a))), (0, .ref (B + 219)), (1, .int (nI ρ)), (2, .int (nI a)), (3, .int (nI σ)), (4, .int (nI c)), (5, .int (nI m))] (List.forall_mem_cons.mpr ⟨congrArg (fun x => some (Value.int x)) ((by first | exact bI_t (by omega) | exact bI_f (by omega))), List.forall_mem_cons.mpr ⟨rfl, List.forall_mem_cons.mpr ⟨rfl, List.forall_mem_cons.mpr ⟨rfl, List.forall_mem_cons.mpr ⟨rfl, List.forall_mem_cons.mpr ⟨rfl, List.forall_mem_cons.mpr ⟨rfl, fun _ h => absurd h List.not_mem_nil⟩⟩⟩⟩⟩⟩⟩) ?_
                        refine r_iconst (nI 0) dX6_copy_140 (by decide) ?_
                        refine r_istore [(7, .int (nI 0)), (6, .int (bI (c ≤ a))), (0, .ref (B + 219)), (1, .int (nI ρ)), (2, .int (nI a)), (3, .int (nI σ)), (4, .int (nI c)), (5, .int (nI m))] dX6_copy_141 (by decide) rfl ?_
                        have L : ∀ (fu k : Nat) (Dk : DD), k ≤ m → m - k < fu → (CPW (stM (thD D) (nI 0)) Dk ρ σ a c (cpLo a c m k) (cpHi a c m k)) → RW yX6_copy cX6_copy 9 (some .int) rX6_copy B (Q2 Z0 (pI (fun v D' E' => v = (g_copy (nI ρ) (nI a) (nI σ) (nI c) (nI m) w).1 ∧ MRW D' (g_copy (nI ρ) (nI a) (nI σ) (nI c) (nI m) w).2 ∧ FRm D D' ∧ E' = E))) Z0 Dk E 0 0 143 [(7, .int (nI k)), (6, .int (bI (c ≤ a))), (0, .ref (B + 219)), (1, .int (nI ρ)), (2, .int (nI a)), (3, .int (nI σ)), (4, .int (nI c)), (5, .int (nI m))] [] := by
                          intro fu
                          induction fu with
                          | zero => intro k Dk hku hfu _; omega
                          | succ fu ih =>
                            intro k Dk hku hfu hI
                            refine r_iload dX6_copy_143 rfl ?_
                            refine r_iload dX6_copy_145 rfl ?_
                            refine r_icmp_ge (tgt := 204) dX6_copy_147 (by decide) (fun c147 => ?_) (fun c147 => ?_)
                            · skip
                              rw [nI_leI (by omega) (by omega)] at c147
                              refine r_iload dX6_copy_204 rfl ?_
                              refine r_iret2 dX6_copy_206 rfl ⟨Nat.zero_le _, Nat.zero_le _⟩ ?_
                              have hk9 : k = m := by omega
                              rw [hk9] at hI
                              have hEnd := CPW_e hRs hρ hσ eρ eσ hac hbc hI hFs
                              rw [he3, nI_clamp (show a < 2 ^ 31 by omega), nI_clamp (show c < 2 ^ 31 by omega), nI_clamp (show m < 2 ^ 31 by omega)]
                              exact ⟨rfl, hEnd.1, hEnd.2, rfl⟩
                            · skip
                              rw [nI_leI (by omega) (by omega)] at c147
                              refine r_iload dX6_copy_150 rfl ?_
                              refine r_if_eq (tgt := 160) dX6_copy_152 (by decide) (fun c152 => ?_) (fun c152 => ?_)
                              · skip
                                rw [bI_0] at c152
                                refine r_iload dX6_copy_160 rfl ?_
                                refine r_iconst (nI 1) dX6_copy_162 (by decide) ?_
                                refine r_isub dX6_copy_163 (fun z40 hz40 => ?_)
                                subst hz40
                                refine r_iload dX6_copy_164 rfl ?_
                                refine r_isub dX6_copy_166 (fun z41 hz41 => ?_)
                                subst hz41
                                refine r_istore [(8, .int (((nI m) - (nI 1)) - (nI k))), (7, .int (nI k)), (6, .int (bI (c ≤ a))), (0, .ref (B + 219)), (1, .int (nI ρ)), (2, .int (nI a)), (3, .int (nI σ)), (4, .int (nI c)), (5, .int (nI m))] dX6_copy_167 (by decide) rfl ?_
                                have hat : cpAt a c m k < m := by unfold cpAt; split <;> omega
                                refine r_lv [(8, .int (nI (cpAt a c m k))), (7, .int (nI k)), (6, .int (bI (c ≤ a))), (0, .ref (B + 219)), (1, .int (nI ρ)), (2, .int (nI a)), (3, .int (nI σ)), (4, .int (nI c)), (5, .int (nI m))] (List.forall_mem_cons.mpr ⟨congrArg (fun x => some (Value.int x)) ((by first | exact congrArg nI (if_pos c152).symm | exact (dn_n (by omega)).trans (congrArg nI (if_neg c152).symm))), List.forall_mem_cons.mpr ⟨rfl, List.forall_mem_cons.mpr ⟨rfl, List.forall_mem_cons.mpr ⟨rfl, List.forall_mem_cons.mpr ⟨rfl, List.forall_mem_cons.mpr ⟨rfl, List.forall_mem_cons.mpr ⟨rfl, List.forall_mem_cons.mpr ⟨rfl, List.forall_mem_cons.mpr ⟨rfl, fun _ h => absurd h List.not_mem_nil⟩⟩⟩⟩⟩⟩⟩⟩⟩) ?_
                                refine r_aload_n dX6_copy_169 rfl ?_
                                refine r_getR (ci := 6) (k := 4) wf_X6_16 dX6_copy_170 z_219 k_219 (by decide) (by decide) (fun _ _ => rfl) f_219_4 ?_
                                refine r_bipush (nI 40) dX6_copy_173 (by decide) ?_
                                refine r_iload_n dX6_copy_175 rfl ?_
                                refine r_imul dX6_copy_176 (fun z42 hz42 => ?_)
                                obtain rfl : z42 = nI (40 * σ) := (hz42.trans (pk_mul _ _))
                                refine r_iload dX6_copy_177 rfl ?_
                                refine r_iadd dX6_copy_179 (fun z43 hz43 => ?_)
                                obtain rfl : z43 = nI ((40 * σ) + c) := (hz43.trans (nI_add _ _))
                                refine r_iload dX6_copy_180 rfl ?_
                                refine r_iadd dX6_copy_182 (fun z44 hz44 => ?_)
                                obtain rfl : z44 = nI (((40 * σ) + c) + (cpAt a c m k)) := (hz44.trans (nI_add _ _))
                                refine r_aload_n dX6_copy_183 rfl ?_
                                refine r_getR (ci := 6) (k := 4) wf_X6_16 dX6_copy_184 z_219 k_219 (by decide) (by decide) (fun _ _ => rfl) f_219_4 ?_
                                refine r_bipush (nI 40) dX6_copy_187 (by decide) ?_
                                refine r_iload_n dX6_copy_189 rfl ?_
                                refine r_imul dX6_copy_190 (fun z45 hz45 => ?_)
                                obtain rfl : z45 = nI (40 * ρ) := (hz45.trans (pk_mul _ _))
                                refine r_iload_n dX6_copy_191 rfl ?_
                                refine r_iadd dX6_copy_192 (fun z46 hz46 => ?_)
                                obtain rfl : z46 = nI ((40 * ρ) + a) := (hz46.trans (nI_add _ _))
                                refine r_iload dX6_copy_193 rfl ?_
                                refine r_iadd dX6_copy_195 (fun z47 hz47 => ?_)
                                obtain rfl : z47 = nI (((40 * ρ) + a) + (cpAt a c m k)) := (hz47.trans (nI_add _ _))
                                refine r_iald dX6_copy_196 z_222 k_222 (vp_in_nI (by omega) (by decide)) (fun z48 hz48 => ?_)
                                rw [nI_clamp (by omega)] at hz48
                                subst hz48
                                refine r_iast dX6_copy_197 z_222 k_222 (vp_in_nI (by omega) (by decide)) (fun D49 hD49 => ?_)
                                rw [nI_clamp (by omega)] at hD49
                                have hN9 : CPW (stM (thD D) (nI 0)) D49 ρ σ a c (cpLo a c m (k + 1)) (cpHi a c m (k + 1)) := CPW_s (by omega) (by omega) (by omega) hI rfl hD49
                                refine r_iinc (nI (k + 1)) [(7, .int (nI (k + 1))), (8, .int (nI (cpAt a c m k))), (6, .int (bI (c ≤ a))), (0, .ref (B + 219)), (1, .int (nI ρ)), (2, .int (nI a)), (3, .int (nI σ)), (4, .int (nI c)), (5, .int (nI m))] dX6_copy_198 rfl (nI_1 _) (by decide) rfl ?_
                                refine r_goto (tgt := 143) dX6_copy_201 (by decide) ?_
                                exact r_lv [(7, .int (nI (k + 1))), (6, .int (bI (c ≤ a))), (0, .ref (B + 219)), (1, .int (nI ρ)), (2, .int (nI a)), (3, .int (nI σ)), (4, .int (nI c)), (5, .int (nI m))] (List.forall_mem_cons.mpr ⟨rfl, List.forall_mem_cons.mpr ⟨rfl, List.forall_mem_cons.mpr ⟨rfl, List.forall_mem_cons.mpr ⟨rfl, List.forall_mem_cons.mpr ⟨rfl, List.forall_mem_cons.mpr ⟨rfl, List.forall_mem_cons.mpr ⟨rfl, List.forall_mem_cons.mpr ⟨rfl, fun _ h => absurd h List.not_mem_nil⟩⟩⟩⟩⟩⟩⟩⟩) (ih (k + 1) D49 (by omega) (by omega) hN9)
                              · skip
                                rw [bI_n0] at c152
                                refine r_iload dX6_copy_155 rfl ?_
                                refine r_goto (tgt := 167) dX6_copy_157 (by decide) ?_
                                refine r_istore [(8, .int (nI k)), (7, .int (nI k)), (6, .int (bI (c ≤ a))), (0, .ref (B + 219)), (1, .int (nI ρ)), (2, .int (nI a)), (3, .int (nI σ)), (4, .int (nI c)), (5, .int (nI m))] dX6_copy_167 (by decide) rfl ?_
                                have hat : cpAt a c m k < m := by unfold cpAt; split <;> omega
                                refine r_lv [(8, .int (nI (cpAt a c m k))), (7, .int (nI k)), (6, .int (bI (c ≤ a))), (0, .ref (B + 219)), (1, .int (nI ρ)), (2, .int (nI a)), (3, .int (nI σ)), (4, .int (nI c)), (5, .int (nI m))] (List.forall_mem_cons.mpr ⟨congrArg (fun x => some (Value.int x)) ((by first | exact congrArg nI (if_pos c152).symm | exact (dn_n (by omega)).trans (congrArg nI (if_neg c152).symm))), List.forall_mem_cons.mpr ⟨rfl, List.forall_mem_cons.mpr ⟨rfl, List.forall_mem_cons.mpr ⟨rfl, List.forall_mem_cons.mpr ⟨rfl, List.forall_mem_cons.mpr ⟨rfl, List.forall_mem_cons.mpr ⟨rfl, List.forall_mem_cons.mpr ⟨rfl, List.forall_mem_cons.mpr ⟨rfl, fun _ h => absurd h List.not_mem_nil⟩⟩⟩⟩⟩⟩⟩⟩⟩) ?_
                                refine r_aload_n dX6_copy_169 rfl ?_
                                refine r_getR (ci := 6) (k := 4) wf_X6_16 dX6_copy_170 z_219 k_219 (by decide) (by decide) (fun _ _ => rfl) f_219_4 ?_
                                refine r_bipush (nI 40) dX6_copy_173 (by decide) ?_
                                refine r_iload_n dX6_copy_175 rfl ?_
                                refine r_imul dX6_copy_176 (fun z50 hz50 => ?_)
                                obtain rfl : z50 = nI (40 * σ) := (hz50.trans (pk_mul _ _))
                                refine r_iload dX6_copy_177 rfl ?_
                                refine r_iadd dX6_copy_179 (fun z51 hz51 => ?_)
                                obtain rfl : z51 = nI ((40 * σ) + c) := (hz51.trans (nI_add _ _))
                                refine r_iload dX6_copy_180 rfl ?_
                                refine r_iadd dX6_copy_182 (fun z52 hz52 => ?_)
                                obtain rfl : z52 = nI (((40 * σ) + c) + (cpAt a c m k)) := (hz52.trans (nI_add _ _))
                                refine r_aload_n dX6_copy_183 rfl ?_
                                refine r_getR (ci := 6) (k := 4) wf_X6_16 dX6_copy_184 z_219 k_219 (by decide) (by decide) (fun _ _ => rfl) f_219_4 ?_
                                refine r_bipush (nI 40) dX6_copy_187 (by decide) ?_
                                refine r_iload_n dX6_copy_189 rfl ?_
                                refine r_imul dX6_copy_190 (fun z53 hz53 => ?_)
                                obtain rfl : z53 = nI (40 * ρ) := (hz53.trans (pk_mul _ _))
                                refine r_iload_n dX6_copy_191 rfl ?_
                                refine r_iadd dX6_copy_192 (fun z54 hz54 => ?_)
                                obtain rfl : z54 = nI ((40 * ρ) + a) := (hz54.trans (nI_add _ _))
                                refine r_iload dX6_copy_193 rfl ?_
                                refine r_iadd dX6_copy_195 (fun z55 hz55 => ?_)
                                obtain rfl : z55 = nI (((40 * ρ) + a) + (cpAt a c m k)) := (hz55.trans (nI_add _ _))
                                refine r_iald dX6_copy_196 z_222 k_222 (vp_in_nI (by omega) (by decide)) (fun z56 hz56 => ?_)
                                rw [nI_clamp (by omega)] at hz56
                                subst hz56
                                refine r_iast dX6_copy_197 z_222 k_222 (vp_in_nI (by omega) (by decide)) (fun D57 hD57 => ?_)
                                rw [nI_clamp (by omega)] at hD57
                                have hN9 : CPW (stM (thD D) (nI 0)) D57 ρ σ a c (cpLo a c m (k + 1)) (cpHi a c m (k + 1)) := CPW_s (by omega) (by omega) (by omega) hI rfl hD57
                                refine r_iinc (nI (k + 1)) [(7, .int (nI (k + 1))), (8, .int (nI (cpAt a c m k))), (6, .int (bI (c ≤ a))), (0, .ref (B + 219)), (1, .int (nI ρ)), (2, .int (nI a)), (3, .int (nI σ)), (4, .int (nI c)), (5, .int (nI m))] dX6_copy_198 rfl (nI_1 _) (by decide) rfl ?_
                                refine r_goto (tgt := 143) dX6_copy_201 (by decide) ?_
                                exact r_lv [(7, .int (nI (k + 1))), (6, .int (bI (c ≤ a))), (0, .ref (B + 219)), (1, .int (nI ρ)), (2, .int (nI a)), (3, .int (nI σ)), (4, .int (nI c)), (5, .int (nI m))] (List.forall_mem_cons.mpr ⟨rfl, List.forall_mem_cons.mpr ⟨rfl, List.forall_mem_cons.mpr ⟨rfl, List.forall_mem_cons.mpr ⟨rfl, List.forall_mem_cons.mpr ⟨rfl, List.forall_mem_cons.mpr ⟨rfl, List.forall_mem_cons.mpr ⟨rfl, List.forall_mem_cons.mpr ⟨rfl, fun _ h => absurd h List.not_mem_nil⟩⟩⟩⟩⟩⟩⟩⟩) (ih (k + 1) D57 (by omega) (by omega) hN9)
                        exact r_lv [(7, .int (nI 0)), (6, .int (bI (c ≤ a))), (0, .ref (B + 219)), (1, .int (nI ρ)), (2, .int (nI a)), (3, .int (nI σ)), (4, .int (nI c)), (5, .int (nI m))] (List.forall_mem_cons.mpr ⟨rfl, List.forall_mem_cons.mpr ⟨rfl, List.forall_mem_cons.mpr ⟨rfl, List.forall_mem_cons.mpr ⟨rfl, List.forall_mem_cons.mpr ⟨rfl, List.forall_mem_cons.mpr ⟨rfl, List.forall_mem_cons.mpr ⟨rfl, List.forall_mem_cons.mpr ⟨rfl, fun _ h => absurd h List.not_mem_nil⟩⟩⟩⟩⟩⟩⟩⟩) (L (m + 1) 0 (stM (thD D) (nI 0)) (by omega) (by omega) CPW_0)
                      · skip
                        rw [nI_ltI (by omega) (by omega)] at c130
                        refine r_iconst (nI 1) dX6_copy_133 (by decide) ?_
                        refine r_goto (tgt := 138) dX6_copy_134 (by decide) ?_
                        refine r_istore [(6, .int (nI 1)), (0, .ref (B + 219)), (1, .int (nI ρ)), (2, .int (nI a)), (3, .int (nI σ)), (4, .int (nI c)), (5, .int (nI m))] dX6_copy_138 (by decide) rfl ?_
                        refine r_lv [(6, .int (bI (c ≤ a))), (0, .ref (B + 219)), (1, .int (nI ρ)), (2, .int (nI a)), (3, .int (nI σ)), (4, .int (nI c)), (5, .int (nI m))] (List.forall_mem_cons.mpr ⟨congrArg (fun x => some (Value.int x)) ((by first | exact bI_t (by omega) | exact bI_f (by omega))), List.forall_mem_cons.mpr ⟨rfl, List.forall_mem_cons.mpr ⟨rfl, List.forall_mem_cons.mpr ⟨rfl, List.forall_mem_cons.mpr ⟨rfl, List.forall_mem_cons.mpr ⟨rfl, List.forall_mem_cons.mpr ⟨rfl, fun _ h => absurd h List.not_mem_nil⟩⟩⟩⟩⟩⟩⟩) ?_
                        refine r_iconst (nI 0) dX6_copy_140 (by decide) ?_
                        refine r_istore [(7, .int (nI 0)), (6, .int (bI (c ≤ a))), (0, .ref (B + 219)), (1, .int (nI ρ)), (2, .int (nI a)), (3, .int (nI σ)), (4, .int (nI c)), (5, .int (nI m))] dX6_copy_141 (by decide) rfl ?_
                        have L : ∀ (fu k : Nat) (Dk : DD), k ≤ m → m - k < fu → (CPW (stM (thD D) (nI 0)) Dk ρ σ a c (cpLo a c m k) (cpHi a c m k)) → RW yX6_copy cX6_copy 9 (some .int) rX6_copy B (Q2 Z0 (pI (fun v D' E' => v = (g_copy (nI ρ) (nI a) (nI σ) (nI c) (nI m) w).1 ∧ MRW D' (g_copy (nI ρ) (nI a) (nI σ) (nI c) (nI m) w).2 ∧ FRm D D' ∧ E' = E))) Z0 Dk E 0 0 143 [(7, .int (nI k)), (6, .int (bI (c ≤ a))), (0, .ref (B + 219)), (1, .int (nI ρ)), (2, .int (nI a)), (3, .int (nI σ)), (4, .int (nI c)), (5, .int (nI m))] [] := by
                          intro fu
                          induction fu with
                          | zero => intro k Dk hku hfu _; omega
                          | succ fu ih =>
                            intro k Dk hku hfu hI
                            refine r_iload dX6_copy_143 rfl ?_
                            refine r_iload dX6_copy_145 rfl ?_
                            refine r_icmp_ge (tgt := 204) dX6_copy_147 (by decide) (fun c147 => ?_) (fun c147 => ?_)
                            · skip
                              rw [nI_leI (by omega) (by omega)] at c147
                              refine r_iload dX6_copy_204 rfl ?_
                              refine r_iret2 dX6_copy_206 rfl ⟨Nat.zero_le _, Nat.zero_le _⟩ ?_
                              have hk9 : k = m := by omega
                              rw [hk9] at hI
                              have hEnd := CPW_e hRs hρ hσ eρ eσ hac hbc hI hFs
                              rw [he3, nI_clamp (show a < 2 ^ 31 by omega), nI_clamp (show c < 2 ^ 31 by omega), nI_clamp (show m < 2 ^ 31 by omega)]
                              exact ⟨rfl, hEnd.1, hEnd.2, rfl⟩
                            · skip
                              rw [nI_leI (by omega) (by omega)] at c147
                              refine r_iload dX6_copy_150 rfl ?_
                              refine r_if_eq (tgt := 160) dX6_copy_152 (by decide) (fun c152 => ?_) (fun c152 => ?_)
                              · skip
                                rw [bI_0] at c152
                                refine r_iload dX6_copy_160 rfl ?_
                                refine r_iconst (nI 1) dX6_copy_162 (by decide) ?_
                                refine r_isub dX6_copy_163 (fun z58 hz58 => ?_)
                                subst hz58
                                refine r_iload dX6_copy_164 rfl ?_
                                refine r_isub dX6_copy_166 (fun z59 hz59 => ?_)
                                subst hz59
                                refine r_istore [(8, .int (((nI m) - (nI 1)) - (nI k))), (7, .int (nI k)), (6, .int (bI (c ≤ a))), (0, .ref (B + 219)), (1, .int (nI ρ)), (2, .int (nI a)), (3, .int (nI σ)), (4, .int (nI c)), (5, .int (nI m))] dX6_copy_167 (by decide) rfl ?_
                                have hat : cpAt a c m k < m := by unfold cpAt; split <;> omega
                                refine r_lv [(8, .int (nI (cpAt a c m k))), (7, .int (nI k)), (6, .int (bI (c ≤ a))), (0, .ref (B + 219)), (1, .int (nI ρ)), (2, .int (nI a)), (3, .int (nI σ)), (4, .int (nI c)), (5, .int (nI m))] (List.forall_mem_cons.mpr ⟨congrArg (fun x => some (Value.int x)) ((by first | exact congrArg nI (if_pos c152).symm | exact (dn_n (by omega)).trans (congrArg nI (if_neg c152).symm))), List.forall_mem_cons.mpr ⟨rfl, List.forall_mem_cons.mpr ⟨rfl, List.forall_mem_cons.mpr ⟨rfl, List.forall_mem_cons.mpr ⟨rfl, List.forall_mem_cons.mpr ⟨rfl, List.forall_mem_cons.mpr ⟨rfl, List.forall_mem_cons.mpr ⟨rfl, List.forall_mem_cons.mpr ⟨rfl, fun _ h => absurd h List.not_mem_nil⟩⟩⟩⟩⟩⟩⟩⟩⟩) ?_
                                refine r_aload_n dX6_copy_169 rfl ?_
                                refine r_getR (ci := 6) (k := 4) wf_X6_16 dX6_copy_170 z_219 k_219 (by decide) (by decide) (fun _ _ => rfl) f_219_4 ?_
                                refine r_bipush (nI 40) dX6_copy_173 (by decide) ?_
                                refine r_iload_n dX6_copy_175 rfl ?_
                                refine r_imul dX6_copy_176 (fun z60 hz60 => ?_)
                                obtain rfl : z60 = nI (40 * σ) := (hz60.trans (pk_mul _ _))
                                refine r_iload dX6_copy_177 rfl ?_
                                refine r_iadd dX6_copy_179 (fun z61 hz61 => ?_)
                                obtain rfl : z61 = nI ((40 * σ) + c) := (hz61.trans (nI_add _ _))
                                refine r_iload dX6_copy_180 rfl ?_
                                refine r_iadd dX6_copy_182 (fun z62 hz62 => ?_)
                                obtain rfl : z62 = nI (((40 * σ) + c) + (cpAt a c m k)) := (hz62.trans (nI_add _ _))
                                refine r_aload_n dX6_copy_183 rfl ?_
                                refine r_getR (ci := 6) (k := 4) wf_X6_16 dX6_copy_184 z_219 k_219 (by decide) (by decide) (fun _ _ => rfl) f_219_4 ?_
                                refine r_bipush (nI 40) dX6_copy_187 (by decide) ?_
                                refine r_iload_n dX6_copy_189 rfl ?_
                                refine r_imul dX6_copy_190 (fun z63 hz63 => ?_)
                                obtain rfl : z63 = nI (40 * ρ) := (hz63.trans (pk_mul _ _))
                                refine r_iload_n dX6_copy_191 rfl ?_
                                refine r_iadd dX6_copy_192 (fun z64 hz64 => ?_)
                                obtain rfl : z64 = nI ((40 * ρ) + a) := (hz64.trans (nI_add _ _))
                                refine r_iload dX6_copy_193 rfl ?_
                                refine r_iadd dX6_copy_195 (fun z65 hz65 => ?_)
                                obtain rfl : z65 = nI (((40 * ρ) + a) + (cpAt a c m k)) := (hz65.trans (nI_add _ _))
                                refine r_iald dX6_copy_196 z_222 k_222 (vp_in_nI (by omega) (by decide)) (fun z66 hz66 => ?_)
                                rw [nI_clamp (by omega)] at hz66
                                subst hz66
                                refine r_iast dX6_copy_197 z_222 k_222 (vp_in_nI (by omega) (by decide)) (fun D67 hD67 => ?_)
                                rw [nI_clamp (by omega)] at hD67
                                have hN9 : CPW (stM (thD D) (nI 0)) D67 ρ σ a c (cpLo a c m (k + 1)) (cpHi a c m (k + 1)) := CPW_s (by omega) (by omega) (by omega) hI rfl hD67
                                refine r_iinc (nI (k + 1)) [(7, .int (nI (k + 1))), (8, .int (nI (cpAt a c m k))), (6, .int (bI (c ≤ a))), (0, .ref (B + 219)), (1, .int (nI ρ)), (2, .int (nI a)), (3, .int (nI σ)), (4, .int (nI c)), (5, .int (nI m))] dX6_copy_198 rfl (nI_1 _) (by decide) rfl ?_
                                refine r_goto (tgt := 143) dX6_copy_201 (by decide) ?_
                                exact r_lv [(7, .int (nI (k + 1))), (6, .int (bI (c ≤ a))), (0, .ref (B + 219)), (1, .int (nI ρ)), (2, .int (nI a)), (3, .int (nI σ)), (4, .int (nI c)), (5, .int (nI m))] (List.forall_mem_cons.mpr ⟨rfl, List.forall_mem_cons.mpr ⟨rfl, List.forall_mem_cons.mpr ⟨rfl, List.forall_mem_cons.mpr ⟨rfl, List.forall_mem_cons.mpr ⟨rfl, List.forall_mem_cons.mpr ⟨rfl, List.forall_mem_cons.mpr ⟨rfl, List.forall_mem_cons.mpr ⟨rfl, fun _ h => absurd h List.not_mem_nil⟩⟩⟩⟩⟩⟩⟩⟩) (ih (k + 1) D67 (by omega) (by omega) hN9)
                              · skip
                                rw [bI_n0] at c152
                                refine r_iload dX6_copy_155 rfl ?_
                                refine r_goto (tgt := 167) dX6_copy_157 (by decide) ?_
                                refine r_istore [(8, .int (nI k)), (7, .int (nI k)), (6, .int (bI (c ≤ a))), (0, .ref (B + 219)), (1, .int (nI ρ)), (2, .int (nI a)), (3, .int (nI σ)), (4, .int (nI c)), (5, .int (nI m))] dX6_copy_167 (by decide) rfl ?_
                                have hat : cpAt a c m k < m := by unfold cpAt; split <;> omega
                                refine r_lv [(8, .int (nI (cpAt a c m k))), (7, .int (nI k)), (6, .int (bI (c ≤ a))), (0, .ref (B + 219)), (1, .int (nI ρ)), (2, .int (nI a)), (3, .int (nI σ)), (4, .int (nI c)), (5, .int (nI m))] (List.forall_mem_cons.mpr ⟨congrArg (fun x => some (Value.int x)) ((by first | exact congrArg nI (if_pos c152).symm | exact (dn_n (by omega)).trans (congrArg nI (if_neg c152).symm))), List.forall_mem_cons.mpr ⟨rfl, List.forall_mem_cons.mpr ⟨rfl, List.forall_mem_cons.mpr ⟨rfl, List.forall_mem_cons.mpr ⟨rfl, List.forall_mem_cons.mpr ⟨rfl, List.forall_mem_cons.mpr ⟨rfl, List.forall_mem_cons.mpr ⟨rfl, List.forall_mem_cons.mpr ⟨rfl, fun _ h => absurd h List.not_mem_nil⟩⟩⟩⟩⟩⟩⟩⟩⟩) ?_
                                refine r_aload_n dX6_copy_169 rfl ?_
                                refine r_getR (ci := 6) (k := 4) wf_X6_16 dX6_copy_170 z_219 k_219 (by decide) (by decide) (fun _ _ => rfl) f_219_4 ?_
                                refine r_bipush (nI 40) dX6_copy_173 (by decide) ?_
                                refine r_iload_n dX6_copy_175 rfl ?_
                                refine r_imul dX6_copy_176 (fun z68 hz68 => ?_)
                                obtain rfl : z68 = nI (40 * σ) := (hz68.trans (pk_mul _ _))
                                refine r_iload dX6_copy_177 rfl ?_
                                refine r_iadd dX6_copy_179 (fun z69 hz69 => ?_)
                                obtain rfl : z69 = nI ((40 * σ) + c) := (hz69.trans (nI_add _ _))
                                refine r_iload dX6_copy_180 rfl ?_
                                refine r_iadd dX6_copy_182 (fun z70 hz70 => ?_)
                                obtain rfl : z70 = nI (((40 * σ) + c) + (cpAt a c m k)) := (hz70.trans (nI_add _ _))
                                refine r_aload_n dX6_copy_183 rfl ?_
                                refine r_getR (ci := 6) (k := 4) wf_X6_16 dX6_copy_184 z_219 k_219 (by decide) (by decide) (fun _ _ => rfl) f_219_4 ?_
                                refine r_bipush (nI 40) dX6_copy_187 (by decide) ?_
                                refine r_iload_n dX6_copy_189 rfl ?_
                                refine r_imul dX6_copy_190 (fun z71 hz71 => ?_)
                                obtain rfl : z71 = nI (40 * ρ) := (hz71.trans (pk_mul _ _))
                                refine r_iload_n dX6_copy_191 rfl ?_
                                refine r_iadd dX6_copy_192 (fun z72 hz72 => ?_)
                                obtain rfl : z72 = nI ((40 * ρ) + a) := (hz72.trans (nI_add _ _))
                                refine r_iload dX6_copy_193 rfl ?_
                                refine r_iadd dX6_copy_195 (fun z73 hz73 => ?_)
                                obtain rfl : z73 = nI (((40 * ρ) + a) + (cpAt a c m k)) := (hz73.trans (nI_add _ _))
                                refine r_iald dX6_copy_196 z_222 k_222 (vp_in_nI (by omega) (by decide)) (fun z74 hz74 => ?_)
                                rw [nI_clamp (by omega)] at hz74
                                subst hz74
                                refine r_iast dX6_copy_197 z_222 k_222 (vp_in_nI (by omega) (by decide)) (fun D75 hD75 => ?_)
                                rw [nI_clamp (by omega)] at hD75
                                have hN9 : CPW (stM (thD D) (nI 0)) D75 ρ σ a c (cpLo a c m (k + 1)) (cpHi a c m (k + 1)) := CPW_s (by omega) (by omega) (by omega) hI rfl hD75
                                refine r_iinc (nI (k + 1)) [(7, .int (nI (k + 1))), (8, .int (nI (cpAt a c m k))), (6, .int (bI (c ≤ a))), (0, .ref (B + 219)), (1, .int (nI ρ)), (2, .int (nI a)), (3, .int (nI σ)), (4, .int (nI c)), (5, .int (nI m))] dX6_copy_198 rfl (nI_1 _) (by decide) rfl ?_
                                refine r_goto (tgt := 143) dX6_copy_201 (by decide) ?_
                                exact r_lv [(7, .int (nI (k + 1))), (6, .int (bI (c ≤ a))), (0, .ref (B + 219)), (1, .int (nI ρ)), (2, .int (nI a)), (3, .int (nI σ)), (4, .int (nI c)), (5, .int (nI m))] (List.forall_mem_cons.mpr ⟨rfl, List.forall_mem_cons.mpr ⟨rfl, List.forall_mem_cons.mpr ⟨rfl, List.forall_mem_cons.mpr ⟨rfl, List.forall_mem_cons.mpr ⟨rfl, List.forall_mem_cons.mpr ⟨rfl, List.forall_mem_cons.mpr ⟨rfl, List.forall_mem_cons.mpr ⟨rfl, fun _ h => absurd h List.not_mem_nil⟩⟩⟩⟩⟩⟩⟩⟩) (ih (k + 1) D75 (by omega) (by omega) hN9)
                        exact r_lv [(7, .int (nI 0)), (6, .int (bI (c ≤ a))), (0, .ref (B + 219)), (1, .int (nI ρ)), (2, .int (nI a)), (3, .int (nI σ)), (4, .int (nI c)), (5, .int (nI m))] (List.forall_mem_cons.mpr ⟨rfl, List.forall_mem_cons.mpr ⟨rfl, List.forall_mem_cons.mpr ⟨rfl, List.forall_mem_cons.mpr ⟨rfl, List.forall_mem_cons.mpr ⟨rfl, List.forall_mem_cons.mpr ⟨rfl, List.forall_mem_cons.mpr ⟨rfl, List.forall_mem_cons.mpr ⟨rfl, fun _ h => absurd h List.not_mem_nil⟩⟩⟩⟩⟩⟩⟩⟩) (L (m + 1) 0 (stM (thD D) (nI 0)) (by omega) (by omega) CPW_0)
                    · skip
                      rw [lgs q2 c78 c83] at c118
                      have hno : ¬ (okInB s y n = true ∧ okInB s' t n = true) := fun q => c118 q.2
                      refine r_aload_n dX6_copy_121 rfl ?_
                      refine r_iconst (nI 2) dX6_copy_122 (by decide) ?_
                      refine r_callVI (As := [.int (nI 2)]) (o := 219) (c_X6_finding B (stM (thD D) (nI 0)) E (nI 2)) hv_X6_finding wm_X6_75 dX6_copy_123 rfl rfl z_219 k_219 (by decide) rfl (Nat.le_of_ble_eq_true rfl) ⟨Nat.le_of_ble_eq_true rfl, Nat.le_of_ble_eq_true rfl, Nat.zero_le _, Nat.zero_le _⟩ ⟨rfl, rfl⟩ (fun z76 D77 E78 hz76 => ?_)
                      obtain ⟨hq1, hqD, hqE⟩ := hz76
                      obtain rfl := hqE.symm
                      subst hqD
                      subst hq1
                      refine r_iret2 dX6_copy_126 rfl ⟨Nat.zero_le _, Nat.zero_le _⟩ ?_
                      have he3 := he2.trans (if_neg hno)
                      rw [he3]
                      exact ⟨fd_2, hRs.st, hFs.st, rfl⟩
          · skip
            rw [nI_eq (by omega) (by omega)] at c63
            rw [eρ, eσ] at he
            have he2 : g_copy (nI ρ) y (nI σ) t n w = (-1000015, (w.1, w.2.1, nI 5)) := he.trans (if_neg c63)
            refine r_aload_n dX6_copy_66 rfl ?_
            refine r_iconst (nI 5) dX6_copy_67 (by decide) ?_
            refine r_callVI (As := [.int (nI 5)]) (o := 219) (c_X6_finding B (stM (thD D) (nI 0)) E (nI 5)) hv_X6_finding wm_X6_75 dX6_copy_68 rfl rfl z_219 k_219 (by decide) rfl (Nat.le_of_ble_eq_true rfl) ⟨Nat.le_of_ble_eq_true rfl, Nat.le_of_ble_eq_true rfl, Nat.zero_le _, Nat.zero_le _⟩ ⟨rfl, rfl⟩ (fun z79 D80 E81 hz79 => ?_)
            obtain ⟨hq1, hqD, hqE⟩ := hz79
            obtain rfl := hqE.symm
            subst hqD
            subst hq1
            refine r_iret2 dX6_copy_71 rfl ⟨Nat.zero_le _, Nat.zero_le _⟩ ?_
            rw [he2]
            exact ⟨fd_5, hRs.st, hFs.st, rfl⟩
        · skip
          have nσ := mlane_n h2 (Int32.not_le.mp c42)
          refine r_aload_n dX6_copy_45 rfl ?_
          refine r_iconst (nI 1) dX6_copy_46 (by decide) ?_
          refine r_callVI (As := [.int (nI 1)]) (o := 219) (c_X6_finding B (stM (thD D) (nI 0)) E (nI 1)) hv_X6_finding wm_X6_75 dX6_copy_47 rfl rfl z_219 k_219 (by decide) rfl (Nat.le_of_ble_eq_true rfl) ⟨Nat.le_of_ble_eq_true rfl, Nat.le_of_ble_eq_true rfl, Nat.zero_le _, Nat.zero_le _⟩ ⟨rfl, rfl⟩ (fun z82 D83 E84 hz82 => ?_)
          obtain ⟨hq1, hqD, hqE⟩ := hz82
          obtain rfl := hqE.symm
          subst hqD
          subst hq1
          refine r_iret2 dX6_copy_50 rfl ⟨Nat.zero_le _, Nat.zero_le _⟩ ?_
          have e : g_copy (nI ρ) y (nI σ) t n w = (-1000011, (w.1, w.2.1, nI 1)) := by
            rw [he]
            first | rw [nρ] | rw [eρ, nσ]
          rw [e]
          exact ⟨fd_1, hRs.st, hFs.st, rfl⟩
    · skip
      rw [bI_0] at c16
      refine r_ldc wc_X6_74 dX6_copy_19 ?_
      refine r_iret2 dX6_copy_21 rfl ⟨Nat.zero_le _, Nat.zero_le _⟩ ?_
      have e : g_copy x y z t n w = (-1000001, w) := by
        unfold g_copy
        first | rw [if_neg c9] | rw [if_pos c9, if_neg c16]
      rw [e]
      exact ⟨rfl, hR, FRm.th, rfl⟩
