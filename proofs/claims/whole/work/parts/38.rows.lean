set_option maxRecDepth 100000 in
set_option maxHeartbeats 4000000 in
theorem c_X5_copy (B : Nat) (D : DD) (E : EE) (w : RWS) (hX : XR D w) (x y z t n : Int32) : MR yX5_copy cX5_copy 6 (some .int) rX5_copy B [.ref (B + 0), .int x, .int y, .int z, .int t, .int n] Z0 D E (Q2 Z0 (pI (fun v D' E' => v = (g_copy x y z t n w).1 ∧ XR D' (g_copy x y z t n w).2 ∧ XFr D D' ∧ E' = E))) := by
  refine r_enter [(0, .ref (B + 0)), (1, .int x), (2, .int y), (3, .int z), (4, .int t), (5, .int n)] hv_X5_copy.1.2.2.2.2 (Nat.le_of_ble_eq_true rfl) rfl ?_
  refine r_iload_n dX5_copy_0 rfl ?_
  refine r_callSI (As := [.int x]) (c_X5_isRow B D E x) hs_X5_isRow wm_X5_69 rfl dX5_copy_1 rfl rfl (Nat.le_of_ble_eq_true rfl) ⟨Nat.le_of_ble_eq_true rfl, Nat.le_of_ble_eq_true rfl, Nat.zero_le _, Nat.zero_le _⟩ ⟨rfl, rfl⟩ (fun z1 D2 E3 hz1 => ?_)
  obtain ⟨hqV, hqD, hqE⟩ := hz1
  obtain rfl : z1 = bI (nI 0 ≤ x ∧ x ≤ nI 7) := hqV
  obtain rfl := hqD.symm
  obtain rfl := hqE.symm
  refine r_if_eq (tgt := 14) dX5_copy_4 (by decide) (fun c4 => ?_) (fun c4 => ?_)
  · skip
    rw [bI_0] at c4
    refine r_ldc wc_X5_77 dX5_copy_14 ?_
    refine r_iret2 dX5_copy_16 rfl ⟨Nat.zero_le _, Nat.zero_le _⟩ ?_
    have e : g_copy x y z t n w = (-1000001, w) := by
      unfold g_copy
      first | rw [if_neg c4] | rw [if_pos c4, if_neg c11]
    rw [e]
    exact ⟨rfl, hX, XFr.rf, rfl⟩
  · skip
    rw [bI_n0] at c4
    refine r_iload_n dX5_copy_7 rfl ?_
    refine r_callSI (As := [.int z]) (c_X5_isRow B D E z) hs_X5_isRow wm_X5_69 rfl dX5_copy_8 rfl rfl (Nat.le_of_ble_eq_true rfl) ⟨Nat.le_of_ble_eq_true rfl, Nat.le_of_ble_eq_true rfl, Nat.zero_le _, Nat.zero_le _⟩ ⟨rfl, rfl⟩ (fun z4 D5 E6 hz4 => ?_)
    obtain ⟨hqV, hqD, hqE⟩ := hz4
    obtain rfl : z4 = bI (nI 0 ≤ z ∧ z ≤ nI 7) := hqV
    obtain rfl := hqD.symm
    obtain rfl := hqE.symm
    refine r_if_ne (tgt := 17) dX5_copy_11 (by decide) (fun c11 => ?_) (fun c11 => ?_)
    · skip
      rw [bI_n0] at c11
      obtain ⟨ρ, -, hρ8, rfl⟩ := rg (by decide) (by decide) c4
      have hρ : ρ < 8 := by omega
      obtain ⟨σ, -, hσ8, rfl⟩ := rg (by decide) (by decide) c11
      have hσ : σ < 8 := by omega
      have h1 := hX.1 ρ hρ
      have h2 := hX.1 σ hσ
      have he : g_copy (nI ρ) y (nI σ) t n w = (match w.1 ρ, w.1 σ with
          | some (l, s), some (l', s') => if l = l' then (if okInB s y n = true ∧ okInB s' t n = true then (n, (w.1, upo w.2.1 σ (va_cpy (w.2.1 ρ) (w.2.1 σ) y.toNatClampNeg t.toNatClampNeg n.toNatClampNeg), nI 0)) else (-1000012, (w.1, w.2.1, nI 2))) else (-1000015, (w.1, w.2.1, nI 5))
          | _, _ => ((-1000011 : Int32), (w.1, w.2.1, nI 1))) := by
        unfold g_copy
        rw [if_pos c4, if_pos c11, nI_clamp (show ρ < 2 ^ 31 by omega), nI_clamp (show σ < 2 ^ 31 by omega)]
        try rfl
      refine r_aload_n dX5_copy_17 rfl ?_
      refine r_getR (ci := 5) (k := 0) wf_X5_10 dX5_copy_18 z_0 k_0 (by decide) (by decide) (fun _ _ => rfl) f_0_0 ?_
      refine r_iload_n dX5_copy_21 rfl ?_
      refine r_callVI (As := [.int (nI ρ)]) (o := 1) (c_X3_isMissing B D E ρ hρ) hv_X3_isMissing wm_X5_96 dX5_copy_22 rfl rfl z_1 k_1 (by decide) rfl (Nat.le_of_ble_eq_true rfl) ⟨Nat.le_of_ble_eq_true rfl, Nat.le_of_ble_eq_true rfl, Nat.zero_le _, Nat.zero_le _⟩ ⟨rfl, rfl⟩ (fun z7 D8 E9 hz7 => ?_)
      obtain ⟨hqV, hqD, hqE⟩ := hz7
      obtain rfl : z7 = bI (D 3 ρ = -1) := hqV
      obtain rfl := hqD.symm
      obtain rfl := hqE.symm
      refine r_if_ne (tgt := 39) dX5_copy_25 (by decide) (fun c25 => ?_) (fun c25 => ?_)
      · skip
        rw [bI_n0] at c25
        have nρ : w.1 ρ = none := by
          cases e : w.1 ρ with
          | none => rfl
          | some p => obtain ⟨l, s⟩ := p; rw [e] at h1; exact absurd (h1.2.2.2.1.symm.trans c25) (nI_ne_m1 s h1.2.1)
        refine r_aload_n dX5_copy_39 rfl ?_
        refine r_iconst (nI 1) dX5_copy_40 (by decide) ?_
        refine r_callVI (As := [.int (nI 1)]) (o := 0) (c_X5_found B D E (nI 1)) hv_X5_found wm_X5_78 dX5_copy_41 rfl rfl z_0 k_0 (by decide) rfl (Nat.le_of_ble_eq_true rfl) ⟨Nat.le_of_ble_eq_true rfl, Nat.le_of_ble_eq_true rfl, Nat.zero_le _, Nat.zero_le _⟩ ⟨rfl, rfl⟩ (fun z10 D11 E12 hz10 => ?_)
        obtain ⟨hq1, hqD, hqE⟩ := hz10
        obtain rfl := hqE.symm
        obtain rfl := hqD.symm
        obtain rfl : z10 = (-1000011) := hq1.trans fd_1
        refine r_iret2 dX5_copy_44 rfl ⟨Nat.zero_le _, Nat.zero_le _⟩ ?_
        have e : g_copy (nI ρ) y (nI σ) t n w = (-1000011, (w.1, w.2.1, nI 1)) := by
          rw [he]
          first | rw [nρ] | rw [eρ, nσ]
        rw [e]
        exact ⟨rfl, hX.st, XFr.st, rfl⟩
      · skip
        rw [bI_0] at c25
        obtain ⟨l, s, eρ⟩ : ∃ l s, w.1 ρ = some (l, s) := by
          cases e : w.1 ρ with
          | none => rw [e] at h1; exact absurd h1 c25
          | some p => exact ⟨p.1, p.2, rfl⟩
        rw [eρ] at h1
        obtain ⟨l2ρ, s4ρ, d2ρ, d3ρ, dfρ⟩ := id h1
        refine r_aload_n dX5_copy_28 rfl ?_
        refine r_getR (ci := 5) (k := 0) wf_X5_10 dX5_copy_29 z_0 k_0 (by decide) (by decide) (fun _ _ => rfl) f_0_0 ?_
        refine r_iload_n dX5_copy_32 rfl ?_
        refine r_callVI (As := [.int (nI σ)]) (o := 1) (c_X3_isMissing B D E σ hσ) hv_X3_isMissing wm_X5_96 dX5_copy_33 rfl rfl z_1 k_1 (by decide) rfl (Nat.le_of_ble_eq_true rfl) ⟨Nat.le_of_ble_eq_true rfl, Nat.le_of_ble_eq_true rfl, Nat.zero_le _, Nat.zero_le _⟩ ⟨rfl, rfl⟩ (fun z13 D14 E15 hz13 => ?_)
        obtain ⟨hqV, hqD, hqE⟩ := hz13
        obtain rfl : z13 = bI (D 3 σ = -1) := hqV
        obtain rfl := hqD.symm
        obtain rfl := hqE.symm
        refine r_if_eq (tgt := 45) dX5_copy_36 (by decide) (fun c36 => ?_) (fun c36 => ?_)
        · skip
          rw [bI_0] at c36
          obtain ⟨l', s', eσ⟩ : ∃ l s, w.1 σ = some (l, s) := by
            cases e : w.1 σ with
            | none => rw [e] at h2; exact absurd h2 c36
            | some p => exact ⟨p.1, p.2, rfl⟩
          rw [eσ] at h2
          obtain ⟨l2σ, s4σ, d2σ, d3σ, dfσ⟩ := id h2
          refine r_aload_n dX5_copy_45 rfl ?_
          refine r_getR (ci := 5) (k := 0) wf_X5_10 dX5_copy_46 z_0 k_0 (by decide) (by decide) (fun _ _ => rfl) f_0_0 ?_
          refine r_getR (ci := 3) (k := 0) wf_X5_99 dX5_copy_49 z_1 k_1 (by decide) (by decide) (fun _ _ => rfl) f_1_0 ?_
          refine r_iload_n dX5_copy_52 rfl ?_
          refine r_iald dX5_copy_53 z_2 k_2 (vp_in_nI (by omega) (by decide)) (fun z16 hz16 => ?_)
          rw [nI_clamp (by omega)] at hz16
          obtain rfl : z16 = nI l := hz16.trans d2ρ
          refine r_aload_n dX5_copy_54 rfl ?_
          refine r_getR (ci := 5) (k := 0) wf_X5_10 dX5_copy_55 z_0 k_0 (by decide) (by decide) (fun _ _ => rfl) f_0_0 ?_
          refine r_getR (ci := 3) (k := 0) wf_X5_99 dX5_copy_58 z_1 k_1 (by decide) (by decide) (fun _ _ => rfl) f_1_0 ?_
          refine r_iload_n dX5_copy_61 rfl ?_
          refine r_iald dX5_copy_62 z_2 k_2 (vp_in_nI (by omega) (by decide)) (fun z17 hz17 => ?_)
          rw [nI_clamp (by omega)] at hz17
          obtain rfl : z17 = nI l' := hz17.trans d2σ
          refine r_icmp_eq (tgt := 72) dX5_copy_63 (by decide) (fun c63 => ?_) (fun c63 => ?_)
          · skip
            rw [nI_eq (by omega) (by omega)] at c63
            rw [eρ, eσ] at he
            have he2 : g_copy (nI ρ) y (nI σ) t n w = (if okInB s y n = true ∧ okInB s' t n = true then (n, (w.1, upo w.2.1 σ (va_cpy (w.2.1 ρ) (w.2.1 σ) y.toNatClampNeg t.toNatClampNeg n.toNatClampNeg), nI 0)) else (-1000012, (w.1, w.2.1, nI 2))) := he.trans (if_pos c63)
            refine r_aload_n dX5_copy_72 rfl ?_
            refine r_getR (ci := 5) (k := 0) wf_X5_10 dX5_copy_73 z_0 k_0 (by decide) (by decide) (fun _ _ => rfl) f_0_0 ?_
            refine r_iload_n dX5_copy_76 rfl ?_
            refine r_iload_n dX5_copy_77 rfl ?_
            refine r_iload dX5_copy_78 rfl ?_
            refine r_callVI (As := [.int (nI ρ), .int y, .int n]) (o := 1) (c_X3_look B D E ρ hρ y n) hv_X3_look wm_X5_89 dX5_copy_80 rfl rfl z_1 k_1 (by decide) rfl (Nat.le_of_ble_eq_true rfl) ⟨Nat.le_of_ble_eq_true rfl, Nat.le_of_ble_eq_true rfl, Nat.zero_le _, Nat.zero_le _⟩ ⟨rfl, rfl⟩ (fun z18 D19 E20 hz18 => ?_)
            obtain ⟨hqV, hqD, hqE⟩ := hz18
            obtain rfl : z18 = lkD (D 3 ρ) y n := hqV
            obtain rfl := hqD.symm
            obtain rfl := hqE.symm
            refine r_if_ne (tgt := 101) dX5_copy_83 (by decide) (fun c83 => ?_) (fun c83 => ?_)
            · skip
              have he3 : g_copy (nI ρ) y (nI σ) t n w = (-1000012, (w.1, w.2.1, nI 2)) := he2.trans (if_neg (fun q => c83 (lkD_t h1 (okInB_iff.mp q.1))))
              refine r_aload_n dX5_copy_101 rfl ?_
              refine r_iconst (nI 2) dX5_copy_102 (by decide) ?_
              refine r_callVI (As := [.int (nI 2)]) (o := 0) (c_X5_found B D E (nI 2)) hv_X5_found wm_X5_78 dX5_copy_103 rfl rfl z_0 k_0 (by decide) rfl (Nat.le_of_ble_eq_true rfl) ⟨Nat.le_of_ble_eq_true rfl, Nat.le_of_ble_eq_true rfl, Nat.zero_le _, Nat.zero_le _⟩ ⟨rfl, rfl⟩ (fun z21 D22 E23 hz21 => ?_)
              obtain ⟨hq1, hqD, hqE⟩ := hz21
              obtain rfl := hqE.symm
              obtain rfl := hqD.symm
              obtain rfl : z21 = (-1000012) := hq1.trans fd_2
              refine r_iret2 dX5_copy_106 rfl ⟨Nat.zero_le _, Nat.zero_le _⟩ ?_
              rw [he3]
              exact ⟨rfl, hX.st, XFr.st, rfl⟩
            · skip
              have ok1 : okIn s y n := by
                by_cases ok : okIn s y n
                · exact ok
                · rw [lkD_f h1 ok] at c83; exact absurd c83 (by decide)
              refine r_aload_n dX5_copy_86 rfl ?_
              refine r_getR (ci := 5) (k := 0) wf_X5_10 dX5_copy_87 z_0 k_0 (by decide) (by decide) (fun _ _ => rfl) f_0_0 ?_
              refine r_iload_n dX5_copy_90 rfl ?_
              refine r_iload dX5_copy_91 rfl ?_
              refine r_iload dX5_copy_93 rfl ?_
              refine r_callVI (As := [.int (nI σ), .int t, .int n]) (o := 1) (c_X3_look B D E σ hσ t n) hv_X3_look wm_X5_89 dX5_copy_95 rfl rfl z_1 k_1 (by decide) rfl (Nat.le_of_ble_eq_true rfl) ⟨Nat.le_of_ble_eq_true rfl, Nat.le_of_ble_eq_true rfl, Nat.zero_le _, Nat.zero_le _⟩ ⟨rfl, rfl⟩ (fun z24 D25 E26 hz24 => ?_)
              obtain ⟨hqV, hqD, hqE⟩ := hz24
              obtain rfl : z24 = lkD (D 3 σ) t n := hqV
              obtain rfl := hqD.symm
              obtain rfl := hqE.symm
              refine r_if_eq (tgt := 107) dX5_copy_98 (by decide) (fun c98 => ?_) (fun c98 => ?_)
              · skip
                have ok2 : okIn s' t n := by
                  by_cases ok : okIn s' t n
                  · exact ok
                  · rw [lkD_f h2 ok] at c98; exact absurd c98 (by decide)
                obtain ⟨a, c, rfl, rfl, hac⟩ := okIn_n (by omega) ok1
                obtain ⟨b, c', rfl, hcc, hbc⟩ := okIn_n (by omega) ok2
                have hc9 : c = c' := (nI_eq (by omega) (by omega)).mp hcc
                subst hc9
                have he3 : g_copy (nI ρ) (nI a) (nI σ) (nI b) (nI c) w = (nI c, (w.1, upo w.2.1 σ (va_cpy (w.2.1 ρ) (w.2.1 σ) (nI a).toNatClampNeg (nI b).toNatClampNeg (nI c).toNatClampNeg), nI 0)) := he2.trans (if_pos ⟨okInB_iff.mpr ok1, okInB_iff.mpr ok2⟩)
                refine r_aload_n dX5_copy_107 rfl ?_
                refine r_getR (ci := 5) (k := 0) wf_X5_10 dX5_copy_108 z_0 k_0 (by decide) (by decide) (fun _ _ => rfl) f_0_0 ?_
                refine r_getR (ci := 3) (k := 2) wf_X5_102 dX5_copy_111 z_1 k_1 (by decide) (by decide) (fun _ _ => rfl) f_1_2 ?_
                refine r_iload_n dX5_copy_114 rfl ?_
                refine r_aald (v := 5 + ρ) dX5_copy_115 z_4 k_4 (by decide) (vp_in_nI (by omega) (by decide)) (items_at ρ hρ) ?_
                refine r_iload_n dX5_copy_116 rfl ?_
                refine r_aload_n dX5_copy_117 rfl ?_
                refine r_getR (ci := 5) (k := 0) wf_X5_10 dX5_copy_118 z_0 k_0 (by decide) (by decide) (fun _ _ => rfl) f_0_0 ?_
                refine r_getR (ci := 3) (k := 2) wf_X5_102 dX5_copy_121 z_1 k_1 (by decide) (by decide) (fun _ _ => rfl) f_1_2 ?_
                refine r_iload_n dX5_copy_124 rfl ?_
                refine r_aald (v := 5 + σ) dX5_copy_125 z_4 k_4 (by decide) (vp_in_nI (by omega) (by decide)) (items_at σ hσ) ?_
                refine r_iload dX5_copy_126 rfl ?_
                refine r_iload dX5_copy_128 rfl ?_
                refine r_copyi wm_X5_106 dX5_copy_130 (items_z ρ hρ).1 (items_z ρ hρ).2 (items_z σ hσ).1 (items_z σ hσ).2 (nI_pos (by omega)) (nI_pos (by omega)) (nI_pos (by omega)) (by rw [nI_clamp (show a < 2 ^ 31 by omega), nI_clamp (show c < 2 ^ 31 by omega)]; omega) (by rw [nI_clamp (show b < 2 ^ 31 by omega), nI_clamp (show c < 2 ^ 31 by omega)]; omega) (Nat.le_of_ble_eq_true rfl) (Nat.le_of_ble_eq_true rfl) (fun D27 hD27 => ?_)
                obtain rfl : D27 = upo D (5 + σ) (va_cpy (D (5 + ρ)) (D (5 + σ)) (nI a).toNatClampNeg (nI b).toNatClampNeg (nI c).toNatClampNeg) := hD27
                refine r_aload_n dX5_copy_133 rfl ?_
                refine r_iload dX5_copy_134 rfl ?_
                refine r_callVI (As := [.int (nI c)]) (o := 0) (c_X5_fine B (upo D (5 + σ) (va_cpy (D (5 + ρ)) (D (5 + σ)) (nI a).toNatClampNeg (nI b).toNatClampNeg (nI c).toNatClampNeg)) E (nI c)) hv_X5_fine wm_X5_86 dX5_copy_136 rfl rfl z_0 k_0 (by decide) rfl (Nat.le_of_ble_eq_true rfl) ⟨Nat.le_of_ble_eq_true rfl, Nat.le_of_ble_eq_true rfl, Nat.zero_le _, Nat.zero_le _⟩ ⟨rfl, rfl⟩ (fun z28 D29 E30 hz28 => ?_)
                obtain ⟨hq1, hqD, hqE⟩ := hz28
                obtain rfl := hqE.symm
                subst hqD
                subst hq1
                refine r_iret2 dX5_copy_139 rfl ⟨Nat.zero_le _, Nat.zero_le _⟩ ?_
                rw [he3]
                refine ⟨rfl, ⟨fun i hi => ?_, (congrFun upo_s 15).trans pk_us⟩, ⟨fun q h1 h2 h3 h4 => (upo_n h1).trans (upo_n (by omega)), fun f hf => (congrFun upo_s f).trans ((pk_un hf).trans (congrFun (upo_n (by omega)) f))⟩, rfl⟩
                by_cases e : i = σ
                · subst e
                  show XW1 _ i (w.1 i) (upo w.2.1 i _ i)
                  rw [upo_s, eσ]
                  refine ⟨l2σ, s4σ, (congrFun ((upo_n (by omega)).trans (upo_n (by omega))) i).trans d2σ, (congrFun ((upo_n (by omega)).trans (upo_n (by omega))) i).trans d3σ, fun j hj => (congrFun ((upo_n (by omega)).trans upo_s) j).trans ?_⟩
                  rw [nI_clamp (show a < 2 ^ 31 by omega), nI_clamp (show b < 2 ^ 31 by omega), nI_clamp (show c < 2 ^ 31 by omega)]
                  by_cases h : b ≤ j ∧ j < b + c
                  · rw [pk_cpy_in h.1 h.2, pk_cpy_in h.1 h.2]; exact dfρ _ (by omega)
                  · rw [pk_cpy_out (by omega), pk_cpy_out (by omega)]; exact dfσ j hj
                · show XW1 _ i (w.1 i) (upo w.2.1 σ _ i)
                  rw [upo_n e]
                  exact XW1_eq (hX.1 i hi) (congrFun ((upo_n (by omega)).trans (upo_n (by omega))) i) (congrFun ((upo_n (by omega)).trans (upo_n (by omega))) i) ((upo_n (by omega)).trans (upo_n (by omega)))
              · skip
                have he3 : g_copy (nI ρ) y (nI σ) t n w = (-1000012, (w.1, w.2.1, nI 2)) := he2.trans (if_neg (fun q => c98 (lkD_t h2 (okInB_iff.mp q.2))))
                refine r_aload_n dX5_copy_101 rfl ?_
                refine r_iconst (nI 2) dX5_copy_102 (by decide) ?_
                refine r_callVI (As := [.int (nI 2)]) (o := 0) (c_X5_found B D E (nI 2)) hv_X5_found wm_X5_78 dX5_copy_103 rfl rfl z_0 k_0 (by decide) rfl (Nat.le_of_ble_eq_true rfl) ⟨Nat.le_of_ble_eq_true rfl, Nat.le_of_ble_eq_true rfl, Nat.zero_le _, Nat.zero_le _⟩ ⟨rfl, rfl⟩ (fun z31 D32 E33 hz31 => ?_)
                obtain ⟨hq1, hqD, hqE⟩ := hz31
                obtain rfl := hqE.symm
                obtain rfl := hqD.symm
                obtain rfl : z31 = (-1000012) := hq1.trans fd_2
                refine r_iret2 dX5_copy_106 rfl ⟨Nat.zero_le _, Nat.zero_le _⟩ ?_
                rw [he3]
                exact ⟨rfl, hX.st, XFr.st, rfl⟩
          · skip
            rw [nI_eq (by omega) (by omega)] at c63
            rw [eρ, eσ] at he
            have he2 : g_copy (nI ρ) y (nI σ) t n w = (-1000015, (w.1, w.2.1, nI 5)) := he.trans (if_neg c63)
            refine r_aload_n dX5_copy_66 rfl ?_
            refine r_iconst (nI 5) dX5_copy_67 (by decide) ?_
            refine r_callVI (As := [.int (nI 5)]) (o := 0) (c_X5_found B D E (nI 5)) hv_X5_found wm_X5_78 dX5_copy_68 rfl rfl z_0 k_0 (by decide) rfl (Nat.le_of_ble_eq_true rfl) ⟨Nat.le_of_ble_eq_true rfl, Nat.le_of_ble_eq_true rfl, Nat.zero_le _, Nat.zero_le _⟩ ⟨rfl, rfl⟩ (fun z34 D35 E36 hz34 => ?_)
            obtain ⟨hq1, hqD, hqE⟩ := hz34
            obtain rfl := hqE.symm
            obtain rfl := hqD.symm
            obtain rfl : z34 = (-1000015) := hq1.trans fd_5
            refine r_iret2 dX5_copy_71 rfl ⟨Nat.zero_le _, Nat.zero_le _⟩ ?_
            rw [he2]
            exact ⟨rfl, hX.st, XFr.st, rfl⟩
        · skip
          rw [bI_n0] at c36
          have nσ : w.1 σ = none := by
            cases e : w.1 σ with
            | none => rfl
            | some p => obtain ⟨l, s⟩ := p; rw [e] at h2; exact absurd (h2.2.2.2.1.symm.trans c36) (nI_ne_m1 s h2.2.1)
          refine r_aload_n dX5_copy_39 rfl ?_
          refine r_iconst (nI 1) dX5_copy_40 (by decide) ?_
          refine r_callVI (As := [.int (nI 1)]) (o := 0) (c_X5_found B D E (nI 1)) hv_X5_found wm_X5_78 dX5_copy_41 rfl rfl z_0 k_0 (by decide) rfl (Nat.le_of_ble_eq_true rfl) ⟨Nat.le_of_ble_eq_true rfl, Nat.le_of_ble_eq_true rfl, Nat.zero_le _, Nat.zero_le _⟩ ⟨rfl, rfl⟩ (fun z37 D38 E39 hz37 => ?_)
          obtain ⟨hq1, hqD, hqE⟩ := hz37
          obtain rfl := hqE.symm
          obtain rfl := hqD.symm
          obtain rfl : z37 = (-1000011) := hq1.trans fd_1
          refine r_iret2 dX5_copy_44 rfl ⟨Nat.zero_le _, Nat.zero_le _⟩ ?_
          have e : g_copy (nI ρ) y (nI σ) t n w = (-1000011, (w.1, w.2.1, nI 1)) := by
            rw [he]
            first | rw [nρ] | rw [eρ, nσ]
          rw [e]
          exact ⟨rfl, hX.st, XFr.st, rfl⟩
    · skip
      rw [bI_0] at c11
      refine r_ldc wc_X5_77 dX5_copy_14 ?_
      refine r_iret2 dX5_copy_16 rfl ⟨Nat.zero_le _, Nat.zero_le _⟩ ?_
      have e : g_copy x y z t n w = (-1000001, w) := by
        unfold g_copy
        first | rw [if_neg c4] | rw [if_pos c4, if_neg c11]
      rw [e]
      exact ⟨rfl, hX, XFr.rf, rfl⟩
