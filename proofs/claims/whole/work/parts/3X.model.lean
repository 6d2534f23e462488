set_option maxRecDepth 100000 in
set_option maxHeartbeats 4000000 in
theorem c_X6_stolen (B : Nat) (D : DD) (E : EE) (wy : Nat → Nat) (r : Row) (hX0 : XM D wy r) (pl x y : Int32) : MR yX6_stolen cX6_stolen 7 (some .int) rX6_stolen B [.ref (B + 219), .int pl, .int x, .int y] Z0 D E (Q2 Z0 (pI (fun v D' E' => v = (if 0 < r 0 then g_stolen wy r pl x y else -1000002) ∧ MX D D' ∧ E' = E))) := by
  have hX := hX0.th
  obtain ⟨hO, hM, hwy, hYY⟩ := id hX
  obtain ⟨l0, l5, l4, l6, l7, l8, l1⟩ := hO.le
  have hwy0 := hX0.2.2.1
  have hM0 := hX0.2.1
  refine r_enter [(0, .ref (B + 219)), (1, .int pl), (2, .int x), (3, .int y)] hv_X6_stolen.1.2.2.2.2 (Nat.le_of_ble_eq_true rfl) rfl ?_
  refine r_aload_n dX6_stolen_0 rfl ?_
  refine r_iconst (nI 0) dX6_stolen_1 (by decide) ?_
  refine r_putI (ci := 6) (k := 0) wf_X6_54 dX6_stolen_2 z_219 k_219 (by decide) (by decide) rfl rfl (fun D1 hD1 => ?_)
  obtain rfl : D1 = thD D := hD1.trans up2_eq
  refine r_aload_n dX6_stolen_5 rfl ?_
  refine r_callVI (As := []) (o := 219) (c_X6_isThere B (thD D) E (r 0) (hM 0 (by decide)) l0) hv_X6_isThere wm_X6_193 dX6_stolen_6 rfl rfl z_219 k_219 (by decide) rfl (Nat.le_of_ble_eq_true rfl) ⟨Nat.le_of_ble_eq_true rfl, Nat.le_of_ble_eq_true rfl, Nat.zero_le _, Nat.zero_le _⟩ ⟨rfl, rfl⟩ (fun z2 D3 E4 hz2 => ?_)
  obtain ⟨hqV, hqD, hqE⟩ := hz2
  obtain rfl : z2 = bI (0 < r 0) := hqV
  obtain rfl := hqD.symm
  obtain rfl := hqE.symm
  refine r_if_ne (tgt := 15) dX6_stolen_9 (by decide) (fun c9 => ?_) (fun c9 => ?_)
  · skip
    rw [bI_n0] at c9
    obtain ⟨hW, hT, hH⟩ := hO.p c9
    have hY := hYY hW
    obtain ⟨b1, b2, b3, b4, b5, b6, b7, b8⟩ := hW.1
    refine r_aload_n dX6_stolen_15 rfl ?_
    refine r_iload_n dX6_stolen_16 rfl ?_
    refine r_callVI (As := [.int pl]) (o := 219) (c_X6_isPlace B (thD D) E pl (r 0) (hM 0 (by decide))) hv_X6_isPlace wm_X6_205 dX6_stolen_17 rfl rfl z_219 k_219 (by decide) rfl (Nat.le_of_ble_eq_true rfl) ⟨Nat.le_of_ble_eq_true rfl, Nat.le_of_ble_eq_true rfl, Nat.zero_le _, Nat.zero_le _⟩ ⟨rfl, rfl⟩ (fun z5 D6 E7 hz5 => ?_)
    obtain ⟨hqV, hqD, hqE⟩ := hz5
    obtain rfl : z5 = bI (nI 0 ≤ pl ∧ pl ≤ nI (r 0) - nI 1) := hqV
    obtain rfl := hqD.symm
    obtain rfl := hqE.symm
    refine r_if_eq (tgt := 47) dX6_stolen_20 (by decide) (fun c20 => ?_) (fun c20 => ?_)
    · skip
      rw [bI_0] at c20
      refine r_ldc wc_X6_74 dX6_stolen_47 ?_
      refine r_iret2 dX6_stolen_49 rfl ⟨Nat.zero_le _, Nat.zero_le _⟩ ?_
      refine ⟨?_, MX.th, rfl⟩
      unfold g_stolen
      rw [if_pos c9]
      first | rw [if_neg c20] | rw [if_pos c20, if_neg c32] | rw [if_pos c20, if_pos c32, if_neg c44]
    · skip
      rw [bI_n0] at c20
      obtain ⟨p, hp1, rfl⟩ := gd_n (by omega) c20
      refine r_iload_n dX6_stolen_23 rfl ?_
      refine r_i2l dX6_stolen_24 (fun z8 hz8 => ?_)
      subst hz8
      refine r_lconst ((nI 0).toInt64) dX6_stolen_25 (by decide) ?_
      refine r_ldc2v ((nI 60).toInt64) wg_X6_210 dX6_stolen_26 (by decide) ?_
      refine r_callSI (As := [.long x.toInt64, .long ((nI 0).toInt64), .long ((nI 60).toInt64)]) (c_X6_in B (thD D) E x (nI 0) (nI 60)) hs_X6_in wm_X6_64 rfl dX6_stolen_29 rfl rfl (Nat.le_of_ble_eq_true rfl) ⟨Nat.le_of_ble_eq_true rfl, Nat.le_of_ble_eq_true rfl, Nat.zero_le _, Nat.zero_le _⟩ ⟨rfl, rfl⟩ (fun z9 D10 E11 hz9 => ?_)
      obtain ⟨hqV, hqD, hqE⟩ := hz9
      obtain rfl : z9 = bI (nI 0 ≤ x ∧ x ≤ nI 60) := hqV
      obtain rfl := hqD.symm
      obtain rfl := hqE.symm
      refine r_if_eq (tgt := 47) dX6_stolen_32 (by decide) (fun c32 => ?_) (fun c32 => ?_)
      · skip
        rw [bI_0] at c32
        refine r_ldc wc_X6_74 dX6_stolen_47 ?_
        refine r_iret2 dX6_stolen_49 rfl ⟨Nat.zero_le _, Nat.zero_le _⟩ ?_
        refine ⟨?_, MX.th, rfl⟩
        unfold g_stolen
        rw [if_pos c9]
        first | rw [if_neg c20] | rw [if_pos c20, if_neg c32] | rw [if_pos c20, if_pos c32, if_neg c44]
      · skip
        rw [bI_n0] at c32
        obtain ⟨s, hs1, hs2, rfl⟩ := rg (by decide) (by decide) c32
        refine r_iload_n dX6_stolen_35 rfl ?_
        refine r_i2l dX6_stolen_36 (fun z12 hz12 => ?_)
        subst hz12
        refine r_lconst ((nI 1).toInt64) dX6_stolen_37 (by decide) ?_
        refine r_ldc2v ((nI 24).toInt64) wg_X6_197 dX6_stolen_38 (by decide) ?_
        refine r_callSI (As := [.long y.toInt64, .long ((nI 1).toInt64), .long ((nI 24).toInt64)]) (c_X6_in B (thD D) E y (nI 1) (nI 24)) hs_X6_in wm_X6_64 rfl dX6_stolen_41 rfl rfl (Nat.le_of_ble_eq_true rfl) ⟨Nat.le_of_ble_eq_true rfl, Nat.le_of_ble_eq_true rfl, Nat.zero_le _, Nat.zero_le _⟩ ⟨rfl, rfl⟩ (fun z13 D14 E15 hz13 => ?_)
        obtain ⟨hqV, hqD, hqE⟩ := hz13
        obtain rfl : z13 = bI (nI 1 ≤ y ∧ y ≤ nI 24) := hqV
        obtain rfl := hqD.symm
        obtain rfl := hqE.symm
        refine r_if_ne (tgt := 50) dX6_stolen_44 (by decide) (fun c44 => ?_) (fun c44 => ?_)
        · skip
          rw [bI_n0] at c44
          obtain ⟨n, hn1, hn2, rfl⟩ := rg (by decide) (by decide) c44
          refine r_aload_n dX6_stolen_50 rfl ?_
          refine r_callVV (As := []) (o := 219) (c_X6_layThen B (thD D) E r hM) hv_X6_layThen wm_X6_212 dX6_stolen_51 rfl rfl z_219 k_219 (by decide) rfl (Nat.le_of_ble_eq_true rfl) ⟨Nat.le_of_ble_eq_true rfl, Nat.le_of_ble_eq_true rfl, Nat.zero_le _, Nat.zero_le _⟩ ⟨rfl, rfl⟩ (fun D17 E18 hz16 => ?_)
          obtain ⟨hL1, hL2, hqE⟩ := hz16
          obtain rfl := hqE.symm
          have hXt : MX D D17 := MX.th.trans (MX.of (fun q a _ => hL1 q a))
          have hwt : ∀ j, j < 6 * r 0 → D17 228 j = nI (wy j) := fun j hj => (congrFun (hL1 228 (by decide)) j).trans (hwy j hj)
          refine r_iconst (nI 0) dX6_stolen_54 (by decide) ?_
          refine r_istore [(4, .int (nI 0)), (0, .ref (B + 219)), (1, .int (nI p)), (2, .int (nI s)), (3, .int (nI n))] dX6_stolen_55 (by decide) rfl ?_
          refine r_lv [(4, .int (nI (s_sb wy r p (nI s) 0))), (0, .ref (B + 219)), (1, .int (nI p)), (2, .int (nI s)), (3, .int (nI n))] (List.forall_mem_cons.mpr ⟨congrArg (fun x => some (Value.int x)) rfl, List.forall_mem_cons.mpr ⟨rfl, List.forall_mem_cons.mpr ⟨rfl, List.forall_mem_cons.mpr ⟨rfl, List.forall_mem_cons.mpr ⟨rfl, fun _ h => absurd h List.not_mem_nil⟩⟩⟩⟩⟩) ?_
          refine r_iconst (nI 0) dX6_stolen_57 (by decide) ?_
          refine r_istore [(5, .int (nI 0)), (4, .int (nI (s_sb wy r p (nI s) 0))), (0, .ref (B + 219)), (1, .int (nI p)), (2, .int (nI s)), (3, .int (nI n))] dX6_stolen_58 (by decide) rfl ?_
          have L : ∀ (fu k : Nat) (Dk : DD), k ≤ n → n - k < fu → (MX D Dk ∧ MA Dk 225 (s_hours wy k r)) → RW yX6_stolen cX6_stolen 7 (some .int) rX6_stolen B (Q2 Z0 (pI (fun v D' E' => v = (if 0 < r 0 then g_stolen wy r (nI p) (nI s) (nI n) else -1000002) ∧ MX D D' ∧ E' = E))) Z0 Dk E 0 0 60 [(5, .int (nI k)), (4, .int (nI (s_sb wy r p (nI s) k))), (0, .ref (B + 219)), (1, .int (nI p)), (2, .int (nI s)), (3, .int (nI n))] [] := by
            intro fu
            induction fu with
            | zero => intro k Dk hku hfu _; omega
            | succ fu ih =>
              intro k Dk hku hfu hI
              refine r_iload dX6_stolen_60 rfl ?_
              refine r_iload_n dX6_stolen_62 rfl ?_
              refine r_icmp_ge (tgt := 139) dX6_stolen_63 (by decide) (fun c63 => ?_) (fun c63 => ?_)
              · skip
                rw [nI_leI (by omega) (by omega)] at c63
                refine r_iload dX6_stolen_139 rfl ?_
                refine r_iret2 dX6_stolen_141 rfl ⟨Nat.zero_le _, Nat.zero_le _⟩ ?_
                obtain rfl : k = n := by omega
                refine ⟨?_, hI.1, rfl⟩
                unfold g_stolen
                rw [if_pos c9, if_pos c20, if_pos c32, if_pos c44, nI_clamp (show p < 2 ^ 31 by omega), nI_clamp (show k < 2 ^ 31 by omega)]
              · skip
                rw [nI_leI (by omega) (by omega)] at c63
                obtain ⟨t1, t2, t3, t4⟩ := s_hours_k hW hT hH hY k
                obtain ⟨u1, u2, u3, u4⟩ := s_hours_k hW hT hH hY (k + 1)
                obtain ⟨v1, v2, v3, -⟩ := t1.1
                obtain ⟨w1, w2, w3, -⟩ := u1.1
                have hto : s_to (s_pull wy (s_hours wy k r) 63 p (nI s)) (s_hours wy k r 1) (s_hours wy k r 0) ≤ 9 := by rcases s_to_ok (f := s_pull wy (s_hours wy k r) 63 p (nI s)) v3 with h | h <;> omega
                refine r_aload_n dX6_stolen_66 rfl ?_
                refine r_aload_n dX6_stolen_67 rfl ?_
                refine r_getR (ci := 6) (k := 7) wf_X6_25 dX6_stolen_68 z_219 k_219 (by decide) (by decide) (fun _ _ => rfl) f_219_7 ?_
                refine r_bipush (nI 63) dX6_stolen_71 (by decide) ?_
                refine r_iload_n dX6_stolen_73 rfl ?_
                refine r_iload_n dX6_stolen_74 rfl ?_
                refine r_callVV (As := [.ref (B + 225), .int (nI 63), .int (nI p), .int (nI s)]) (o := 219) (c_X6_layPulls B Dk E 225 (Or.inr rfl) (s_hours wy k r) wy t1 (999 + k) t3 (by omega) hI.2 t4 (fun j hj => hI.1.wy hwy0 j (by rw [s_hours_0] at hj; exact hj)) 63 p (nI s) (by decide) (by omega)) hv_X6_layPulls wm_X6_177 dX6_stolen_75 rfl rfl z_219 k_219 (by decide) rfl (Nat.le_of_ble_eq_true rfl) ⟨Nat.le_of_ble_eq_true rfl, Nat.le_of_ble_eq_true rfl, Nat.zero_le _, Nat.zero_le _⟩ ⟨rfl, rfl⟩ (fun D20 E21 hz19 => ?_)
                obtain ⟨⟨g, hgD, hg⟩, hqE⟩ := hz19
                obtain rfl := hqE.symm
                subst hgD
                have hX7 : MX D (upo Dk 229 g) := hI.1.trans (MX.of (fun q h1 h2 => upo_n h2))
                have hM7 : MA (upo Dk 229 g) 225 (s_hours wy k r) := MA_upo hI.2 (by decide)
                refine r_aload_n dX6_stolen_78 rfl ?_
                refine r_aload_n dX6_stolen_79 rfl ?_
                refine r_getR (ci := 6) (k := 7) wf_X6_25 dX6_stolen_80 z_219 k_219 (by decide) (by decide) (fun _ _ => rfl) f_219_7 ?_
                refine r_callVI (As := [.ref (B + 225)]) (o := 219) (c_X6_goesTo B (upo Dk 229 g) E 225 (Or.inr rfl) (s_hours wy k r) wy t1 (999 + k) t3 (by omega) hM7 t4 (s_pull wy (s_hours wy k r) 63 p (nI s)) (fun q hq => (congrFun upo_s q).trans (hg q hq))) hv_X6_goesTo wm_X6_181 dX6_stolen_83 rfl rfl z_219 k_219 (by decide) rfl (Nat.le_of_ble_eq_true rfl) ⟨Nat.le_of_ble_eq_true rfl, Nat.le_of_ble_eq_true rfl, Nat.zero_le _, Nat.zero_le _⟩ ⟨rfl, rfl⟩ (fun z22 D23 E24 hz22 => ?_)
                obtain ⟨hqV, hqD, hqE⟩ := hz22
                obtain rfl : z22 = if s_to (s_pull wy (s_hours wy k r) 63 p (nI s)) (s_hours wy k r 1) (s_hours wy k r 0) = 9 then (-1000000) else nI (s_to (s_pull wy (s_hours wy k r) 63 p (nI s)) (s_hours wy k r 1) (s_hours wy k r 0)) := hqV
                obtain rfl := hqD.symm
                obtain rfl := hqE.symm
                refine r_istore [(6, .int (if s_to (s_pull wy (s_hours wy k r) 63 p (nI s)) (s_hours wy k r 1) (s_hours wy k r 0) = 9 then (-1000000) else nI (s_to (s_pull wy (s_hours wy k r) 63 p (nI s)) (s_hours wy k r 1) (s_hours wy k r 0)))), (5, .int (nI k)), (4, .int (nI (s_sb wy r p (nI s) k))), (0, .ref (B + 219)), (1, .int (nI p)), (2, .int (nI s)), (3, .int (nI n))] dX6_stolen_86 (by decide) rfl ?_
                refine r_iload dX6_stolen_88 rfl ?_
                refine r_iload dX6_stolen_90 rfl ?_
                refine r_ldc wc_X6_97 dX6_stolen_92 ?_
                refine r_icmp_ne (tgt := 106) dX6_stolen_94 (by decide) (fun c94 => ?_) (fun c94 => ?_)
                · skip
                  rw [code_none hto] at c94
                  refine r_lv [(6, .int (nI (s_to (s_pull wy (s_hours wy k r) 63 p (nI s)) (s_hours wy k r 1) (s_hours wy k r 0)))), (5, .int (nI k)), (4, .int (nI (s_sb wy r p (nI s) k))), (0, .ref (B + 219)), (1, .int (nI p)), (2, .int (nI s)), (3, .int (nI n))] (List.forall_mem_cons.mpr ⟨congrArg (fun x => some (Value.int x)) (if_neg c94), List.forall_mem_cons.mpr ⟨rfl, List.forall_mem_cons.mpr ⟨rfl, List.forall_mem_cons.mpr ⟨rfl, List.forall_mem_cons.mpr ⟨rfl, List.forall_mem_cons.mpr ⟨rfl, List.forall_mem_cons.mpr ⟨rfl, fun _ h => absurd h List.not_mem_nil⟩⟩⟩⟩⟩⟩⟩) ?_
                  refine r_iload dX6_stolen_106 rfl ?_
                  refine r_iload_n dX6_stolen_108 rfl ?_
                  refine r_icmp_ne (tgt := 119) dX6_stolen_109 (by decide) (fun c109 => ?_) (fun c109 => ?_)
                  · skip
                    rw [nI_eq (by omega) (by omega)] at c109
                    have hst : ¬ s_st wy (s_hours wy k r) p (nI s) = p := by
                      unfold s_st
                      first | (rw [if_neg c94]; exact c109) | (rw [if_pos c94]; exact c109)
                    refine r_iconst (nI 0) dX6_stolen_119 (by decide) ?_
                    refine r_ior dX6_stolen_120 (fun z25 hz25 => ?_)
                    obtain rfl : z25 = nI (s_sb wy r p (nI s) (k + 1)) := hz25.trans (by first | exact (nI_or _ _).trans (congrArg nI (if_pos hst).symm) | exact (nI_or _ _).trans (congrArg nI ((Nat.or_zero _).trans (if_neg hst).symm)))
                    refine r_istore [(4, .int (nI (s_sb wy r p (nI s) (k + 1)))), (6, .int (nI (s_to (s_pull wy (s_hours wy k r) 63 p (nI s)) (s_hours wy k r 1) (s_hours wy k r 0)))), (5, .int (nI k)), (0, .ref (B + 219)), (1, .int (nI p)), (2, .int (nI s)), (3, .int (nI n))] dX6_stolen_121 (by decide) rfl ?_
                    refine r_aload_n dX6_stolen_123 rfl ?_
                    refine r_aload_n dX6_stolen_124 rfl ?_
                    refine r_getR (ci := 6) (k := 7) wf_X6_25 dX6_stolen_125 z_219 k_219 (by decide) (by decide) (fun _ _ => rfl) f_219_7 ?_
                    refine r_iconst (nI 0) dX6_stolen_128 (by decide) ?_
                    refine r_iconst (nI 0) dX6_stolen_129 (by decide) ?_
                    refine r_callVV (As := [.ref (B + 225), .int (nI 0), .int (nI 0)]) (o := 219) (c_X6_hour B (upo Dk 229 g) E 225 (Or.inr rfl) (s_hours wy k r) wy t1 (999 + k) t3 (by omega) hM7 t4 (fun j hj => (hX7).wy hwy0 j (by rw [s_hours_0] at hj; exact hj))) hv_X6_hour wm_X6_185 dX6_stolen_130 rfl rfl z_219 k_219 (by decide) rfl (Nat.le_of_ble_eq_true rfl) ⟨Nat.le_of_ble_eq_true rfl, Nat.le_of_ble_eq_true rfl, Nat.zero_le _, Nat.zero_le _⟩ ⟨rfl, rfl⟩ (fun D27 E28 hz26 => ?_)
                    obtain ⟨hF9, hC9, hqE⟩ := hz26
                    obtain rfl := hqE.symm
                    have hX9 : MX D D27 := (hX7).trans (MX.of hF9)
                    refine r_iinc (nI (k + 1)) [(5, .int (nI (k + 1))), (4, .int (nI (s_sb wy r p (nI s) (k + 1)))), (6, .int (nI (s_to (s_pull wy (s_hours wy k r) 63 p (nI s)) (s_hours wy k r 1) (s_hours wy k r 0)))), (0, .ref (B + 219)), (1, .int (nI p)), (2, .int (nI s)), (3, .int (nI n))] dX6_stolen_133 rfl (nI_1 _) (by decide) rfl ?_
                    refine r_goto (tgt := 60) dX6_stolen_136 (by decide) ?_
                    exact r_lv [(5, .int (nI (k + 1))), (4, .int (nI (s_sb wy r p (nI s) (k + 1)))), (0, .ref (B + 219)), (1, .int (nI p)), (2, .int (nI s)), (3, .int (nI n))] (List.forall_mem_cons.mpr ⟨rfl, List.forall_mem_cons.mpr ⟨rfl, List.forall_mem_cons.mpr ⟨rfl, List.forall_mem_cons.mpr ⟨rfl, List.forall_mem_cons.mpr ⟨rfl, List.forall_mem_cons.mpr ⟨rfl, fun _ h => absurd h List.not_mem_nil⟩⟩⟩⟩⟩⟩) (ih (k + 1) D27 (by omega) (by omega) (⟨hX9, hC9⟩))
                  · skip
                    rw [nI_eq (by omega) (by omega)] at c109
                    have hst : s_st wy (s_hours wy k r) p (nI s) = p := by
                      unfold s_st
                      first | (rw [if_neg c94]; exact c109) | (rw [if_pos c94]; exact c109)
                    refine r_iconst (nI 1) dX6_stolen_112 (by decide) ?_
                    refine r_iload dX6_stolen_113 rfl ?_
                    refine r_ishl dX6_stolen_115 (fun z29 hz29 => ?_)
                    obtain rfl : z29 = nI (2 ^ k) := hz29.trans (shl_1 (by omega))
                    refine r_goto (tgt := 120) dX6_stolen_116 (by decide) ?_
                    refine r_ior dX6_stolen_120 (fun z30 hz30 => ?_)
                    obtain rfl : z30 = nI (s_sb wy r p (nI s) (k + 1)) := hz30.trans (by first | exact (nI_or _ _).trans (congrArg nI (if_pos hst).symm) | exact (nI_or _ _).trans (congrArg nI ((Nat.or_zero _).trans (if_neg hst).symm)))
                    refine r_istore [(4, .int (nI (s_sb wy r p (nI s) (k + 1)))), (6, .int (nI (s_to (s_pull wy (s_hours wy k r) 63 p (nI s)) (s_hours wy k r 1) (s_hours wy k r 0)))), (5, .int (nI k)), (0, .ref (B + 219)), (1, .int (nI p)), (2, .int (nI s)), (3, .int (nI n))] dX6_stolen_121 (by decide) rfl ?_
                    refine r_aload_n dX6_stolen_123 rfl ?_
                    refine r_aload_n dX6_stolen_124 rfl ?_
                    refine r_getR (ci := 6) (k := 7) wf_X6_25 dX6_stolen_125 z_219 k_219 (by decide) (by decide) (fun _ _ => rfl) f_219_7 ?_
                    refine r_iconst (nI 0) dX6_stolen_128 (by decide) ?_
                    refine r_iconst (nI 0) dX6_stolen_129 (by decide) ?_
                    refine r_callVV (As := [.ref (B + 225), .int (nI 0), .int (nI 0)]) (o := 219) (c_X6_hour B (upo Dk 229 g) E 225 (Or.inr rfl) (s_hours wy k r) wy t1 (999 + k) t3 (by omega) hM7 t4 (fun j hj => (hX7).wy hwy0 j (by rw [s_hours_0] at hj; exact hj))) hv_X6_hour wm_X6_185 dX6_stolen_130 rfl rfl z_219 k_219 (by decide) rfl (Nat.le_of_ble_eq_true rfl) ⟨Nat.le_of_ble_eq_true rfl, Nat.le_of_ble_eq_true rfl, Nat.zero_le _, Nat.zero_le _⟩ ⟨rfl, rfl⟩ (fun D32 E33 hz31 => ?_)
                    obtain ⟨hF9, hC9, hqE⟩ := hz31
                    obtain rfl := hqE.symm
                    have hX9 : MX D D32 := (hX7).trans (MX.of hF9)
                    refine r_iinc (nI (k + 1)) [(5, .int (nI (k + 1))), (4, .int (nI (s_sb wy r p (nI s) (k + 1)))), (6, .int (nI (s_to (s_pull wy (s_hours wy k r) 63 p (nI s)) (s_hours wy k r 1) (s_hours wy k r 0)))), (0, .ref (B + 219)), (1, .int (nI p)), (2, .int (nI s)), (3, .int (nI n))] dX6_stolen_133 rfl (nI_1 _) (by decide) rfl ?_
                    refine r_goto (tgt := 60) dX6_stolen_136 (by decide) ?_
                    exact r_lv [(5, .int (nI (k + 1))), (4, .int (nI (s_sb wy r p (nI s) (k + 1)))), (0, .ref (B + 219)), (1, .int (nI p)), (2, .int (nI s)), (3, .int (nI n))] (List.forall_mem_cons.mpr ⟨rfl, List.forall_mem_cons.mpr ⟨rfl, List.forall_mem_cons.mpr ⟨rfl, List.forall_mem_cons.mpr ⟨rfl, List.forall_mem_cons.mpr ⟨rfl, List.forall_mem_cons.mpr ⟨rfl, fun _ h => absurd h List.not_mem_nil⟩⟩⟩⟩⟩⟩) (ih (k + 1) D32 (by omega) (by omega) (⟨hX9, hC9⟩))
                · skip
                  rw [code_none hto] at c94
                  refine r_aload_n dX6_stolen_97 rfl ?_
                  refine r_getR (ci := 6) (k := 7) wf_X6_25 dX6_stolen_98 z_219 k_219 (by decide) (by decide) (fun _ _ => rfl) f_219_7 ?_
                  refine r_iconst (nI 1) dX6_stolen_101 (by decide) ?_
                  refine r_iald dX6_stolen_102 z_225 k_225 (vp_in_nI (by decide) (by decide)) (fun z34 hz34 => ?_)
                  rw [nI_clamp (by omega)] at hz34
                  obtain rfl : z34 = nI (s_hours wy k r 1) := hz34.trans ((congrFun (upo_n (by decide)) 1).trans (hI.2 1 (by decide)))
                  refine r_goto (tgt := 108) dX6_stolen_103 (by decide) ?_
                  refine r_iload_n dX6_stolen_108 rfl ?_
                  refine r_icmp_ne (tgt := 119) dX6_stolen_109 (by decide) (fun c109 => ?_) (fun c109 => ?_)
                  · skip
                    rw [nI_eq (by omega) (by omega)] at c109
                    have hst : ¬ s_st wy (s_hours wy k r) p (nI s) = p := by
                      unfold s_st
                      first | (rw [if_neg c94]; exact c109) | (rw [if_pos c94]; exact c109)
                    refine r_iconst (nI 0) dX6_stolen_119 (by decide) ?_
                    refine r_ior dX6_stolen_120 (fun z35 hz35 => ?_)
                    obtain rfl : z35 = nI (s_sb wy r p (nI s) (k + 1)) := hz35.trans (by first | exact (nI_or _ _).trans (congrArg nI (if_pos hst).symm) | exact (nI_or _ _).trans (congrArg nI ((Nat.or_zero _).trans (if_neg hst).symm)))
                    refine r_istore [(4, .int (nI (s_sb wy r p (nI s) (k + 1)))), (6, .int (if s_to (s_pull wy (s_hours wy k r) 63 p (nI s)) (s_hours wy k r 1) (s_hours wy k r 0) = 9 then (-1000000) else nI (s_to (s_pull wy (s_hours wy k r) 63 p (nI s)) (s_hours wy k r 1) (s_hours wy k r 0)))), (5, .int (nI k)), (0, .ref (B + 219)), (1, .int (nI p)), (2, .int (nI s)), (3, .int (nI n))] dX6_stolen_121 (by decide) rfl ?_
                    refine r_aload_n dX6_stolen_123 rfl ?_
                    refine r_aload_n dX6_stolen_124 rfl ?_
                    refine r_getR (ci := 6) (k := 7) wf_X6_25 dX6_stolen_125 z_219 k_219 (by decide) (by decide) (fun _ _ => rfl) f_219_7 ?_
                    refine r_iconst (nI 0) dX6_stolen_128 (by decide) ?_
                    refine r_iconst (nI 0) dX6_stolen_129 (by decide) ?_
                    refine r_callVV (As := [.ref (B + 225), .int (nI 0), .int (nI 0)]) (o := 219) (c_X6_hour B (upo Dk 229 g) E 225 (Or.inr rfl) (s_hours wy k r) wy t1 (999 + k) t3 (by omega) hM7 t4 (fun j hj => (hX7).wy hwy0 j (by rw [s_hours_0] at hj; exact hj))) hv_X6_hour wm_X6_185 dX6_stolen_130 rfl rfl z_219 k_219 (by decide) rfl (Nat.le_of_ble_eq_true rfl) ⟨Nat.le_of_ble_eq_true rfl, Nat.le_of_ble_eq_true rfl, Nat.zero_le _, Nat.zero_le _⟩ ⟨rfl, rfl⟩ (fun D37 E38 hz36 => ?_)
                    obtain ⟨hF9, hC9, hqE⟩ := hz36
                    obtain rfl := hqE.symm
                    have hX9 : MX D D37 := (hX7).trans (MX.of hF9)
                    refine r_iinc (nI (k + 1)) [(5, .int (nI (k + 1))), (4, .int (nI (s_sb wy r p (nI s) (k + 1)))), (6, .int (if s_to (s_pull wy (s_hours wy k r) 63 p (nI s)) (s_hours wy k r 1) (s_hours wy k r 0) = 9 then (-1000000) else nI (s_to (s_pull wy (s_hours wy k r) 63 p (nI s)) (s_hours wy k r 1) (s_hours wy k r 0)))), (0, .ref (B + 219)), (1, .int (nI p)), (2, .int (nI s)), (3, .int (nI n))] dX6_stolen_133 rfl (nI_1 _) (by decide) rfl ?_
                    refine r_goto (tgt := 60) dX6_stolen_136 (by decide) ?_
                    exact r_lv [(5, .int (nI (k + 1))), (4, .int (nI (s_sb wy r p (nI s) (k + 1)))), (0, .ref (B + 219)), (1, .int (nI p)), (2, .int (nI s)), (3, .int (nI n))] (List.forall_mem_cons.mpr ⟨rfl, List.forall_mem_cons.mpr ⟨rfl, List.forall_mem_cons.mpr ⟨rfl, List.forall_mem_cons.mpr ⟨rfl, List.forall_mem_cons.mpr ⟨rfl, List.forall_mem_cons.mpr ⟨rfl, fun _ h => absurd h List.not_mem_nil⟩⟩⟩⟩⟩⟩) (ih (k + 1) D37 (by omega) (by omega) (⟨hX9, hC9⟩))
                  · skip
                    rw [nI_eq (by omega) (by omega)] at c109
                    have hst : s_st wy (s_hours wy k r) p (nI s) = p := by
                      unfold s_st
                      first | (rw [if_neg c94]; exact c109) | (rw [if_pos c94]; exact c109)
                    refine r_iconst (nI 1) dX6_stolen_112 (by decide) ?_
                    refine r_iload dX6_stolen_113 rfl ?_
                    refine r_ishl dX6_stolen_115 (fun z39 hz39 => ?_)
                    obtain rfl : z39 = nI (2 ^ k) := hz39.trans (shl_1 (by omega))
                    refine r_goto (tgt := 120) dX6_stolen_116 (by decide) ?_
                    refine r_ior dX6_stolen_120 (fun z40 hz40 => ?_)
                    obtain rfl : z40 = nI (s_sb wy r p (nI s) (k + 1)) := hz40.trans (by first | exact (nI_or _ _).trans (congrArg nI (if_pos hst).symm) | exact (nI_or _ _).trans (congrArg nI ((Nat.or_zero _).trans (if_neg hst).symm)))
                    refine r_istore [(4, .int (nI (s_sb wy r p (nI s) (k + 1)))), (6, .int (if s_to (s_pull wy (s_hours wy k r) 63 p (nI s)) (s_hours wy k r 1) (s_hours wy k r 0) = 9 then (-1000000) else nI (s_to (s_pull wy (s_hours wy k r) 63 p (nI s)) (s_hours wy k r 1) (s_hours wy k r 0)))), (5, .int (nI k)), (0, .ref (B + 219)), (1, .int (nI p)), (2, .int (nI s)), (3, .int (nI n))] dX6_stolen_121 (by decide) rfl ?_
                    refine r_aload_n dX6_stolen_123 rfl ?_
                    refine r_aload_n dX6_stolen_124 rfl ?_
                    refine r_getR (ci := 6) (k := 7) wf_X6_25 dX6_stolen_125 z_219 k_219 (by decide) (by decide) (fun _ _ => rfl) f_219_7 ?_
                    refine r_iconst (nI 0) dX6_stolen_128 (by decide) ?_
                    refine r_iconst (nI 0) dX6_stolen_129 (by decide) ?_
                    refine r_callVV (As := [.ref (B + 225), .int (nI 0), .int (nI 0)]) (o := 219) (c_X6_hour B (upo Dk 229 g) E 225 (Or.inr rfl) (s_hours wy k r) wy t1 (999 + k) t3 (by omega) hM7 t4 (fun j hj => (hX7).wy hwy0 j (by rw [s_hours_0] at hj; exact hj))) hv_X6_hour wm_X6_185 dX6_stolen_130 rfl rfl z_219 k_219 (by decide) rfl (Nat.le_of_ble_eq_true rfl) ⟨Nat.le_of_ble_eq_true rfl, Nat.le_of_ble_eq_true rfl, Nat.zero_le _, Nat.zero_le _⟩ ⟨rfl, rfl⟩ (fun D42 E43 hz41 => ?_)
                    obtain ⟨hF9, hC9, hqE⟩ := hz41
                    obtain rfl := hqE.symm
                    have hX9 : MX D D42 := (hX7).trans (MX.of hF9)
                    refine r_iinc (nI (k + 1)) [(5, .int (nI (k + 1))), (4, .int (nI (s_sb wy r p (nI s) (k + 1)))), (6, .int (if s_to (s_pull wy (s_hours wy k r) 63 p (nI s)) (s_hours wy k r 1) (s_hours wy k r 0) = 9 then (-1000000) else nI (s_to (s_pull wy (s_hours wy k r) 63 p (nI s)) (s_hours wy k r 1) (s_hours wy k r 0)))), (0, .ref (B + 219)), (1, .int (nI p)), (2, .int (nI s)), (3, .int (nI n))] dX6_stolen_133 rfl (nI_1 _) (by decide) rfl ?_
                    refine r_goto (tgt := 60) dX6_stolen_136 (by decide) ?_
                    exact r_lv [(5, .int (nI (k + 1))), (4, .int (nI (s_sb wy r p (nI s) (k + 1)))), (0, .ref (B + 219)), (1, .int (nI p)), (2, .int (nI s)), (3, .int (nI n))] (List.forall_mem_cons.mpr ⟨rfl, List.forall_mem_cons.mpr ⟨rfl, List.forall_mem_cons.mpr ⟨rfl, List.forall_mem_cons.mpr ⟨rfl, List.forall_mem_cons.mpr ⟨rfl, List.forall_mem_cons.mpr ⟨rfl, fun _ h => absurd h List.not_mem_nil⟩⟩⟩⟩⟩⟩) (ih (k + 1) D42 (by omega) (by omega) (⟨hX9, hC9⟩))
          exact r_lv [(5, .int (nI 0)), (4, .int (nI (s_sb wy r p (nI s) 0))), (0, .ref (B + 219)), (1, .int (nI p)), (2, .int (nI s)), (3, .int (nI n))] (List.forall_mem_cons.mpr ⟨rfl, List.forall_mem_cons.mpr ⟨rfl, List.forall_mem_cons.mpr ⟨rfl, List.forall_mem_cons.mpr ⟨rfl, List.forall_mem_cons.mpr ⟨rfl, List.forall_mem_cons.mpr ⟨rfl, fun _ h => absurd h List.not_mem_nil⟩⟩⟩⟩⟩⟩) (L (n + 1) 0 D17 (by omega) (by omega) (⟨hXt, hL2⟩))
        · skip
          rw [bI_0] at c44
          refine r_ldc wc_X6_74 dX6_stolen_47 ?_
          refine r_iret2 dX6_stolen_49 rfl ⟨Nat.zero_le _, Nat.zero_le _⟩ ?_
          refine ⟨?_, MX.th, rfl⟩
          unfold g_stolen
          rw [if_pos c9]
          first | rw [if_neg c20] | rw [if_pos c20, if_neg c32] | rw [if_pos c20, if_pos c32, if_neg c44]
  · skip
    rw [bI_0] at c9
    refine r_ldc wc_X6_196 dX6_stolen_12 ?_
    refine r_iret2 dX6_stolen_14 rfl ⟨Nat.zero_le _, Nat.zero_le _⟩ ?_
    refine ⟨?_, MX.th, rfl⟩
    rw [if_neg c9]
set_option maxRecDepth 100000 in
set_option maxHeartbeats 4000000 in
theorem c_X6_fewest (B : Nat) (D : DD) (E : EE) (wy : Nat → Nat) (r : Row) (hX0 : XM D wy r) (pl x what : Int32) : MR yX6_fewest cX6_fewest 7 (some .int) rX6_fewest B [.ref (B + 219), .int pl, .int x, .int what] Z0 D E (Q2 Z0 (pI (fun v D' E' => v = (if 0 < r 0 then g_fewest wy r pl x what else -1000002) ∧ MX D D' ∧ E' = E))) := by
  have hX := hX0.th
  obtain ⟨hO, hM, hwy, hYY⟩ := id hX
  obtain ⟨l0, l5, l4, l6, l7, l8, l1⟩ := hO.le
  have hwy0 := hX0.2.2.1
  have hM0 := hX0.2.1
  refine r_enter [(0, .ref (B + 219)), (1, .int pl), (2, .int x), (3, .int what)] hv_X6_fewest.1.2.2.2.2 (Nat.le_of_ble_eq_true rfl) rfl ?_
  refine r_aload_n dX6_fewest_0 rfl ?_
  refine r_iconst (nI 0) dX6_fewest_1 (by decide) ?_
  refine r_putI (ci := 6) (k := 0) wf_X6_54 dX6_fewest_2 z_219 k_219 (by decide) (by decide) rfl rfl (fun D1 hD1 => ?_)
  obtain rfl : D1 = thD D := hD1.trans up2_eq
  refine r_aload_n dX6_fewest_5 rfl ?_
  refine r_callVI (As := []) (o := 219) (c_X6_isThere B (thD D) E (r 0) (hM 0 (by decide)) l0) hv_X6_isThere wm_X6_193 dX6_fewest_6 rfl rfl z_219 k_219 (by decide) rfl (Nat.le_of_ble_eq_true rfl) ⟨Nat.le_of_ble_eq_true rfl, Nat.le_of_ble_eq_true rfl, Nat.zero_le _, Nat.zero_le _⟩ ⟨rfl, rfl⟩ (fun z2 D3 E4 hz2 => ?_)
  obtain ⟨hqV, hqD, hqE⟩ := hz2
  obtain rfl : z2 = bI (0 < r 0) := hqV
  obtain rfl := hqD.symm
  obtain rfl := hqE.symm
  refine r_if_ne (tgt := 15) dX6_fewest_9 (by decide) (fun c9 => ?_) (fun c9 => ?_)
  · skip
    rw [bI_n0] at c9
    obtain ⟨hW, hT, hH⟩ := hO.p c9
    have hY := hYY hW
    obtain ⟨b1, b2, b3, b4, b5, b6, b7, b8⟩ := hW.1
    have hp2 := pw2_le b7
    have hp3 := Nat.one_le_two_pow (n := r 5)
    refine r_aload_n dX6_fewest_15 rfl ?_
    refine r_iload_n dX6_fewest_16 rfl ?_
    refine r_callVI (As := [.int pl]) (o := 219) (c_X6_isPlace B (thD D) E pl (r 0) (hM 0 (by decide))) hv_X6_isPlace wm_X6_205 dX6_fewest_17 rfl rfl z_219 k_219 (by decide) rfl (Nat.le_of_ble_eq_true rfl) ⟨Nat.le_of_ble_eq_true rfl, Nat.le_of_ble_eq_true rfl, Nat.zero_le _, Nat.zero_le _⟩ ⟨rfl, rfl⟩ (fun z5 D6 E7 hz5 => ?_)
    obtain ⟨hqV, hqD, hqE⟩ := hz5
    obtain rfl : z5 = bI (nI 0 ≤ pl ∧ pl ≤ nI (r 0) - nI 1) := hqV
    obtain rfl := hqD.symm
    obtain rfl := hqE.symm
    refine r_if_eq (tgt := 45) dX6_fewest_20 (by decide) (fun c20 => ?_) (fun c20 => ?_)
    · skip
      rw [bI_0] at c20
      refine r_ldc wc_X6_74 dX6_fewest_45 ?_
      refine r_iret2 dX6_fewest_47 rfl ⟨Nat.zero_le _, Nat.zero_le _⟩ ?_
      refine ⟨?_, MX.th, rfl⟩
      unfold g_fewest
      rw [if_pos c9]
      first | rw [if_neg c20] | rw [if_pos c20, if_neg c32] | rw [if_pos c20, if_pos c32, if_neg c42]
    · skip
      rw [bI_n0] at c20
      obtain ⟨p, hp1, rfl⟩ := gd_n (by omega) c20
      refine r_iload_n dX6_fewest_23 rfl ?_
      refine r_i2l dX6_fewest_24 (fun z8 hz8 => ?_)
      subst hz8
      refine r_lconst ((nI 1).toInt64) dX6_fewest_25 (by decide) ?_
      refine r_ldc2v ((nI 24).toInt64) wg_X6_197 dX6_fewest_26 (by decide) ?_
      refine r_callSI (As := [.long x.toInt64, .long ((nI 1).toInt64), .long ((nI 24).toInt64)]) (c_X6_in B (thD D) E x (nI 1) (nI 24)) hs_X6_in wm_X6_64 rfl dX6_fewest_29 rfl rfl (Nat.le_of_ble_eq_true rfl) ⟨Nat.le_of_ble_eq_true rfl, Nat.le_of_ble_eq_true rfl, Nat.zero_le _, Nat.zero_le _⟩ ⟨rfl, rfl⟩ (fun z9 D10 E11 hz9 => ?_)
      obtain ⟨hqV, hqD, hqE⟩ := hz9
      obtain rfl : z9 = bI (nI 1 ≤ x ∧ x ≤ nI 24) := hqV
      obtain rfl := hqD.symm
      obtain rfl := hqE.symm
      refine r_if_eq (tgt := 45) dX6_fewest_32 (by decide) (fun c32 => ?_) (fun c32 => ?_)
      · skip
        rw [bI_0] at c32
        refine r_ldc wc_X6_74 dX6_fewest_45 ?_
        refine r_iret2 dX6_fewest_47 rfl ⟨Nat.zero_le _, Nat.zero_le _⟩ ?_
        refine ⟨?_, MX.th, rfl⟩
        unfold g_fewest
        rw [if_pos c9]
        first | rw [if_neg c20] | rw [if_pos c20, if_neg c32] | rw [if_pos c20, if_pos c32, if_neg c42]
      · skip
        rw [bI_n0] at c32
        obtain ⟨n, hn1, hn2, rfl⟩ := rg (by decide) (by decide) c32
        refine r_iload_n dX6_fewest_35 rfl ?_
        refine r_i2l dX6_fewest_36 (fun z12 hz12 => ?_)
        subst hz12
        refine r_lconst ((nI 0).toInt64) dX6_fewest_37 (by decide) ?_
        refine r_lconst ((nI 1).toInt64) dX6_fewest_38 (by decide) ?_
        refine r_callSI (As := [.long what.toInt64, .long ((nI 0).toInt64), .long ((nI 1).toInt64)]) (c_X6_in B (thD D) E what (nI 0) (nI 1)) hs_X6_in wm_X6_64 rfl dX6_fewest_39 rfl rfl (Nat.le_of_ble_eq_true rfl) ⟨Nat.le_of_ble_eq_true rfl, Nat.le_of_ble_eq_true rfl, Nat.zero_le _, Nat.zero_le _⟩ ⟨rfl, rfl⟩ (fun z13 D14 E15 hz13 => ?_)
        obtain ⟨hqV, hqD, hqE⟩ := hz13
        obtain rfl : z13 = bI (nI 0 ≤ what ∧ what ≤ nI 1) := hqV
        obtain rfl := hqD.symm
        obtain rfl := hqE.symm
        refine r_if_ne (tgt := 48) dX6_fewest_42 (by decide) (fun c42 => ?_) (fun c42 => ?_)
        · skip
          rw [bI_n0] at c42
          obtain ⟨wh, hw1, hw2, rfl⟩ := rg (by decide) (by decide) c42
          refine r_ldc wc_X6_97 dX6_fewest_48 ?_
          refine r_istore [(4, .int ((-1000000))), (0, .ref (B + 219)), (1, .int (nI p)), (2, .int (nI n)), (3, .int (nI wh))] dX6_fewest_50 (by decide) rfl ?_
          refine r_iconst (nI 0) dX6_fewest_52 (by decide) ?_
          refine r_istore [(5, .int (nI 0)), (4, .int ((-1000000))), (0, .ref (B + 219)), (1, .int (nI p)), (2, .int (nI n)), (3, .int (nI wh))] dX6_fewest_53 (by decide) rfl ?_
          refine r_lv [(5, .int (nI 0)), (4, .int (s_opt (s_few wy r p n 0))), (0, .ref (B + 219)), (1, .int (nI p)), (2, .int (nI n)), (3, .int (nI wh))] (List.forall_mem_cons.mpr ⟨rfl, List.forall_mem_cons.mpr ⟨congrArg (fun x => some (Value.int x)) rfl, List.forall_mem_cons.mpr ⟨rfl, List.forall_mem_cons.mpr ⟨rfl, List.forall_mem_cons.mpr ⟨rfl, List.forall_mem_cons.mpr ⟨rfl, fun _ h => absurd h List.not_mem_nil⟩⟩⟩⟩⟩⟩) ?_
          have L : ∀ (fu k : Nat) (Dk : DD), k ≤ 2 ^ r 5 → 2 ^ r 5 - k < fu → (MX D Dk) → RW yX6_fewest cX6_fewest 7 (some .int) rX6_fewest B (Q2 Z0 (pI (fun v D' E' => v = (if 0 < r 0 then g_fewest wy r (nI p) (nI n) (nI wh) else -1000002) ∧ MX D D' ∧ E' = E))) Z0 Dk E 0 0 55 [(5, .int (nI k)), (4, .int (s_opt (s_few wy r p n k))), (0, .ref (B + 219)), (1, .int (nI p)), (2, .int (nI n)), (3, .int (nI wh))] [] := by
            intro fu
            induction fu with
            | zero => intro k Dk hku hfu _; omega
            | succ fu ih =>
              intro k Dk hku hfu hI
              have hlt : ∀ b, s_few wy r p n k = some b → b < 64 := fun b hb => by have := s_few_lt k b hb; omega
              refine r_iload dX6_fewest_55 rfl ?_
              refine r_iconst (nI 1) dX6_fewest_57 (by decide) ?_
              refine r_aload_n dX6_fewest_58 rfl ?_
              refine r_getR (ci := 6) (k := 5) wf_X6_19 dX6_fewest_59 z_219 k_219 (by decide) (by decide) (fun _ _ => rfl) f_219_5 ?_
              refine r_iconst (nI 5) dX6_fewest_62 (by decide) ?_
              refine r_iald dX6_fewest_63 z_223 k_223 (vp_in_nI (by decide) (by decide)) (fun z16 hz16 => ?_)
              rw [nI_clamp (by omega)] at hz16
              obtain rfl : z16 = nI (r 5) := hz16.trans ((hI).ma hM0 5 (by decide))
              refine r_ishl dX6_fewest_64 (fun z17 hz17 => ?_)
              obtain rfl : z17 = nI (2 ^ r 5) := hz17.trans (shl_1 (by omega))
              refine r_icmp_ge (tgt := 183) dX6_fewest_65 (by decide) (fun c65 => ?_) (fun c65 => ?_)
              · skip
                rw [nI_leI (by omega) (by omega)] at c65
                refine r_iload dX6_fewest_183 rfl ?_
                refine r_ldc wc_X6_97 dX6_fewest_185 ?_
                refine r_icmp_eq (tgt := 195) dX6_fewest_187 (by decide) (fun c187 => ?_) (fun c187 => ?_)
                · skip
                  rw [opt_none hlt] at c187
                  refine r_iload dX6_fewest_195 rfl ?_
                  refine r_goto (tgt := 205) dX6_fewest_197 (by decide) ?_
                  refine r_iret2 dX6_fewest_205 rfl ⟨Nat.zero_le _, Nat.zero_le _⟩ ?_
                  have hkn : k = 2 ^ r 5 := by omega
                  refine ⟨?_, hI, rfl⟩
                  unfold g_fewest
                  rw [if_pos c9, if_pos c20, if_pos c32, if_pos c42, nI_clamp (show p < 2 ^ 31 by omega), nI_clamp (show n < 2 ^ 31 by omega), ← hkn]
                  first
                    | (rw [c187]; rfl)
                    | (rw [hb]
                       show _ = (if nI wh = 0 then nI (s_bits b) else nI b)
                       first
                         | rw [if_neg (fun q => by have := (nI_z (by omega)).mp q; omega)]
                         | rw [if_pos ((nI_z (by omega)).mpr (by omega))])
                · skip
                  rw [opt_none hlt] at c187
                  obtain ⟨b, hb⟩ : ∃ b, s_few wy r p n k = some b := by
                    cases e : s_few wy r p n k with
                    | none => exact absurd e c187
                    | some b => exact ⟨b, rfl⟩
                  have hb6 := hlt b hb
                  refine r_lv [(5, .int (nI k)), (4, .int (nI b)), (0, .ref (B + 219)), (1, .int (nI p)), (2, .int (nI n)), (3, .int (nI wh))] (List.forall_mem_cons.mpr ⟨rfl, List.forall_mem_cons.mpr ⟨congrArg (fun x => some (Value.int x)) (by rw [hb]; rfl), List.forall_mem_cons.mpr ⟨rfl, List.forall_mem_cons.mpr ⟨rfl, List.forall_mem_cons.mpr ⟨rfl, List.forall_mem_cons.mpr ⟨rfl, fun _ h => absurd h List.not_mem_nil⟩⟩⟩⟩⟩⟩) ?_
                  refine r_iload_n dX6_fewest_190 rfl ?_
                  refine r_iconst (nI 1) dX6_fewest_191 (by decide) ?_
                  refine r_icmp_ne (tgt := 200) dX6_fewest_192 (by decide) (fun c192 => ?_) (fun c192 => ?_)
                  · skip
                    rw [nI_eq (by omega) (by omega)] at c192
                    refine r_iload dX6_fewest_200 rfl ?_
                    refine r_callSI (As := [.int (nI b)]) (c_X6_bits B Dk E b (by omega)) hs_X6_bits wm_X6_218 rfl dX6_fewest_202 rfl rfl (Nat.le_of_ble_eq_true rfl) ⟨Nat.le_of_ble_eq_true rfl, Nat.le_of_ble_eq_true rfl, Nat.zero_le _, Nat.zero_le _⟩ ⟨rfl, rfl⟩ (fun z18 D19 E20 hz18 => ?_)
                    obtain ⟨hqV, hqD, hqE⟩ := hz18
                    obtain rfl : z18 = nI (s_bits b) := hqV
                    obtain rfl := hqD.symm
                    obtain rfl := hqE.symm
                    refine r_iret2 dX6_fewest_205 rfl ⟨Nat.zero_le _, Nat.zero_le _⟩ ?_
                    have hkn : k = 2 ^ r 5 := by omega
                    refine ⟨?_, hI, rfl⟩
                    unfold g_fewest
                    rw [if_pos c9, if_pos c20, if_pos c32, if_pos c42, nI_clamp (show p < 2 ^ 31 by omega), nI_clamp (show n < 2 ^ 31 by omega), ← hkn]
                    first
                      | (rw [c187]; rfl)
                      | (rw [hb]
                         show _ = (if nI wh = 0 then nI (s_bits b) else nI b)
                         first
                           | rw [if_neg (fun q => by have := (nI_z (by omega)).mp q; omega)]
                           | rw [if_pos ((nI_z (by omega)).mpr (by omega))])
                  · skip
                    rw [nI_eq (by omega) (by omega)] at c192
                    refine r_iload dX6_fewest_195 rfl ?_
                    refine r_goto (tgt := 205) dX6_fewest_197 (by decide) ?_
                    refine r_iret2 dX6_fewest_205 rfl ⟨Nat.zero_le _, Nat.zero_le _⟩ ?_
                    have hkn : k = 2 ^ r 5 := by omega
                    refine ⟨?_, hI, rfl⟩
                    unfold g_fewest
                    rw [if_pos c9, if_pos c20, if_pos c32, if_pos c42, nI_clamp (show p < 2 ^ 31 by omega), nI_clamp (show n < 2 ^ 31 by omega), ← hkn]
                    first
                      | (rw [c187]; rfl)
                      | (rw [hb]
                         show _ = (if nI wh = 0 then nI (s_bits b) else nI b)
                         first
                           | rw [if_neg (fun q => by have := (nI_z (by omega)).mp q; omega)]
                           | rw [if_pos ((nI_z (by omega)).mpr (by omega))])
              · skip
                rw [nI_leI (by omega) (by omega)] at c65
                refine r_iload dX6_fewest_68 rfl ?_
                refine r_ldc wc_X6_97 dX6_fewest_70 ?_
                refine r_icmp_eq (tgt := 88) dX6_fewest_72 (by decide) (fun c72 => ?_) (fun c72 => ?_)
                · skip
                  rw [opt_none hlt] at c72
                  have hfm : s_bits k < f_many (s_few wy r p n k) := by rw [c72]; show s_bits k < 7; have := s_bits_le (c := k); omega
                  refine r_aload_n dX6_fewest_88 rfl ?_
                  refine r_callVV (As := []) (o := 219) (c_X6_layThen B Dk E r ((hI).ma hM0)) hv_X6_layThen wm_X6_212 dX6_fewest_89 rfl rfl z_219 k_219 (by decide) rfl (Nat.le_of_ble_eq_true rfl) ⟨Nat.le_of_ble_eq_true rfl, Nat.le_of_ble_eq_true rfl, Nat.zero_le _, Nat.zero_le _⟩ ⟨rfl, rfl⟩ (fun D22 E23 hz21 => ?_)
                  obtain ⟨hL1, hL2, hqE⟩ := hz21
                  obtain rfl := hqE.symm
                  have hXt : MX D D22 := (hI).trans (MX.of (fun q a _ => hL1 q a))
                  refine r_iconst (nI 0) dX6_fewest_92 (by decide) ?_
                  refine r_istore [(6, .int (nI 0)), (5, .int (nI k)), (4, .int (s_opt (s_few wy r p n k))), (0, .ref (B + 219)), (1, .int (nI p)), (2, .int (nI n)), (3, .int (nI wh))] dX6_fewest_93 (by decide) rfl ?_
                  have L2 : ∀ (fu j : Nat) (Dj : DD), j ≤ r 5 → r 5 - j < fu → (MX D Dj ∧ MA Dj 225 (s_rn r k j)) → RW yX6_fewest cX6_fewest 7 (some .int) rX6_fewest B (Q2 Z0 (pI (fun v D' E' => v = (if 0 < r 0 then g_fewest wy r (nI p) (nI n) (nI wh) else -1000002) ∧ MX D D' ∧ E' = E))) Z0 Dj E 0 0 95 [(6, .int (nI j)), (5, .int (nI k)), (4, .int (s_opt (s_few wy r p n k))), (0, .ref (B + 219)), (1, .int (nI p)), (2, .int (nI n)), (3, .int (nI wh))] [] := by
                    intro fu
                    induction fu with
                    | zero => intro j Dj hku hfu _; omega
                    | succ fu ihL2 =>
                      intro j Dj hku hfu hI
                      have hJ := hI
                      refine r_iload dX6_fewest_95 rfl ?_
                      refine r_aload_n dX6_fewest_97 rfl ?_
                      refine r_getR (ci := 6) (k := 5) wf_X6_19 dX6_fewest_98 z_219 k_219 (by decide) (by decide) (fun _ _ => rfl) f_219_5 ?_
                      refine r_iconst (nI 5) dX6_fewest_101 (by decide) ?_
                      refine r_iald dX6_fewest_102 z_223 k_223 (vp_in_nI (by decide) (by decide)) (fun z24 hz24 => ?_)
                      rw [nI_clamp (by omega)] at hz24
                      obtain rfl : z24 = nI (r 5) := hz24.trans (hJ.1.ma hM0 5 (by decide))
                      refine r_icmp_ge (tgt := 159) dX6_fewest_103 (by decide) (fun c103 => ?_) (fun c103 => ?_)
                      · skip
                        rw [nI_leI (by omega) (by omega)] at c103
                        have e9 : j = r 5 := by omega
                        have hM6 : MA Dj 225 (s_rest r k) := by rw [← s_rn_e, ← e9]; exact hJ.2
                        have hWr : WF (s_rest r k) := WF_rest hW
                        have hkr := (s_hours_k hWr (T2_rest hT) (HB_rest hH) (WY_rest hY) n).1.1
                        obtain ⟨k1, k2, k3, -⟩ := hkr
                        refine r_aload_n dX6_fewest_159 rfl ?_
                        refine r_iload_n dX6_fewest_160 rfl ?_
                        refine r_callVI (As := [.int (nI n)]) (o := 219) (c_X6_atBehind B Dj E (s_rest r k) wy hWr (T2_rest hT) 999 n (HB_rest hH) (by omega) hM6 (WY_rest hY) (hJ.1.wy (by rw [s_rest_o (by omega)]; exact hwy0))) hv_X6_atBehind wm_X6_215 dX6_fewest_161 rfl rfl z_219 k_219 (by decide) rfl (Nat.le_of_ble_eq_true rfl) ⟨Nat.le_of_ble_eq_true rfl, Nat.le_of_ble_eq_true rfl, Nat.zero_le _, Nat.zero_le _⟩ ⟨rfl, rfl⟩ (fun z25 D26 E27 hz25 => ?_)
                        obtain ⟨hq1, hF9, hC9, hqE⟩ := hz25
                        obtain rfl := hqE.symm
                        obtain rfl := hq1.symm
                        have hX9 : MX D D26 := hJ.1.trans (MX.of hF9)
                        refine r_iload_n dX6_fewest_164 rfl ?_
                        refine r_icmp_ne (tgt := 173) dX6_fewest_165 (by decide) (fun c165 => ?_) (fun c165 => ?_)
                        · skip
                          rw [nI_eq (by omega) (by omega)] at c165
                          refine r_iload dX6_fewest_173 rfl ?_
                          refine r_istore [(4, .int (s_opt (s_few wy r p n k))), (6, .int (nI j)), (5, .int (nI k)), (0, .ref (B + 219)), (1, .int (nI p)), (2, .int (nI n)), (3, .int (nI wh))] dX6_fewest_175 (by decide) rfl ?_
                          refine r_lv [(4, .int (s_opt (s_few wy r p n (k + 1)))), (6, .int (nI j)), (5, .int (nI k)), (0, .ref (B + 219)), (1, .int (nI p)), (2, .int (nI n)), (3, .int (nI wh))] (List.forall_mem_cons.mpr ⟨congrArg (fun x => some (Value.int x)) ((by first | (rw [s_few_t hfm c165]; rfl) | (rw [s_few_f (fun q => c165 q.2)]; done) | (rw [s_few_f (fun q => c165 q.2), hb]; rfl))), List.forall_mem_cons.mpr ⟨rfl, List.forall_mem_cons.mpr ⟨rfl, List.forall_mem_cons.mpr ⟨rfl, List.forall_mem_cons.mpr ⟨rfl, List.forall_mem_cons.mpr ⟨rfl, List.forall_mem_cons.mpr ⟨rfl, fun _ h => absurd h List.not_mem_nil⟩⟩⟩⟩⟩⟩⟩) ?_
                          refine r_iinc (nI (k + 1)) [(5, .int (nI (k + 1))), (4, .int (s_opt (s_few wy r p n (k + 1)))), (6, .int (nI j)), (0, .ref (B + 219)), (1, .int (nI p)), (2, .int (nI n)), (3, .int (nI wh))] dX6_fewest_177 rfl (nI_1 _) (by decide) rfl ?_
                          refine r_goto (tgt := 55) dX6_fewest_180 (by decide) ?_
                          exact r_lv [(5, .int (nI (k + 1))), (4, .int (s_opt (s_few wy r p n (k + 1)))), (0, .ref (B + 219)), (1, .int (nI p)), (2, .int (nI n)), (3, .int (nI wh))] (List.forall_mem_cons.mpr ⟨rfl, List.forall_mem_cons.mpr ⟨rfl, List.forall_mem_cons.mpr ⟨rfl, List.forall_mem_cons.mpr ⟨rfl, List.forall_mem_cons.mpr ⟨rfl, List.forall_mem_cons.mpr ⟨rfl, fun _ h => absurd h List.not_mem_nil⟩⟩⟩⟩⟩⟩) (ih (k + 1) D26 (by omega) (by omega) hX9)
                        · skip
                          rw [nI_eq (by omega) (by omega)] at c165
                          refine r_iload dX6_fewest_168 rfl ?_
                          refine r_goto (tgt := 175) dX6_fewest_170 (by decide) ?_
                          refine r_istore [(4, .int (nI k)), (6, .int (nI j)), (5, .int (nI k)), (0, .ref (B + 219)), (1, .int (nI p)), (2, .int (nI n)), (3, .int (nI wh))] dX6_fewest_175 (by decide) rfl ?_
                          refine r_lv [(4, .int (s_opt (s_few wy r p n (k + 1)))), (6, .int (nI j)), (5, .int (nI k)), (0, .ref (B + 219)), (1, .int (nI p)), (2, .int (nI n)), (3, .int (nI wh))] (List.forall_mem_cons.mpr ⟨congrArg (fun x => some (Value.int x)) ((by first | (rw [s_few_t hfm c165]; rfl) | (rw [s_few_f (fun q => c165 q.2)]; done) | (rw [s_few_f (fun q => c165 q.2), hb]; rfl))), List.forall_mem_cons.mpr ⟨rfl, List.forall_mem_cons.mpr ⟨rfl, List.forall_mem_cons.mpr ⟨rfl, List.forall_mem_cons.mpr ⟨rfl, List.forall_mem_cons.mpr ⟨rfl, List.forall_mem_cons.mpr ⟨rfl, fun _ h => absurd h List.not_mem_nil⟩⟩⟩⟩⟩⟩⟩) ?_
                          refine r_iinc (nI (k + 1)) [(5, .int (nI (k + 1))), (4, .int (s_opt (s_few wy r p n (k + 1)))), (6, .int (nI j)), (0, .ref (B + 219)), (1, .int (nI p)), (2, .int (nI n)), (3, .int (nI wh))] dX6_fewest_177 rfl (nI_1 _) (by decide) rfl ?_
                          refine r_goto (tgt := 55) dX6_fewest_180 (by decide) ?_
                          exact r_lv [(5, .int (nI (k + 1))), (4, .int (s_opt (s_few wy r p n (k + 1)))), (0, .ref (B + 219)), (1, .int (nI p)), (2, .int (nI n)), (3, .int (nI wh))] (List.forall_mem_cons.mpr ⟨rfl, List.forall_mem_cons.mpr ⟨rfl, List.forall_mem_cons.mpr ⟨rfl, List.forall_mem_cons.mpr ⟨rfl, List.forall_mem_cons.mpr ⟨rfl, List.forall_mem_cons.mpr ⟨rfl, fun _ h => absurd h List.not_mem_nil⟩⟩⟩⟩⟩⟩) (ih (k + 1) D26 (by omega) (by omega) hX9)
                      · skip
                        rw [nI_leI (by omega) (by omega)] at c103
                        refine r_aload_n dX6_fewest_106 rfl ?_
                        refine r_getR (ci := 6) (k := 7) wf_X6_25 dX6_fewest_107 z_219 k_219 (by decide) (by decide) (fun _ _ => rfl) f_219_7 ?_
                        refine r_bipush (nI 16) dX6_fewest_110 (by decide) ?_
                        refine r_bipush (nI 8) dX6_fewest_112 (by decide) ?_
                        refine r_iload dX6_fewest_114 rfl ?_
                        refine r_imul dX6_fewest_116 (fun z28 hz28 => ?_)
                        obtain rfl : z28 = nI (8 * j) := (hz28.trans (pk_mul _ _))
                        refine r_iadd dX6_fewest_117 (fun z29 hz29 => ?_)
                        obtain rfl : z29 = nI (16 + (8 * j)) := (hz29.trans (nI_add _ _))
                        refine r_bipush (nI 7) dX6_fewest_118 (by decide) ?_
                        refine r_iadd dX6_fewest_120 (fun z30 hz30 => ?_)
                        obtain rfl : z30 = nI ((16 + (8 * j)) + 7) := (hz30.trans (nI_add _ _))
                        refine r_iload dX6_fewest_121 rfl ?_
                        refine r_iload dX6_fewest_123 rfl ?_
                        refine r_ishr dX6_fewest_125 (fun z31 hz31 => ?_)
                        obtain rfl : z31 = nI k >>> (nI j &&& 31) := hz31
                        refine r_iconst (nI 1) dX6_fewest_126 (by decide) ?_
                        refine r_iand dX6_fewest_127 (fun z32 hz32 => ?_)
                        obtain rfl : z32 = nI (k / 2 ^ j % 2) := hz32.trans (bit_n (by omega) (by omega))
                        refine r_iconst (nI 1) dX6_fewest_128 (by decide) ?_
                        refine r_icmp_ne (tgt := 151) dX6_fewest_129 (by decide) (fun c129 => ?_) (fun c129 => ?_)
                        · skip
                          rw [nI_eq (by omega) (by omega)] at c129
                          refine r_iconst (nI 1) dX6_fewest_151 (by decide) ?_
                          refine r_iast dX6_fewest_152 z_225 k_225 (vp_in_nI (by omega) (by decide)) (fun D33 hD33 => ?_)
                          rw [nI_clamp (by omega)] at hD33
                          have hJ7 : MX D D33 := hJ.1.trans (MX.of (fun q h1 h2 => by rw [hD33]; exact up2_o h1))
                          have hJ8 : MA D33 225 (s_rn r k (j + 1)) := by
                            rw [hD33]
                            first
                              | (rw [← s_rn_t c129]; exact MA_set hJ.2 (by omega))
                              | (rw [← s_rn_f c129]; exact MA_set hJ.2 (by omega))
                          refine r_iinc (nI (j + 1)) [(6, .int (nI (j + 1))), (5, .int (nI k)), (4, .int (s_opt (s_few wy r p n k))), (0, .ref (B + 219)), (1, .int (nI p)), (2, .int (nI n)), (3, .int (nI wh))] dX6_fewest_153 rfl (nI_1 _) (by decide) rfl ?_
                          refine r_goto (tgt := 95) dX6_fewest_156 (by decide) ?_
                          exact r_lv [(6, .int (nI (j + 1))), (5, .int (nI k)), (4, .int (s_opt (s_few wy r p n k))), (0, .ref (B + 219)), (1, .int (nI p)), (2, .int (nI n)), (3, .int (nI wh))] (List.forall_mem_cons.mpr ⟨rfl, List.forall_mem_cons.mpr ⟨rfl, List.forall_mem_cons.mpr ⟨rfl, List.forall_mem_cons.mpr ⟨rfl, List.forall_mem_cons.mpr ⟨rfl, List.forall_mem_cons.mpr ⟨rfl, List.forall_mem_cons.mpr ⟨rfl, fun _ h => absurd h List.not_mem_nil⟩⟩⟩⟩⟩⟩⟩) (ihL2 (j + 1) D33 (by omega) (by omega) (⟨hJ7, hJ8⟩))
                        · skip
                          rw [nI_eq (by omega) (by omega)] at c129
                          refine r_aload_n dX6_fewest_132 rfl ?_
                          refine r_getR (ci := 6) (k := 7) wf_X6_25 dX6_fewest_133 z_219 k_219 (by decide) (by decide) (fun _ _ => rfl) f_219_7 ?_
                          refine r_bipush (nI 16) dX6_fewest_136 (by decide) ?_
                          refine r_bipush (nI 8) dX6_fewest_138 (by decide) ?_
                          refine r_iload dX6_fewest_140 rfl ?_
                          refine r_imul dX6_fewest_142 (fun z34 hz34 => ?_)
                          obtain rfl : z34 = nI (8 * j) := (hz34.trans (pk_mul _ _))
                          refine r_iadd dX6_fewest_143 (fun z35 hz35 => ?_)
                          obtain rfl : z35 = nI (16 + (8 * j)) := (hz35.trans (nI_add _ _))
                          refine r_bipush (nI 7) dX6_fewest_144 (by decide) ?_
                          refine r_iadd dX6_fewest_146 (fun z36 hz36 => ?_)
                          obtain rfl : z36 = nI ((16 + (8 * j)) + 7) := (hz36.trans (nI_add _ _))
                          refine r_iald dX6_fewest_147 z_225 k_225 (vp_in_nI (by omega) (by decide)) (fun z37 hz37 => ?_)
                          rw [nI_clamp (by omega)] at hz37
                          obtain rfl : z37 = nI (s_rn r k j (23 + 8 * j)) := hz37.trans (MA_at hJ.2 (by omega) (by omega))
                          refine r_goto (tgt := 152) dX6_fewest_148 (by decide) ?_
                          refine r_iast dX6_fewest_152 z_225 k_225 (vp_in_nI (by omega) (by decide)) (fun D38 hD38 => ?_)
                          rw [nI_clamp (by omega)] at hD38
                          have hJ7 : MX D D38 := hJ.1.trans (MX.of (fun q h1 h2 => by rw [hD38]; exact up2_o h1))
                          have hJ8 : MA D38 225 (s_rn r k (j + 1)) := by
                            rw [hD38]
                            first
                              | (rw [← s_rn_t c129]; exact MA_set hJ.2 (by omega))
                              | (rw [← s_rn_f c129]; exact MA_set hJ.2 (by omega))
                          refine r_iinc (nI (j + 1)) [(6, .int (nI (j + 1))), (5, .int (nI k)), (4, .int (s_opt (s_few wy r p n k))), (0, .ref (B + 219)), (1, .int (nI p)), (2, .int (nI n)), (3, .int (nI wh))] dX6_fewest_153 rfl (nI_1 _) (by decide) rfl ?_
                          refine r_goto (tgt := 95) dX6_fewest_156 (by decide) ?_
                          exact r_lv [(6, .int (nI (j + 1))), (5, .int (nI k)), (4, .int (s_opt (s_few wy r p n k))), (0, .ref (B + 219)), (1, .int (nI p)), (2, .int (nI n)), (3, .int (nI wh))] (List.forall_mem_cons.mpr ⟨rfl, List.forall_mem_cons.mpr ⟨rfl, List.forall_mem_cons.mpr ⟨rfl, List.forall_mem_cons.mpr ⟨rfl, List.forall_mem_cons.mpr ⟨rfl, List.forall_mem_cons.mpr ⟨rfl, List.forall_mem_cons.mpr ⟨rfl, fun _ h => absurd h List.not_mem_nil⟩⟩⟩⟩⟩⟩⟩) (ihL2 (j + 1) D38 (by omega) (by omega) (⟨hJ7, hJ8⟩))
                  exact r_lv [(6, .int (nI 0)), (5, .int (nI k)), (4, .int (s_opt (s_few wy r p n k))), (0, .ref (B + 219)), (1, .int (nI p)), (2, .int (nI n)), (3, .int (nI wh))] (List.forall_mem_cons.mpr ⟨rfl, List.forall_mem_cons.mpr ⟨rfl, List.forall_mem_cons.mpr ⟨rfl, List.forall_mem_cons.mpr ⟨rfl, List.forall_mem_cons.mpr ⟨rfl, List.forall_mem_cons.mpr ⟨rfl, List.forall_mem_cons.mpr ⟨rfl, fun _ h => absurd h List.not_mem_nil⟩⟩⟩⟩⟩⟩⟩) (L2 (r 5 + 1) 0 D22 (by omega) (by omega) (⟨hXt, by rw [s_rn_0]; exact hL2⟩))
                · skip
                  rw [opt_none hlt] at c72
                  obtain ⟨b, hb⟩ : ∃ b, s_few wy r p n k = some b := by
                    cases e : s_few wy r p n k with
                    | none => exact absurd e c72
                    | some b => exact ⟨b, rfl⟩
                  have hb6 := hlt b hb
                  have hbs := s_bits_le (c := b)
                  have hks := s_bits_le (c := k)
                  refine r_lv [(5, .int (nI k)), (4, .int (nI b)), (0, .ref (B + 219)), (1, .int (nI p)), (2, .int (nI n)), (3, .int (nI wh))] (List.forall_mem_cons.mpr ⟨rfl, List.forall_mem_cons.mpr ⟨congrArg (fun x => some (Value.int x)) (by rw [hb]; rfl), List.forall_mem_cons.mpr ⟨rfl, List.forall_mem_cons.mpr ⟨rfl, List.forall_mem_cons.mpr ⟨rfl, List.forall_mem_cons.mpr ⟨rfl, fun _ h => absurd h List.not_mem_nil⟩⟩⟩⟩⟩⟩) ?_
                  refine r_iload dX6_fewest_75 rfl ?_
                  refine r_callSI (As := [.int (nI k)]) (c_X6_bits B Dk E k (by omega)) hs_X6_bits wm_X6_218 rfl dX6_fewest_77 rfl rfl (Nat.le_of_ble_eq_true rfl) ⟨Nat.le_of_ble_eq_true rfl, Nat.le_of_ble_eq_true rfl, Nat.zero_le _, Nat.zero_le _⟩ ⟨rfl, rfl⟩ (fun z39 D40 E41 hz39 => ?_)
                  obtain ⟨hqV, hqD, hqE⟩ := hz39
                  obtain rfl : z39 = nI (s_bits k) := hqV
                  obtain rfl := hqD.symm
                  obtain rfl := hqE.symm
                  refine r_iload dX6_fewest_80 rfl ?_
                  refine r_callSI (As := [.int (nI b)]) (c_X6_bits B Dk E b (by omega)) hs_X6_bits wm_X6_218 rfl dX6_fewest_82 rfl rfl (Nat.le_of_ble_eq_true rfl) ⟨Nat.le_of_ble_eq_true rfl, Nat.le_of_ble_eq_true rfl, Nat.zero_le _, Nat.zero_le _⟩ ⟨rfl, rfl⟩ (fun z42 D43 E44 hz42 => ?_)
                  obtain ⟨hqV, hqD, hqE⟩ := hz42
                  obtain rfl : z42 = nI (s_bits b) := hqV
                  obtain rfl := hqD.symm
                  obtain rfl := hqE.symm
                  refine r_icmp_ge (tgt := 177) dX6_fewest_85 (by decide) (fun c85 => ?_) (fun c85 => ?_)
                  · skip
                    rw [nI_leI (by omega) (by omega)] at c85
                    have hX9 : MX D Dk := hI
                    refine r_lv [(5, .int (nI k)), (4, .int (s_opt (s_few wy r p n (k + 1)))), (0, .ref (B + 219)), (1, .int (nI p)), (2, .int (nI n)), (3, .int (nI wh))] (List.forall_mem_cons.mpr ⟨rfl, List.forall_mem_cons.mpr ⟨congrArg (fun x => some (Value.int x)) ((by rw [s_few_f (wy := wy) (r := r) (pl := p) (n := n) (c := k) (fun q => by have q1 := q.1; rw [hb] at q1; have q2 : s_bits k < s_bits b := q1; omega), hb]; rfl)), List.forall_mem_cons.mpr ⟨rfl, List.forall_mem_cons.mpr ⟨rfl, List.forall_mem_cons.mpr ⟨rfl, List.forall_mem_cons.mpr ⟨rfl, fun _ h => absurd h List.not_mem_nil⟩⟩⟩⟩⟩⟩) ?_
                    refine r_iinc (nI (k + 1)) [(5, .int (nI (k + 1))), (4, .int (s_opt (s_few wy r p n (k + 1)))), (0, .ref (B + 219)), (1, .int (nI p)), (2, .int (nI n)), (3, .int (nI wh))] dX6_fewest_177 rfl (nI_1 _) (by decide) rfl ?_
                    refine r_goto (tgt := 55) dX6_fewest_180 (by decide) ?_
                    exact r_lv [(5, .int (nI (k + 1))), (4, .int (s_opt (s_few wy r p n (k + 1)))), (0, .ref (B + 219)), (1, .int (nI p)), (2, .int (nI n)), (3, .int (nI wh))] (List.forall_mem_cons.mpr ⟨rfl, List.forall_mem_cons.mpr ⟨rfl, List.forall_mem_cons.mpr ⟨rfl, List.forall_mem_cons.mpr ⟨rfl, List.forall_mem_cons.mpr ⟨rfl, List.forall_mem_cons.mpr ⟨rfl, fun _ h => absurd h List.not_mem_nil⟩⟩⟩⟩⟩⟩) (ih (k + 1) Dk (by omega) (by omega) hX9)
                  · skip
                    rw [nI_leI (by omega) (by omega)] at c85
                    have hfm : s_bits k < f_many (s_few wy r p n k) := by rw [hb]; show s_bits k < s_bits b; omega
                    refine r_aload_n dX6_fewest_88 rfl ?_
                    refine r_callVV (As := []) (o := 219) (c_X6_layThen B Dk E r ((hI).ma hM0)) hv_X6_layThen wm_X6_212 dX6_fewest_89 rfl rfl z_219 k_219 (by decide) rfl (Nat.le_of_ble_eq_true rfl) ⟨Nat.le_of_ble_eq_true rfl, Nat.le_of_ble_eq_true rfl, Nat.zero_le _, Nat.zero_le _⟩ ⟨rfl, rfl⟩ (fun D46 E47 hz45 => ?_)
                    obtain ⟨hL1, hL2, hqE⟩ := hz45
                    obtain rfl := hqE.symm
                    have hXt : MX D D46 := (hI).trans (MX.of (fun q a _ => hL1 q a))
                    refine r_iconst (nI 0) dX6_fewest_92 (by decide) ?_
                    refine r_istore [(6, .int (nI 0)), (5, .int (nI k)), (4, .int (nI b)), (0, .ref (B + 219)), (1, .int (nI p)), (2, .int (nI n)), (3, .int (nI wh))] dX6_fewest_93 (by decide) rfl ?_
                    have L2 : ∀ (fu j : Nat) (Dj : DD), j ≤ r 5 → r 5 - j < fu → (MX D Dj ∧ MA Dj 225 (s_rn r k j)) → RW yX6_fewest cX6_fewest 7 (some .int) rX6_fewest B (Q2 Z0 (pI (fun v D' E' => v = (if 0 < r 0 then g_fewest wy r (nI p) (nI n) (nI wh) else -1000002) ∧ MX D D' ∧ E' = E))) Z0 Dj E 0 0 95 [(6, .int (nI j)), (5, .int (nI k)), (4, .int (nI b)), (0, .ref (B + 219)), (1, .int (nI p)), (2, .int (nI n)), (3, .int (nI wh))] [] := by
                      intro fu
                      induction fu with
                      | zero => intro j Dj hku hfu _; omega
                      | succ fu ihL2 =>
                        intro j Dj hku hfu hI
                        have hJ := hI
                        refine r_iload dX6_fewest_95 rfl ?_
                        refine r_aload_n dX6_fewest_97 rfl ?_
                        refine r_getR (ci := 6) (k := 5) wf_X6_19 dX6_fewest_98 z_219 k_219 (by decide) (by decide) (fun _ _ => rfl) f_219_5 ?_
                        refine r_iconst (nI 5) dX6_fewest_101 (by decide) ?_
                        refine r_iald dX6_fewest_102 z_223 k_223 (vp_in_nI (by decide) (by decide)) (fun z48 hz48 => ?_)
                        rw [nI_clamp (by omega)] at hz48
                        obtain rfl : z48 = nI (r 5) := hz48.trans (hJ.1.ma hM0 5 (by decide))
                        refine r_icmp_ge (tgt := 159) dX6_fewest_103 (by decide) (fun c103 => ?_) (fun c103 => ?_)
                        · skip
                          rw [nI_leI (by omega) (by omega)] at c103
                          have e9 : j = r 5 := by omega
                          have hM6 : MA Dj 225 (s_rest r k) := by rw [← s_rn_e, ← e9]; exact hJ.2
                          have hWr : WF (s_rest r k) := WF_rest hW
                          have hkr := (s_hours_k hWr (T2_rest hT) (HB_rest hH) (WY_rest hY) n).1.1
                          obtain ⟨k1, k2, k3, -⟩ := hkr
                          refine r_aload_n dX6_fewest_159 rfl ?_
                          refine r_iload_n dX6_fewest_160 rfl ?_
                          refine r_callVI (As := [.int (nI n)]) (o := 219) (c_X6_atBehind B Dj E (s_rest r k) wy hWr (T2_rest hT) 999 n (HB_rest hH) (by omega) hM6 (WY_rest hY) (hJ.1.wy (by rw [s_rest_o (by omega)]; exact hwy0))) hv_X6_atBehind wm_X6_215 dX6_fewest_161 rfl rfl z_219 k_219 (by decide) rfl (Nat.le_of_ble_eq_true rfl) ⟨Nat.le_of_ble_eq_true rfl, Nat.le_of_ble_eq_true rfl, Nat.zero_le _, Nat.zero_le _⟩ ⟨rfl, rfl⟩ (fun z49 D50 E51 hz49 => ?_)
                          obtain ⟨hq1, hF9, hC9, hqE⟩ := hz49
                          obtain rfl := hqE.symm
                          obtain rfl := hq1.symm
                          have hX9 : MX D D50 := hJ.1.trans (MX.of hF9)
                          refine r_iload_n dX6_fewest_164 rfl ?_
                          refine r_icmp_ne (tgt := 173) dX6_fewest_165 (by decide) (fun c165 => ?_) (fun c165 => ?_)
                          · skip
                            rw [nI_eq (by omega) (by omega)] at c165
                            refine r_iload dX6_fewest_173 rfl ?_
                            refine r_istore [(4, .int (nI b)), (6, .int (nI j)), (5, .int (nI k)), (0, .ref (B + 219)), (1, .int (nI p)), (2, .int (nI n)), (3, .int (nI wh))] dX6_fewest_175 (by decide) rfl ?_
                            refine r_lv [(4, .int (s_opt (s_few wy r p n (k + 1)))), (6, .int (nI j)), (5, .int (nI k)), (0, .ref (B + 219)), (1, .int (nI p)), (2, .int (nI n)), (3, .int (nI wh))] (List.forall_mem_cons.mpr ⟨congrArg (fun x => some (Value.int x)) ((by first | (rw [s_few_t hfm c165]; rfl) | (rw [s_few_f (fun q => c165 q.2)]; done) | (rw [s_few_f (fun q => c165 q.2), hb]; rfl))), List.forall_mem_cons.mpr ⟨rfl, List.forall_mem_cons.mpr ⟨rfl, List.forall_mem_cons.mpr ⟨rfl, List.forall_mem_cons.mpr ⟨rfl, List.forall_mem_cons.mpr ⟨rfl, List.forall_mem_cons.mpr ⟨rfl, fun _ h => absurd h List.not_mem_nil⟩⟩⟩⟩⟩⟩⟩) ?_
                            refine r_iinc (nI (k + 1)) [(5, .int (nI (k + 1))), (4, .int (s_opt (s_few wy r p n (k + 1)))), (6, .int (nI j)), (0, .ref (B + 219)), (1, .int (nI p)), (2, .int (nI n)), (3, .int (nI wh))] dX6_fewest_177 rfl (nI_1 _) (by decide) rfl ?_
                            refine r_goto (tgt := 55) dX6_fewest_180 (by decide) ?_
                            exact r_lv [(5, .int (nI (k + 1))), (4, .int (s_opt (s_few wy r p n (k + 1)))), (0, .ref (B + 219)), (1, .int (nI p)), (2, .int (nI n)), (3, .int (nI wh))] (List.forall_mem_cons.mpr ⟨rfl, List.forall_mem_cons.mpr ⟨rfl, List.forall_mem_cons.mpr ⟨rfl, List.forall_mem_cons.mpr ⟨rfl, List.forall_mem_cons.mpr ⟨rfl, List.forall_mem_cons.mpr ⟨rfl, fun _ h => absurd h List.not_mem_nil⟩⟩⟩⟩⟩⟩) (ih (k + 1) D50 (by omega) (by omega) hX9)
                          · skip
                            rw [nI_eq (by omega) (by omega)] at c165
                            refine r_iload dX6_fewest_168 rfl ?_
                            refine r_goto (tgt := 175) dX6_fewest_170 (by decide) ?_
                            refine r_istore [(4, .int (nI k)), (6, .int (nI j)), (5, .int (nI k)), (0, .ref (B + 219)), (1, .int (nI p)), (2, .int (nI n)), (3, .int (nI wh))] dX6_fewest_175 (by decide) rfl ?_
                            refine r_lv [(4, .int (s_opt (s_few wy r p n (k + 1)))), (6, .int (nI j)), (5, .int (nI k)), (0, .ref (B + 219)), (1, .int (nI p)), (2, .int (nI n)), (3, .int (nI wh))] (List.forall_mem_cons.mpr ⟨congrArg (fun x => some (Value.int x)) ((by first | (rw [s_few_t hfm c165]; rfl) | (rw [s_few_f (fun q => c165 q.2)]; done) | (rw [s_few_f (fun q => c165 q.2), hb]; rfl))), List.forall_mem_cons.mpr ⟨rfl, List.forall_mem_cons.mpr ⟨rfl, List.forall_mem_cons.mpr ⟨rfl, List.forall_mem_cons.mpr ⟨rfl, List.forall_mem_cons.mpr ⟨rfl, List.forall_mem_cons.mpr ⟨rfl, fun _ h => absurd h List.not_mem_nil⟩⟩⟩⟩⟩⟩⟩) ?_
                            refine r_iinc (nI (k + 1)) [(5, .int (nI (k + 1))), (4, .int (s_opt (s_few wy r p n (k + 1)))), (6, .int (nI j)), (0, .ref (B + 219)), (1, .int (nI p)), (2, .int (nI n)), (3, .int (nI wh))] dX6_fewest_177 rfl (nI_1 _) (by decide) rfl ?_
                            refine r_goto (tgt := 55) dX6_fewest_180 (by decide) ?_
                            exact r_lv [(5, .int (nI (k + 1))), (4, .int (s_opt (s_few wy r p n (k + 1)))), (0, .ref (B + 219)), (1, .int (nI p)), (2, .int (nI n)), (3, .int (nI wh))] (List.forall_mem_cons.mpr ⟨rfl, List.forall_mem_cons.mpr ⟨rfl, List.forall_mem_cons.mpr ⟨rfl, List.forall_mem_cons.mpr ⟨rfl, List.forall_mem_cons.mpr ⟨rfl, List.forall_mem_cons.mpr ⟨rfl, fun _ h => absurd h List.not_mem_nil⟩⟩⟩⟩⟩⟩) (ih (k + 1) D50 (by omega) (by omega) hX9)
                        · skip
                          rw [nI_leI (by omega) (by omega)] at c103
                          refine r_aload_n dX6_fewest_106 rfl ?_
                          refine r_getR (ci := 6) (k := 7) wf_X6_25 dX6_fewest_107 z_219 k_219 (by decide) (by decide) (fun _ _ => rfl) f_219_7 ?_
                          refine r_bipush (nI 16) dX6_fewest_110 (by decide) ?_
                          refine r_bipush (nI 8) dX6_fewest_112 (by decide) ?_
                          refine r_iload dX6_fewest_114 rfl ?_
                          refine r_imul dX6_fewest_116 (fun z52 hz52 => ?_)
                          obtain rfl : z52 = nI (8 * j) := (hz52.trans (pk_mul _ _))
                          refine r_iadd dX6_fewest_117 (fun z53 hz53 => ?_)
                          obtain rfl : z53 = nI (16 + (8 * j)) := (hz53.trans (nI_add _ _))
                          refine r_bipush (nI 7) dX6_fewest_118 (by decide) ?_
                          refine r_iadd dX6_fewest_120 (fun z54 hz54 => ?_)
                          obtain rfl : z54 = nI ((16 + (8 * j)) + 7) := (hz54.trans (nI_add _ _))
                          refine r_iload dX6_fewest_121 rfl ?_
                          refine r_iload dX6_fewest_123 rfl ?_
                          refine r_ishr dX6_fewest_125 (fun z55 hz55 => ?_)
                          obtain rfl : z55 = nI k >>> (nI j &&& 31) := hz55
                          refine r_iconst (nI 1) dX6_fewest_126 (by decide) ?_
                          refine r_iand dX6_fewest_127 (fun z56 hz56 => ?_)
                          obtain rfl : z56 = nI (k / 2 ^ j % 2) := hz56.trans (bit_n (by omega) (by omega))
                          refine r_iconst (nI 1) dX6_fewest_128 (by decide) ?_
                          refine r_icmp_ne (tgt := 151) dX6_fewest_129 (by decide) (fun c129 => ?_) (fun c129 => ?_)
                          · skip
                            rw [nI_eq (by omega) (by omega)] at c129
                            refine r_iconst (nI 1) dX6_fewest_151 (by decide) ?_
                            refine r_iast dX6_fewest_152 z_225 k_225 (vp_in_nI (by omega) (by decide)) (fun D57 hD57 => ?_)
                            rw [nI_clamp (by omega)] at hD57
                            have hJ7 : MX D D57 := hJ.1.trans (MX.of (fun q h1 h2 => by rw [hD57]; exact up2_o h1))
                            have hJ8 : MA D57 225 (s_rn r k (j + 1)) := by
                              rw [hD57]
                              first
                                | (rw [← s_rn_t c129]; exact MA_set hJ.2 (by omega))
                                | (rw [← s_rn_f c129]; exact MA_set hJ.2 (by omega))
                            refine r_iinc (nI (j + 1)) [(6, .int (nI (j + 1))), (5, .int (nI k)), (4, .int (nI b)), (0, .ref (B + 219)), (1, .int (nI p)), (2, .int (nI n)), (3, .int (nI wh))] dX6_fewest_153 rfl (nI_1 _) (by decide) rfl ?_
                            refine r_goto (tgt := 95) dX6_fewest_156 (by decide) ?_
                            exact r_lv [(6, .int (nI (j + 1))), (5, .int (nI k)), (4, .int (nI b)), (0, .ref (B + 219)), (1, .int (nI p)), (2, .int (nI n)), (3, .int (nI wh))] (List.forall_mem_cons.mpr ⟨rfl, List.forall_mem_cons.mpr ⟨rfl, List.forall_mem_cons.mpr ⟨rfl, List.forall_mem_cons.mpr ⟨rfl, List.forall_mem_cons.mpr ⟨rfl, List.forall_mem_cons.mpr ⟨rfl, List.forall_mem_cons.mpr ⟨rfl, fun _ h => absurd h List.not_mem_nil⟩⟩⟩⟩⟩⟩⟩) (ihL2 (j + 1) D57 (by omega) (by omega) (⟨hJ7, hJ8⟩))
                          · skip
                            rw [nI_eq (by omega) (by omega)] at c129
                            refine r_aload_n dX6_fewest_132 rfl ?_
                            refine r_getR (ci := 6) (k := 7) wf_X6_25 dX6_fewest_133 z_219 k_219 (by decide) (by decide) (fun _ _ => rfl) f_219_7 ?_
                            refine r_bipush (nI 16) dX6_fewest_136 (by decide) ?_
                            refine r_bipush (nI 8) dX6_fewest_138 (by decide) ?_
                            refine r_iload dX6_fewest_140 rfl ?_
                            refine r_imul dX6_fewest_142 (fun z58 hz58 => ?_)
                            obtain rfl : z58 = nI (8 * j) := (hz58.trans (pk_mul _ _))
                            refine r_iadd dX6_fewest_143 (fun z59 hz59 => ?_)
                            obtain rfl : z59 = nI (16 + (8 * j)) := (hz59.trans (nI_add _ _))
                            refine r_bipush (nI 7) dX6_fewest_144 (by decide) ?_
                            refine r_iadd dX6_fewest_146 (fun z60 hz60 => ?_)
                            obtain rfl : z60 = nI ((16 + (8 * j)) + 7) := (hz60.trans (nI_add _ _))
                            refine r_iald dX6_fewest_147 z_225 k_225 (vp_in_nI (by omega) (by decide)) (fun z61 hz61 => ?_)
                            rw [nI_clamp (by omega)] at hz61
                            obtain rfl : z61 = nI (s_rn r k j (23 + 8 * j)) := hz61.trans (MA_at hJ.2 (by omega) (by omega))
                            refine r_goto (tgt := 152) dX6_fewest_148 (by decide) ?_
                            refine r_iast dX6_fewest_152 z_225 k_225 (vp_in_nI (by omega) (by decide)) (fun D62 hD62 => ?_)
                            rw [nI_clamp (by omega)] at hD62
                            have hJ7 : MX D D62 := hJ.1.trans (MX.of (fun q h1 h2 => by rw [hD62]; exact up2_o h1))
                            have hJ8 : MA D62 225 (s_rn r k (j + 1)) := by
                              rw [hD62]
                              first
                                | (rw [← s_rn_t c129]; exact MA_set hJ.2 (by omega))
                                | (rw [← s_rn_f c129]; exact MA_set hJ.2 (by omega))
                            refine r_iinc (nI (j + 1)) [(6, .int (nI (j + 1))), (5, .int (nI k)), (4, .int (nI b)), (0, .ref (B + 219)), (1, .int (nI p)), (2, .int (nI n)), (3, .int (nI wh))] dX6_fewest_153 rfl (nI_1 _) (by decide) rfl ?_
                            refine r_goto (tgt := 95) dX6_fewest_156 (by decide) ?_
                            exact r_lv [(6, .int (nI (j + 1))), (5, .int (nI k)), (4, .int (nI b)), (0, .ref (B + 219)), (1, .int (nI p)), (2, .int (nI n)), (3, .int (nI wh))] (List.forall_mem_cons.mpr ⟨rfl, List.forall_mem_cons.mpr ⟨rfl, List.forall_mem_cons.mpr ⟨rfl, List.forall_mem_cons.mpr ⟨rfl, List.forall_mem_cons.mpr ⟨rfl, List.forall_mem_cons.mpr ⟨rfl, List.forall_mem_cons.mpr ⟨rfl, fun _ h => absurd h List.not_mem_nil⟩⟩⟩⟩⟩⟩⟩) (ihL2 (j + 1) D62 (by omega) (by omega) (⟨hJ7, hJ8⟩))
                    exact r_lv [(6, .int (nI 0)), (5, .int (nI k)), (4, .int (nI b)), (0, .ref (B + 219)), (1, .int (nI p)), (2, .int (nI n)), (3, .int (nI wh))] (List.forall_mem_cons.mpr ⟨rfl, List.forall_mem_cons.mpr ⟨rfl, List.forall_mem_cons.mpr ⟨rfl, List.forall_mem_cons.mpr ⟨rfl, List.forall_mem_cons.mpr ⟨rfl, List.forall_mem_cons.mpr ⟨rfl, List.forall_mem_cons.mpr ⟨rfl, fun _ h => absurd h List.not_mem_nil⟩⟩⟩⟩⟩⟩⟩) (L2 (r 5 + 1) 0 D46 (by omega) (by omega) (⟨hXt, by rw [s_rn_0]; exact hL2⟩))
          exact r_lv [(5, .int (nI 0)), (4, .int (s_opt (s_few wy r p n 0))), (0, .ref (B + 219)), (1, .int (nI p)), (2, .int (nI n)), (3, .int (nI wh))] (List.forall_mem_cons.mpr ⟨rfl, List.forall_mem_cons.mpr ⟨rfl, List.forall_mem_cons.mpr ⟨rfl, List.forall_mem_cons.mpr ⟨rfl, List.forall_mem_cons.mpr ⟨rfl, List.forall_mem_cons.mpr ⟨rfl, fun _ h => absurd h List.not_mem_nil⟩⟩⟩⟩⟩⟩) (L (2 ^ r 5 + 1) 0 (thD D) (by omega) (by omega) MX.th)
        · skip
          rw [bI_0] at c42
          refine r_ldc wc_X6_74 dX6_fewest_45 ?_
          refine r_iret2 dX6_fewest_47 rfl ⟨Nat.zero_le _, Nat.zero_le _⟩ ?_
          refine ⟨?_, MX.th, rfl⟩
          unfold g_fewest
          rw [if_pos c9]
          first | rw [if_neg c20] | rw [if_pos c20, if_neg c32] | rw [if_pos c20, if_pos c32, if_neg c42]
  · skip
    rw [bI_0] at c9
    refine r_ldc wc_X6_196 dX6_fewest_12 ?_
    refine r_iret2 dX6_fewest_14 rfl ⟨Nat.zero_le _, Nat.zero_le _⟩ ?_
    refine ⟨?_, MX.th, rfl⟩
    rw [if_neg c9]
