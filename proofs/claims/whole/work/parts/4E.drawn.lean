set_option maxRecDepth 100000 in
set_option maxHeartbeats 4000000 in
theorem c_X6_drawn (B : Nat) (D : DD) (E : EE) (wy : Nat → Nat) (r : Row) (hX0 : XM D wy r) (x y what : Int32) : MR yX6_drawn cX6_drawn 7 (some .int) rX6_drawn B [.ref (B + 219), .int x, .int y, .int what] Z0 D E (Q2 Z0 (pI (fun v D' E' => v = (if 0 < r 0 then g_drawn wy r x y what else -1000002) ∧ MX D D' ∧ E' = E))) := by
  have hX := hX0.th
  obtain ⟨hO, hM, hwy, hYY⟩ := id hX
  obtain ⟨l0, l5, l4, l6, l7, l8, l1⟩ := hO.le
  have hwy0 := hX0.2.2.1
  have hM0 := hX0.2.1
  refine r_enter [(0, .ref (B + 219)), (1, .int x), (2, .int y), (3, .int what)] hv_X6_drawn.1.2.2.2.2 (Nat.le_of_ble_eq_true rfl) rfl ?_
  refine r_aload_n dX6_drawn_0 rfl ?_
  refine r_iconst (nI 0) dX6_drawn_1 (by decide) ?_
  refine r_putI (ci := 6) (k := 0) wf_X6_54 dX6_drawn_2 z_219 k_219 (by decide) (by decide) rfl rfl (fun D1 hD1 => ?_)
  obtain rfl : D1 = thD D := hD1.trans up2_eq
  refine r_aload_n dX6_drawn_5 rfl ?_
  refine r_callVI (As := []) (o := 219) (c_X6_isThere B (thD D) E (r 0) (hM 0 (by decide)) l0) hv_X6_isThere wm_X6_193 dX6_drawn_6 rfl rfl z_219 k_219 (by decide) rfl (Nat.le_of_ble_eq_true rfl) ⟨Nat.le_of_ble_eq_true rfl, Nat.le_of_ble_eq_true rfl, Nat.zero_le _, Nat.zero_le _⟩ ⟨rfl, rfl⟩ (fun z2 D3 E4 hz2 => ?_)
  obtain ⟨hqV, hqD, hqE⟩ := hz2
  obtain rfl : z2 = bI (0 < r 0) := hqV
  obtain rfl := hqD.symm
  obtain rfl := hqE.symm
  refine r_if_ne (tgt := 15) dX6_drawn_9 (by decide) (fun c9 => ?_) (fun c9 => ?_)
  · skip
    rw [bI_n0] at c9
    obtain ⟨hW, hT, hH⟩ := hO.p c9
    have hY := hYY hW
    obtain ⟨b1, b2, b3, b4, b5, b6, b7, b8⟩ := hW.1
    refine r_iload_n dX6_drawn_15 rfl ?_
    refine r_i2l dX6_drawn_16 (fun z5 hz5 => ?_)
    subst hz5
    refine r_lconst ((nI 0).toInt64) dX6_drawn_17 (by decide) ?_
    refine r_ldc2v ((nI 60).toInt64) wg_X6_210 dX6_drawn_18 (by decide) ?_
    refine r_callSI (As := [.long x.toInt64, .long ((nI 0).toInt64), .long ((nI 60).toInt64)]) (c_X6_in B (thD D) E x (nI 0) (nI 60)) hs_X6_in wm_X6_64 rfl dX6_drawn_21 rfl rfl (Nat.le_of_ble_eq_true rfl) ⟨Nat.le_of_ble_eq_true rfl, Nat.le_of_ble_eq_true rfl, Nat.zero_le _, Nat.zero_le _⟩ ⟨rfl, rfl⟩ (fun z6 D7 E8 hz6 => ?_)
    obtain ⟨hqV, hqD, hqE⟩ := hz6
    obtain rfl : z6 = bI (nI 0 ≤ x ∧ x ≤ nI 60) := hqV
    obtain rfl := hqD.symm
    obtain rfl := hqE.symm
    refine r_if_eq (tgt := 49) dX6_drawn_24 (by decide) (fun c24 => ?_) (fun c24 => ?_)
    · skip
      rw [bI_0] at c24
      refine r_ldc wc_X6_74 dX6_drawn_49 ?_
      refine r_iret2 dX6_drawn_51 rfl ⟨Nat.zero_le _, Nat.zero_le _⟩ ?_
      refine ⟨?_, MX.th, rfl⟩
      unfold g_drawn
      rw [if_pos c9]
      first | rw [if_neg c24] | rw [if_pos c24, if_neg c36] | rw [if_pos c24, if_pos c36, if_neg c46]
    · skip
      rw [bI_n0] at c24
      obtain ⟨n, hn1, hn2, rfl⟩ := rg (by decide) (by decide) c24
      refine r_iload_n dX6_drawn_27 rfl ?_
      refine r_i2l dX6_drawn_28 (fun z9 hz9 => ?_)
      subst hz9
      refine r_lconst ((nI 1).toInt64) dX6_drawn_29 (by decide) ?_
      refine r_ldc2v ((nI 999999).toInt64) wg_X6_241 dX6_drawn_30 (by decide) ?_
      refine r_callSI (As := [.long y.toInt64, .long ((nI 1).toInt64), .long ((nI 999999).toInt64)]) (c_X6_in B (thD D) E y (nI 1) (nI 999999)) hs_X6_in wm_X6_64 rfl dX6_drawn_33 rfl rfl (Nat.le_of_ble_eq_true rfl) ⟨Nat.le_of_ble_eq_true rfl, Nat.le_of_ble_eq_true rfl, Nat.zero_le _, Nat.zero_le _⟩ ⟨rfl, rfl⟩ (fun z10 D11 E12 hz10 => ?_)
      obtain ⟨hqV, hqD, hqE⟩ := hz10
      obtain rfl : z10 = bI (nI 1 ≤ y ∧ y ≤ nI 999999) := hqV
      obtain rfl := hqD.symm
      obtain rfl := hqE.symm
      refine r_if_eq (tgt := 49) dX6_drawn_36 (by decide) (fun c36 => ?_) (fun c36 => ?_)
      · skip
        rw [bI_0] at c36
        refine r_ldc wc_X6_74 dX6_drawn_49 ?_
        refine r_iret2 dX6_drawn_51 rfl ⟨Nat.zero_le _, Nat.zero_le _⟩ ?_
        refine ⟨?_, MX.th, rfl⟩
        unfold g_drawn
        rw [if_pos c9]
        first | rw [if_neg c24] | rw [if_pos c24, if_neg c36] | rw [if_pos c24, if_pos c36, if_neg c46]
      · skip
        rw [bI_n0] at c36
        obtain ⟨seed, hs1, hs2, rfl⟩ := rg (by decide) (by decide) c36
        refine r_iload_n dX6_drawn_39 rfl ?_
        refine r_i2l dX6_drawn_40 (fun z13 hz13 => ?_)
        subst hz13
        refine r_lconst ((nI 0).toInt64) dX6_drawn_41 (by decide) ?_
        refine r_lconst ((nI 1).toInt64) dX6_drawn_42 (by decide) ?_
        refine r_callSI (As := [.long what.toInt64, .long ((nI 0).toInt64), .long ((nI 1).toInt64)]) (c_X6_in B (thD D) E what (nI 0) (nI 1)) hs_X6_in wm_X6_64 rfl dX6_drawn_43 rfl rfl (Nat.le_of_ble_eq_true rfl) ⟨Nat.le_of_ble_eq_true rfl, Nat.le_of_ble_eq_true rfl, Nat.zero_le _, Nat.zero_le _⟩ ⟨rfl, rfl⟩ (fun z14 D15 E16 hz14 => ?_)
        obtain ⟨hqV, hqD, hqE⟩ := hz14
        obtain rfl : z14 = bI (nI 0 ≤ what ∧ what ≤ nI 1) := hqV
        obtain rfl := hqD.symm
        obtain rfl := hqE.symm
        refine r_if_ne (tgt := 52) dX6_drawn_46 (by decide) (fun c46 => ?_) (fun c46 => ?_)
        · skip
          rw [bI_n0] at c46
          obtain ⟨wh, hw1, hw2, rfl⟩ := rg (by decide) (by decide) c46
          refine r_aload_n dX6_drawn_52 rfl ?_
          refine r_callVV (As := []) (o := 219) (c_X6_layThen B (thD D) E r hM) hv_X6_layThen wm_X6_212 dX6_drawn_53 rfl rfl z_219 k_219 (by decide) rfl (Nat.le_of_ble_eq_true rfl) ⟨Nat.le_of_ble_eq_true rfl, Nat.le_of_ble_eq_true rfl, Nat.zero_le _, Nat.zero_le _⟩ ⟨rfl, rfl⟩ (fun D18 E19 hz17 => ?_)
          obtain ⟨hL1, hL2, hqE⟩ := hz17
          obtain rfl := hqE.symm
          have hXt : MX D D18 := MX.th.trans (MX.of (fun q a _ => hL1 q a))
          have hwt : ∀ j, j < 6 * r 0 → D18 228 j = nI (wy j) := fun j hj => (congrFun (hL1 228 (by decide)) j).trans (hwy j hj)
          refine r_iload_n dX6_drawn_56 rfl ?_
          refine r_i2l dX6_drawn_57 (fun z20 hz20 => ?_)
          obtain rfl : z20 = nG seed := hz20.trans (nI_G (by omega))
          refine r_lstore [(4, .long (nG seed)), (0, .ref (B + 219)), (1, .int (nI n)), (2, .int (nI seed)), (3, .int (nI wh))] dX6_drawn_58 (by decide) rfl ?_
          refine r_iconst (nI 0) dX6_drawn_60 (by decide) ?_
          refine r_istore [(6, .int (nI 0)), (4, .long (nG seed)), (0, .ref (B + 219)), (1, .int (nI n)), (2, .int (nI seed)), (3, .int (nI wh))] dX6_drawn_61 (by decide) rfl ?_
          refine r_lv [(6, .int (nI 0)), (4, .long (nG ((s_dr wy r seed 0).1))), (0, .ref (B + 219)), (1, .int (nI n)), (2, .int (nI seed)), (3, .int (nI wh))] (List.forall_mem_cons.mpr ⟨rfl, List.forall_mem_cons.mpr ⟨congrArg (fun x => some (Value.long x)) rfl, List.forall_mem_cons.mpr ⟨rfl, List.forall_mem_cons.mpr ⟨rfl, List.forall_mem_cons.mpr ⟨rfl, List.forall_mem_cons.mpr ⟨rfl, fun _ h => absurd h List.not_mem_nil⟩⟩⟩⟩⟩⟩) ?_
          have L : ∀ (fu k : Nat) (Dk : DD), k ≤ n → n - k < fu → (MX D Dk ∧ MA Dk 225 (s_dr wy r seed k).2) → RW yX6_drawn cX6_drawn 7 (some .int) rX6_drawn B (Q2 Z0 (pI (fun v D' E' => v = (if 0 < r 0 then g_drawn wy r (nI n) (nI seed) (nI wh) else -1000002) ∧ MX D D' ∧ E' = E))) Z0 Dk E 0 0 63 [(6, .int (nI k)), (4, .long (nG ((s_dr wy r seed k).1))), (0, .ref (B + 219)), (1, .int (nI n)), (2, .int (nI seed)), (3, .int (nI wh))] [] := by
            intro fu
            induction fu with
            | zero => intro k Dk hku hfu _; omega
            | succ fu ih =>
              intro k Dk hku hfu hI
              refine r_iload dX6_drawn_63 rfl ?_
              refine r_iload_n dX6_drawn_65 rfl ?_
              refine r_icmp_ge (tgt := 141) dX6_drawn_66 (by decide) (fun c66 => ?_) (fun c66 => ?_)
              · skip
                rw [nI_leI (by omega) (by omega)] at c66
                refine r_iload_n dX6_drawn_141 rfl ?_
                refine r_if_ne (tgt := 154) dX6_drawn_142 (by decide) (fun c142 => ?_) (fun c142 => ?_)
                · skip
                  rw [nI_z (by omega)] at c142
                  refine r_aload_n dX6_drawn_154 rfl ?_
                  refine r_getR (ci := 6) (k := 7) wf_X6_25 dX6_drawn_155 z_219 k_219 (by decide) (by decide) (fun _ _ => rfl) f_219_7 ?_
                  refine r_bipush (nI 7) dX6_drawn_158 (by decide) ?_
                  refine r_iald dX6_drawn_160 z_225 k_225 (vp_in_nI (by decide) (by decide)) (fun z21 hz21 => ?_)
                  rw [nI_clamp (by omega)] at hz21
                  obtain rfl : z21 = nI ((s_dr wy r seed k).2 7) := hz21.trans (hI.2 7 (by decide))
                  refine r_aload_n dX6_drawn_161 rfl ?_
                  refine r_getR (ci := 6) (k := 5) wf_X6_19 dX6_drawn_162 z_219 k_219 (by decide) (by decide) (fun _ _ => rfl) f_219_5 ?_
                  refine r_bipush (nI 7) dX6_drawn_165 (by decide) ?_
                  refine r_iald dX6_drawn_167 z_223 k_223 (vp_in_nI (by decide) (by decide)) (fun z22 hz22 => ?_)
                  rw [nI_clamp (by omega)] at hz22
                  obtain rfl : z22 = nI (r 7) := hz22.trans (hI.1.ma hM0 7 (by decide))
                  refine r_isub dX6_drawn_168 (fun z23 hz23 => ?_)
                  subst hz23
                  refine r_iret2 dX6_drawn_169 rfl ⟨Nat.zero_le _, Nat.zero_le _⟩ ?_
                  obtain rfl : k = n := by omega
                  refine ⟨?_, hI.1, rfl⟩
                  unfold g_drawn
                  rw [if_pos c9, if_pos c24, if_pos c36, if_pos c46, nI_clamp (by omega), nI_clamp (by omega)]
                  first
                    | rw [if_pos ((nI_z (by omega)).mpr c142)]
                    | rw [if_neg (fun q => c142 ((nI_z (by omega)).mp q))]
                · skip
                  rw [nI_z (by omega)] at c142
                  refine r_aload_n dX6_drawn_145 rfl ?_
                  refine r_getR (ci := 6) (k := 7) wf_X6_25 dX6_drawn_146 z_219 k_219 (by decide) (by decide) (fun _ _ => rfl) f_219_7 ?_
                  refine r_iconst (nI 1) dX6_drawn_149 (by decide) ?_
                  refine r_iald dX6_drawn_150 z_225 k_225 (vp_in_nI (by decide) (by decide)) (fun z24 hz24 => ?_)
                  rw [nI_clamp (by omega)] at hz24
                  obtain rfl : z24 = nI ((s_dr wy r seed k).2 1) := hz24.trans (hI.2 1 (by decide))
                  refine r_goto (tgt := 169) dX6_drawn_151 (by decide) ?_
                  refine r_iret2 dX6_drawn_169 rfl ⟨Nat.zero_le _, Nat.zero_le _⟩ ?_
                  obtain rfl : k = n := by omega
                  refine ⟨?_, hI.1, rfl⟩
                  unfold g_drawn
                  rw [if_pos c9, if_pos c24, if_pos c36, if_pos c46, nI_clamp (by omega), nI_clamp (by omega)]
                  first
                    | rw [if_pos ((nI_z (by omega)).mpr c142)]
                    | rw [if_neg (fun q => c142 ((nI_z (by omega)).mp q))]
              · skip
                rw [nI_leI (by omega) (by omega)] at c66
                obtain ⟨i1, i2, i3, i4, i5, i6, i7⟩ := dr_k hW hT hH hY (seed := seed) (by omega) k
                obtain ⟨j1, j2, j3, j4, j5, j6⟩ : s_dd wy r seed k 0 = r 0 ∧ s_dd wy r seed k 5 = r 5 ∧ WF (s_dd wy r seed k) ∧ T2 (s_dd wy r seed k) ∧ HB (s_dd wy r seed k) (999 + k) ∧ WY wy (s_dd wy r seed k) := dd_k (x := (s_dr wy r seed k).1 * 16807 % 2147483647) (by omega) i2 i3 i4 i5 i6 i7
                have hm0 := Nat.mod_lt ((s_dr wy r seed k).1 * 16807 % 2147483647) (show 0 < r 0 by omega)
                refine r_lload dX6_drawn_69 rfl ?_
                refine r_ldc2v (nG 16807) wg_X6_243 dX6_drawn_71 (by decide) ?_
                refine r_lmul dX6_drawn_74 (fun z25 hz25 => ?_)
                obtain rfl : z25 = nG (((s_dr wy r seed k).1) * 16807) := hz25.trans (nG_mul _ _)
                refine r_ldc2v (nG 2147483647) wg_X6_245 dX6_drawn_75 (by decide) ?_
                refine r_lrem dX6_drawn_78 (by decide) (fun z26 hz26 => ?_)
                obtain rfl : z26 = nG ((s_dr wy r seed k).1 * 16807 % 2147483647) := hz26.trans (nG_rem (by omega) (by decide))
                have hx9 := Nat.mod_lt ((s_dr wy r seed k).1 * 16807) (show 0 < 2147483647 by decide)
                refine r_lstore [(4, .long (nG ((s_dr wy r seed k).1 * 16807 % 2147483647))), (6, .int (nI k)), (0, .ref (B + 219)), (1, .int (nI n)), (2, .int (nI seed)), (3, .int (nI wh))] dX6_drawn_79 (by decide) rfl ?_
                refine r_aload_n dX6_drawn_81 rfl ?_
                refine r_getR (ci := 6) (k := 7) wf_X6_25 dX6_drawn_82 z_219 k_219 (by decide) (by decide) (fun _ _ => rfl) f_219_7 ?_
                refine r_iconst (nI 5) dX6_drawn_85 (by decide) ?_
                refine r_iald dX6_drawn_86 z_225 k_225 (vp_in_nI (by decide) (by decide)) (fun z27 hz27 => ?_)
                rw [nI_clamp (by omega)] at hz27
                obtain rfl : z27 = nI (r 5) := hz27.trans ((hI.2 5 (by decide)).trans (congrArg nI i3))
                refine r_if_le (tgt := 125) dX6_drawn_87 (by decide) (fun c87 => ?_) (fun c87 => ?_)
                · skip
                  rw [nI_zle (by omega)] at c87
                  have hMd : MA Dk 225 (s_dd wy r seed k) := by unfold s_dd; rw [if_neg (by omega)]; exact hI.2
                  have hXd : MX D Dk := hI.1
                  refine r_aload_n dX6_drawn_125 rfl ?_
                  refine r_aload_n dX6_drawn_126 rfl ?_
                  refine r_getR (ci := 6) (k := 7) wf_X6_25 dX6_drawn_127 z_219 k_219 (by decide) (by decide) (fun _ _ => rfl) f_219_7 ?_
                  refine r_iconst (nI 0) dX6_drawn_130 (by decide) ?_
                  refine r_iconst (nI 0) dX6_drawn_131 (by decide) ?_
                  refine r_callVV (As := [.ref (B + 225), .int (nI 0), .int (nI 0)]) (o := 219) (c_X6_hour B Dk E 225 (Or.inr rfl) (s_dd wy r seed k) wy j3 (999 + k) j5 (by omega) hMd j6 (hXd.wy (by rw [j1]; exact hwy0))) hv_X6_hour wm_X6_185 dX6_drawn_132 rfl rfl z_219 k_219 (by decide) rfl (Nat.le_of_ble_eq_true rfl) ⟨Nat.le_of_ble_eq_true rfl, Nat.le_of_ble_eq_true rfl, Nat.zero_le _, Nat.zero_le _⟩ ⟨rfl, rfl⟩ (fun D29 E30 hz28 => ?_)
                  obtain ⟨hF9, hC9, hqE⟩ := hz28
                  obtain rfl := hqE.symm
                  have hX9 : MX D D29 := hXd.trans (MX.of hF9)
                  refine r_iinc (nI (k + 1)) [(6, .int (nI (k + 1))), (4, .long (nG ((s_dr wy r seed k).1 * 16807 % 2147483647))), (0, .ref (B + 219)), (1, .int (nI n)), (2, .int (nI seed)), (3, .int (nI wh))] dX6_drawn_135 rfl (nI_1 _) (by decide) rfl ?_
                  refine r_goto (tgt := 63) dX6_drawn_138 (by decide) ?_
                  exact r_lv [(6, .int (nI (k + 1))), (4, .long (nG ((s_dr wy r seed (k + 1)).1))), (0, .ref (B + 219)), (1, .int (nI n)), (2, .int (nI seed)), (3, .int (nI wh))] (List.forall_mem_cons.mpr ⟨rfl, List.forall_mem_cons.mpr ⟨rfl, List.forall_mem_cons.mpr ⟨rfl, List.forall_mem_cons.mpr ⟨rfl, List.forall_mem_cons.mpr ⟨rfl, List.forall_mem_cons.mpr ⟨rfl, fun _ h => absurd h List.not_mem_nil⟩⟩⟩⟩⟩⟩) (ih (k + 1) D29 (by omega) (by omega) (⟨hX9, hC9⟩))
                · skip
                  rw [nI_zle (by omega)] at c87
                  have hm5 := Nat.mod_lt ((s_dr wy r seed k).1 * 16807 % 2147483647) (show 0 < r 5 by omega)
                  refine r_aload_n dX6_drawn_90 rfl ?_
                  refine r_getR (ci := 6) (k := 7) wf_X6_25 dX6_drawn_91 z_219 k_219 (by decide) (by decide) (fun _ _ => rfl) f_219_7 ?_
                  refine r_bipush (nI 16) dX6_drawn_94 (by decide) ?_
                  refine r_bipush (nI 8) dX6_drawn_96 (by decide) ?_
                  refine r_lload dX6_drawn_98 rfl ?_
                  refine r_aload_n dX6_drawn_100 rfl ?_
                  refine r_getR (ci := 6) (k := 7) wf_X6_25 dX6_drawn_101 z_219 k_219 (by decide) (by decide) (fun _ _ => rfl) f_219_7 ?_
                  refine r_iconst (nI 5) dX6_drawn_104 (by decide) ?_
                  refine r_iald dX6_drawn_105 z_225 k_225 (vp_in_nI (by decide) (by decide)) (fun z31 hz31 => ?_)
                  rw [nI_clamp (by omega)] at hz31
                  obtain rfl : z31 = nI (r 5) := hz31.trans ((hI.2 5 (by decide)).trans (congrArg nI i3))
                  refine r_i2l dX6_drawn_106 (fun z32 hz32 => ?_)
                  obtain rfl : z32 = nG (r 5) := hz32.trans (nI_G (by omega))
                  refine r_lrem dX6_drawn_107 (fun q => absurd ((nG_z (by omega)).mp q) (by omega)) (fun z33 hz33 => ?_)
                  obtain rfl : z33 = nG ((s_dr wy r seed k).1 * 16807 % 2147483647 % r 5) := hz33.trans (nG_rem (by omega) (by omega))
                  refine r_l2i dX6_drawn_108 (fun z34 hz34 => ?_)
                  obtain rfl : z34 = nI ((s_dr wy r seed k).1 * 16807 % 2147483647 % r 5) := hz34.trans nG_I
                  refine r_imul dX6_drawn_109 (fun z35 hz35 => ?_)
                  obtain rfl : z35 = nI (8 * ((s_dr wy r seed k).1 * 16807 % 2147483647 % r 5)) := (hz35.trans (pk_mul _ _))
                  refine r_iadd dX6_drawn_110 (fun z36 hz36 => ?_)
                  obtain rfl : z36 = nI (16 + (8 * ((s_dr wy r seed k).1 * 16807 % 2147483647 % r 5))) := (hz36.trans (nI_add _ _))
                  refine r_iconst (nI 2) dX6_drawn_111 (by decide) ?_
                  refine r_iadd dX6_drawn_112 (fun z37 hz37 => ?_)
                  obtain rfl : z37 = nI ((16 + (8 * ((s_dr wy r seed k).1 * 16807 % 2147483647 % r 5))) + 2) := (hz37.trans (nI_add _ _))
                  refine r_lload dX6_drawn_113 rfl ?_
                  refine r_aload_n dX6_drawn_115 rfl ?_
                  refine r_getR (ci := 6) (k := 7) wf_X6_25 dX6_drawn_116 z_219 k_219 (by decide) (by decide) (fun _ _ => rfl) f_219_7 ?_
                  refine r_iconst (nI 0) dX6_drawn_119 (by decide) ?_
                  refine r_iald dX6_drawn_120 z_225 k_225 (vp_in_nI (by decide) (by decide)) (fun z38 hz38 => ?_)
                  rw [nI_clamp (by omega)] at hz38
                  obtain rfl : z38 = nI (r 0) := hz38.trans ((hI.2 0 (by decide)).trans (congrArg nI i2))
                  refine r_i2l dX6_drawn_121 (fun z39 hz39 => ?_)
                  obtain rfl : z39 = nG (r 0) := hz39.trans (nI_G (by omega))
                  refine r_lrem dX6_drawn_122 (fun q => absurd ((nG_z (by omega)).mp q) (by omega)) (fun z40 hz40 => ?_)
                  obtain rfl : z40 = nG ((s_dr wy r seed k).1 * 16807 % 2147483647 % r 0) := hz40.trans (nG_rem (by omega) (by omega))
                  refine r_l2i dX6_drawn_123 (fun z41 hz41 => ?_)
                  obtain rfl : z41 = nI ((s_dr wy r seed k).1 * 16807 % 2147483647 % r 0) := hz41.trans nG_I
                  refine r_iast dX6_drawn_124 z_225 k_225 (vp_in_nI (by omega) (by decide)) (fun D42 hD42 => ?_)
                  rw [nI_clamp (by omega)] at hD42
                  have hMd : MA D42 225 (s_dd wy r seed k) := by unfold s_dd; rw [if_pos (by omega), hD42]; exact MA_set hI.2 (by omega)
                  have hXd : MX D D42 := hI.1.trans (MX.of (fun q h1 h2 => by rw [hD42]; exact up2_o h1))
                  refine r_aload_n dX6_drawn_125 rfl ?_
                  refine r_aload_n dX6_drawn_126 rfl ?_
                  refine r_getR (ci := 6) (k := 7) wf_X6_25 dX6_drawn_127 z_219 k_219 (by decide) (by decide) (fun _ _ => rfl) f_219_7 ?_
                  refine r_iconst (nI 0) dX6_drawn_130 (by decide) ?_
                  refine r_iconst (nI 0) dX6_drawn_131 (by decide) ?_
                  refine r_callVV (As := [.ref (B + 225), .int (nI 0), .int (nI 0)]) (o := 219) (c_X6_hour B D42 E 225 (Or.inr rfl) (s_dd wy r seed k) wy j3 (999 + k) j5 (by omega) hMd j6 (hXd.wy (by rw [j1]; exact hwy0))) hv_X6_hour wm_X6_185 dX6_drawn_132 rfl rfl z_219 k_219 (by decide) rfl (Nat.le_of_ble_eq_true rfl) ⟨Nat.le_of_ble_eq_true rfl, Nat.le_of_ble_eq_true rfl, Nat.zero_le _, Nat.zero_le _⟩ ⟨rfl, rfl⟩ (fun D44 E45 hz43 => ?_)
                  obtain ⟨hF9, hC9, hqE⟩ := hz43
                  obtain rfl := hqE.symm
                  have hX9 : MX D D44 := hXd.trans (MX.of hF9)
                  refine r_iinc (nI (k + 1)) [(6, .int (nI (k + 1))), (4, .long (nG ((s_dr wy r seed k).1 * 16807 % 2147483647))), (0, .ref (B + 219)), (1, .int (nI n)), (2, .int (nI seed)), (3, .int (nI wh))] dX6_drawn_135 rfl (nI_1 _) (by decide) rfl ?_
                  refine r_goto (tgt := 63) dX6_drawn_138 (by decide) ?_
                  exact r_lv [(6, .int (nI (k + 1))), (4, .long (nG ((s_dr wy r seed (k + 1)).1))), (0, .ref (B + 219)), (1, .int (nI n)), (2, .int (nI seed)), (3, .int (nI wh))] (List.forall_mem_cons.mpr ⟨rfl, List.forall_mem_cons.mpr ⟨rfl, List.forall_mem_cons.mpr ⟨rfl, List.forall_mem_cons.mpr ⟨rfl, List.forall_mem_cons.mpr ⟨rfl, List.forall_mem_cons.mpr ⟨rfl, fun _ h => absurd h List.not_mem_nil⟩⟩⟩⟩⟩⟩) (ih (k + 1) D44 (by omega) (by omega) (⟨hX9, hC9⟩))
          exact r_lv [(6, .int (nI 0)), (4, .long (nG ((s_dr wy r seed 0).1))), (0, .ref (B + 219)), (1, .int (nI n)), (2, .int (nI seed)), (3, .int (nI wh))] (List.forall_mem_cons.mpr ⟨rfl, List.forall_mem_cons.mpr ⟨rfl, List.forall_mem_cons.mpr ⟨rfl, List.forall_mem_cons.mpr ⟨rfl, List.forall_mem_cons.mpr ⟨rfl, List.forall_mem_cons.mpr ⟨rfl, fun _ h => absurd h List.not_mem_nil⟩⟩⟩⟩⟩⟩) (L (n + 1) 0 D18 (by omega) (by omega) (⟨hXt, hL2⟩))
        · skip
          rw [bI_0] at c46
          refine r_ldc wc_X6_74 dX6_drawn_49 ?_
          refine r_iret2 dX6_drawn_51 rfl ⟨Nat.zero_le _, Nat.zero_le _⟩ ?_
          refine ⟨?_, MX.th, rfl⟩
          unfold g_drawn
          rw [if_pos c9]
          first | rw [if_neg c24] | rw [if_pos c24, if_neg c36] | rw [if_pos c24, if_pos c36, if_neg c46]
  · skip
    rw [bI_0] at c9
    refine r_ldc wc_X6_196 dX6_drawn_12 ?_
    refine r_iret2 dX6_drawn_14 rfl ⟨Nat.zero_le _, Nat.zero_le _⟩ ?_
    refine ⟨?_, MX.th, rfl⟩
    rw [if_neg c9]
