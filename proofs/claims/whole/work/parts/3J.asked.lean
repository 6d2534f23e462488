set_option maxRecDepth 100000 in
set_option maxHeartbeats 4000000 in
theorem c_X5_wisher (B : Nat) (D : DD) (E : EE) (wy : Nat → Nat) (r : Row) (hX : XL D wy r) (x what : Int32) : MR yX5_wisher cX5_wisher 3 (some .int) rX5_wisher B [.ref (B + 0), .int x, .int what] Z0 D E (Q2 Z0 (pI (fun v D' E' => v = (g_wisher wy r x what) ∧ D' = D ∧ E' = E))) := by
  obtain ⟨hO, hCn, hLl, hYY⟩ := id hX
  obtain ⟨l0, l5, l4, l6, l7, l8, l1⟩ := hO.le
  refine r_enter [(0, .ref (B + 0)), (1, .int x), (2, .int what)] hv_X5_wisher.1.2.2.2.2 (Nat.le_of_ble_eq_true rfl) rfl ?_
  refine r_aload_n dX5_wisher_0 rfl ?_
  refine r_iload_n dX5_wisher_1 rfl ?_
  refine r_callVI (As := [.int x]) (o := 0) (c_X5_isWisher B D E x (r 5) hLl.1.2.2.2.2) hv_X5_isWisher wm_X5_172 dX5_wisher_2 rfl rfl z_0 k_0 (by decide) rfl (Nat.le_of_ble_eq_true rfl) ⟨Nat.le_of_ble_eq_true rfl, Nat.le_of_ble_eq_true rfl, Nat.zero_le _, Nat.zero_le _⟩ ⟨rfl, rfl⟩ (fun z1 D2 E3 hz1 => ?_)
  obtain ⟨hqV, hqD, hqE⟩ := hz1
  obtain rfl : z1 = bI (nI 0 ≤ x ∧ x ≤ nI (r 5) - nI 1) := hqV
  obtain rfl := hqD.symm
  obtain rfl := hqE.symm
  refine r_if_ne (tgt := 11) dX5_wisher_5 (by decide) (fun c5 => ?_) (fun c5 => ?_)
  · skip
    rw [bI_n0] at c5
    obtain ⟨w, hw1, rfl⟩ := gd_n (by omega) c5
    obtain ⟨hW, hT, hH⟩ := hO.w hw1
    have hY := hYY hW
    obtain ⟨b1, b2, b3, b4, b5, b6, b7, b8⟩ := hW.1
    obtain ⟨⟨d1, d2⟩, d3, d4, d5, d6, ⟨d7, d8⟩, d9, d10⟩ := hW.2.2.1 w hw1
    have hr5 := rmask_lt (r 5) (fun w hw => (hW.2.2.1 w hw).2.2.2.2.2.2.2)
    have hp2 := pw2_le b7
    refine r_iload_n dX5_wisher_11 rfl ?_
    rcases sw_or 5 what with ⟨k9, hk9, rfl⟩ | hk9
    · skip
      rcases (show k9 = 0 ∨ k9 = 1 ∨ k9 = 2 ∨ k9 = 3 ∨ k9 = 4 ∨ k9 = 5 by omega) with rfl | rfl | rfl | rfl | rfl | rfl
      · refine r_tabIn (off := 40) (tgt := 52) dX5_wisher_12 (by decide) (by decide) rfl (by decide) ?_
        refine r_aload_n dX5_wisher_52 rfl ?_
        refine r_getR (ci := 5) (k := 2) wf_X5_26 dX5_wisher_53 z_0 k_0 (by decide) (by decide) (fun _ _ => rfl) f_0_2 ?_
        refine r_getR (ci := 1) (k := 7) wf_X5_196 dX5_wisher_56 z_15 k_15 (by decide) (by decide) (fun _ _ => rfl) f_15_7 ?_
        refine r_iload_n dX5_wisher_59 rfl ?_
        refine r_iald dX5_wisher_60 z_18 k_18 (vp_in_nI (by omega) (by decide)) (fun z4 hz4 => ?_)
        rw [nI_clamp (by omega)] at hz4
        obtain rfl : z4 = nI (r (17 + 8 * w)) := hz4.trans (hLl.2.2.2 w hw1).1
        refine r_iret2 dX5_wisher_61 rfl ⟨Nat.zero_le _, Nat.zero_le _⟩ ?_
        refine ⟨?_, rfl, rfl⟩
        unfold g_wisher
        rw [if_pos c5, nI_clamp (show w < 2 ^ 31 by omega)]
        first
          | (rw [if_pos rfl]; done)
          | (rw [if_neg (by decide), if_pos rfl]; done)
          | (rw [if_neg (by decide), if_neg (by decide), if_pos rfl]; done)
          | (rw [if_neg (by decide), if_neg (by decide), if_neg (by decide), if_pos rfl]; done)
          | (rw [if_neg (by decide), if_neg (by decide), if_neg (by decide), if_neg (by decide), if_pos rfl]; done)
          | (rw [if_neg (by decide), if_neg (by decide), if_neg (by decide), if_neg (by decide), if_neg (by decide), if_pos rfl]; done)
          | (rw [if_neg (sw_ne hk9 (show 0 ≤ 5 by decide) (by decide)), if_neg (sw_ne hk9 (show 1 ≤ 5 by decide) (by decide)), if_neg (sw_ne hk9 (show 2 ≤ 5 by decide) (by decide)), if_neg (sw_ne hk9 (show 3 ≤ 5 by decide) (by decide)), if_neg (sw_ne hk9 (show 4 ≤ 5 by decide) (by decide)), if_neg (sw_ne hk9 (show 5 ≤ 5 by decide) (by decide))]; done)
      · refine r_tabIn (off := 50) (tgt := 62) dX5_wisher_12 (by decide) (by decide) rfl (by decide) ?_
        refine r_aload_n dX5_wisher_62 rfl ?_
        refine r_getR (ci := 5) (k := 3) wf_X5_33 dX5_wisher_63 z_0 k_0 (by decide) (by decide) (fun _ _ => rfl) f_0_3 ?_
        refine r_getR (ci := 0) (k := 7) wf_X5_178 dX5_wisher_66 z_21 k_21 (by decide) (by decide) (fun _ _ => rfl) f_21_7 ?_
        refine r_iload_n dX5_wisher_69 rfl ?_
        refine r_iald dX5_wisher_70 z_23 k_23 (vp_in_nI (by omega) (by decide)) (fun z5 hz5 => ?_)
        rw [nI_clamp (by omega)] at hz5
        obtain rfl : z5 = nI (r (18 + 8 * w)) := hz5.trans (hCn.2.1 w hw1).2.1
        refine r_iret2 dX5_wisher_71 rfl ⟨Nat.zero_le _, Nat.zero_le _⟩ ?_
        refine ⟨?_, rfl, rfl⟩
        unfold g_wisher
        rw [if_pos c5, nI_clamp (show w < 2 ^ 31 by omega)]
        first
          | (rw [if_pos rfl]; done)
          | (rw [if_neg (by decide), if_pos rfl]; done)
          | (rw [if_neg (by decide), if_neg (by decide), if_pos rfl]; done)
          | (rw [if_neg (by decide), if_neg (by decide), if_neg (by decide), if_pos rfl]; done)
          | (rw [if_neg (by decide), if_neg (by decide), if_neg (by decide), if_neg (by decide), if_pos rfl]; done)
          | (rw [if_neg (by decide), if_neg (by decide), if_neg (by decide), if_neg (by decide), if_neg (by decide), if_pos rfl]; done)
          | (rw [if_neg (sw_ne hk9 (show 0 ≤ 5 by decide) (by decide)), if_neg (sw_ne hk9 (show 1 ≤ 5 by decide) (by decide)), if_neg (sw_ne hk9 (show 2 ≤ 5 by decide) (by decide)), if_neg (sw_ne hk9 (show 3 ≤ 5 by decide) (by decide)), if_neg (sw_ne hk9 (show 4 ≤ 5 by decide) (by decide)), if_neg (sw_ne hk9 (show 5 ≤ 5 by decide) (by decide))]; done)
      · refine r_tabIn (off := 60) (tgt := 72) dX5_wisher_12 (by decide) (by decide) rfl (by decide) ?_
        refine r_aload_n dX5_wisher_72 rfl ?_
        refine r_getR (ci := 5) (k := 3) wf_X5_33 dX5_wisher_73 z_0 k_0 (by decide) (by decide) (fun _ _ => rfl) f_0_3 ?_
        refine r_getR (ci := 0) (k := 8) wf_X5_181 dX5_wisher_76 z_21 k_21 (by decide) (by decide) (fun _ _ => rfl) f_21_8 ?_
        refine r_iload_n dX5_wisher_79 rfl ?_
        refine r_iald dX5_wisher_80 z_24 k_24 (vp_in_nI (by omega) (by decide)) (fun z6 hz6 => ?_)
        rw [nI_clamp (by omega)] at hz6
        obtain rfl : z6 = nI (r (19 + 8 * w)) := hz6.trans (hCn.2.1 w hw1).2.2.1
        refine r_iret2 dX5_wisher_81 rfl ⟨Nat.zero_le _, Nat.zero_le _⟩ ?_
        refine ⟨?_, rfl, rfl⟩
        unfold g_wisher
        rw [if_pos c5, nI_clamp (show w < 2 ^ 31 by omega)]
        first
          | (rw [if_pos rfl]; done)
          | (rw [if_neg (by decide), if_pos rfl]; done)
          | (rw [if_neg (by decide), if_neg (by decide), if_pos rfl]; done)
          | (rw [if_neg (by decide), if_neg (by decide), if_neg (by decide), if_pos rfl]; done)
          | (rw [if_neg (by decide), if_neg (by decide), if_neg (by decide), if_neg (by decide), if_pos rfl]; done)
          | (rw [if_neg (by decide), if_neg (by decide), if_neg (by decide), if_neg (by decide), if_neg (by decide), if_pos rfl]; done)
          | (rw [if_neg (sw_ne hk9 (show 0 ≤ 5 by decide) (by decide)), if_neg (sw_ne hk9 (show 1 ≤ 5 by decide) (by decide)), if_neg (sw_ne hk9 (show 2 ≤ 5 by decide) (by decide)), if_neg (sw_ne hk9 (show 3 ≤ 5 by decide) (by decide)), if_neg (sw_ne hk9 (show 4 ≤ 5 by decide) (by decide)), if_neg (sw_ne hk9 (show 5 ≤ 5 by decide) (by decide))]; done)
      · refine r_tabIn (off := 70) (tgt := 82) dX5_wisher_12 (by decide) (by decide) rfl (by decide) ?_
        refine r_aload_n dX5_wisher_82 rfl ?_
        refine r_getR (ci := 5) (k := 3) wf_X5_33 dX5_wisher_83 z_0 k_0 (by decide) (by decide) (fun _ _ => rfl) f_0_3 ?_
        refine r_getR (ci := 0) (k := 9) wf_X5_199 dX5_wisher_86 z_21 k_21 (by decide) (by decide) (fun _ _ => rfl) f_21_9 ?_
        refine r_iload_n dX5_wisher_89 rfl ?_
        refine r_iald dX5_wisher_90 z_25 k_25 (vp_in_nI (by omega) (by decide)) (fun z7 hz7 => ?_)
        rw [nI_clamp (by omega)] at hz7
        obtain rfl : z7 = nI (r (22 + 8 * w)) := hz7.trans (hCn.2.1 w hw1).2.2.2
        refine r_iret2 dX5_wisher_91 rfl ⟨Nat.zero_le _, Nat.zero_le _⟩ ?_
        refine ⟨?_, rfl, rfl⟩
        unfold g_wisher
        rw [if_pos c5, nI_clamp (show w < 2 ^ 31 by omega)]
        first
          | (rw [if_pos rfl]; done)
          | (rw [if_neg (by decide), if_pos rfl]; done)
          | (rw [if_neg (by decide), if_neg (by decide), if_pos rfl]; done)
          | (rw [if_neg (by decide), if_neg (by decide), if_neg (by decide), if_pos rfl]; done)
          | (rw [if_neg (by decide), if_neg (by decide), if_neg (by decide), if_neg (by decide), if_pos rfl]; done)
          | (rw [if_neg (by decide), if_neg (by decide), if_neg (by decide), if_neg (by decide), if_neg (by decide), if_pos rfl]; done)
          | (rw [if_neg (sw_ne hk9 (show 0 ≤ 5 by decide) (by decide)), if_neg (sw_ne hk9 (show 1 ≤ 5 by decide) (by decide)), if_neg (sw_ne hk9 (show 2 ≤ 5 by decide) (by decide)), if_neg (sw_ne hk9 (show 3 ≤ 5 by decide) (by decide)), if_neg (sw_ne hk9 (show 4 ≤ 5 by decide) (by decide)), if_neg (sw_ne hk9 (show 5 ≤ 5 by decide) (by decide))]; done)
      · refine r_tabIn (off := 80) (tgt := 92) dX5_wisher_12 (by decide) (by decide) rfl (by decide) ?_
        refine r_aload_n dX5_wisher_92 rfl ?_
        refine r_getR (ci := 5) (k := 3) wf_X5_33 dX5_wisher_93 z_0 k_0 (by decide) (by decide) (fun _ _ => rfl) f_0_3 ?_
        refine r_getI (ci := 0) (k := 5) wf_X5_184 dX5_wisher_96 z_21 k_21 (by decide) (by decide) rfl (fun z8 hz8 => ?_)
        obtain rfl : z8 = nI (rmask r (r 5)) := hz8.trans hCn.1.2.2.2.2.2
        refine r_iload_n dX5_wisher_99 rfl ?_
        refine r_callSI (As := [.int (nI (rmask r (r 5))), .int (nI w)]) (c_X5_bit B D E (nI (rmask r (r 5))) (nI w)) hs_X5_bit wm_X5_187 rfl dX5_wisher_100 rfl rfl (Nat.le_of_ble_eq_true rfl) ⟨Nat.le_of_ble_eq_true rfl, Nat.le_of_ble_eq_true rfl, Nat.zero_le _, Nat.zero_le _⟩ ⟨rfl, rfl⟩ (fun z9 D10 E11 hz9 => ?_)
        obtain ⟨hq1, hqD, hqE⟩ := hz9
        obtain rfl := hqD.symm
        obtain rfl := hqE.symm
        obtain rfl : z9 = nI (r (23 + 8 * w)) := hq1.trans ((bit_n (by omega) (by omega)).trans (congrArg nI (rmask_bit _ (fun w hw => (hW.2.2.1 w hw).2.2.2.2.2.2.2) w hw1)))
        refine r_iret2 dX5_wisher_103 rfl ⟨Nat.zero_le _, Nat.zero_le _⟩ ?_
        refine ⟨?_, rfl, rfl⟩
        unfold g_wisher
        rw [if_pos c5, nI_clamp (show w < 2 ^ 31 by omega)]
        first
          | (rw [if_pos rfl]; done)
          | (rw [if_neg (by decide), if_pos rfl]; done)
          | (rw [if_neg (by decide), if_neg (by decide), if_pos rfl]; done)
          | (rw [if_neg (by decide), if_neg (by decide), if_neg (by decide), if_pos rfl]; done)
          | (rw [if_neg (by decide), if_neg (by decide), if_neg (by decide), if_neg (by decide), if_pos rfl]; done)
          | (rw [if_neg (by decide), if_neg (by decide), if_neg (by decide), if_neg (by decide), if_neg (by decide), if_pos rfl]; done)
          | (rw [if_neg (sw_ne hk9 (show 0 ≤ 5 by decide) (by decide)), if_neg (sw_ne hk9 (show 1 ≤ 5 by decide) (by decide)), if_neg (sw_ne hk9 (show 2 ≤ 5 by decide) (by decide)), if_neg (sw_ne hk9 (show 3 ≤ 5 by decide) (by decide)), if_neg (sw_ne hk9 (show 4 ≤ 5 by decide) (by decide)), if_neg (sw_ne hk9 (show 5 ≤ 5 by decide) (by decide))]; done)
      · refine r_tabIn (off := 92) (tgt := 104) dX5_wisher_12 (by decide) (by decide) rfl (by decide) ?_
        refine r_aload_n dX5_wisher_104 rfl ?_
        refine r_getR (ci := 5) (k := 3) wf_X5_33 dX5_wisher_105 z_0 k_0 (by decide) (by decide) (fun _ _ => rfl) f_0_3 ?_
        refine r_aload_n dX5_wisher_108 rfl ?_
        refine r_getR (ci := 5) (k := 2) wf_X5_26 dX5_wisher_109 z_0 k_0 (by decide) (by decide) (fun _ _ => rfl) f_0_2 ?_
        refine r_iload_n dX5_wisher_112 rfl ?_
        refine r_callVI (As := [.ref (B + 15), .int (nI w)]) (o := 21) (c_X0_wishes B D E 21 15 isC_n isL_l (dj15 (Or.inl rfl)) r wy hW 999 hH (by decide) ⟨hCn.1.1, hCn.1.2.2.2.2.2⟩ hLl hY w hw1) hv_X0_wishes wm_X5_202 dX5_wisher_113 rfl rfl z_21 k_21 (by decide) rfl (Nat.le_of_ble_eq_true rfl) ⟨Nat.le_of_ble_eq_true rfl, Nat.le_of_ble_eq_true rfl, Nat.zero_le _, Nat.zero_le _⟩ ⟨rfl, rfl⟩ (fun z12 D13 E14 hz12 => ?_)
        obtain ⟨hqV, hqD, hqE⟩ := hz12
        obtain rfl : z12 = bI (s_wiB r w = true) := hqV
        obtain rfl := hqD.symm
        obtain rfl := hqE.symm
        refine r_if_eq (tgt := 134) dX5_wisher_116 (by decide) (fun c116 => ?_) (fun c116 => ?_)
        · skip
          rw [bI_0] at c116
          refine r_iconst (nI 0) dX5_wisher_134 (by decide) ?_
          refine r_iret2 dX5_wisher_135 rfl ⟨Nat.zero_le _, Nat.zero_le _⟩ ?_
          refine ⟨?_, rfl, rfl⟩
          unfold g_wisher
          rw [if_pos c5, nI_clamp (show w < 2 ^ 31 by omega)]
          rw [if_neg (by decide), if_neg (by decide), if_neg (by decide), if_neg (by decide), if_neg (by decide), if_pos rfl]
          first | rw [if_pos c116] | rw [if_neg c116]
        · skip
          rw [bI_n0] at c116
          refine r_aload_n dX5_wisher_119 rfl ?_
          refine r_getR (ci := 5) (k := 3) wf_X5_33 dX5_wisher_120 z_0 k_0 (by decide) (by decide) (fun _ _ => rfl) f_0_3 ?_
          refine r_aload_n dX5_wisher_123 rfl ?_
          refine r_getR (ci := 5) (k := 2) wf_X5_26 dX5_wisher_124 z_0 k_0 (by decide) (by decide) (fun _ _ => rfl) f_0_2 ?_
          refine r_iload_n dX5_wisher_127 rfl ?_
          refine r_callVI (As := [.ref (B + 15), .int (nI w)]) (o := 21) (c_X0_force B D E 21 15 isC_n isL_l (dj15 (Or.inl rfl)) r wy hW 999 hH (by decide) hCn hLl hY hT w hw1) hv_X0_force wm_X5_206 dX5_wisher_128 rfl rfl z_21 k_21 (by decide) rfl (Nat.le_of_ble_eq_true rfl) ⟨Nat.le_of_ble_eq_true rfl, Nat.le_of_ble_eq_true rfl, Nat.zero_le _, Nat.zero_le _⟩ ⟨rfl, rfl⟩ (fun z15 D16 E17 hz15 => ?_)
          obtain ⟨hqV, hqD, hqE⟩ := hz15
          obtain rfl : z15 = nI (s_wish wy r w) := hqV
          obtain rfl := hqD.symm
          obtain rfl := hqE.symm
          refine r_goto (tgt := 135) dX5_wisher_131 (by decide) ?_
          refine r_iret2 dX5_wisher_135 rfl ⟨Nat.zero_le _, Nat.zero_le _⟩ ?_
          refine ⟨?_, rfl, rfl⟩
          unfold g_wisher
          rw [if_pos c5, nI_clamp (show w < 2 ^ 31 by omega)]
          rw [if_neg (by decide), if_neg (by decide), if_neg (by decide), if_neg (by decide), if_neg (by decide), if_pos rfl]
          first | rw [if_pos c116] | rw [if_neg c116]
    · refine r_tabOut (tgt := 136) dX5_wisher_12 hk9 (by decide) ?_
      refine r_ldc wc_X5_77 dX5_wisher_136 ?_
      refine r_iret2 dX5_wisher_138 rfl ⟨Nat.zero_le _, Nat.zero_le _⟩ ?_
      refine ⟨?_, rfl, rfl⟩
      unfold g_wisher
      rw [if_pos c5, nI_clamp (show w < 2 ^ 31 by omega)]
      first
        | (rw [if_pos rfl]; done)
        | (rw [if_neg (by decide), if_pos rfl]; done)
        | (rw [if_neg (by decide), if_neg (by decide), if_pos rfl]; done)
        | (rw [if_neg (by decide), if_neg (by decide), if_neg (by decide), if_pos rfl]; done)
        | (rw [if_neg (by decide), if_neg (by decide), if_neg (by decide), if_neg (by decide), if_pos rfl]; done)
        | (rw [if_neg (by decide), if_neg (by decide), if_neg (by decide), if_neg (by decide), if_neg (by decide), if_pos rfl]; done)
        | (rw [if_neg (sw_ne hk9 (show 0 ≤ 5 by decide) (by decide)), if_neg (sw_ne hk9 (show 1 ≤ 5 by decide) (by decide)), if_neg (sw_ne hk9 (show 2 ≤ 5 by decide) (by decide)), if_neg (sw_ne hk9 (show 3 ≤ 5 by decide) (by decide)), if_neg (sw_ne hk9 (show 4 ≤ 5 by decide) (by decide)), if_neg (sw_ne hk9 (show 5 ≤ 5 by decide) (by decide))]; done)
  · skip
    rw [bI_0] at c5
    refine r_ldc wc_X5_77 dX5_wisher_8 ?_
    refine r_iret2 dX5_wisher_10 rfl ⟨Nat.zero_le _, Nat.zero_le _⟩ ?_
    exact ⟨(if_neg c5).symm, rfl, rfl⟩
set_option maxRecDepth 100000 in
set_option maxHeartbeats 4000000 in
theorem c_X5_place (B : Nat) (D : DD) (E : EE) (wy : Nat → Nat) (r : Row) (hX : XL D wy r) (x what : Int32) : MR yX5_place cX5_place 3 (some .int) rX5_place B [.ref (B + 0), .int x, .int what] Z0 D E (Q2 Z0 (pI (fun v D' E' => v = (if 0 < r 0 then g_place wy r x what else -1000002) ∧ SX D D' ∧ E' = E))) := by
  obtain ⟨hO, hCn, hLl, hYY⟩ := id hX
  obtain ⟨l0, l5, l4, l6, l7, l8, l1⟩ := hO.le
  refine r_enter [(0, .ref (B + 0)), (1, .int x), (2, .int what)] hv_X5_place.1.2.2.2.2 (Nat.le_of_ble_eq_true rfl) rfl ?_
  refine r_aload_n dX5_place_0 rfl ?_
  refine r_callVI (As := []) (o := 0) (c_X5_hasLand B D E (r 0) hLl.1.1 l0) hv_X5_hasLand wm_X5_156 dX5_place_1 rfl rfl z_0 k_0 (by decide) rfl (Nat.le_of_ble_eq_true rfl) ⟨Nat.le_of_ble_eq_true rfl, Nat.le_of_ble_eq_true rfl, Nat.zero_le _, Nat.zero_le _⟩ ⟨rfl, rfl⟩ (fun z1 D2 E3 hz1 => ?_)
  obtain ⟨hqV, hqD, hqE⟩ := hz1
  obtain rfl : z1 = bI (0 < r 0) := hqV
  obtain rfl := hqD.symm
  obtain rfl := hqE.symm
  refine r_if_ne (tgt := 10) dX5_place_4 (by decide) (fun c4 => ?_) (fun c4 => ?_)
  · skip
    rw [bI_n0] at c4
    obtain ⟨hW, hT, hH⟩ := hO.p c4
    have hY := hYY hW
    obtain ⟨b1, b2, b3, b4, b5, b6, b7, b8⟩ := hW.1
    refine r_aload_n dX5_place_10 rfl ?_
    refine r_iload_n dX5_place_11 rfl ?_
    refine r_callVI (As := [.int x]) (o := 0) (c_X5_isPlace B D E x (r 0) hLl.1.1) hv_X5_isPlace wm_X5_175 dX5_place_12 rfl rfl z_0 k_0 (by decide) rfl (Nat.le_of_ble_eq_true rfl) ⟨Nat.le_of_ble_eq_true rfl, Nat.le_of_ble_eq_true rfl, Nat.zero_le _, Nat.zero_le _⟩ ⟨rfl, rfl⟩ (fun z4 D5 E6 hz4 => ?_)
    obtain ⟨hqV, hqD, hqE⟩ := hz4
    obtain rfl : z4 = bI (nI 0 ≤ x ∧ x ≤ nI (r 0) - nI 1) := hqV
    obtain rfl := hqD.symm
    obtain rfl := hqE.symm
    refine r_if_ne (tgt := 21) dX5_place_15 (by decide) (fun c15 => ?_) (fun c15 => ?_)
    · skip
      rw [bI_n0] at c15
      obtain ⟨p, hp1, rfl⟩ := gd_n (by omega) c15
      refine r_iload_n dX5_place_21 rfl ?_
      rcases sw_or 2 what with ⟨k9, hk9, rfl⟩ | hk9
      · skip
        rcases (show k9 = 0 ∨ k9 = 1 ∨ k9 = 2 by omega) with rfl | rfl | rfl
        · refine r_tabIn (off := 26) (tgt := 48) dX5_place_22 (by decide) (by decide) rfl (by decide) ?_
          refine r_aload_n dX5_place_48 rfl ?_
          refine r_getR (ci := 5) (k := 3) wf_X5_33 dX5_place_49 z_0 k_0 (by decide) (by decide) (fun _ _ => rfl) f_0_3 ?_
          refine r_aload_n dX5_place_52 rfl ?_
          refine r_getR (ci := 5) (k := 2) wf_X5_26 dX5_place_53 z_0 k_0 (by decide) (by decide) (fun _ _ => rfl) f_0_2 ?_
          refine r_callVV (As := [.ref (B + 15)]) (o := 21) (c_X0_weigh B D E 21 15 isC_n isL_l (dj15 (Or.inl rfl)) r wy hW 999 hH (by decide) hCn hLl hY hT) hv_X0_weigh wm_X5_210 dX5_place_56 rfl rfl z_21 k_21 (by decide) rfl (Nat.le_of_ble_eq_true rfl) ⟨Nat.le_of_ble_eq_true rfl, Nat.le_of_ble_eq_true rfl, Nat.zero_le _, Nat.zero_le _⟩ ⟨rfl, rfl⟩ (fun D8 E9 hz7 => ?_)
          obtain ⟨⟨g, hgD, hg⟩, hqE⟩ := hz7
          obtain rfl := hqE.symm
          have hS9 : SX D D8 := fun q h1 h2 => by rw [hgD]; exact upo_n h1
          have hg9 : D8 26 p = s_pull wy r 63 0 (nI 0) p := by rw [hgD]; exact (congrFun upo_s p).trans (hg p hp1)
          refine r_aload_n dX5_place_59 rfl ?_
          refine r_getR (ci := 5) (k := 3) wf_X5_33 dX5_place_60 z_0 k_0 (by decide) (by decide) (fun _ _ => rfl) f_0_3 ?_
          refine r_getR (ci := 0) (k := 10) wf_X5_213 dX5_place_63 z_21 k_21 (by decide) (by decide) (fun _ _ => rfl) f_21_10 ?_
          refine r_iload_n dX5_place_66 rfl ?_
          refine r_iald dX5_place_67 z_26 k_26 (vp_in_nI (by omega) (by decide)) (fun z10 hz10 => ?_)
          rw [nI_clamp (by omega)] at hz10
          obtain rfl : z10 = s_pull wy r 63 0 (nI 0) p := hz10.trans hg9
          refine r_iret2 dX5_place_68 rfl ⟨Nat.zero_le _, Nat.zero_le _⟩ ?_
          refine ⟨?_, hS9, rfl⟩
          unfold g_place
          rw [if_pos c4, if_pos c15, nI_clamp (show p < 2 ^ 31 by omega)]
          rw [if_pos rfl]
        · refine r_tabIn (off := 47) (tgt := 69) dX5_place_22 (by decide) (by decide) rfl (by decide) ?_
          refine r_aload_n dX5_place_69 rfl ?_
          refine r_getR (ci := 5) (k := 3) wf_X5_33 dX5_place_70 z_0 k_0 (by decide) (by decide) (fun _ _ => rfl) f_0_3 ?_
          refine r_getI (ci := 0) (k := 4) wf_X5_216 dX5_place_73 z_21 k_21 (by decide) (by decide) rfl (fun z11 hz11 => ?_)
          obtain rfl : z11 = nI (r 9) := hz11.trans hCn.1.2.2.2.2.1
          refine r_iload_n dX5_place_76 rfl ?_
          refine r_callSI (As := [.int (nI (r 9)), .int (nI p)]) (c_X5_bit B D E (nI (r 9)) (nI p)) hs_X5_bit wm_X5_187 rfl dX5_place_77 rfl rfl (Nat.le_of_ble_eq_true rfl) ⟨Nat.le_of_ble_eq_true rfl, Nat.le_of_ble_eq_true rfl, Nat.zero_le _, Nat.zero_le _⟩ ⟨rfl, rfl⟩ (fun z12 D13 E14 hz12 => ?_)
          obtain ⟨hq1, hqD, hqE⟩ := hz12
          obtain rfl := hqD.symm
          obtain rfl := hqE.symm
          obtain rfl : z12 = nI (r 9 / 2 ^ p % 2) := hq1.trans (bit_n (by omega) (by omega))
          refine r_iret2 dX5_place_80 rfl ⟨Nat.zero_le _, Nat.zero_le _⟩ ?_
          refine ⟨?_, SX.rf, rfl⟩
          unfold g_place
          rw [if_pos c4, if_pos c15, nI_clamp (show p < 2 ^ 31 by omega)]
          first
            | (rw [if_pos rfl]; done)
            | (rw [if_neg (by decide), if_pos rfl]; done)
            | (rw [if_neg (by decide), if_neg (by decide), if_pos rfl]; done)
            | (rw [if_neg (sw_ne hk9 (show 0 ≤ 2 by decide) (by decide)), if_neg (sw_ne hk9 (show 1 ≤ 2 by decide) (by decide)), if_neg (sw_ne hk9 (show 2 ≤ 2 by decide) (by decide))]; done)
        · refine r_tabIn (off := 59) (tgt := 81) dX5_place_22 (by decide) (by decide) rfl (by decide) ?_
          refine r_aload_n dX5_place_81 rfl ?_
          refine r_getR (ci := 5) (k := 2) wf_X5_26 dX5_place_82 z_0 k_0 (by decide) (by decide) (fun _ _ => rfl) f_0_2 ?_
          refine r_getR (ci := 1) (k := 5) wf_X5_219 dX5_place_85 z_15 k_15 (by decide) (by decide) (fun _ _ => rfl) f_15_5 ?_
          refine r_iload_n dX5_place_88 rfl ?_
          refine r_iald dX5_place_89 z_16 k_16 (vp_in_nI (by omega) (by decide)) (fun z15 hz15 => ?_)
          rw [nI_clamp (by omega)] at hz15
          obtain rfl : z15 = nI (r (10 + p)) := hz15.trans (hLl.2.1 p (by omega))
          refine r_iret2 dX5_place_90 rfl ⟨Nat.zero_le _, Nat.zero_le _⟩ ?_
          refine ⟨?_, SX.rf, rfl⟩
          unfold g_place
          rw [if_pos c4, if_pos c15, nI_clamp (show p < 2 ^ 31 by omega)]
          first
            | (rw [if_pos rfl]; done)
            | (rw [if_neg (by decide), if_pos rfl]; done)
            | (rw [if_neg (by decide), if_neg (by decide), if_pos rfl]; done)
            | (rw [if_neg (sw_ne hk9 (show 0 ≤ 2 by decide) (by decide)), if_neg (sw_ne hk9 (show 1 ≤ 2 by decide) (by decide)), if_neg (sw_ne hk9 (show 2 ≤ 2 by decide) (by decide))]; done)
      · refine r_tabOut (tgt := 91) dX5_place_22 hk9 (by decide) ?_
        refine r_ldc wc_X5_77 dX5_place_91 ?_
        refine r_iret2 dX5_place_93 rfl ⟨Nat.zero_le _, Nat.zero_le _⟩ ?_
        refine ⟨?_, SX.rf, rfl⟩
        unfold g_place
        rw [if_pos c4, if_pos c15, nI_clamp (show p < 2 ^ 31 by omega)]
        first
          | (rw [if_pos rfl]; done)
          | (rw [if_neg (by decide), if_pos rfl]; done)
          | (rw [if_neg (by decide), if_neg (by decide), if_pos rfl]; done)
          | (rw [if_neg (sw_ne hk9 (show 0 ≤ 2 by decide) (by decide)), if_neg (sw_ne hk9 (show 1 ≤ 2 by decide) (by decide)), if_neg (sw_ne hk9 (show 2 ≤ 2 by decide) (by decide))]; done)
    · skip
      rw [bI_0] at c15
      refine r_ldc wc_X5_77 dX5_place_18 ?_
      refine r_iret2 dX5_place_20 rfl ⟨Nat.zero_le _, Nat.zero_le _⟩ ?_
      refine ⟨?_, SX.rf, rfl⟩
      rw [if_pos c4]
      exact (if_neg c15).symm
  · skip
    rw [bI_0] at c4
    refine r_ldc wc_X5_152 dX5_place_7 ?_
    refine r_iret2 dX5_place_9 rfl ⟨Nat.zero_le _, Nat.zero_le _⟩ ?_
    refine ⟨?_, SX.rf, rfl⟩
    rw [if_neg c4]
set_option maxRecDepth 100000 in
set_option maxHeartbeats 4000000 in
theorem c_X5_far (B : Nat) (D : DD) (E : EE) (wy : Nat → Nat) (r : Row) (hX : XL D wy r) (x y : Int32) : MR yX5_far cX5_far 3 (some .int) rX5_far B [.ref (B + 0), .int x, .int y] Z0 D E (Q2 Z0 (pI (fun v D' E' => v = (if 0 < r 0 then g_far wy r x y else -1000002) ∧ D' = D ∧ E' = E))) := by
  obtain ⟨hO, hCn, hLl, hYY⟩ := id hX
  obtain ⟨l0, l5, l4, l6, l7, l8, l1⟩ := hO.le
  refine r_enter [(0, .ref (B + 0)), (1, .int x), (2, .int y)] hv_X5_far.1.2.2.2.2 (Nat.le_of_ble_eq_true rfl) rfl ?_
  refine r_aload_n dX5_far_0 rfl ?_
  refine r_callVI (As := []) (o := 0) (c_X5_hasLand B D E (r 0) hLl.1.1 l0) hv_X5_hasLand wm_X5_156 dX5_far_1 rfl rfl z_0 k_0 (by decide) rfl (Nat.le_of_ble_eq_true rfl) ⟨Nat.le_of_ble_eq_true rfl, Nat.le_of_ble_eq_true rfl, Nat.zero_le _, Nat.zero_le _⟩ ⟨rfl, rfl⟩ (fun z1 D2 E3 hz1 => ?_)
  obtain ⟨hqV, hqD, hqE⟩ := hz1
  obtain rfl : z1 = bI (0 < r 0) := hqV
  obtain rfl := hqD.symm
  obtain rfl := hqE.symm
  refine r_if_ne (tgt := 10) dX5_far_4 (by decide) (fun c4 => ?_) (fun c4 => ?_)
  · skip
    rw [bI_n0] at c4
    obtain ⟨hW, hT, hH⟩ := hO.p c4
    have hY := hYY hW
    obtain ⟨b1, b2, b3, b4, b5, b6, b7, b8⟩ := hW.1
    refine r_aload_n dX5_far_10 rfl ?_
    refine r_iload_n dX5_far_11 rfl ?_
    refine r_callVI (As := [.int x]) (o := 0) (c_X5_isPlace B D E x (r 0) hLl.1.1) hv_X5_isPlace wm_X5_175 dX5_far_12 rfl rfl z_0 k_0 (by decide) rfl (Nat.le_of_ble_eq_true rfl) ⟨Nat.le_of_ble_eq_true rfl, Nat.le_of_ble_eq_true rfl, Nat.zero_le _, Nat.zero_le _⟩ ⟨rfl, rfl⟩ (fun z4 D5 E6 hz4 => ?_)
    obtain ⟨hqV, hqD, hqE⟩ := hz4
    obtain rfl : z4 = bI (nI 0 ≤ x ∧ x ≤ nI (r 0) - nI 1) := hqV
    obtain rfl := hqD.symm
    obtain rfl := hqE.symm
    refine r_if_eq (tgt := 26) dX5_far_15 (by decide) (fun c15 => ?_) (fun c15 => ?_)
    · skip
      rw [bI_0] at c15
      refine r_ldc wc_X5_77 dX5_far_26 ?_
      refine r_iret2 dX5_far_28 rfl ⟨Nat.zero_le _, Nat.zero_le _⟩ ?_
      refine ⟨?_, rfl, rfl⟩
      unfold g_far
      rw [if_pos c4]
      first | rw [if_neg c15] | rw [if_pos c15, if_neg c23]
    · skip
      rw [bI_n0] at c15
      obtain ⟨a, ha1, rfl⟩ := gd_n (by omega) c15
      refine r_aload_n dX5_far_18 rfl ?_
      refine r_iload_n dX5_far_19 rfl ?_
      refine r_callVI (As := [.int y]) (o := 0) (c_X5_isPlace B D E y (r 0) hLl.1.1) hv_X5_isPlace wm_X5_175 dX5_far_20 rfl rfl z_0 k_0 (by decide) rfl (Nat.le_of_ble_eq_true rfl) ⟨Nat.le_of_ble_eq_true rfl, Nat.le_of_ble_eq_true rfl, Nat.zero_le _, Nat.zero_le _⟩ ⟨rfl, rfl⟩ (fun z7 D8 E9 hz7 => ?_)
      obtain ⟨hqV, hqD, hqE⟩ := hz7
      obtain rfl : z7 = bI (nI 0 ≤ y ∧ y ≤ nI (r 0) - nI 1) := hqV
      obtain rfl := hqD.symm
      obtain rfl := hqE.symm
      refine r_if_ne (tgt := 29) dX5_far_23 (by decide) (fun c23 => ?_) (fun c23 => ?_)
      · skip
        rw [bI_n0] at c23
        obtain ⟨b, hb1, rfl⟩ := gd_n (by omega) c23
        refine r_aload_n dX5_far_29 rfl ?_
        refine r_getR (ci := 5) (k := 2) wf_X5_26 dX5_far_30 z_0 k_0 (by decide) (by decide) (fun _ _ => rfl) f_0_2 ?_
        refine r_iload_n dX5_far_33 rfl ?_
        refine r_iload_n dX5_far_34 rfl ?_
        refine r_callVI (As := [.int (nI a), .int (nI b)]) (o := 15) (c_X1_way B D E 15 a b isL_l (by omega)) hv_X1_way wm_X5_222 dX5_far_35 rfl rfl z_15 k_15 (by decide) rfl (Nat.le_of_ble_eq_true rfl) ⟨Nat.le_of_ble_eq_true rfl, Nat.le_of_ble_eq_true rfl, Nat.zero_le _, Nat.zero_le _⟩ ⟨rfl, rfl⟩ (fun z10 D11 E12 hz10 => ?_)
        obtain ⟨hq1, hqD, hqE⟩ := hz10
        obtain rfl := hqD.symm
        obtain rfl := hqE.symm
        obtain rfl : z10 = nI (wy (6 * a + b)) := hq1.trans (hLl.2.2.1 _ (by omega))
        refine r_iret2 dX5_far_38 rfl ⟨Nat.zero_le _, Nat.zero_le _⟩ ?_
        refine ⟨?_, rfl, rfl⟩
        unfold g_far
        rw [if_pos c4, if_pos c15, if_pos c23, nI_clamp (by omega), nI_clamp (by omega)]
      · skip
        rw [bI_0] at c23
        refine r_ldc wc_X5_77 dX5_far_26 ?_
        refine r_iret2 dX5_far_28 rfl ⟨Nat.zero_le _, Nat.zero_le _⟩ ?_
        refine ⟨?_, rfl, rfl⟩
        unfold g_far
        rw [if_pos c4]
        first | rw [if_neg c15] | rw [if_pos c15, if_neg c23]
  · skip
    rw [bI_0] at c4
    refine r_ldc wc_X5_152 dX5_far_7 ?_
    refine r_iret2 dX5_far_9 rfl ⟨Nat.zero_le _, Nat.zero_le _⟩ ?_
    exact ⟨(if_neg c4).symm, rfl, rfl⟩
set_option maxRecDepth 100000 in
set_option maxHeartbeats 4000000 in
theorem c_X5_kind (B : Nat) (D : DD) (E : EE) (wy : Nat → Nat) (r : Row) (hX : XL D wy r) (x : Int32) : MR yX5_kind cX5_kind 2 (some .int) rX5_kind B [.ref (B + 0), .int x] Z0 D E (Q2 Z0 (pI (fun v D' E' => v = (g_kind r x) ∧ D' = D ∧ E' = E))) := by
  obtain ⟨hO, hCn, hLl, hYY⟩ := id hX
  obtain ⟨l0, l5, l4, l6, l7, l8, l1⟩ := hO.le
  refine r_enter [(0, .ref (B + 0)), (1, .int x)] hv_X5_kind.1.2.2.2.2 (Nat.le_of_ble_eq_true rfl) rfl ?_
  refine r_aload_n dX5_kind_0 rfl ?_
  refine r_iload_n dX5_kind_1 rfl ?_
  refine r_callVI (As := [.int x]) (o := 0) (c_X5_isWisher B D E x (r 5) hLl.1.2.2.2.2) hv_X5_isWisher wm_X5_172 dX5_kind_2 rfl rfl z_0 k_0 (by decide) rfl (Nat.le_of_ble_eq_true rfl) ⟨Nat.le_of_ble_eq_true rfl, Nat.le_of_ble_eq_true rfl, Nat.zero_le _, Nat.zero_le _⟩ ⟨rfl, rfl⟩ (fun z1 D2 E3 hz1 => ?_)
  obtain ⟨hqV, hqD, hqE⟩ := hz1
  obtain rfl : z1 = bI (nI 0 ≤ x ∧ x ≤ nI (r 5) - nI 1) := hqV
  obtain rfl := hqD.symm
  obtain rfl := hqE.symm
  refine r_if_eq (tgt := 20) dX5_kind_5 (by decide) (fun c5 => ?_) (fun c5 => ?_)
  · skip
    rw [bI_0] at c5
    refine r_ldc wc_X5_77 dX5_kind_20 ?_
    refine r_iret2 dX5_kind_22 rfl ⟨Nat.zero_le _, Nat.zero_le _⟩ ?_
    refine ⟨?_, rfl, rfl⟩
    unfold g_kind
    first | rw [if_neg c5] | rw [if_pos c5, nI_clamp (show w < 2 ^ 31 by omega)]
  · skip
    rw [bI_n0] at c5
    obtain ⟨w, hw1, rfl⟩ := gd_n (by omega) c5
    obtain ⟨hW, hT, hH⟩ := hO.w hw1
    have hY := hYY hW
    obtain ⟨b1, b2, b3, b4, b5, b6, b7, b8⟩ := hW.1
    obtain ⟨⟨d1, d2⟩, d3, d4, d5, d6, ⟨d7, d8⟩, d9, d10⟩ := hW.2.2.1 w hw1
    have hr5 := rmask_lt (r 5) (fun w hw => (hW.2.2.1 w hw).2.2.2.2.2.2.2)
    have hp2 := pw2_le b7
    refine r_aload_n dX5_kind_8 rfl ?_
    refine r_getR (ci := 5) (k := 3) wf_X5_33 dX5_kind_9 z_0 k_0 (by decide) (by decide) (fun _ _ => rfl) f_0_3 ?_
    refine r_getR (ci := 0) (k := 6) wf_X5_287 dX5_kind_12 z_21 k_21 (by decide) (by decide) (fun _ _ => rfl) f_21_6 ?_
    refine r_iload_n dX5_kind_15 rfl ?_
    refine r_iald dX5_kind_16 z_22 k_22 (vp_in_nI (by omega) (by decide)) (fun z4 hz4 => ?_)
    rw [nI_clamp (by omega)] at hz4
    obtain rfl : z4 = nI (r (16 + 8 * w)) := hz4.trans (hCn.2.1 w hw1).1
    refine r_goto (tgt := 22) dX5_kind_17 (by decide) ?_
    refine r_iret2 dX5_kind_22 rfl ⟨Nat.zero_le _, Nat.zero_le _⟩ ?_
    refine ⟨?_, rfl, rfl⟩
    unfold g_kind
    first | rw [if_neg c5] | rw [if_pos c5, nI_clamp (show w < 2 ^ 31 by omega)]
