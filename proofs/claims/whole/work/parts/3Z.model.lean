set_option maxRecDepth 100000 in
set_option maxHeartbeats 4000000 in
theorem c_X6_wisher (B : Nat) (D : DD) (E : EE) (wy : Nat → Nat) (r : Row) (hX0 : XM D wy r) (x what : Int32) : MR yX6_wisher cX6_wisher 3 (some .int) rX6_wisher B [.ref (B + 219), .int x, .int what] Z0 D E (Q2 Z0 (pI (fun v D' E' => v = (g_wisher wy r x what) ∧ MX D D' ∧ E' = E))) := by
  have hX := hX0.th
  obtain ⟨hO, hM, hwy, hYY⟩ := id hX
  obtain ⟨l0, l5, l4, l6, l7, l8, l1⟩ := hO.le
  refine r_enter [(0, .ref (B + 219)), (1, .int x), (2, .int what)] hv_X6_wisher.1.2.2.2.2 (Nat.le_of_ble_eq_true rfl) rfl ?_
  refine r_aload_n dX6_wisher_0 rfl ?_
  refine r_iconst (nI 0) dX6_wisher_1 (by decide) ?_
  refine r_putI (ci := 6) (k := 0) wf_X6_54 dX6_wisher_2 z_219 k_219 (by decide) (by decide) rfl rfl (fun D1 hD1 => ?_)
  obtain rfl : D1 = thD D := hD1.trans up2_eq
  refine r_aload_n dX6_wisher_5 rfl ?_
  refine r_iload_n dX6_wisher_6 rfl ?_
  refine r_callVI (As := [.int x]) (o := 219) (c_X6_isWisher B (thD D) E x (r 5) (hM 5 (by decide))) hv_X6_isWisher wm_X6_202 dX6_wisher_7 rfl rfl z_219 k_219 (by decide) rfl (Nat.le_of_ble_eq_true rfl) ⟨Nat.le_of_ble_eq_true rfl, Nat.le_of_ble_eq_true rfl, Nat.zero_le _, Nat.zero_le _⟩ ⟨rfl, rfl⟩ (fun z2 D3 E4 hz2 => ?_)
  obtain ⟨hqV, hqD, hqE⟩ := hz2
  obtain rfl : z2 = bI (nI 0 ≤ x ∧ x ≤ nI (r 5) - nI 1) := hqV
  obtain rfl := hqD.symm
  obtain rfl := hqE.symm
  refine r_if_ne (tgt := 16) dX6_wisher_10 (by decide) (fun c10 => ?_) (fun c10 => ?_)
  · skip
    rw [bI_n0] at c10
    obtain ⟨w, hw1, rfl⟩ := gd_n (by omega) c10
    obtain ⟨hW, hT, hH⟩ := hO.w hw1
    have hY := hYY hW
    obtain ⟨b1, b2, b3, b4, b5, b6, b7, b8⟩ := hW.1
    obtain ⟨⟨d1, d2⟩, d3, d4, d5, d6, ⟨d7, d8⟩, d9, d10⟩ := hW.2.2.1 w hw1
    refine r_iload_n dX6_wisher_16 rfl ?_
    rcases sw_or 5 what with ⟨k9, hk9, rfl⟩ | hk9
    · skip
      rcases (show k9 = 0 ∨ k9 = 1 ∨ k9 = 2 ∨ k9 = 3 ∨ k9 = 4 ∨ k9 = 5 by omega) with rfl | rfl | rfl | rfl | rfl | rfl
      · refine r_tabIn (off := 39) (tgt := 56) dX6_wisher_17 (by decide) (by decide) rfl (by decide) ?_
        refine r_aload_n dX6_wisher_56 rfl ?_
        refine r_getR (ci := 6) (k := 5) wf_X6_19 dX6_wisher_57 z_219 k_219 (by decide) (by decide) (fun _ _ => rfl) f_219_5 ?_
        refine r_iload_n dX6_wisher_60 rfl ?_
        refine r_iconst (nI 1) dX6_wisher_61 (by decide) ?_
        refine r_callSI (As := [.ref (B + 223), .int (nI w), .int (nI 1)]) (c_X6_of B (thD D) E 223 (Or.inl rfl) w 1 (by omega)) hs_X6_of wm_X6_159 rfl dX6_wisher_62 rfl rfl (Nat.le_of_ble_eq_true rfl) ⟨Nat.le_of_ble_eq_true rfl, Nat.le_of_ble_eq_true rfl, Nat.zero_le _, Nat.zero_le _⟩ ⟨rfl, rfl⟩ (fun z5 D6 E7 hz5 => ?_)
        obtain ⟨hq1, hqD, hqE⟩ := hz5
        obtain rfl := hqD.symm
        obtain rfl := hqE.symm
        obtain rfl : z5 = nI (r (17 + 8 * w)) := hq1.trans (MA_at hM (by omega) (by omega))
        refine r_iret2 dX6_wisher_65 rfl ⟨Nat.zero_le _, Nat.zero_le _⟩ ?_
        refine ⟨?_, MX.th, rfl⟩
        unfold g_wisher
        rw [if_pos c10, nI_clamp (show w < 2 ^ 31 by omega)]
        first
          | (rw [if_pos rfl]; done)
          | (rw [if_neg (by decide), if_pos rfl]; done)
          | (rw [if_neg (by decide), if_neg (by decide), if_pos rfl]; done)
          | (rw [if_neg (by decide), if_neg (by decide), if_neg (by decide), if_pos rfl]; done)
          | (rw [if_neg (by decide), if_neg (by decide), if_neg (by decide), if_neg (by decide), if_pos rfl]; done)
          | (rw [if_neg (by decide), if_neg (by decide), if_neg (by decide), if_neg (by decide), if_neg (by decide), if_pos rfl]; done)
          | (rw [if_neg (sw_ne hk9 (show 0 ≤ 5 by decide) (by decide)), if_neg (sw_ne hk9 (show 1 ≤ 5 by decide) (by decide)), if_neg (sw_ne hk9 (show 2 ≤ 5 by decide) (by decide)), if_neg (sw_ne hk9 (show 3 ≤ 5 by decide) (by decide)), if_neg (sw_ne hk9 (show 4 ≤ 5 by decide) (by decide)), if_neg (sw_ne hk9 (show 5 ≤ 5 by decide) (by decide))]; done)
      · refine r_tabIn (off := 49) (tgt := 66) dX6_wisher_17 (by decide) (by decide) rfl (by decide) ?_
        refine r_aload_n dX6_wisher_66 rfl ?_
        refine r_getR (ci := 6) (k := 5) wf_X6_19 dX6_wisher_67 z_219 k_219 (by decide) (by decide) (fun _ _ => rfl) f_219_5 ?_
        refine r_iload_n dX6_wisher_70 rfl ?_
        refine r_iconst (nI 2) dX6_wisher_71 (by decide) ?_
        refine r_callSI (As := [.ref (B + 223), .int (nI w), .int (nI 2)]) (c_X6_of B (thD D) E 223 (Or.inl rfl) w 2 (by omega)) hs_X6_of wm_X6_159 rfl dX6_wisher_72 rfl rfl (Nat.le_of_ble_eq_true rfl) ⟨Nat.le_of_ble_eq_true rfl, Nat.le_of_ble_eq_true rfl, Nat.zero_le _, Nat.zero_le _⟩ ⟨rfl, rfl⟩ (fun z8 D9 E10 hz8 => ?_)
        obtain ⟨hq1, hqD, hqE⟩ := hz8
        obtain rfl := hqD.symm
        obtain rfl := hqE.symm
        obtain rfl : z8 = nI (r (18 + 8 * w)) := hq1.trans (MA_at hM (by omega) (by omega))
        refine r_iret2 dX6_wisher_75 rfl ⟨Nat.zero_le _, Nat.zero_le _⟩ ?_
        refine ⟨?_, MX.th, rfl⟩
        unfold g_wisher
        rw [if_pos c10, nI_clamp (show w < 2 ^ 31 by omega)]
        first
          | (rw [if_pos rfl]; done)
          | (rw [if_neg (by decide), if_pos rfl]; done)
          | (rw [if_neg (by decide), if_neg (by decide), if_pos rfl]; done)
          | (rw [if_neg (by decide), if_neg (by decide), if_neg (by decide), if_pos rfl]; done)
          | (rw [if_neg (by decide), if_neg (by decide), if_neg (by decide), if_neg (by decide), if_pos rfl]; done)
          | (rw [if_neg (by decide), if_neg (by decide), if_neg (by decide), if_neg (by decide), if_neg (by decide), if_pos rfl]; done)
          | (rw [if_neg (sw_ne hk9 (show 0 ≤ 5 by decide) (by decide)), if_neg (sw_ne hk9 (show 1 ≤ 5 by decide) (by decide)), if_neg (sw_ne hk9 (show 2 ≤ 5 by decide) (by decide)), if_neg (sw_ne hk9 (show 3 ≤ 5 by decide) (by decide)), if_neg (sw_ne hk9 (show 4 ≤ 5 by decide) (by decide)), if_neg (sw_ne hk9 (show 5 ≤ 5 by decide) (by decide))]; done)
      · refine r_tabIn (off := 59) (tgt := 76) dX6_wisher_17 (by decide) (by decide) rfl (by decide) ?_
        refine r_aload_n dX6_wisher_76 rfl ?_
        refine r_getR (ci := 6) (k := 5) wf_X6_19 dX6_wisher_77 z_219 k_219 (by decide) (by decide) (fun _ _ => rfl) f_219_5 ?_
        refine r_iload_n dX6_wisher_80 rfl ?_
        refine r_iconst (nI 3) dX6_wisher_81 (by decide) ?_
        refine r_callSI (As := [.ref (B + 223), .int (nI w), .int (nI 3)]) (c_X6_of B (thD D) E 223 (Or.inl rfl) w 3 (by omega)) hs_X6_of wm_X6_159 rfl dX6_wisher_82 rfl rfl (Nat.le_of_ble_eq_true rfl) ⟨Nat.le_of_ble_eq_true rfl, Nat.le_of_ble_eq_true rfl, Nat.zero_le _, Nat.zero_le _⟩ ⟨rfl, rfl⟩ (fun z11 D12 E13 hz11 => ?_)
        obtain ⟨hq1, hqD, hqE⟩ := hz11
        obtain rfl := hqD.symm
        obtain rfl := hqE.symm
        obtain rfl : z11 = nI (r (19 + 8 * w)) := hq1.trans (MA_at hM (by omega) (by omega))
        refine r_iret2 dX6_wisher_85 rfl ⟨Nat.zero_le _, Nat.zero_le _⟩ ?_
        refine ⟨?_, MX.th, rfl⟩
        unfold g_wisher
        rw [if_pos c10, nI_clamp (show w < 2 ^ 31 by omega)]
        first
          | (rw [if_pos rfl]; done)
          | (rw [if_neg (by decide), if_pos rfl]; done)
          | (rw [if_neg (by decide), if_neg (by decide), if_pos rfl]; done)
          | (rw [if_neg (by decide), if_neg (by decide), if_neg (by decide), if_pos rfl]; done)
          | (rw [if_neg (by decide), if_neg (by decide), if_neg (by decide), if_neg (by decide), if_pos rfl]; done)
          | (rw [if_neg (by decide), if_neg (by decide), if_neg (by decide), if_neg (by decide), if_neg (by decide), if_pos rfl]; done)
          | (rw [if_neg (sw_ne hk9 (show 0 ≤ 5 by decide) (by decide)), if_neg (sw_ne hk9 (show 1 ≤ 5 by decide) (by decide)), if_neg (sw_ne hk9 (show 2 ≤ 5 by decide) (by decide)), if_neg (sw_ne hk9 (show 3 ≤ 5 by decide) (by decide)), if_neg (sw_ne hk9 (show 4 ≤ 5 by decide) (by decide)), if_neg (sw_ne hk9 (show 5 ≤ 5 by decide) (by decide))]; done)
      · refine r_tabIn (off := 69) (tgt := 86) dX6_wisher_17 (by decide) (by decide) rfl (by decide) ?_
        refine r_aload_n dX6_wisher_86 rfl ?_
        refine r_getR (ci := 6) (k := 5) wf_X6_19 dX6_wisher_87 z_219 k_219 (by decide) (by decide) (fun _ _ => rfl) f_219_5 ?_
        refine r_iload_n dX6_wisher_90 rfl ?_
        refine r_bipush (nI 6) dX6_wisher_91 (by decide) ?_
        refine r_callSI (As := [.ref (B + 223), .int (nI w), .int (nI 6)]) (c_X6_of B (thD D) E 223 (Or.inl rfl) w 6 (by omega)) hs_X6_of wm_X6_159 rfl dX6_wisher_93 rfl rfl (Nat.le_of_ble_eq_true rfl) ⟨Nat.le_of_ble_eq_true rfl, Nat.le_of_ble_eq_true rfl, Nat.zero_le _, Nat.zero_le _⟩ ⟨rfl, rfl⟩ (fun z14 D15 E16 hz14 => ?_)
        obtain ⟨hq1, hqD, hqE⟩ := hz14
        obtain rfl := hqD.symm
        obtain rfl := hqE.symm
        obtain rfl : z14 = nI (r (22 + 8 * w)) := hq1.trans (MA_at hM (by omega) (by omega))
        refine r_iret2 dX6_wisher_96 rfl ⟨Nat.zero_le _, Nat.zero_le _⟩ ?_
        refine ⟨?_, MX.th, rfl⟩
        unfold g_wisher
        rw [if_pos c10, nI_clamp (show w < 2 ^ 31 by omega)]
        first
          | (rw [if_pos rfl]; done)
          | (rw [if_neg (by decide), if_pos rfl]; done)
          | (rw [if_neg (by decide), if_neg (by decide), if_pos rfl]; done)
          | (rw [if_neg (by decide), if_neg (by decide), if_neg (by decide), if_pos rfl]; done)
          | (rw [if_neg (by decide), if_neg (by decide), if_neg (by decide), if_neg (by decide), if_pos rfl]; done)
          | (rw [if_neg (by decide), if_neg (by decide), if_neg (by decide), if_neg (by decide), if_neg (by decide), if_pos rfl]; done)
          | (rw [if_neg (sw_ne hk9 (show 0 ≤ 5 by decide) (by decide)), if_neg (sw_ne hk9 (show 1 ≤ 5 by decide) (by decide)), if_neg (sw_ne hk9 (show 2 ≤ 5 by decide) (by decide)), if_neg (sw_ne hk9 (show 3 ≤ 5 by decide) (by decide)), if_neg (sw_ne hk9 (show 4 ≤ 5 by decide) (by decide)), if_neg (sw_ne hk9 (show 5 ≤ 5 by decide) (by decide))]; done)
      · refine r_tabIn (off := 80) (tgt := 97) dX6_wisher_17 (by decide) (by decide) rfl (by decide) ?_
        refine r_aload_n dX6_wisher_97 rfl ?_
        refine r_getR (ci := 6) (k := 5) wf_X6_19 dX6_wisher_98 z_219 k_219 (by decide) (by decide) (fun _ _ => rfl) f_219_5 ?_
        refine r_iload_n dX6_wisher_101 rfl ?_
        refine r_bipush (nI 7) dX6_wisher_102 (by decide) ?_
        refine r_callSI (As := [.ref (B + 223), .int (nI w), .int (nI 7)]) (c_X6_of B (thD D) E 223 (Or.inl rfl) w 7 (by omega)) hs_X6_of wm_X6_159 rfl dX6_wisher_104 rfl rfl (Nat.le_of_ble_eq_true rfl) ⟨Nat.le_of_ble_eq_true rfl, Nat.le_of_ble_eq_true rfl, Nat.zero_le _, Nat.zero_le _⟩ ⟨rfl, rfl⟩ (fun z17 D18 E19 hz17 => ?_)
        obtain ⟨hq1, hqD, hqE⟩ := hz17
        obtain rfl := hqD.symm
        obtain rfl := hqE.symm
        obtain rfl : z17 = nI (r (23 + 8 * w)) := hq1.trans (MA_at hM (by omega) (by omega))
        refine r_iret2 dX6_wisher_107 rfl ⟨Nat.zero_le _, Nat.zero_le _⟩ ?_
        refine ⟨?_, MX.th, rfl⟩
        unfold g_wisher
        rw [if_pos c10, nI_clamp (show w < 2 ^ 31 by omega)]
        first
          | (rw [if_pos rfl]; done)
          | (rw [if_neg (by decide), if_pos rfl]; done)
          | (rw [if_neg (by decide), if_neg (by decide), if_pos rfl]; done)
          | (rw [if_neg (by decide), if_neg (by decide), if_neg (by decide), if_pos rfl]; done)
          | (rw [if_neg (by decide), if_neg (by decide), if_neg (by decide), if_neg (by decide), if_pos rfl]; done)
          | (rw [if_neg (by decide), if_neg (by decide), if_neg (by decide), if_neg (by decide), if_neg (by decide), if_pos rfl]; done)
          | (rw [if_neg (sw_ne hk9 (show 0 ≤ 5 by decide) (by decide)), if_neg (sw_ne hk9 (show 1 ≤ 5 by decide) (by decide)), if_neg (sw_ne hk9 (show 2 ≤ 5 by decide) (by decide)), if_neg (sw_ne hk9 (show 3 ≤ 5 by decide) (by decide)), if_neg (sw_ne hk9 (show 4 ≤ 5 by decide) (by decide)), if_neg (sw_ne hk9 (show 5 ≤ 5 by decide) (by decide))]; done)
      · refine r_tabIn (off := 91) (tgt := 108) dX6_wisher_17 (by decide) (by decide) rfl (by decide) ?_
        refine r_aload_n dX6_wisher_108 rfl ?_
        refine r_getR (ci := 6) (k := 5) wf_X6_19 dX6_wisher_109 z_219 k_219 (by decide) (by decide) (fun _ _ => rfl) f_219_5 ?_
        refine r_iload_n dX6_wisher_112 rfl ?_
        refine r_callSI (As := [.ref (B + 223), .int (nI w)]) (c_X6_wishes B (thD D) E 223 (Or.inl rfl) r wy hW 999 hH (by decide) hM hY w hw1) hs_X6_wishes wm_X6_169 rfl dX6_wisher_113 rfl rfl (Nat.le_of_ble_eq_true rfl) ⟨Nat.le_of_ble_eq_true rfl, Nat.le_of_ble_eq_true rfl, Nat.zero_le _, Nat.zero_le _⟩ ⟨rfl, rfl⟩ (fun z20 D21 E22 hz20 => ?_)
        obtain ⟨hqV, hqD, hqE⟩ := hz20
        obtain rfl : z20 = bI (s_wiB r w = true) := hqV
        obtain rfl := hqD.symm
        obtain rfl := hqE.symm
        refine r_if_eq (tgt := 131) dX6_wisher_116 (by decide) (fun c116 => ?_) (fun c116 => ?_)
        · skip
          rw [bI_0] at c116
          refine r_iconst (nI 0) dX6_wisher_131 (by decide) ?_
          refine r_iret2 dX6_wisher_132 rfl ⟨Nat.zero_le _, Nat.zero_le _⟩ ?_
          refine ⟨?_, MX.th, rfl⟩
          unfold g_wisher
          rw [if_pos c10, nI_clamp (show w < 2 ^ 31 by omega)]
          rw [if_neg (by decide), if_neg (by decide), if_neg (by decide), if_neg (by decide), if_neg (by decide), if_pos rfl]
          first | rw [if_pos c116] | rw [if_neg c116]
        · skip
          rw [bI_n0] at c116
          refine r_aload_n dX6_wisher_119 rfl ?_
          refine r_aload_n dX6_wisher_120 rfl ?_
          refine r_getR (ci := 6) (k := 5) wf_X6_19 dX6_wisher_121 z_219 k_219 (by decide) (by decide) (fun _ _ => rfl) f_219_5 ?_
          refine r_iload_n dX6_wisher_124 rfl ?_
          refine r_callVI (As := [.ref (B + 223), .int (nI w)]) (o := 219) (c_X6_wishBy B (thD D) E 223 (Or.inl rfl) r wy hW 999 hH (by decide) hM hY hwy w hw1) hv_X6_wishBy wm_X6_173 dX6_wisher_125 rfl rfl z_219 k_219 (by decide) rfl (Nat.le_of_ble_eq_true rfl) ⟨Nat.le_of_ble_eq_true rfl, Nat.le_of_ble_eq_true rfl, Nat.zero_le _, Nat.zero_le _⟩ ⟨rfl, rfl⟩ (fun z23 D24 E25 hz23 => ?_)
          obtain ⟨hqV, hqD, hqE⟩ := hz23
          obtain rfl : z23 = nI (s_wish wy r w) := hqV
          obtain rfl := hqD.symm
          obtain rfl := hqE.symm
          refine r_goto (tgt := 132) dX6_wisher_128 (by decide) ?_
          refine r_iret2 dX6_wisher_132 rfl ⟨Nat.zero_le _, Nat.zero_le _⟩ ?_
          refine ⟨?_, MX.th, rfl⟩
          unfold g_wisher
          rw [if_pos c10, nI_clamp (show w < 2 ^ 31 by omega)]
          rw [if_neg (by decide), if_neg (by decide), if_neg (by decide), if_neg (by decide), if_neg (by decide), if_pos rfl]
          first | rw [if_pos c116] | rw [if_neg c116]
    · refine r_tabOut (tgt := 133) dX6_wisher_17 hk9 (by decide) ?_
      refine r_ldc wc_X6_74 dX6_wisher_133 ?_
      refine r_iret2 dX6_wisher_135 rfl ⟨Nat.zero_le _, Nat.zero_le _⟩ ?_
      refine ⟨?_, MX.th, rfl⟩
      unfold g_wisher
      rw [if_pos c10, nI_clamp (show w < 2 ^ 31 by omega)]
      first
        | (rw [if_pos rfl]; done)
        | (rw [if_neg (by decide), if_pos rfl]; done)
        | (rw [if_neg (by decide), if_neg (by decide), if_pos rfl]; done)
        | (rw [if_neg (by decide), if_neg (by decide), if_neg (by decide), if_pos rfl]; done)
        | (rw [if_neg (by decide), if_neg (by decide), if_neg (by decide), if_neg (by decide), if_pos rfl]; done)
        | (rw [if_neg (by decide), if_neg (by decide), if_neg (by decide), if_neg (by decide), if_neg (by decide), if_pos rfl]; done)
        | (rw [if_neg (sw_ne hk9 (show 0 ≤ 5 by decide) (by decide)), if_neg (sw_ne hk9 (show 1 ≤ 5 by decide) (by decide)), if_neg (sw_ne hk9 (show 2 ≤ 5 by decide) (by decide)), if_neg (sw_ne hk9 (show 3 ≤ 5 by decide) (by decide)), if_neg (sw_ne hk9 (show 4 ≤ 5 by decide) (by decide)), if_neg (sw_ne hk9 (show 5 ≤ 5 by decide) (by decide))]; done)
  · skip
    rw [bI_0] at c10
    refine r_ldc wc_X6_74 dX6_wisher_13 ?_
    refine r_iret2 dX6_wisher_15 rfl ⟨Nat.zero_le _, Nat.zero_le _⟩ ?_
    exact ⟨(if_neg c10).symm, MX.th, rfl⟩
set_option maxRecDepth 100000 in
set_option maxHeartbeats 4000000 in
theorem c_X6_kind (B : Nat) (D : DD) (E : EE) (wy : Nat → Nat) (r : Row) (hX0 : XM D wy r) (x : Int32) : MR yX6_kind cX6_kind 2 (some .int) rX6_kind B [.ref (B + 219), .int x] Z0 D E (Q2 Z0 (pI (fun v D' E' => v = (g_kind r x) ∧ MX D D' ∧ E' = E))) := by
  have hX := hX0.th
  obtain ⟨hO, hM, hwy, hYY⟩ := id hX
  obtain ⟨l0, l5, l4, l6, l7, l8, l1⟩ := hO.le
  refine r_enter [(0, .ref (B + 219)), (1, .int x)] hv_X6_kind.1.2.2.2.2 (Nat.le_of_ble_eq_true rfl) rfl ?_
  refine r_aload_n dX6_kind_0 rfl ?_
  refine r_iconst (nI 0) dX6_kind_1 (by decide) ?_
  refine r_putI (ci := 6) (k := 0) wf_X6_54 dX6_kind_2 z_219 k_219 (by decide) (by decide) rfl rfl (fun D1 hD1 => ?_)
  obtain rfl : D1 = thD D := hD1.trans up2_eq
  refine r_aload_n dX6_kind_5 rfl ?_
  refine r_iload_n dX6_kind_6 rfl ?_
  refine r_callVI (As := [.int x]) (o := 219) (c_X6_isWisher B (thD D) E x (r 5) (hM 5 (by decide))) hv_X6_isWisher wm_X6_202 dX6_kind_7 rfl rfl z_219 k_219 (by decide) rfl (Nat.le_of_ble_eq_true rfl) ⟨Nat.le_of_ble_eq_true rfl, Nat.le_of_ble_eq_true rfl, Nat.zero_le _, Nat.zero_le _⟩ ⟨rfl, rfl⟩ (fun z2 D3 E4 hz2 => ?_)
  obtain ⟨hqV, hqD, hqE⟩ := hz2
  obtain rfl : z2 = bI (nI 0 ≤ x ∧ x ≤ nI (r 5) - nI 1) := hqV
  obtain rfl := hqD.symm
  obtain rfl := hqE.symm
  refine r_if_eq (tgt := 25) dX6_kind_10 (by decide) (fun c10 => ?_) (fun c10 => ?_)
  · skip
    rw [bI_0] at c10
    refine r_ldc wc_X6_74 dX6_kind_25 ?_
    refine r_iret2 dX6_kind_27 rfl ⟨Nat.zero_le _, Nat.zero_le _⟩ ?_
    refine ⟨?_, MX.th, rfl⟩
    unfold g_kind
    first | rw [if_neg c10] | rw [if_pos c10, nI_clamp (show w < 2 ^ 31 by omega)]
  · skip
    rw [bI_n0] at c10
    obtain ⟨w, hw1, rfl⟩ := gd_n (by omega) c10
    obtain ⟨hW, hT, hH⟩ := hO.w hw1
    have hY := hYY hW
    obtain ⟨b1, b2, b3, b4, b5, b6, b7, b8⟩ := hW.1
    obtain ⟨⟨d1, d2⟩, d3, d4, d5, d6, ⟨d7, d8⟩, d9, d10⟩ := hW.2.2.1 w hw1
    refine r_aload_n dX6_kind_13 rfl ?_
    refine r_getR (ci := 6) (k := 5) wf_X6_19 dX6_kind_14 z_219 k_219 (by decide) (by decide) (fun _ _ => rfl) f_219_5 ?_
    refine r_iload_n dX6_kind_17 rfl ?_
    refine r_iconst (nI 0) dX6_kind_18 (by decide) ?_
    refine r_callSI (As := [.ref (B + 223), .int (nI w), .int (nI 0)]) (c_X6_of B (thD D) E 223 (Or.inl rfl) w 0 (by omega)) hs_X6_of wm_X6_159 rfl dX6_kind_19 rfl rfl (Nat.le_of_ble_eq_true rfl) ⟨Nat.le_of_ble_eq_true rfl, Nat.le_of_ble_eq_true rfl, Nat.zero_le _, Nat.zero_le _⟩ ⟨rfl, rfl⟩ (fun z5 D6 E7 hz5 => ?_)
    obtain ⟨hq1, hqD, hqE⟩ := hz5
    obtain rfl := hqD.symm
    obtain rfl := hqE.symm
    obtain rfl : z5 = nI (r (16 + 8 * w)) := hq1.trans (MA_at hM (by omega) (by omega))
    refine r_goto (tgt := 27) dX6_kind_22 (by decide) ?_
    refine r_iret2 dX6_kind_27 rfl ⟨Nat.zero_le _, Nat.zero_le _⟩ ?_
    refine ⟨?_, MX.th, rfl⟩
    unfold g_kind
    first | rw [if_neg c10] | rw [if_pos c10, nI_clamp (show w < 2 ^ 31 by omega)]
set_option maxRecDepth 100000 in
set_option maxHeartbeats 4000000 in
theorem c_X6_far (B : Nat) (D : DD) (E : EE) (wy : Nat → Nat) (r : Row) (hX0 : XM D wy r) (x y : Int32) : MR yX6_far cX6_far 3 (some .int) rX6_far B [.ref (B + 219), .int x, .int y] Z0 D E (Q2 Z0 (pI (fun v D' E' => v = (if 0 < r 0 then g_far wy r x y else -1000002) ∧ MX D D' ∧ E' = E))) := by
  have hX := hX0.th
  obtain ⟨hO, hM, hwy, hYY⟩ := id hX
  obtain ⟨l0, l5, l4, l6, l7, l8, l1⟩ := hO.le
  refine r_enter [(0, .ref (B + 219)), (1, .int x), (2, .int y)] hv_X6_far.1.2.2.2.2 (Nat.le_of_ble_eq_true rfl) rfl ?_
  refine r_aload_n dX6_far_0 rfl ?_
  refine r_iconst (nI 0) dX6_far_1 (by decide) ?_
  refine r_putI (ci := 6) (k := 0) wf_X6_54 dX6_far_2 z_219 k_219 (by decide) (by decide) rfl rfl (fun D1 hD1 => ?_)
  obtain rfl : D1 = thD D := hD1.trans up2_eq
  refine r_aload_n dX6_far_5 rfl ?_
  refine r_callVI (As := []) (o := 219) (c_X6_isThere B (thD D) E (r 0) (hM 0 (by decide)) l0) hv_X6_isThere wm_X6_193 dX6_far_6 rfl rfl z_219 k_219 (by decide) rfl (Nat.le_of_ble_eq_true rfl) ⟨Nat.le_of_ble_eq_true rfl, Nat.le_of_ble_eq_true rfl, Nat.zero_le _, Nat.zero_le _⟩ ⟨rfl, rfl⟩ (fun z2 D3 E4 hz2 => ?_)
  obtain ⟨hqV, hqD, hqE⟩ := hz2
  obtain rfl : z2 = bI (0 < r 0) := hqV
  obtain rfl := hqD.symm
  obtain rfl := hqE.symm
  refine r_if_ne (tgt := 15) dX6_far_9 (by decide) (fun c9 => ?_) (fun c9 => ?_)
  · skip
    rw [bI_n0] at c9
    obtain ⟨hW, hT, hH⟩ := hO.p c9
    have hY := hYY hW
    obtain ⟨b1, b2, b3, b4, b5, b6, b7, b8⟩ := hW.1
    refine r_aload_n dX6_far_15 rfl ?_
    refine r_iload_n dX6_far_16 rfl ?_
    refine r_callVI (As := [.int x]) (o := 219) (c_X6_isPlace B (thD D) E x (r 0) (hM 0 (by decide))) hv_X6_isPlace wm_X6_205 dX6_far_17 rfl rfl z_219 k_219 (by decide) rfl (Nat.le_of_ble_eq_true rfl) ⟨Nat.le_of_ble_eq_true rfl, Nat.le_of_ble_eq_true rfl, Nat.zero_le _, Nat.zero_le _⟩ ⟨rfl, rfl⟩ (fun z5 D6 E7 hz5 => ?_)
    obtain ⟨hqV, hqD, hqE⟩ := hz5
    obtain rfl : z5 = bI (nI 0 ≤ x ∧ x ≤ nI (r 0) - nI 1) := hqV
    obtain rfl := hqD.symm
    obtain rfl := hqE.symm
    refine r_if_eq (tgt := 40) dX6_far_20 (by decide) (fun c20 => ?_) (fun c20 => ?_)
    · skip
      rw [bI_0] at c20
      refine r_ldc wc_X6_74 dX6_far_40 ?_
      refine r_iret2 dX6_far_42 rfl ⟨Nat.zero_le _, Nat.zero_le _⟩ ?_
      refine ⟨?_, MX.th, rfl⟩
      unfold g_far
      rw [if_pos c9]
      first | rw [if_neg c20] | rw [if_pos c20, if_neg c28] | rw [if_pos c20, if_pos c28, nI_clamp (by omega), nI_clamp (by omega)]
    · skip
      rw [bI_n0] at c20
      obtain ⟨a, ha1, rfl⟩ := gd_n (by omega) c20
      refine r_aload_n dX6_far_23 rfl ?_
      refine r_iload_n dX6_far_24 rfl ?_
      refine r_callVI (As := [.int y]) (o := 219) (c_X6_isPlace B (thD D) E y (r 0) (hM 0 (by decide))) hv_X6_isPlace wm_X6_205 dX6_far_25 rfl rfl z_219 k_219 (by decide) rfl (Nat.le_of_ble_eq_true rfl) ⟨Nat.le_of_ble_eq_true rfl, Nat.le_of_ble_eq_true rfl, Nat.zero_le _, Nat.zero_le _⟩ ⟨rfl, rfl⟩ (fun z8 D9 E10 hz8 => ?_)
      obtain ⟨hqV, hqD, hqE⟩ := hz8
      obtain rfl : z8 = bI (nI 0 ≤ y ∧ y ≤ nI (r 0) - nI 1) := hqV
      obtain rfl := hqD.symm
      obtain rfl := hqE.symm
      refine r_if_eq (tgt := 40) dX6_far_28 (by decide) (fun c28 => ?_) (fun c28 => ?_)
      · skip
        rw [bI_0] at c28
        refine r_ldc wc_X6_74 dX6_far_40 ?_
        refine r_iret2 dX6_far_42 rfl ⟨Nat.zero_le _, Nat.zero_le _⟩ ?_
        refine ⟨?_, MX.th, rfl⟩
        unfold g_far
        rw [if_pos c9]
        first | rw [if_neg c20] | rw [if_pos c20, if_neg c28] | rw [if_pos c20, if_pos c28, nI_clamp (by omega), nI_clamp (by omega)]
      · skip
        rw [bI_n0] at c28
        obtain ⟨b, hb1, rfl⟩ := gd_n (by omega) c28
        refine r_aload_n dX6_far_31 rfl ?_
        refine r_iload_n dX6_far_32 rfl ?_
        refine r_iload_n dX6_far_33 rfl ?_
        refine r_callVI (As := [.int (nI a), .int (nI b)]) (o := 219) (c_X6_farBy B (thD D) E a b (by omega)) hv_X6_farBy wm_X6_163 dX6_far_34 rfl rfl z_219 k_219 (by decide) rfl (Nat.le_of_ble_eq_true rfl) ⟨Nat.le_of_ble_eq_true rfl, Nat.le_of_ble_eq_true rfl, Nat.zero_le _, Nat.zero_le _⟩ ⟨rfl, rfl⟩ (fun z11 D12 E13 hz11 => ?_)
        obtain ⟨hq1, hqD, hqE⟩ := hz11
        obtain rfl := hqD.symm
        obtain rfl := hqE.symm
        obtain rfl : z11 = nI (wy (6 * a + b)) := hq1.trans (hwy _ (by omega))
        refine r_goto (tgt := 42) dX6_far_37 (by decide) ?_
        refine r_iret2 dX6_far_42 rfl ⟨Nat.zero_le _, Nat.zero_le _⟩ ?_
        refine ⟨?_, MX.th, rfl⟩
        unfold g_far
        rw [if_pos c9]
        first | rw [if_neg c20] | rw [if_pos c20, if_neg c28] | rw [if_pos c20, if_pos c28, nI_clamp (by omega), nI_clamp (by omega)]
  · skip
    rw [bI_0] at c9
    refine r_ldc wc_X6_196 dX6_far_12 ?_
    refine r_iret2 dX6_far_14 rfl ⟨Nat.zero_le _, Nat.zero_le _⟩ ?_
    refine ⟨?_, MX.th, rfl⟩
    rw [if_neg c9]
set_option maxRecDepth 100000 in
set_option maxHeartbeats 4000000 in
theorem c_X6_place (B : Nat) (D : DD) (E : EE) (wy : Nat → Nat) (r : Row) (hX0 : XM D wy r) (x what : Int32) : MR yX6_place cX6_place 3 (some .int) rX6_place B [.ref (B + 219), .int x, .int what] Z0 D E (Q2 Z0 (pI (fun v D' E' => v = (if 0 < r 0 then g_place wy r x what else -1000002) ∧ MX D D' ∧ E' = E))) := by
  have hX := hX0.th
  obtain ⟨hO, hM, hwy, hYY⟩ := id hX
  obtain ⟨l0, l5, l4, l6, l7, l8, l1⟩ := hO.le
  have hwy0 := hX0.2.2.1
  have hM0 := hX0.2.1
  refine r_enter [(0, .ref (B + 219)), (1, .int x), (2, .int what)] hv_X6_place.1.2.2.2.2 (Nat.le_of_ble_eq_true rfl) rfl ?_
  refine r_aload_n dX6_place_0 rfl ?_
  refine r_iconst (nI 0) dX6_place_1 (by decide) ?_
  refine r_putI (ci := 6) (k := 0) wf_X6_54 dX6_place_2 z_219 k_219 (by decide) (by decide) rfl rfl (fun D1 hD1 => ?_)
  obtain rfl : D1 = thD D := hD1.trans up2_eq
  refine r_aload_n dX6_place_5 rfl ?_
  refine r_callVI (As := []) (o := 219) (c_X6_isThere B (thD D) E (r 0) (hM 0 (by decide)) l0) hv_X6_isThere wm_X6_193 dX6_place_6 rfl rfl z_219 k_219 (by decide) rfl (Nat.le_of_ble_eq_true rfl) ⟨Nat.le_of_ble_eq_true rfl, Nat.le_of_ble_eq_true rfl, Nat.zero_le _, Nat.zero_le _⟩ ⟨rfl, rfl⟩ (fun z2 D3 E4 hz2 => ?_)
  obtain ⟨hqV, hqD, hqE⟩ := hz2
  obtain rfl : z2 = bI (0 < r 0) := hqV
  obtain rfl := hqD.symm
  obtain rfl := hqE.symm
  refine r_if_ne (tgt := 15) dX6_place_9 (by decide) (fun c9 => ?_) (fun c9 => ?_)
  · skip
    rw [bI_n0] at c9
    obtain ⟨hW, hT, hH⟩ := hO.p c9
    have hY := hYY hW
    obtain ⟨b1, b2, b3, b4, b5, b6, b7, b8⟩ := hW.1
    refine r_aload_n dX6_place_15 rfl ?_
    refine r_iload_n dX6_place_16 rfl ?_
    refine r_callVI (As := [.int x]) (o := 219) (c_X6_isPlace B (thD D) E x (r 0) (hM 0 (by decide))) hv_X6_isPlace wm_X6_205 dX6_place_17 rfl rfl z_219 k_219 (by decide) rfl (Nat.le_of_ble_eq_true rfl) ⟨Nat.le_of_ble_eq_true rfl, Nat.le_of_ble_eq_true rfl, Nat.zero_le _, Nat.zero_le _⟩ ⟨rfl, rfl⟩ (fun z5 D6 E7 hz5 => ?_)
    obtain ⟨hqV, hqD, hqE⟩ := hz5
    obtain rfl : z5 = bI (nI 0 ≤ x ∧ x ≤ nI (r 0) - nI 1) := hqV
    obtain rfl := hqD.symm
    obtain rfl := hqE.symm
    refine r_if_eq (tgt := 35) dX6_place_20 (by decide) (fun c20 => ?_) (fun c20 => ?_)
    · skip
      rw [bI_0] at c20
      refine r_ldc wc_X6_74 dX6_place_35 ?_
      refine r_iret2 dX6_place_37 rfl ⟨Nat.zero_le _, Nat.zero_le _⟩ ?_
      refine ⟨?_, MX.th, rfl⟩
      unfold g_place
      rw [if_pos c9]
      first
        | rw [if_neg c20]
        | (rw [if_pos c20]
           have hne : ∀ j : Nat, j ≤ 2 → ¬ what = nI j := fun j hj q => c32 (by rw [q]; exact ⟨nI_le (Nat.zero_le _) (by omega), nI_le hj (by decide)⟩)
           rw [if_neg (hne 0 (by decide)), if_neg (hne 1 (by decide)), if_neg (hne 2 (by decide))])
    · skip
      rw [bI_n0] at c20
      obtain ⟨p, hp1, rfl⟩ := gd_n (by omega) c20
      refine r_iload_n dX6_place_23 rfl ?_
      refine r_i2l dX6_place_24 (fun z8 hz8 => ?_)
      subst hz8
      refine r_lconst ((nI 0).toInt64) dX6_place_25 (by decide) ?_
      refine r_ldc2v ((nI 2).toInt64) wg_X6_72 dX6_place_26 (by decide) ?_
      refine r_callSI (As := [.long what.toInt64, .long ((nI 0).toInt64), .long ((nI 2).toInt64)]) (c_X6_in B (thD D) E what (nI 0) (nI 2)) hs_X6_in wm_X6_64 rfl dX6_place_29 rfl rfl (Nat.le_of_ble_eq_true rfl) ⟨Nat.le_of_ble_eq_true rfl, Nat.le_of_ble_eq_true rfl, Nat.zero_le _, Nat.zero_le _⟩ ⟨rfl, rfl⟩ (fun z9 D10 E11 hz9 => ?_)
      obtain ⟨hqV, hqD, hqE⟩ := hz9
      obtain rfl : z9 = bI (nI 0 ≤ what ∧ what ≤ nI 2) := hqV
      obtain rfl := hqD.symm
      obtain rfl := hqE.symm
      refine r_if_ne (tgt := 38) dX6_place_32 (by decide) (fun c32 => ?_) (fun c32 => ?_)
      · skip
        rw [bI_n0] at c32
        obtain ⟨wh, hw1, hw2, rfl⟩ := rg (by decide) (by decide) c32
        refine r_aload_n dX6_place_38 rfl ?_
        refine r_aload_n dX6_place_39 rfl ?_
        refine r_getR (ci := 6) (k := 5) wf_X6_19 dX6_place_40 z_219 k_219 (by decide) (by decide) (fun _ _ => rfl) f_219_5 ?_
        refine r_bipush (nI 63) dX6_place_43 (by decide) ?_
        refine r_iconst (nI 0) dX6_place_45 (by decide) ?_
        refine r_iconst (nI 0) dX6_place_46 (by decide) ?_
        refine r_callVV (As := [.ref (B + 223), .int (nI 63), .int (nI 0), .int (nI 0)]) (o := 219) (c_X6_layPulls B (thD D) E 223 (Or.inl rfl) r wy hW 999 hH (by decide) hM hY hwy 63 0 (nI 0) (by decide) (by decide)) hv_X6_layPulls wm_X6_177 dX6_place_47 rfl rfl z_219 k_219 (by decide) rfl (Nat.le_of_ble_eq_true rfl) ⟨Nat.le_of_ble_eq_true rfl, Nat.le_of_ble_eq_true rfl, Nat.zero_le _, Nat.zero_le _⟩ ⟨rfl, rfl⟩ (fun D13 E14 hz12 => ?_)
        obtain ⟨⟨g, hgD, hg⟩, hqE⟩ := hz12
        obtain rfl := hqE.symm
        have hX9 : MX D D13 := MX.th.trans (MX.of (fun q h1 h2 => by rw [hgD]; exact upo_n h2))
        have hg9 : D13 229 p = s_pull wy r 63 0 (nI 0) p := by rw [hgD]; exact (congrFun upo_s p).trans (hg p hp1)
        refine r_iload_n dX6_place_50 rfl ?_
        refine r_if_ne (tgt := 63) dX6_place_51 (by decide) (fun c51 => ?_) (fun c51 => ?_)
        · skip
          rw [nI_z (by omega)] at c51
          refine r_iload_n dX6_place_63 rfl ?_
          refine r_iconst (nI 1) dX6_place_64 (by decide) ?_
          refine r_icmp_ne (tgt := 82) dX6_place_65 (by decide) (fun c65 => ?_) (fun c65 => ?_)
          · skip
            rw [nI_eq (by omega) (by omega)] at c65
            refine r_aload_n dX6_place_82 rfl ?_
            refine r_getR (ci := 6) (k := 5) wf_X6_19 dX6_place_83 z_219 k_219 (by decide) (by decide) (fun _ _ => rfl) f_219_5 ?_
            refine r_bipush (nI 10) dX6_place_86 (by decide) ?_
            refine r_iload_n dX6_place_88 rfl ?_
            refine r_iadd dX6_place_89 (fun z15 hz15 => ?_)
            obtain rfl : z15 = nI (10 + p) := (hz15.trans (nI_add _ _))
            refine r_iald dX6_place_90 z_223 k_223 (vp_in_nI (by omega) (by decide)) (fun z16 hz16 => ?_)
            rw [nI_clamp (by omega)] at hz16
            obtain rfl : z16 = nI (r (10 + p)) := hz16.trans (hX9.ma hM0 (10 + p) (by omega))
            refine r_iret2 dX6_place_91 rfl ⟨Nat.zero_le _, Nat.zero_le _⟩ ?_
            have h3 : wh = 0 ∨ wh = 1 ∨ wh = 2 := by omega
            refine ⟨?_, hX9, rfl⟩
            unfold g_place
            rw [if_pos c9, if_pos c20, nI_clamp (show p < 2 ^ 31 by omega)]
            rcases h3 with rfl | rfl | rfl
            · first | (rw [if_pos rfl]; done) | omega
            · first | (rw [if_neg (by decide), if_pos rfl]; done) | omega
            · first | (rw [if_neg (by decide), if_neg (by decide), if_pos rfl]; done) | omega
          · skip
            rw [nI_eq (by omega) (by omega)] at c65
            refine r_aload_n dX6_place_68 rfl ?_
            refine r_getR (ci := 6) (k := 5) wf_X6_19 dX6_place_69 z_219 k_219 (by decide) (by decide) (fun _ _ => rfl) f_219_5 ?_
            refine r_bipush (nI 9) dX6_place_72 (by decide) ?_
            refine r_iald dX6_place_74 z_223 k_223 (vp_in_nI (by decide) (by decide)) (fun z17 hz17 => ?_)
            rw [nI_clamp (by omega)] at hz17
            obtain rfl : z17 = nI (r 9) := hz17.trans (hX9.ma hM0 9 (by decide))
            refine r_iload_n dX6_place_75 rfl ?_
            refine r_ishr dX6_place_76 (fun z18 hz18 => ?_)
            obtain rfl : z18 = nI (r 9) >>> (nI p &&& 31) := hz18
            refine r_iconst (nI 1) dX6_place_77 (by decide) ?_
            refine r_iand dX6_place_78 (fun z19 hz19 => ?_)
            obtain rfl : z19 = nI (r 9 / 2 ^ p % 2) := hz19.trans (bit_n (by omega) (by omega))
            refine r_goto (tgt := 91) dX6_place_79 (by decide) ?_
            refine r_iret2 dX6_place_91 rfl ⟨Nat.zero_le _, Nat.zero_le _⟩ ?_
            have h3 : wh = 0 ∨ wh = 1 ∨ wh = 2 := by omega
            refine ⟨?_, hX9, rfl⟩
            unfold g_place
            rw [if_pos c9, if_pos c20, nI_clamp (show p < 2 ^ 31 by omega)]
            rcases h3 with rfl | rfl | rfl
            · first | (rw [if_pos rfl]; done) | omega
            · first | (rw [if_neg (by decide), if_pos rfl]; done) | omega
            · first | (rw [if_neg (by decide), if_neg (by decide), if_pos rfl]; done) | omega
        · skip
          rw [nI_z (by omega)] at c51
          refine r_aload_n dX6_place_54 rfl ?_
          refine r_getR (ci := 6) (k := 20) wf_X6_37 dX6_place_55 z_219 k_219 (by decide) (by decide) (fun _ _ => rfl) f_219_20 ?_
          refine r_iload_n dX6_place_58 rfl ?_
          refine r_iald dX6_place_59 z_229 k_229 (vp_in_nI (by omega) (by decide)) (fun z20 hz20 => ?_)
          rw [nI_clamp (by omega)] at hz20
          obtain rfl : z20 = s_pull wy r 63 0 (nI 0) p := hz20.trans hg9
          refine r_goto (tgt := 91) dX6_place_60 (by decide) ?_
          refine r_iret2 dX6_place_91 rfl ⟨Nat.zero_le _, Nat.zero_le _⟩ ?_
          have h3 : wh = 0 ∨ wh = 1 ∨ wh = 2 := by omega
          refine ⟨?_, hX9, rfl⟩
          unfold g_place
          rw [if_pos c9, if_pos c20, nI_clamp (show p < 2 ^ 31 by omega)]
          rcases h3 with rfl | rfl | rfl
          · first | (rw [if_pos rfl]; done) | omega
          · first | (rw [if_neg (by decide), if_pos rfl]; done) | omega
          · first | (rw [if_neg (by decide), if_neg (by decide), if_pos rfl]; done) | omega
      · skip
        rw [bI_0] at c32
        refine r_ldc wc_X6_74 dX6_place_35 ?_
        refine r_iret2 dX6_place_37 rfl ⟨Nat.zero_le _, Nat.zero_le _⟩ ?_
        refine ⟨?_, MX.th, rfl⟩
        unfold g_place
        rw [if_pos c9]
        first
          | rw [if_neg c20]
          | (rw [if_pos c20]
             have hne : ∀ j : Nat, j ≤ 2 → ¬ what = nI j := fun j hj q => c32 (by rw [q]; exact ⟨nI_le (Nat.zero_le _) (by omega), nI_le hj (by decide)⟩)
             rw [if_neg (hne 0 (by decide)), if_neg (hne 1 (by decide)), if_neg (hne 2 (by decide))])
  · skip
    rw [bI_0] at c9
    refine r_ldc wc_X6_196 dX6_place_12 ?_
    refine r_iret2 dX6_place_14 rfl ⟨Nat.zero_le _, Nat.zero_le _⟩ ?_
    refine ⟨?_, MX.th, rfl⟩
    rw [if_neg c9]
set_option maxRecDepth 100000 in
set_option maxHeartbeats 4000000 in
theorem c_X6_status (B : Nat) (D : DD) (E : EE)  : MR yX6_status cX6_status 1 (some .int) rX6_status B [.ref (B + 219)] Z0 D E (Q2 Z0 (pI (fun v D' E' => v = (D 219 1) ∧ MX D D' ∧ E' = E))) := by
  refine r_enter [(0, .ref (B + 219))] hv_X6_status.1.2.2.2.2 (Nat.le_of_ble_eq_true rfl) rfl ?_
  refine r_aload_n dX6_status_0 rfl ?_
  refine r_iconst (nI 0) dX6_status_1 (by decide) ?_
  refine r_putI (ci := 6) (k := 0) wf_X6_54 dX6_status_2 z_219 k_219 (by decide) (by decide) rfl rfl (fun D1 hD1 => ?_)
  obtain rfl : D1 = thD D := hD1.trans up2_eq
  refine r_aload_n dX6_status_5 rfl ?_
  refine r_getI (ci := 6) (k := 1) wf_X6_58 dX6_status_6 z_219 k_219 (by decide) (by decide) rfl (fun z2 hz2 => ?_)
  obtain rfl : z2 = D 219 1 := hz2.trans (MX.th.2 1 (by decide))
  refine r_iret2 dX6_status_9 rfl ⟨Nat.zero_le _, Nat.zero_le _⟩ ?_
  exact ⟨rfl, MX.th, rfl⟩
set_option maxRecDepth 100000 in
set_option maxHeartbeats 4000000 in
theorem c_X6_fault (B : Nat) (D : DD) (E : EE)  : MR yX6_fault cX6_fault 1 (some .int) rX6_fault B [.ref (B + 219)] Z0 D E (Q2 Z0 (pI (fun v D' E' => v = (D 219 18) ∧ MX D D' ∧ E' = E))) := by
  refine r_enter [(0, .ref (B + 219))] hv_X6_fault.1.2.2.2.2 (Nat.le_of_ble_eq_true rfl) rfl ?_
  refine r_aload_n dX6_fault_0 rfl ?_
  refine r_iconst (nI 0) dX6_fault_1 (by decide) ?_
  refine r_putI (ci := 6) (k := 0) wf_X6_54 dX6_fault_2 z_219 k_219 (by decide) (by decide) rfl rfl (fun D1 hD1 => ?_)
  obtain rfl : D1 = thD D := hD1.trans up2_eq
  refine r_aload_n dX6_fault_5 rfl ?_
  refine r_getI (ci := 6) (k := 18) wf_X6_123 dX6_fault_6 z_219 k_219 (by decide) (by decide) rfl (fun z2 hz2 => ?_)
  obtain rfl : z2 = D 219 18 := hz2.trans (MX.th.2 18 (by decide))
  refine r_iret2 dX6_fault_9 rfl ⟨Nat.zero_le _, Nat.zero_le _⟩ ?_
  exact ⟨rfl, MX.th, rfl⟩
set_option maxRecDepth 100000 in
set_option maxHeartbeats 4000000 in
theorem c_X6_trace (B : Nat) (D : DD) (E : EE) (t : TRt) (hT0 : TRm D t) (x : Int32) : MR yX6_trace cX6_trace 2 (some .int) rX6_trace B [.ref (B + 219), .int x] Z0 D E (Q2 Z0 (pI (fun v D' E' => v = (g_trace t.1 t.2 x) ∧ MX D D' ∧ E' = E))) := by
  have hT := MX.th.tr hT0
  obtain ⟨h1, h2, h3⟩ := id hT
  refine r_enter [(0, .ref (B + 219)), (1, .int x)] hv_X6_trace.1.2.2.2.2 (Nat.le_of_ble_eq_true rfl) rfl ?_
  refine r_aload_n dX6_trace_0 rfl ?_
  refine r_iconst (nI 0) dX6_trace_1 (by decide) ?_
  refine r_putI (ci := 6) (k := 0) wf_X6_54 dX6_trace_2 z_219 k_219 (by decide) (by decide) rfl rfl (fun D1 hD1 => ?_)
  obtain rfl : D1 = thD D := hD1.trans up2_eq
  refine r_iload_n dX6_trace_5 rfl ?_
  refine r_i2l dX6_trace_6 (fun z2 hz2 => ?_)
  subst hz2
  refine r_lconst ((nI 0).toInt64) dX6_trace_7 (by decide) ?_
  refine r_aload_n dX6_trace_8 rfl ?_
  refine r_getI (ci := 6) (k := 25) wf_X6_252 dX6_trace_9 z_219 k_219 (by decide) (by decide) rfl (fun z3 hz3 => ?_)
  obtain rfl : z3 = nI t.1 := hz3.trans h1
  refine r_iconst (nI 1) dX6_trace_12 (by decide) ?_
  refine r_isub dX6_trace_13 (fun z4 hz4 => ?_)
  subst hz4
  refine r_i2l dX6_trace_14 (fun z5 hz5 => ?_)
  subst hz5
  refine r_callSI (As := [.long x.toInt64, .long ((nI 0).toInt64), .long (((nI t.1) - (nI 1)).toInt64)]) (c_X6_in B (thD D) E x (nI 0) (nI t.1 - nI 1)) hs_X6_in wm_X6_64 rfl dX6_trace_15 rfl rfl (Nat.le_of_ble_eq_true rfl) ⟨Nat.le_of_ble_eq_true rfl, Nat.le_of_ble_eq_true rfl, Nat.zero_le _, Nat.zero_le _⟩ ⟨rfl, rfl⟩ (fun z6 D7 E8 hz6 => ?_)
  obtain ⟨hqV, hqD, hqE⟩ := hz6
  obtain rfl : z6 = bI (nI 0 ≤ x ∧ x ≤ nI t.1 - nI 1) := hqV
  obtain rfl := hqD.symm
  obtain rfl := hqE.symm
  refine r_if_eq (tgt := 30) dX6_trace_18 (by decide) (fun c18 => ?_) (fun c18 => ?_)
  · skip
    rw [bI_0] at c18
    refine r_ldc wc_X6_97 dX6_trace_30 ?_
    refine r_iret2 dX6_trace_32 rfl ⟨Nat.zero_le _, Nat.zero_le _⟩ ?_
    refine ⟨?_, MX.th, rfl⟩
    unfold g_trace
    first | rw [if_neg c18] | rw [if_pos c18, nI_clamp (by omega)]
  · skip
    rw [bI_n0] at c18
    obtain ⟨j, hj, rfl⟩ := gd_n (by omega) c18
    refine r_aload_n dX6_trace_21 rfl ?_
    refine r_getR (ci := 6) (k := 24) wf_X6_51 dX6_trace_22 z_219 k_219 (by decide) (by decide) (fun _ _ => rfl) f_219_24 ?_
    refine r_iload_n dX6_trace_25 rfl ?_
    refine r_iald dX6_trace_26 z_233 k_233 (vp_in_nI (by omega) (by decide)) (fun z9 hz9 => ?_)
    rw [nI_clamp (by omega)] at hz9
    obtain rfl : z9 = t.2 j := hz9.trans (h3 j hj)
    refine r_goto (tgt := 32) dX6_trace_27 (by decide) ?_
    refine r_iret2 dX6_trace_32 rfl ⟨Nat.zero_le _, Nat.zero_le _⟩ ?_
    refine ⟨?_, MX.th, rfl⟩
    unfold g_trace
    first | rw [if_neg c18] | rw [if_pos c18, nI_clamp (by omega)]
set_option maxRecDepth 100000 in
set_option maxHeartbeats 4000000 in
theorem c_X6_count (B : Nat) (D : DD) (E : EE) (wy : Nat → Nat) (r : Row) (hX0 : XM D wy r) (w : RWS) (hR0 : MRW D w) (kp tl : Nat) (hkp : D 219 9 = nI kp) (htl : D 219 11 = nI tl) (what : Int32) : MR yX6_count cX6_count 4 (some .int) rX6_count B [.ref (B + 219), .int what] Z0 D E (Q2 Z0 (pI (fun v D' E' => v = (g_count w r kp tl what) ∧ MX D D' ∧ E' = E))) := by
  have hX := hX0.th
  obtain ⟨hO, hM, hwy, hYY⟩ := id hX
  obtain ⟨l0, l5, l4, l6, l7, l8, l1⟩ := hO.le
  have hR := MX.th.mrw hR0
  refine r_enter [(0, .ref (B + 219)), (1, .int what)] hv_X6_count.1.2.2.2.2 (Nat.le_of_ble_eq_true rfl) rfl ?_
  refine r_aload_n dX6_count_0 rfl ?_
  refine r_iconst (nI 0) dX6_count_1 (by decide) ?_
  refine r_putI (ci := 6) (k := 0) wf_X6_54 dX6_count_2 z_219 k_219 (by decide) (by decide) rfl rfl (fun D1 hD1 => ?_)
  obtain rfl : D1 = thD D := hD1.trans up2_eq
  refine r_iconst (nI 0) dX6_count_5 (by decide) ?_
  refine r_istore_n [(2, .int (nI 0)), (0, .ref (B + 219)), (1, .int what)] dX6_count_6 (by decide) rfl ?_
  refine r_iload_n dX6_count_7 rfl ?_
  rcases sw_or 9 what with ⟨k9, hk9, rfl⟩ | hk9
  · skip
    rcases (show k9 = 0 ∨ k9 = 1 ∨ k9 = 2 ∨ k9 = 3 ∨ k9 = 4 ∨ k9 = 5 ∨ k9 = 6 ∨ k9 = 7 ∨ k9 = 8 ∨ k9 = 9 by omega) with rfl | rfl | rfl | rfl | rfl | rfl | rfl | rfl | rfl | rfl
    · refine r_tabIn (off := 56) (tgt := 64) dX6_count_8 (by decide) (by decide) rfl (by decide) ?_
      refine r_iconst (nI 0) dX6_count_64 (by decide) ?_
      refine r_istore_n [(3, .int (nI 0)), (2, .int (nI 0)), (0, .ref (B + 219)), (1, .int (nI 0))] dX6_count_65 (by decide) rfl ?_
      refine r_lv [(3, .int (nI 0)), (2, .int (nI (s_rows w 0))), (0, .ref (B + 219)), (1, .int (nI 0))] (List.forall_mem_cons.mpr ⟨rfl, List.forall_mem_cons.mpr ⟨congrArg (fun x => some (Value.int x)) rfl, List.forall_mem_cons.mpr ⟨rfl, List.forall_mem_cons.mpr ⟨rfl, fun _ h => absurd h List.not_mem_nil⟩⟩⟩⟩) ?_
      have L : ∀ fu k : Nat, k ≤ 8 → 8 - k < fu → RW yX6_count cX6_count 4 (some .int) rX6_count B (Q2 Z0 (pI (fun v D' E' => v = (g_count w r kp tl (nI 0)) ∧ MX D D' ∧ E' = E))) Z0 (thD D) E 0 0 66 [(3, .int (nI k)), (2, .int (nI (s_rows w k))), (0, .ref (B + 219)), (1, .int (nI 0))] [] := by
        intro fu
        induction fu with
        | zero => intro k hku hfu; omega
        | succ fu ih =>
          intro k hku hfu 
          refine r_iload_n dX6_count_66 rfl ?_
          refine r_bipush (nI 8) dX6_count_67 (by decide) ?_
          refine r_icmp_ge (tgt := 95) dX6_count_69 (by decide) (fun c69 => ?_) (fun c69 => ?_)
          · skip
            rw [nI_leI (by omega) (by omega)] at c69
            refine r_iload_n dX6_count_95 rfl ?_
            refine r_iret2 dX6_count_96 rfl ⟨Nat.zero_le _, Nat.zero_le _⟩ ?_
            obtain rfl : k = 8 := by omega
            refine ⟨?_, MX.th, rfl⟩
            unfold g_count
            exact (if_pos rfl).symm
          · skip
            rw [nI_leI (by omega) (by omega)] at c69
            refine r_iload_n dX6_count_72 rfl ?_
            refine r_aload_n dX6_count_73 rfl ?_
            refine r_getR (ci := 6) (k := 2) wf_X6_7 dX6_count_74 z_219 k_219 (by decide) (by decide) (fun _ _ => rfl) f_219_2 ?_
            refine r_iload_n dX6_count_77 rfl ?_
            refine r_iald dX6_count_78 z_220 k_220 (vp_in_nI (by omega) (by decide)) (fun z2 hz2 => ?_)
            rw [nI_clamp (by omega)] at hz2
            subst hz2
            refine r_if_lt (tgt := 86) dX6_count_79 (by decide) (fun c79 => ?_) (fun c79 => ?_)
            · skip
              have hrr : s_rows w (k + 1) = s_rows w k := mrow_n (hR.1 k (by omega)) c79
              refine r_iconst (nI 0) dX6_count_86 (by decide) ?_
              refine r_iadd dX6_count_87 (fun z3 hz3 => ?_)
              obtain rfl : z3 = nI (s_rows w (k + 1)) := hz3.trans ((nI_add _ _).trans (congrArg nI hrr.symm))
              refine r_istore_n [(2, .int (nI (s_rows w (k + 1)))), (3, .int (nI k)), (0, .ref (B + 219)), (1, .int (nI 0))] dX6_count_88 (by decide) rfl ?_
              refine r_iinc (nI (k + 1)) [(3, .int (nI (k + 1))), (2, .int (nI (s_rows w (k + 1)))), (0, .ref (B + 219)), (1, .int (nI 0))] dX6_count_89 rfl (nI_1 _) (by decide) rfl ?_
              refine r_goto (tgt := 66) dX6_count_92 (by decide) ?_
              exact r_lv [(3, .int (nI (k + 1))), (2, .int (nI (s_rows w (k + 1)))), (0, .ref (B + 219)), (1, .int (nI 0))] (List.forall_mem_cons.mpr ⟨rfl, List.forall_mem_cons.mpr ⟨rfl, List.forall_mem_cons.mpr ⟨rfl, List.forall_mem_cons.mpr ⟨rfl, fun _ h => absurd h List.not_mem_nil⟩⟩⟩⟩) (ih (k + 1) (by omega) (by omega))
            · skip
              have hrr : s_rows w (k + 1) = s_rows w k + 1 := mrow_s (hR.1 k (by omega)) c79
              refine r_iconst (nI 1) dX6_count_82 (by decide) ?_
              refine r_goto (tgt := 87) dX6_count_83 (by decide) ?_
              refine r_iadd dX6_count_87 (fun z4 hz4 => ?_)
              obtain rfl : z4 = nI (s_rows w (k + 1)) := hz4.trans ((nI_add _ _).trans (congrArg nI hrr.symm))
              refine r_istore_n [(2, .int (nI (s_rows w (k + 1)))), (3, .int (nI k)), (0, .ref (B + 219)), (1, .int (nI 0))] dX6_count_88 (by decide) rfl ?_
              refine r_iinc (nI (k + 1)) [(3, .int (nI (k + 1))), (2, .int (nI (s_rows w (k + 1)))), (0, .ref (B + 219)), (1, .int (nI 0))] dX6_count_89 rfl (nI_1 _) (by decide) rfl ?_
              refine r_goto (tgt := 66) dX6_count_92 (by decide) ?_
              exact r_lv [(3, .int (nI (k + 1))), (2, .int (nI (s_rows w (k + 1)))), (0, .ref (B + 219)), (1, .int (nI 0))] (List.forall_mem_cons.mpr ⟨rfl, List.forall_mem_cons.mpr ⟨rfl, List.forall_mem_cons.mpr ⟨rfl, List.forall_mem_cons.mpr ⟨rfl, fun _ h => absurd h List.not_mem_nil⟩⟩⟩⟩) (ih (k + 1) (by omega) (by omega))
      exact r_lv [(3, .int (nI 0)), (2, .int (nI (s_rows w 0))), (0, .ref (B + 219)), (1, .int (nI 0))] (List.forall_mem_cons.mpr ⟨rfl, List.forall_mem_cons.mpr ⟨rfl, List.forall_mem_cons.mpr ⟨rfl, List.forall_mem_cons.mpr ⟨rfl, fun _ h => absurd h List.not_mem_nil⟩⟩⟩⟩) (L (8 + 1) 0 (by omega) (by omega))
    · refine r_tabIn (off := 89) (tgt := 97) dX6_count_8 (by decide) (by decide) rfl (by decide) ?_
      refine r_aload_n dX6_count_97 rfl ?_
      refine r_getR (ci := 6) (k := 5) wf_X6_19 dX6_count_98 z_219 k_219 (by decide) (by decide) (fun _ _ => rfl) f_219_5 ?_
      refine r_iconst (nI 0) dX6_count_101 (by decide) ?_
      refine r_iald dX6_count_102 z_223 k_223 (vp_in_nI (by decide) (by decide)) (fun z5 hz5 => ?_)
      rw [nI_clamp (by omega)] at hz5
      obtain rfl : z5 = nI (r 0) := hz5.trans (hM 0 (by decide))
      refine r_iret2 dX6_count_103 rfl ⟨Nat.zero_le _, Nat.zero_le _⟩ ?_
      refine ⟨?_, MX.th, rfl⟩
      unfold g_count
      first
        | (rw [if_pos rfl]; done)
        | (rw [if_neg (by decide), if_pos rfl]; done)
        | (rw [if_neg (by decide), if_neg (by decide), if_pos rfl]; done)
        | (rw [if_neg (by decide), if_neg (by decide), if_neg (by decide), if_pos rfl]; done)
        | (rw [if_neg (by decide), if_neg (by decide), if_neg (by decide), if_neg (by decide), if_pos rfl]; done)
        | (rw [if_neg (by decide), if_neg (by decide), if_neg (by decide), if_neg (by decide), if_neg (by decide), if_pos rfl]; done)
        | (rw [if_neg (by decide), if_neg (by decide), if_neg (by decide), if_neg (by decide), if_neg (by decide), if_neg (by decide), if_pos rfl]; done)
        | (rw [if_neg (by decide), if_neg (by decide), if_neg (by decide), if_neg (by decide), if_neg (by decide), if_neg (by decide), if_neg (by decide), if_pos rfl]; done)
        | (rw [if_neg (by decide), if_neg (by decide), if_neg (by decide), if_neg (by decide), if_neg (by decide), if_neg (by decide), if_neg (by decide), if_neg (by decide), if_pos rfl]; done)
        | (rw [if_neg (by decide), if_neg (by decide), if_neg (by decide), if_neg (by decide), if_neg (by decide), if_neg (by decide), if_neg (by decide), if_neg (by decide), if_neg (by decide), if_pos rfl]; done)
        | (rw [if_neg (sw_ne hk9 (show 0 ≤ 9 by decide) (by decide)), if_neg (sw_ne hk9 (show 1 ≤ 9 by decide) (by decide)), if_neg (sw_ne hk9 (show 2 ≤ 9 by decide) (by decide)), if_neg (sw_ne hk9 (show 3 ≤ 9 by decide) (by decide)), if_neg (sw_ne hk9 (show 4 ≤ 9 by decide) (by decide)), if_neg (sw_ne hk9 (show 5 ≤ 9 by decide) (by decide)), if_neg (sw_ne hk9 (show 6 ≤ 9 by decide) (by decide)), if_neg (sw_ne hk9 (show 7 ≤ 9 by decide) (by decide)), if_neg (sw_ne hk9 (show 8 ≤ 9 by decide) (by decide)), if_neg (sw_ne hk9 (show 9 ≤ 9 by decide) (by decide))]; done)
    · refine r_tabIn (off := 96) (tgt := 104) dX6_count_8 (by decide) (by decide) rfl (by decide) ?_
      refine r_aload_n dX6_count_104 rfl ?_
      refine r_getR (ci := 6) (k := 5) wf_X6_19 dX6_count_105 z_219 k_219 (by decide) (by decide) (fun _ _ => rfl) f_219_5 ?_
      refine r_iconst (nI 4) dX6_count_108 (by decide) ?_
      refine r_iald dX6_count_109 z_223 k_223 (vp_in_nI (by decide) (by decide)) (fun z6 hz6 => ?_)
      rw [nI_clamp (by omega)] at hz6
      obtain rfl : z6 = nI (r 4) := hz6.trans (hM 4 (by decide))
      refine r_iret2 dX6_count_110 rfl ⟨Nat.zero_le _, Nat.zero_le _⟩ ?_
      refine ⟨?_, MX.th, rfl⟩
      unfold g_count
      first
        | (rw [if_pos rfl]; done)
        | (rw [if_neg (by decide), if_pos rfl]; done)
        | (rw [if_neg (by decide), if_neg (by decide), if_pos rfl]; done)
        | (rw [if_neg (by decide), if_neg (by decide), if_neg (by decide), if_pos rfl]; done)
        | (rw [if_neg (by decide), if_neg (by decide), if_neg (by decide), if_neg (by decide), if_pos rfl]; done)
        | (rw [if_neg (by decide), if_neg (by decide), if_neg (by decide), if_neg (by decide), if_neg (by decide), if_pos rfl]; done)
        | (rw [if_neg (by decide), if_neg (by decide), if_neg (by decide), if_neg (by decide), if_neg (by decide), if_neg (by decide), if_pos rfl]; done)
        | (rw [if_neg (by decide), if_neg (by decide), if_neg (by decide), if_neg (by decide), if_neg (by decide), if_neg (by decide), if_neg (by decide), if_pos rfl]; done)
        | (rw [if_neg (by decide), if_neg (by decide), if_neg (by decide), if_neg (by decide), if_neg (by decide), if_neg (by decide), if_neg (by decide), if_neg (by decide), if_pos rfl]; done)
        | (rw [if_neg (by decide), if_neg (by decide), if_neg (by decide), if_neg (by decide), if_neg (by decide), if_neg (by decide), if_neg (by decide), if_neg (by decide), if_neg (by decide), if_pos rfl]; done)
        | (rw [if_neg (sw_ne hk9 (show 0 ≤ 9 by decide) (by decide)), if_neg (sw_ne hk9 (show 1 ≤ 9 by decide) (by decide)), if_neg (sw_ne hk9 (show 2 ≤ 9 by decide) (by decide)), if_neg (sw_ne hk9 (show 3 ≤ 9 by decide) (by decide)), if_neg (sw_ne hk9 (show 4 ≤ 9 by decide) (by decide)), if_neg (sw_ne hk9 (show 5 ≤ 9 by decide) (by decide)), if_neg (sw_ne hk9 (show 6 ≤ 9 by decide) (by decide)), if_neg (sw_ne hk9 (show 7 ≤ 9 by decide) (by decide)), if_neg (sw_ne hk9 (show 8 ≤ 9 by decide) (by decide)), if_neg (sw_ne hk9 (show 9 ≤ 9 by decide) (by decide))]; done)
    · refine r_tabIn (off := 103) (tgt := 111) dX6_count_8 (by decide) (by decide) rfl (by decide) ?_
      refine r_aload_n dX6_count_111 rfl ?_
      refine r_getR (ci := 6) (k := 5) wf_X6_19 dX6_count_112 z_219 k_219 (by decide) (by decide) (fun _ _ => rfl) f_219_5 ?_
      refine r_iconst (nI 5) dX6_count_115 (by decide) ?_
      refine r_iald dX6_count_116 z_223 k_223 (vp_in_nI (by decide) (by decide)) (fun z7 hz7 => ?_)
      rw [nI_clamp (by omega)] at hz7
      obtain rfl : z7 = nI (r 5) := hz7.trans (hM 5 (by decide))
      refine r_iret2 dX6_count_117 rfl ⟨Nat.zero_le _, Nat.zero_le _⟩ ?_
      refine ⟨?_, MX.th, rfl⟩
      unfold g_count
      first
        | (rw [if_pos rfl]; done)
        | (rw [if_neg (by decide), if_pos rfl]; done)
        | (rw [if_neg (by decide), if_neg (by decide), if_pos rfl]; done)
        | (rw [if_neg (by decide), if_neg (by decide), if_neg (by decide), if_pos rfl]; done)
        | (rw [if_neg (by decide), if_neg (by decide), if_neg (by decide), if_neg (by decide), if_pos rfl]; done)
        | (rw [if_neg (by decide), if_neg (by decide), if_neg (by decide), if_neg (by decide), if_neg (by decide), if_pos rfl]; done)
        | (rw [if_neg (by decide), if_neg (by decide), if_neg (by decide), if_neg (by decide), if_neg (by decide), if_neg (by decide), if_pos rfl]; done)
        | (rw [if_neg (by decide), if_neg (by decide), if_neg (by decide), if_neg (by decide), if_neg (by decide), if_neg (by decide), if_neg (by decide), if_pos rfl]; done)
        | (rw [if_neg (by decide), if_neg (by decide), if_neg (by decide), if_neg (by decide), if_neg (by decide), if_neg (by decide), if_neg (by decide), if_neg (by decide), if_pos rfl]; done)
        | (rw [if_neg (by decide), if_neg (by decide), if_neg (by decide), if_neg (by decide), if_neg (by decide), if_neg (by decide), if_neg (by decide), if_neg (by decide), if_neg (by decide), if_pos rfl]; done)
        | (rw [if_neg (sw_ne hk9 (show 0 ≤ 9 by decide) (by decide)), if_neg (sw_ne hk9 (show 1 ≤ 9 by decide) (by decide)), if_neg (sw_ne hk9 (show 2 ≤ 9 by decide) (by decide)), if_neg (sw_ne hk9 (show 3 ≤ 9 by decide) (by decide)), if_neg (sw_ne hk9 (show 4 ≤ 9 by decide) (by decide)), if_neg (sw_ne hk9 (show 5 ≤ 9 by decide) (by decide)), if_neg (sw_ne hk9 (show 6 ≤ 9 by decide) (by decide)), if_neg (sw_ne hk9 (show 7 ≤ 9 by decide) (by decide)), if_neg (sw_ne hk9 (show 8 ≤ 9 by decide) (by decide)), if_neg (sw_ne hk9 (show 9 ≤ 9 by decide) (by decide))]; done)
    · refine r_tabIn (off := 110) (tgt := 118) dX6_count_8 (by decide) (by decide) rfl (by decide) ?_
      refine r_aload_n dX6_count_118 rfl ?_
      refine r_getR (ci := 6) (k := 5) wf_X6_19 dX6_count_119 z_219 k_219 (by decide) (by decide) (fun _ _ => rfl) f_219_5 ?_
      refine r_bipush (nI 6) dX6_count_122 (by decide) ?_
      refine r_iald dX6_count_124 z_223 k_223 (vp_in_nI (by decide) (by decide)) (fun z8 hz8 => ?_)
      rw [nI_clamp (by omega)] at hz8
      obtain rfl : z8 = nI (r 6) := hz8.trans (hM 6 (by decide))
      refine r_iret2 dX6_count_125 rfl ⟨Nat.zero_le _, Nat.zero_le _⟩ ?_
      refine ⟨?_, MX.th, rfl⟩
      unfold g_count
      first
        | (rw [if_pos rfl]; done)
        | (rw [if_neg (by decide), if_pos rfl]; done)
        | (rw [if_neg (by decide), if_neg (by decide), if_pos rfl]; done)
        | (rw [if_neg (by decide), if_neg (by decide), if_neg (by decide), if_pos rfl]; done)
        | (rw [if_neg (by decide), if_neg (by decide), if_neg (by decide), if_neg (by decide), if_pos rfl]; done)
        | (rw [if_neg (by decide), if_neg (by decide), if_neg (by decide), if_neg (by decide), if_neg (by decide), if_pos rfl]; done)
        | (rw [if_neg (by decide), if_neg (by decide), if_neg (by decide), if_neg (by decide), if_neg (by decide), if_neg (by decide), if_pos rfl]; done)
        | (rw [if_neg (by decide), if_neg (by decide), if_neg (by decide), if_neg (by decide), if_neg (by decide), if_neg (by decide), if_neg (by decide), if_pos rfl]; done)
        | (rw [if_neg (by decide), if_neg (by decide), if_neg (by decide), if_neg (by decide), if_neg (by decide), if_neg (by decide), if_neg (by decide), if_neg (by decide), if_pos rfl]; done)
        | (rw [if_neg (by decide), if_neg (by decide), if_neg (by decide), if_neg (by decide), if_neg (by decide), if_neg (by decide), if_neg (by decide), if_neg (by decide), if_neg (by decide), if_pos rfl]; done)
        | (rw [if_neg (sw_ne hk9 (show 0 ≤ 9 by decide) (by decide)), if_neg (sw_ne hk9 (show 1 ≤ 9 by decide) (by decide)), if_neg (sw_ne hk9 (show 2 ≤ 9 by decide) (by decide)), if_neg (sw_ne hk9 (show 3 ≤ 9 by decide) (by decide)), if_neg (sw_ne hk9 (show 4 ≤ 9 by decide) (by decide)), if_neg (sw_ne hk9 (show 5 ≤ 9 by decide) (by decide)), if_neg (sw_ne hk9 (show 6 ≤ 9 by decide) (by decide)), if_neg (sw_ne hk9 (show 7 ≤ 9 by decide) (by decide)), if_neg (sw_ne hk9 (show 8 ≤ 9 by decide) (by decide)), if_neg (sw_ne hk9 (show 9 ≤ 9 by decide) (by decide))]; done)
    · refine r_tabIn (off := 118) (tgt := 126) dX6_count_8 (by decide) (by decide) rfl (by decide) ?_
      refine r_aload_n dX6_count_126 rfl ?_
      refine r_callVI (As := []) (o := 219) (c_X6_isThere B (thD D) E (r 0) (hM 0 (by decide)) l0) hv_X6_isThere wm_X6_193 dX6_count_127 rfl rfl z_219 k_219 (by decide) rfl (Nat.le_of_ble_eq_true rfl) ⟨Nat.le_of_ble_eq_true rfl, Nat.le_of_ble_eq_true rfl, Nat.zero_le _, Nat.zero_le _⟩ ⟨rfl, rfl⟩ (fun z9 D10 E11 hz9 => ?_)
      obtain ⟨hqV, hqD, hqE⟩ := hz9
      obtain rfl : z9 = bI (0 < r 0) := hqV
      obtain rfl := hqD.symm
      obtain rfl := hqE.symm
      refine r_if_eq (tgt := 142) dX6_count_130 (by decide) (fun c130 => ?_) (fun c130 => ?_)
      · skip
        rw [bI_0] at c130
        refine r_iconst ((-1)) dX6_count_142 (by decide) ?_
        refine r_iret2 dX6_count_143 rfl ⟨Nat.zero_le _, Nat.zero_le _⟩ ?_
        refine ⟨?_, MX.th, rfl⟩
        unfold g_count
        rw [if_neg (by decide), if_neg (by decide), if_neg (by decide), if_neg (by decide), if_neg (by decide), if_pos rfl]
        first | rw [if_pos c130] | rw [if_neg c130]
      · skip
        rw [bI_n0] at c130
        refine r_aload_n dX6_count_133 rfl ?_
        refine r_getR (ci := 6) (k := 5) wf_X6_19 dX6_count_134 z_219 k_219 (by decide) (by decide) (fun _ _ => rfl) f_219_5 ?_
        refine r_iconst (nI 1) dX6_count_137 (by decide) ?_
        refine r_iald dX6_count_138 z_223 k_223 (vp_in_nI (by decide) (by decide)) (fun z12 hz12 => ?_)
        rw [nI_clamp (by omega)] at hz12
        obtain rfl : z12 = nI (r 1) := hz12.trans (hM 1 (by decide))
        refine r_goto (tgt := 143) dX6_count_139 (by decide) ?_
        refine r_iret2 dX6_count_143 rfl ⟨Nat.zero_le _, Nat.zero_le _⟩ ?_
        refine ⟨?_, MX.th, rfl⟩
        unfold g_count
        rw [if_neg (by decide), if_neg (by decide), if_neg (by decide), if_neg (by decide), if_neg (by decide), if_pos rfl]
        first | rw [if_pos c130] | rw [if_neg c130]
    · refine r_tabIn (off := 136) (tgt := 144) dX6_count_8 (by decide) (by decide) rfl (by decide) ?_
      refine r_aload_n dX6_count_144 rfl ?_
      refine r_getR (ci := 6) (k := 5) wf_X6_19 dX6_count_145 z_219 k_219 (by decide) (by decide) (fun _ _ => rfl) f_219_5 ?_
      refine r_bipush (nI 7) dX6_count_148 (by decide) ?_
      refine r_iald dX6_count_150 z_223 k_223 (vp_in_nI (by decide) (by decide)) (fun z13 hz13 => ?_)
      rw [nI_clamp (by omega)] at hz13
      obtain rfl : z13 = nI (r 7) := hz13.trans (hM 7 (by decide))
      refine r_iret2 dX6_count_151 rfl ⟨Nat.zero_le _, Nat.zero_le _⟩ ?_
      refine ⟨?_, MX.th, rfl⟩
      unfold g_count
      first
        | (rw [if_pos rfl]; done)
        | (rw [if_neg (by decide), if_pos rfl]; done)
        | (rw [if_neg (by decide), if_neg (by decide), if_pos rfl]; done)
        | (rw [if_neg (by decide), if_neg (by decide), if_neg (by decide), if_pos rfl]; done)
        | (rw [if_neg (by decide), if_neg (by decide), if_neg (by decide), if_neg (by decide), if_pos rfl]; done)
        | (rw [if_neg (by decide), if_neg (by decide), if_neg (by decide), if_neg (by decide), if_neg (by decide), if_pos rfl]; done)
        | (rw [if_neg (by decide), if_neg (by decide), if_neg (by decide), if_neg (by decide), if_neg (by decide), if_neg (by decide), if_pos rfl]; done)
        | (rw [if_neg (by decide), if_neg (by decide), if_neg (by decide), if_neg (by decide), if_neg (by decide), if_neg (by decide), if_neg (by decide), if_pos rfl]; done)
        | (rw [if_neg (by decide), if_neg (by decide), if_neg (by decide), if_neg (by decide), if_neg (by decide), if_neg (by decide), if_neg (by decide), if_neg (by decide), if_pos rfl]; done)
        | (rw [if_neg (by decide), if_neg (by decide), if_neg (by decide), if_neg (by decide), if_neg (by decide), if_neg (by decide), if_neg (by decide), if_neg (by decide), if_neg (by decide), if_pos rfl]; done)
        | (rw [if_neg (sw_ne hk9 (show 0 ≤ 9 by decide) (by decide)), if_neg (sw_ne hk9 (show 1 ≤ 9 by decide) (by decide)), if_neg (sw_ne hk9 (show 2 ≤ 9 by decide) (by decide)), if_neg (sw_ne hk9 (show 3 ≤ 9 by decide) (by decide)), if_neg (sw_ne hk9 (show 4 ≤ 9 by decide) (by decide)), if_neg (sw_ne hk9 (show 5 ≤ 9 by decide) (by decide)), if_neg (sw_ne hk9 (show 6 ≤ 9 by decide) (by decide)), if_neg (sw_ne hk9 (show 7 ≤ 9 by decide) (by decide)), if_neg (sw_ne hk9 (show 8 ≤ 9 by decide) (by decide)), if_neg (sw_ne hk9 (show 9 ≤ 9 by decide) (by decide))]; done)
    · refine r_tabIn (off := 144) (tgt := 152) dX6_count_8 (by decide) (by decide) rfl (by decide) ?_
      refine r_aload_n dX6_count_152 rfl ?_
      refine r_getR (ci := 6) (k := 5) wf_X6_19 dX6_count_153 z_219 k_219 (by decide) (by decide) (fun _ _ => rfl) f_219_5 ?_
      refine r_bipush (nI 8) dX6_count_156 (by decide) ?_
      refine r_iald dX6_count_158 z_223 k_223 (vp_in_nI (by decide) (by decide)) (fun z14 hz14 => ?_)
      rw [nI_clamp (by omega)] at hz14
      obtain rfl : z14 = nI (r 8) := hz14.trans (hM 8 (by decide))
      refine r_iret2 dX6_count_159 rfl ⟨Nat.zero_le _, Nat.zero_le _⟩ ?_
      refine ⟨?_, MX.th, rfl⟩
      unfold g_count
      first
        | (rw [if_pos rfl]; done)
        | (rw [if_neg (by decide), if_pos rfl]; done)
        | (rw [if_neg (by decide), if_neg (by decide), if_pos rfl]; done)
        | (rw [if_neg (by decide), if_neg (by decide), if_neg (by decide), if_pos rfl]; done)
        | (rw [if_neg (by decide), if_neg (by decide), if_neg (by decide), if_neg (by decide), if_pos rfl]; done)
        | (rw [if_neg (by decide), if_neg (by decide), if_neg (by decide), if_neg (by decide), if_neg (by decide), if_pos rfl]; done)
        | (rw [if_neg (by decide), if_neg (by decide), if_neg (by decide), if_neg (by decide), if_neg (by decide), if_neg (by decide), if_pos rfl]; done)
        | (rw [if_neg (by decide), if_neg (by decide), if_neg (by decide), if_neg (by decide), if_neg (by decide), if_neg (by decide), if_neg (by decide), if_pos rfl]; done)
        | (rw [if_neg (by decide), if_neg (by decide), if_neg (by decide), if_neg (by decide), if_neg (by decide), if_neg (by decide), if_neg (by decide), if_neg (by decide), if_pos rfl]; done)
        | (rw [if_neg (by decide), if_neg (by decide), if_neg (by decide), if_neg (by decide), if_neg (by decide), if_neg (by decide), if_neg (by decide), if_neg (by decide), if_neg (by decide), if_pos rfl]; done)
        | (rw [if_neg (sw_ne hk9 (show 0 ≤ 9 by decide) (by decide)), if_neg (sw_ne hk9 (show 1 ≤ 9 by decide) (by decide)), if_neg (sw_ne hk9 (show 2 ≤ 9 by decide) (by decide)), if_neg (sw_ne hk9 (show 3 ≤ 9 by decide) (by decide)), if_neg (sw_ne hk9 (show 4 ≤ 9 by decide) (by decide)), if_neg (sw_ne hk9 (show 5 ≤ 9 by decide) (by decide)), if_neg (sw_ne hk9 (show 6 ≤ 9 by decide) (by decide)), if_neg (sw_ne hk9 (show 7 ≤ 9 by decide) (by decide)), if_neg (sw_ne hk9 (show 8 ≤ 9 by decide) (by decide)), if_neg (sw_ne hk9 (show 9 ≤ 9 by decide) (by decide))]; done)
    · refine r_tabIn (off := 152) (tgt := 160) dX6_count_8 (by decide) (by decide) rfl (by decide) ?_
      refine r_aload_n dX6_count_160 rfl ?_
      refine r_getI (ci := 6) (k := 9) wf_X6_153 dX6_count_161 z_219 k_219 (by decide) (by decide) rfl (fun z15 hz15 => ?_)
      obtain rfl : z15 = nI kp := hz15.trans ((MX.th.2 9 (by decide)).trans hkp)
      refine r_iret2 dX6_count_164 rfl ⟨Nat.zero_le _, Nat.zero_le _⟩ ?_
      refine ⟨?_, MX.th, rfl⟩
      unfold g_count
      first
        | (rw [if_pos rfl]; done)
        | (rw [if_neg (by decide), if_pos rfl]; done)
        | (rw [if_neg (by decide), if_neg (by decide), if_pos rfl]; done)
        | (rw [if_neg (by decide), if_neg (by decide), if_neg (by decide), if_pos rfl]; done)
        | (rw [if_neg (by decide), if_neg (by decide), if_neg (by decide), if_neg (by decide), if_pos rfl]; done)
        | (rw [if_neg (by decide), if_neg (by decide), if_neg (by decide), if_neg (by decide), if_neg (by decide), if_pos rfl]; done)
        | (rw [if_neg (by decide), if_neg (by decide), if_neg (by decide), if_neg (by decide), if_neg (by decide), if_neg (by decide), if_pos rfl]; done)
        | (rw [if_neg (by decide), if_neg (by decide), if_neg (by decide), if_neg (by decide), if_neg (by decide), if_neg (by decide), if_neg (by decide), if_pos rfl]; done)
        | (rw [if_neg (by decide), if_neg (by decide), if_neg (by decide), if_neg (by decide), if_neg (by decide), if_neg (by decide), if_neg (by decide), if_neg (by decide), if_pos rfl]; done)
        | (rw [if_neg (by decide), if_neg (by decide), if_neg (by decide), if_neg (by decide), if_neg (by decide), if_neg (by decide), if_neg (by decide), if_neg (by decide), if_neg (by decide), if_pos rfl]; done)
        | (rw [if_neg (sw_ne hk9 (show 0 ≤ 9 by decide) (by decide)), if_neg (sw_ne hk9 (show 1 ≤ 9 by decide) (by decide)), if_neg (sw_ne hk9 (show 2 ≤ 9 by decide) (by decide)), if_neg (sw_ne hk9 (show 3 ≤ 9 by decide) (by decide)), if_neg (sw_ne hk9 (show 4 ≤ 9 by decide) (by decide)), if_neg (sw_ne hk9 (show 5 ≤ 9 by decide) (by decide)), if_neg (sw_ne hk9 (show 6 ≤ 9 by decide) (by decide)), if_neg (sw_ne hk9 (show 7 ≤ 9 by decide) (by decide)), if_neg (sw_ne hk9 (show 8 ≤ 9 by decide) (by decide)), if_neg (sw_ne hk9 (show 9 ≤ 9 by decide) (by decide))]; done)
    · refine r_tabIn (off := 157) (tgt := 165) dX6_count_8 (by decide) (by decide) rfl (by decide) ?_
      refine r_aload_n dX6_count_165 rfl ?_
      refine r_getI (ci := 6) (k := 11) wf_X6_81 dX6_count_166 z_219 k_219 (by decide) (by decide) rfl (fun z16 hz16 => ?_)
      obtain rfl : z16 = nI tl := hz16.trans ((MX.th.2 11 (by decide)).trans htl)
      refine r_iret2 dX6_count_169 rfl ⟨Nat.zero_le _, Nat.zero_le _⟩ ?_
      refine ⟨?_, MX.th, rfl⟩
      unfold g_count
      first
        | (rw [if_pos rfl]; done)
        | (rw [if_neg (by decide), if_pos rfl]; done)
        | (rw [if_neg (by decide), if_neg (by decide), if_pos rfl]; done)
        | (rw [if_neg (by decide), if_neg (by decide), if_neg (by decide), if_pos rfl]; done)
        | (rw [if_neg (by decide), if_neg (by decide), if_neg (by decide), if_neg (by decide), if_pos rfl]; done)
        | (rw [if_neg (by decide), if_neg (by decide), if_neg (by decide), if_neg (by decide), if_neg (by decide), if_pos rfl]; done)
        | (rw [if_neg (by decide), if_neg (by decide), if_neg (by decide), if_neg (by decide), if_neg (by decide), if_neg (by decide), if_pos rfl]; done)
        | (rw [if_neg (by decide), if_neg (by decide), if_neg (by decide), if_neg (by decide), if_neg (by decide), if_neg (by decide), if_neg (by decide), if_pos rfl]; done)
        | (rw [if_neg (by decide), if_neg (by decide), if_neg (by decide), if_neg (by decide), if_neg (by decide), if_neg (by decide), if_neg (by decide), if_neg (by decide), if_pos rfl]; done)
        | (rw [if_neg (by decide), if_neg (by decide), if_neg (by decide), if_neg (by decide), if_neg (by decide), if_neg (by decide), if_neg (by decide), if_neg (by decide), if_neg (by decide), if_pos rfl]; done)
        | (rw [if_neg (sw_ne hk9 (show 0 ≤ 9 by decide) (by decide)), if_neg (sw_ne hk9 (show 1 ≤ 9 by decide) (by decide)), if_neg (sw_ne hk9 (show 2 ≤ 9 by decide) (by decide)), if_neg (sw_ne hk9 (show 3 ≤ 9 by decide) (by decide)), if_neg (sw_ne hk9 (show 4 ≤ 9 by decide) (by decide)), if_neg (sw_ne hk9 (show 5 ≤ 9 by decide) (by decide)), if_neg (sw_ne hk9 (show 6 ≤ 9 by decide) (by decide)), if_neg (sw_ne hk9 (show 7 ≤ 9 by decide) (by decide)), if_neg (sw_ne hk9 (show 8 ≤ 9 by decide) (by decide)), if_neg (sw_ne hk9 (show 9 ≤ 9 by decide) (by decide))]; done)
  · refine r_tabOut (tgt := 170) dX6_count_8 hk9 (by decide) ?_
    refine r_ldc wc_X6_74 dX6_count_170 ?_
    refine r_iret2 dX6_count_172 rfl ⟨Nat.zero_le _, Nat.zero_le _⟩ ?_
    refine ⟨?_, MX.th, rfl⟩
    unfold g_count
    first
      | (rw [if_pos rfl]; done)
      | (rw [if_neg (by decide), if_pos rfl]; done)
      | (rw [if_neg (by decide), if_neg (by decide), if_pos rfl]; done)
      | (rw [if_neg (by decide), if_neg (by decide), if_neg (by decide), if_pos rfl]; done)
      | (rw [if_neg (by decide), if_neg (by decide), if_neg (by decide), if_neg (by decide), if_pos rfl]; done)
      | (rw [if_neg (by decide), if_neg (by decide), if_neg (by decide), if_neg (by decide), if_neg (by decide), if_pos rfl]; done)
      | (rw [if_neg (by decide), if_neg (by decide), if_neg (by decide), if_neg (by decide), if_neg (by decide), if_neg (by decide), if_pos rfl]; done)
      | (rw [if_neg (by decide), if_neg (by decide), if_neg (by decide), if_neg (by decide), if_neg (by decide), if_neg (by decide), if_neg (by decide), if_pos rfl]; done)
      | (rw [if_neg (by decide), if_neg (by decide), if_neg (by decide), if_neg (by decide), if_neg (by decide), if_neg (by decide), if_neg (by decide), if_neg (by decide), if_pos rfl]; done)
      | (rw [if_neg (by decide), if_neg (by decide), if_neg (by decide), if_neg (by decide), if_neg (by decide), if_neg (by decide), if_neg (by decide), if_neg (by decide), if_neg (by decide), if_pos rfl]; done)
      | (rw [if_neg (sw_ne hk9 (show 0 ≤ 9 by decide) (by decide)), if_neg (sw_ne hk9 (show 1 ≤ 9 by decide) (by decide)), if_neg (sw_ne hk9 (show 2 ≤ 9 by decide) (by decide)), if_neg (sw_ne hk9 (show 3 ≤ 9 by decide) (by decide)), if_neg (sw_ne hk9 (show 4 ≤ 9 by decide) (by decide)), if_neg (sw_ne hk9 (show 5 ≤ 9 by decide) (by decide)), if_neg (sw_ne hk9 (show 6 ≤ 9 by decide) (by decide)), if_neg (sw_ne hk9 (show 7 ≤ 9 by decide) (by decide)), if_neg (sw_ne hk9 (show 8 ≤ 9 by decide) (by decide)), if_neg (sw_ne hk9 (show 9 ≤ 9 by decide) (by decide))]; done)
