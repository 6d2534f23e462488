set_option maxRecDepth 100000 in
set_option maxHeartbeats 4000000 in
theorem c_X6_half (B : Nat) (D : DD) (E : EE) (wy : Nat → Nat) (r : Row) (hX0 : XM D wy r) (x : Int32) : MR yX6_half cX6_half 4 (some .int) rX6_half B [.ref (B + 219), .int x] Z0 D E (Q2 Z0 (pI (fun v D' E' => v = (if 0 < r 0 then g_half wy r x else -1000002) ∧ MX D D' ∧ E' = E))) := by
  have hX := hX0.th
  obtain ⟨hO, hM, hwy, hYY⟩ := id hX
  obtain ⟨l0, l5, l4, l6, l7, l8, l1⟩ := hO.le
  have hwy0 := hX0.2.2.1
  have hM0 := hX0.2.1
  refine r_enter [(0, .ref (B + 219)), (1, .int x)] hv_X6_half.1.2.2.2.2 (Nat.le_of_ble_eq_true rfl) rfl ?_
  refine r_aload_n dX6_half_0 rfl ?_
  refine r_iconst (nI 0) dX6_half_1 (by decide) ?_
  refine r_putI (ci := 6) (k := 0) wf_X6_54 dX6_half_2 z_219 k_219 (by decide) (by decide) rfl rfl (fun D1 hD1 => ?_)
  obtain rfl : D1 = thD D := hD1.trans up2_eq
  refine r_aload_n dX6_half_5 rfl ?_
  refine r_callVI (As := []) (o := 219) (c_X6_isThere B (thD D) E (r 0) (hM 0 (by decide)) l0) hv_X6_isThere wm_X6_193 dX6_half_6 rfl rfl z_219 k_219 (by decide) rfl (Nat.le_of_ble_eq_true rfl) ⟨Nat.le_of_ble_eq_true rfl, Nat.le_of_ble_eq_true rfl, Nat.zero_le _, Nat.zero_le _⟩ ⟨rfl, rfl⟩ (fun z2 D3 E4 hz2 => ?_)
  obtain ⟨hqV, hqD, hqE⟩ := hz2
  obtain rfl : z2 = bI (0 < r 0) := hqV
  obtain rfl := hqD.symm
  obtain rfl := hqE.symm
  refine r_if_ne (tgt := 15) dX6_half_9 (by decide) (fun c9 => ?_) (fun c9 => ?_)
  · skip
    rw [bI_n0] at c9
    obtain ⟨hW, hT, hH⟩ := hO.p c9
    have hY := hYY hW
    obtain ⟨b1, b2, b3, b4, b5, b6, b7, b8⟩ := hW.1
    refine r_iload_n dX6_half_15 rfl ?_
    refine r_i2l dX6_half_16 (fun z5 hz5 => ?_)
    subst hz5
    refine r_lconst ((nI 1).toInt64) dX6_half_17 (by decide) ?_
    refine r_ldc2v ((nI 60).toInt64) wg_X6_210 dX6_half_18 (by decide) ?_
    refine r_callSI (As := [.long x.toInt64, .long ((nI 1).toInt64), .long ((nI 60).toInt64)]) (c_X6_in B (thD D) E x (nI 1) (nI 60)) hs_X6_in wm_X6_64 rfl dX6_half_21 rfl rfl (Nat.le_of_ble_eq_true rfl) ⟨Nat.le_of_ble_eq_true rfl, Nat.le_of_ble_eq_true rfl, Nat.zero_le _, Nat.zero_le _⟩ ⟨rfl, rfl⟩ (fun z6 D7 E8 hz6 => ?_)
    obtain ⟨hqV, hqD, hqE⟩ := hz6
    obtain rfl : z6 = bI (nI 1 ≤ x ∧ x ≤ nI 60) := hqV
    obtain rfl := hqD.symm
    obtain rfl := hqE.symm
    refine r_if_ne (tgt := 30) dX6_half_24 (by decide) (fun c24 => ?_) (fun c24 => ?_)
    · skip
      rw [bI_n0] at c24
      obtain ⟨n, hn1, hn2, rfl⟩ := rg (by decide) (by decide) c24
      refine r_aload_n dX6_half_30 rfl ?_
      refine r_callVV (As := []) (o := 219) (c_X6_layThen B (thD D) E r hM) hv_X6_layThen wm_X6_212 dX6_half_31 rfl rfl z_219 k_219 (by decide) rfl (Nat.le_of_ble_eq_true rfl) ⟨Nat.le_of_ble_eq_true rfl, Nat.le_of_ble_eq_true rfl, Nat.zero_le _, Nat.zero_le _⟩ ⟨rfl, rfl⟩ (fun D10 E11 hz9 => ?_)
      obtain ⟨hL1, hL2, hqE⟩ := hz9
      obtain rfl := hqE.symm
      have hXt : MX D D10 := MX.th.trans (MX.of (fun q a _ => hL1 q a))
      have hwt : ∀ j, j < 6 * r 0 → D10 228 j = nI (wy j) := fun j hj => (congrFun (hL1 228 (by decide)) j).trans (hwy j hj)
      refine r_iconst (nI 0) dX6_half_34 (by decide) ?_
      refine r_istore_n [(2, .int (nI 0)), (0, .ref (B + 219)), (1, .int (nI n))] dX6_half_35 (by decide) rfl ?_
      have L : ∀ (fu k : Nat) (Dk : DD), k ≤ n → n - k < fu → (MX D Dk ∧ MA Dk 225 (s_hours wy k r) ∧ s_hours wy k r 8 = r 8 ∧ ∀ j, j < k → decide (r 8 < s_hours wy (j + 1) r 8) = false) → RW yX6_half cX6_half 4 (some .int) rX6_half B (Q2 Z0 (pI (fun v D' E' => v = (if 0 < r 0 then g_half wy r (nI n) else -1000002) ∧ MX D D' ∧ E' = E))) Z0 Dk E 0 0 36 [(2, .int (nI k)), (0, .ref (B + 219)), (1, .int (nI n))] [] := by
        intro fu
        induction fu with
        | zero => intro k Dk hku hfu _; omega
        | succ fu ih =>
          intro k Dk hku hfu hI
          refine r_iload_n dX6_half_36 rfl ?_
          refine r_iload_n dX6_half_37 rfl ?_
          refine r_icmp_ge (tgt := 78) dX6_half_38 (by decide) (fun c38 => ?_) (fun c38 => ?_)
          · skip
            rw [nI_leI (by omega) (by omega)] at c38
            refine r_ldc wc_X6_97 dX6_half_78 ?_
            refine r_iret2 dX6_half_80 rfl ⟨Nat.zero_le _, Nat.zero_le _⟩ ?_
            obtain rfl : k = n := by omega
            refine ⟨?_, hI.1, rfl⟩
            unfold g_half
            rw [if_pos c9, if_pos c24, nI_clamp (by omega), s_find_n _ (fun j hj => hI.2.2.2 j hj)]
            rfl
          · skip
            rw [nI_leI (by omega) (by omega)] at c38
            obtain ⟨t1, t2, t3, t4⟩ := s_hours_k hW hT hH hY k
            obtain ⟨u1, u2, u3, u4⟩ := s_hours_k hW hT hH hY (k + 1)
            obtain ⟨v1, v2, v3, -⟩ := t1.1
            obtain ⟨w1, w2, w3, -⟩ := u1.1
            have h8k := hI.2.2.1
            have h8l : s_hours wy k r 8 ≤ s_hours wy (k + 1) r 8 := s_hour_8le
            have tb := t3.2.2
            have ub := u3.2.2
            refine r_aload_n dX6_half_41 rfl ?_
            refine r_getR (ci := 6) (k := 7) wf_X6_25 dX6_half_42 z_219 k_219 (by decide) (by decide) (fun _ _ => rfl) f_219_7 ?_
            refine r_bipush (nI 8) dX6_half_45 (by decide) ?_
            refine r_iald dX6_half_47 z_225 k_225 (vp_in_nI (by decide) (by decide)) (fun z12 hz12 => ?_)
            rw [nI_clamp (by omega)] at hz12
            obtain rfl : z12 = nI (s_hours wy k r 8) := hz12.trans (hI.2.1 8 (by decide))
            refine r_istore_n [(3, .int (nI (s_hours wy k r 8))), (2, .int (nI k)), (0, .ref (B + 219)), (1, .int (nI n))] dX6_half_48 (by decide) rfl ?_
            refine r_aload_n dX6_half_49 rfl ?_
            refine r_aload_n dX6_half_50 rfl ?_
            refine r_getR (ci := 6) (k := 7) wf_X6_25 dX6_half_51 z_219 k_219 (by decide) (by decide) (fun _ _ => rfl) f_219_7 ?_
            refine r_iconst (nI 0) dX6_half_54 (by decide) ?_
            refine r_iconst (nI 0) dX6_half_55 (by decide) ?_
            refine r_callVV (As := [.ref (B + 225), .int (nI 0), .int (nI 0)]) (o := 219) (c_X6_hour B Dk E 225 (Or.inr rfl) (s_hours wy k r) wy t1 (999 + k) t3 (by omega) hI.2.1 t4 (fun j hj => (hI.1).wy hwy0 j (by rw [s_hours_0] at hj; exact hj))) hv_X6_hour wm_X6_185 dX6_half_56 rfl rfl z_219 k_219 (by decide) rfl (Nat.le_of_ble_eq_true rfl) ⟨Nat.le_of_ble_eq_true rfl, Nat.le_of_ble_eq_true rfl, Nat.zero_le _, Nat.zero_le _⟩ ⟨rfl, rfl⟩ (fun D14 E15 hz13 => ?_)
            obtain ⟨hF9, hC9, hqE⟩ := hz13
            obtain rfl := hqE.symm
            have hX9 : MX D D14 := (hI.1).trans (MX.of hF9)
            refine r_aload_n dX6_half_59 rfl ?_
            refine r_getR (ci := 6) (k := 7) wf_X6_25 dX6_half_60 z_219 k_219 (by decide) (by decide) (fun _ _ => rfl) f_219_7 ?_
            refine r_bipush (nI 8) dX6_half_63 (by decide) ?_
            refine r_iald dX6_half_65 z_225 k_225 (vp_in_nI (by decide) (by decide)) (fun z16 hz16 => ?_)
            rw [nI_clamp (by omega)] at hz16
            obtain rfl : z16 = nI (s_hours wy (k + 1) r 8) := hz16.trans (hC9 8 (by decide))
            refine r_iload_n dX6_half_66 rfl ?_
            refine r_icmp_le (tgt := 72) dX6_half_67 (by decide) (fun c67 => ?_) (fun c67 => ?_)
            · skip
              rw [nI_leI (by omega) (by omega)] at c67
              refine r_iinc (nI (k + 1)) [(2, .int (nI (k + 1))), (3, .int (nI (s_hours wy k r 8))), (0, .ref (B + 219)), (1, .int (nI n))] dX6_half_72 rfl (nI_1 _) (by decide) rfl ?_
              refine r_goto (tgt := 36) dX6_half_75 (by decide) ?_
              exact r_lv [(2, .int (nI (k + 1))), (0, .ref (B + 219)), (1, .int (nI n))] (List.forall_mem_cons.mpr ⟨rfl, List.forall_mem_cons.mpr ⟨rfl, List.forall_mem_cons.mpr ⟨rfl, fun _ h => absurd h List.not_mem_nil⟩⟩⟩) (ih (k + 1) D14 (by omega) (by omega) (⟨hX9, hC9, by omega, fun j hj => (Nat.lt_succ_iff_lt_or_eq.mp hj).elim (fun h => hI.2.2.2 j h) (fun h => h ▸ decide_eq_false (by omega))⟩))
            · skip
              rw [nI_leI (by omega) (by omega)] at c67
              refine r_iload_n dX6_half_70 rfl ?_
              refine r_iret2 dX6_half_71 rfl ⟨Nat.zero_le _, Nat.zero_le _⟩ ?_
              refine ⟨?_, hX9, rfl⟩
              unfold g_half
              rw [if_pos c9, if_pos c24, nI_clamp (by omega), s_find_s (P := fun k => decide (r 8 < s_hours wy (k + 1) r 8)) (k := k) (decide_eq_true (by omega)) hI.2.2.2 _ (by omega)]
              rfl
      exact r_lv [(2, .int (nI 0)), (0, .ref (B + 219)), (1, .int (nI n))] (List.forall_mem_cons.mpr ⟨rfl, List.forall_mem_cons.mpr ⟨rfl, List.forall_mem_cons.mpr ⟨rfl, fun _ h => absurd h List.not_mem_nil⟩⟩⟩) (L (n + 1) 0 D10 (by omega) (by omega) (⟨hXt, hL2, rfl, fun j hj => absurd hj (Nat.not_lt_zero j)⟩))
    · skip
      rw [bI_0] at c24
      refine r_ldc wc_X6_74 dX6_half_27 ?_
      refine r_iret2 dX6_half_29 rfl ⟨Nat.zero_le _, Nat.zero_le _⟩ ?_
      refine ⟨?_, MX.th, rfl⟩
      unfold g_half
      rw [if_pos c9, if_neg c24]
  · skip
    rw [bI_0] at c9
    refine r_ldc wc_X6_196 dX6_half_12 ?_
    refine r_iret2 dX6_half_14 rfl ⟨Nat.zero_le _, Nat.zero_le _⟩ ?_
    refine ⟨?_, MX.th, rfl⟩
    rw [if_neg c9]
set_option maxRecDepth 100000 in
set_option maxHeartbeats 4000000 in
theorem c_X6_hard (B : Nat) (D : DD) (E : EE) (wy : Nat → Nat) (r : Row) (hX0 : XM D wy r) (x y : Int32) : MR yX6_hard cX6_hard 4 (some .int) rX6_hard B [.ref (B + 219), .int x, .int y] Z0 D E (Q2 Z0 (pI (fun v D' E' => v = (g_hard wy r x y) ∧ MX D D' ∧ E' = E))) := by
  have hX := hX0.th
  obtain ⟨hO, hM, hwy, hYY⟩ := id hX
  obtain ⟨l0, l5, l4, l6, l7, l8, l1⟩ := hO.le
  have hwy0 := hX0.2.2.1
  have hM0 := hX0.2.1
  refine r_enter [(0, .ref (B + 219)), (1, .int x), (2, .int y)] hv_X6_hard.1.2.2.2.2 (Nat.le_of_ble_eq_true rfl) rfl ?_
  refine r_aload_n dX6_hard_0 rfl ?_
  refine r_iconst (nI 0) dX6_hard_1 (by decide) ?_
  refine r_putI (ci := 6) (k := 0) wf_X6_54 dX6_hard_2 z_219 k_219 (by decide) (by decide) rfl rfl (fun D1 hD1 => ?_)
  obtain rfl : D1 = thD D := hD1.trans up2_eq
  refine r_aload_n dX6_hard_5 rfl ?_
  refine r_iload_n dX6_hard_6 rfl ?_
  refine r_callVI (As := [.int x]) (o := 219) (c_X6_isWisher B (thD D) E x (r 5) (hM 5 (by decide))) hv_X6_isWisher wm_X6_202 dX6_hard_7 rfl rfl z_219 k_219 (by decide) rfl (Nat.le_of_ble_eq_true rfl) ⟨Nat.le_of_ble_eq_true rfl, Nat.le_of_ble_eq_true rfl, Nat.zero_le _, Nat.zero_le _⟩ ⟨rfl, rfl⟩ (fun z2 D3 E4 hz2 => ?_)
  obtain ⟨hqV, hqD, hqE⟩ := hz2
  obtain rfl : z2 = bI (nI 0 ≤ x ∧ x ≤ nI (r 5) - nI 1) := hqV
  obtain rfl := hqD.symm
  obtain rfl := hqE.symm
  refine r_if_eq (tgt := 25) dX6_hard_10 (by decide) (fun c10 => ?_) (fun c10 => ?_)
  · skip
    rw [bI_0] at c10
    refine r_ldc wc_X6_74 dX6_hard_25 ?_
    refine r_iret2 dX6_hard_27 rfl ⟨Nat.zero_le _, Nat.zero_le _⟩ ?_
    refine ⟨?_, MX.th, rfl⟩
    unfold g_hard
    first | rw [if_neg c10] | rw [if_pos c10, if_neg c22]
  · skip
    rw [bI_n0] at c10
    obtain ⟨w, hw1, rfl⟩ := gd_n (by omega) c10
    obtain ⟨hW, hT, hH⟩ := hO.w hw1
    have hY := hYY hW
    obtain ⟨b1, b2, b3, b4, b5, b6, b7, b8⟩ := hW.1
    obtain ⟨⟨d1, d2⟩, d3, d4, d5, d6, ⟨d7, d8⟩, d9, d10⟩ := hW.2.2.1 w hw1
    refine r_iload_n dX6_hard_13 rfl ?_
    refine r_i2l dX6_hard_14 (fun z5 hz5 => ?_)
    subst hz5
    refine r_lconst ((nI 1).toInt64) dX6_hard_15 (by decide) ?_
    refine r_ldc2v ((nI 24).toInt64) wg_X6_197 dX6_hard_16 (by decide) ?_
    refine r_callSI (As := [.long y.toInt64, .long ((nI 1).toInt64), .long ((nI 24).toInt64)]) (c_X6_in B (thD D) E y (nI 1) (nI 24)) hs_X6_in wm_X6_64 rfl dX6_hard_19 rfl rfl (Nat.le_of_ble_eq_true rfl) ⟨Nat.le_of_ble_eq_true rfl, Nat.le_of_ble_eq_true rfl, Nat.zero_le _, Nat.zero_le _⟩ ⟨rfl, rfl⟩ (fun z6 D7 E8 hz6 => ?_)
    obtain ⟨hqV, hqD, hqE⟩ := hz6
    obtain rfl : z6 = bI (nI 1 ≤ y ∧ y ≤ nI 24) := hqV
    obtain rfl := hqD.symm
    obtain rfl := hqE.symm
    refine r_if_ne (tgt := 28) dX6_hard_22 (by decide) (fun c22 => ?_) (fun c22 => ?_)
    · skip
      rw [bI_n0] at c22
      obtain ⟨n, hn1, hn2, rfl⟩ := rg (by decide) (by decide) c22
      refine r_iconst (nI 0) dX6_hard_28 (by decide) ?_
      refine r_istore_n [(3, .int (nI 0)), (0, .ref (B + 219)), (1, .int (nI w)), (2, .int (nI n))] dX6_hard_29 (by decide) rfl ?_
      have L : ∀ (fu k : Nat) (Dk : DD), k ≤ 41 → 41 - k < fu → (MX D Dk ∧ ∀ j, j < k → (s_hours wy n (rset r (19 + 8 * w) j) 1 == r (18 + 8 * w)) = false) → RW yX6_hard cX6_hard 4 (some .int) rX6_hard B (Q2 Z0 (pI (fun v D' E' => v = (g_hard wy r (nI w) (nI n)) ∧ MX D D' ∧ E' = E))) Z0 Dk E 0 0 30 [(3, .int (nI k)), (0, .ref (B + 219)), (1, .int (nI w)), (2, .int (nI n))] [] := by
        intro fu
        induction fu with
        | zero => intro k Dk hku hfu _; omega
        | succ fu ih =>
          intro k Dk hku hfu hI
          refine r_iload_n dX6_hard_30 rfl ?_
          refine r_bipush (nI 41) dX6_hard_31 (by decide) ?_
          refine r_icmp_ge (tgt := 80) dX6_hard_33 (by decide) (fun c33 => ?_) (fun c33 => ?_)
          · skip
            rw [nI_leI (by omega) (by omega)] at c33
            refine r_ldc wc_X6_97 dX6_hard_80 ?_
            refine r_iret2 dX6_hard_82 rfl ⟨Nat.zero_le _, Nat.zero_le _⟩ ?_
            refine ⟨?_, hI.1, rfl⟩
            unfold g_hard
            rw [if_pos c10, if_pos c22, nI_clamp (show n < 2 ^ 31 by omega), nI_clamp (show w < 2 ^ 31 by omega), s_find_n (P := fun s => s_hours wy n (rset r (19 + 8 * w) s) 1 == r (18 + 8 * w)) _ (fun j hj => hI.2 j (by omega))]
            rfl
          · skip
            rw [nI_leI (by omega) (by omega)] at c33
            refine r_aload_n dX6_hard_36 rfl ?_
            refine r_callVV (As := []) (o := 219) (c_X6_layThen B Dk E r ((hI.1).ma hM0)) hv_X6_layThen wm_X6_212 dX6_hard_37 rfl rfl z_219 k_219 (by decide) rfl (Nat.le_of_ble_eq_true rfl) ⟨Nat.le_of_ble_eq_true rfl, Nat.le_of_ble_eq_true rfl, Nat.zero_le _, Nat.zero_le _⟩ ⟨rfl, rfl⟩ (fun D10 E11 hz9 => ?_)
            obtain ⟨hL1, hL2, hqE⟩ := hz9
            obtain rfl := hqE.symm
            have hXt : MX D D10 := (hI.1).trans (MX.of (fun q a _ => hL1 q a))
            refine r_aload_n dX6_hard_40 rfl ?_
            refine r_getR (ci := 6) (k := 7) wf_X6_25 dX6_hard_41 z_219 k_219 (by decide) (by decide) (fun _ _ => rfl) f_219_7 ?_
            refine r_bipush (nI 16) dX6_hard_44 (by decide) ?_
            refine r_bipush (nI 8) dX6_hard_46 (by decide) ?_
            refine r_iload_n dX6_hard_48 rfl ?_
            refine r_imul dX6_hard_49 (fun z12 hz12 => ?_)
            obtain rfl : z12 = nI (8 * w) := (hz12.trans (pk_mul _ _))
            refine r_iadd dX6_hard_50 (fun z13 hz13 => ?_)
            obtain rfl : z13 = nI (16 + (8 * w)) := (hz13.trans (nI_add _ _))
            refine r_iconst (nI 3) dX6_hard_51 (by decide) ?_
            refine r_iadd dX6_hard_52 (fun z14 hz14 => ?_)
            obtain rfl : z14 = nI ((16 + (8 * w)) + 3) := (hz14.trans (nI_add _ _))
            refine r_iload_n dX6_hard_53 rfl ?_
            refine r_iast dX6_hard_54 z_225 k_225 (vp_in_nI (by omega) (by decide)) (fun D15 hD15 => ?_)
            rw [nI_clamp (by omega)] at hD15
            have hM5 : MA D15 225 (rset r (19 + 8 * w) k) := by rw [hD15]; exact MA_set hL2 (by omega)
            have hX5 : MX D D15 := hXt.trans (MX.of (fun q h1 h2 => by rw [hD15]; exact up2_o h1))
            have hW5 : WF (rset r (19 + 8 * w) k) := WF_set hW (Or.inr ⟨w, hw1, by omega⟩)
            have hk5 := (s_hours_k hW5 (T2_set hT (by omega)) (HB_set hH (by omega)) (WY_set hY (by omega)) n).1.1
            obtain ⟨k1, k2, k3, -⟩ := hk5
            refine r_aload_n dX6_hard_55 rfl ?_
            refine r_iload_n dX6_hard_56 rfl ?_
            refine r_callVI (As := [.int (nI n)]) (o := 219) (c_X6_atBehind B D15 E (rset r (19 + 8 * w) k) wy hW5 (T2_set hT (by omega)) 999 n (HB_set hH (by omega)) (by omega) hM5 (WY_set hY (by omega)) (hX5.wy (by rw [rset_n (by omega)]; exact hwy0))) hv_X6_atBehind wm_X6_215 dX6_hard_57 rfl rfl z_219 k_219 (by decide) rfl (Nat.le_of_ble_eq_true rfl) ⟨Nat.le_of_ble_eq_true rfl, Nat.le_of_ble_eq_true rfl, Nat.zero_le _, Nat.zero_le _⟩ ⟨rfl, rfl⟩ (fun z16 D17 E18 hz16 => ?_)
            obtain ⟨hq1, hF9, hC9, hqE⟩ := hz16
            obtain rfl := hqE.symm
            obtain rfl := hq1.symm
            have hX9 : MX D D17 := hX5.trans (MX.of hF9)
            refine r_aload_n dX6_hard_60 rfl ?_
            refine r_getR (ci := 6) (k := 5) wf_X6_19 dX6_hard_61 z_219 k_219 (by decide) (by decide) (fun _ _ => rfl) f_219_5 ?_
            refine r_iload_n dX6_hard_64 rfl ?_
            refine r_iconst (nI 2) dX6_hard_65 (by decide) ?_
            refine r_callSI (As := [.ref (B + 223), .int (nI w), .int (nI 2)]) (c_X6_of B D17 E 223 (Or.inl rfl) w 2 (by omega)) hs_X6_of wm_X6_159 rfl dX6_hard_66 rfl rfl (Nat.le_of_ble_eq_true rfl) ⟨Nat.le_of_ble_eq_true rfl, Nat.le_of_ble_eq_true rfl, Nat.zero_le _, Nat.zero_le _⟩ ⟨rfl, rfl⟩ (fun z19 D20 E21 hz19 => ?_)
            obtain ⟨hq1, hqD, hqE⟩ := hz19
            obtain rfl := hqD.symm
            obtain rfl := hqE.symm
            obtain rfl : z19 = nI (r (18 + 8 * w)) := hq1.trans (MA_at (hX9.ma hM0) (by omega) (by omega))
            refine r_icmp_ne (tgt := 74) dX6_hard_69 (by decide) (fun c69 => ?_) (fun c69 => ?_)
            · skip
              rw [nI_eq (by omega) (by omega)] at c69
              refine r_iinc (nI (k + 1)) [(3, .int (nI (k + 1))), (0, .ref (B + 219)), (1, .int (nI w)), (2, .int (nI n))] dX6_hard_74 rfl (nI_1 _) (by decide) rfl ?_
              refine r_goto (tgt := 30) dX6_hard_77 (by decide) ?_
              exact r_lv [(3, .int (nI (k + 1))), (0, .ref (B + 219)), (1, .int (nI w)), (2, .int (nI n))] (List.forall_mem_cons.mpr ⟨rfl, List.forall_mem_cons.mpr ⟨rfl, List.forall_mem_cons.mpr ⟨rfl, List.forall_mem_cons.mpr ⟨rfl, fun _ h => absurd h List.not_mem_nil⟩⟩⟩⟩) (ih (k + 1) D17 (by omega) (by omega) (⟨hX9, fun j hj => (Nat.lt_succ_iff_lt_or_eq.mp hj).elim (fun h => hI.2 j h) (fun h => h ▸ beq_eq_false_iff_ne.mpr c69)⟩))
            · skip
              rw [nI_eq (by omega) (by omega)] at c69
              refine r_iload_n dX6_hard_72 rfl ?_
              refine r_iret2 dX6_hard_73 rfl ⟨Nat.zero_le _, Nat.zero_le _⟩ ?_
              refine ⟨?_, hX9, rfl⟩
              unfold g_hard
              rw [if_pos c10, if_pos c22, nI_clamp (show n < 2 ^ 31 by omega), nI_clamp (show w < 2 ^ 31 by omega), s_find_s (P := fun s => s_hours wy n (rset r (19 + 8 * w) s) 1 == r (18 + 8 * w)) (k := k) (beq_iff_eq.mpr c69) hI.2 _ (by omega)]
              rfl
      exact r_lv [(3, .int (nI 0)), (0, .ref (B + 219)), (1, .int (nI w)), (2, .int (nI n))] (List.forall_mem_cons.mpr ⟨rfl, List.forall_mem_cons.mpr ⟨rfl, List.forall_mem_cons.mpr ⟨rfl, List.forall_mem_cons.mpr ⟨rfl, fun _ h => absurd h List.not_mem_nil⟩⟩⟩⟩) (L (41 + 1) 0 (thD D) (by omega) (by omega) (⟨MX.th, fun j hj => absurd hj (Nat.not_lt_zero j)⟩))
    · skip
      rw [bI_0] at c22
      refine r_ldc wc_X6_74 dX6_hard_25 ?_
      refine r_iret2 dX6_hard_27 rfl ⟨Nat.zero_le _, Nat.zero_le _⟩ ?_
      refine ⟨?_, MX.th, rfl⟩
      unfold g_hard
      first | rw [if_neg c10] | rw [if_pos c10, if_neg c22]
set_option maxRecDepth 100000 in
set_option maxHeartbeats 4000000 in
theorem c_X6_bits (B : Nat) (D : DD) (E : EE) (c : Nat) (hc : c < 64) : MR yX6_bits cX6_bits 3 (some .int) rX6_bits B [.int (nI c)] Z0 D E (Q2 Z0 (pI (fun v D' E' => v = (nI (s_bits c)) ∧ D' = D ∧ E' = E))) := by
  refine r_enter [(0, .int (nI c))] hs_X6_bits.1.2.2.2.2 (Nat.le_of_ble_eq_true rfl) rfl ?_
  refine r_iconst (nI 0) dX6_bits_0 (by decide) ?_
  refine r_istore_n [(1, .int (nI 0)), (0, .int (nI c))] dX6_bits_1 (by decide) rfl ?_
  refine r_iconst (nI 0) dX6_bits_2 (by decide) ?_
  refine r_istore_n [(2, .int (nI 0)), (1, .int (nI 0)), (0, .int (nI c))] dX6_bits_3 (by decide) rfl ?_
  have L : ∀ fu k : Nat, k ≤ 6 → 6 - k < fu → RW yX6_bits cX6_bits 3 (some .int) rX6_bits B (Q2 Z0 (pI (fun v D' E' => v = (nI (s_bits c)) ∧ D' = D ∧ E' = E))) Z0 D E 0 0 4 [(2, .int (nI k)), (1, .int (nI (s_bk c k))), (0, .int (nI c))] [] := by
    intro fu
    induction fu with
    | zero => intro k hku hfu; omega
    | succ fu ih =>
      intro k hku hfu 
      refine r_iload_n dX6_bits_4 rfl ?_
      refine r_bipush (nI 6) dX6_bits_5 (by decide) ?_
      refine r_icmp_ge (tgt := 24) dX6_bits_7 (by decide) (fun c7 => ?_) (fun c7 => ?_)
      · skip
        rw [nI_leI (by omega) (by omega)] at c7
        refine r_iload_n dX6_bits_24 rfl ?_
        refine r_iret2 dX6_bits_25 rfl ⟨Nat.zero_le _, Nat.zero_le _⟩ ?_
        obtain rfl : k = 6 := by omega
        exact ⟨congrArg nI s_bk_6, rfl, rfl⟩
      · skip
        rw [nI_leI (by omega) (by omega)] at c7
        refine r_iload_n dX6_bits_10 rfl ?_
        refine r_iload_n dX6_bits_11 rfl ?_
        refine r_iload_n dX6_bits_12 rfl ?_
        refine r_ishr dX6_bits_13 (fun z1 hz1 => ?_)
        obtain rfl : z1 = nI c >>> (nI k &&& 31) := hz1
        refine r_iconst (nI 1) dX6_bits_14 (by decide) ?_
        refine r_iand dX6_bits_15 (fun z2 hz2 => ?_)
        obtain rfl : z2 = nI (c / 2 ^ k % 2) := hz2.trans (bit_n (by omega) (by omega))
        refine r_iadd dX6_bits_16 (fun z3 hz3 => ?_)
        obtain rfl : z3 = nI (s_bk c (k + 1)) := hz3.trans (nI_add _ _)
        refine r_istore_n [(1, .int (nI (s_bk c (k + 1)))), (2, .int (nI k)), (0, .int (nI c))] dX6_bits_17 (by decide) rfl ?_
        refine r_iinc (nI (k + 1)) [(2, .int (nI (k + 1))), (1, .int (nI (s_bk c (k + 1)))), (0, .int (nI c))] dX6_bits_18 rfl (nI_1 _) (by decide) rfl ?_
        refine r_goto (tgt := 4) dX6_bits_21 (by decide) ?_
        exact r_lv [(2, .int (nI (k + 1))), (1, .int (nI (s_bk c (k + 1)))), (0, .int (nI c))] (List.forall_mem_cons.mpr ⟨rfl, List.forall_mem_cons.mpr ⟨rfl, List.forall_mem_cons.mpr ⟨rfl, fun _ h => absurd h List.not_mem_nil⟩⟩⟩) (ih (k + 1) (by omega) (by omega))
  exact r_lv [(2, .int (nI 0)), (1, .int (nI (s_bk c 0))), (0, .int (nI c))] (List.forall_mem_cons.mpr ⟨rfl, List.forall_mem_cons.mpr ⟨rfl, List.forall_mem_cons.mpr ⟨rfl, fun _ h => absurd h List.not_mem_nil⟩⟩⟩) (L (6 + 1) 0 (by omega) (by omega))
set_option maxRecDepth 100000 in
set_option maxHeartbeats 4000000 in
theorem c_X6_soNow (B : Nat) (D : DD) (E : EE) (r : Row) (hW : WF r) (b : Nat) (hH : HB r b) (hb : b < 2 ^ 20) (hM : MA D 225 r) : MR yX6_soNow cX6_soNow 4 (some .long) rX6_soNow B [.ref (B + 219)] Z0 D E (Q2 Z0 (pL (fun v D' E' => v = (nG (s_cd r (r 5))) ∧ D' = D ∧ E' = E))) := by
  obtain ⟨b1, b2, b3, b4, b5, b6, b7, b8⟩ := id hW.1
  obtain ⟨g1, -, -⟩ := id hH
  refine r_enter [(0, .ref (B + 219))] hv_X6_soNow.1.2.2.2.2 (Nat.le_of_ble_eq_true rfl) rfl ?_
  refine r_ldc2v (nG 6) wg_X6_227 dX6_soNow_0 (by decide) ?_
  refine r_aload_n dX6_soNow_3 rfl ?_
  refine r_getR (ci := 6) (k := 7) wf_X6_25 dX6_soNow_4 z_219 k_219 (by decide) (by decide) (fun _ _ => rfl) f_219_7 ?_
  refine r_iconst (nI 1) dX6_soNow_7 (by decide) ?_
  refine r_iald dX6_soNow_8 z_225 k_225 (vp_in_nI (by decide) (by decide)) (fun z1 hz1 => ?_)
  rw [nI_clamp (by omega)] at hz1
  obtain rfl : z1 = nI (r 1) := hz1.trans (hM 1 (by decide))
  refine r_i2l dX6_soNow_9 (fun z2 hz2 => ?_)
  obtain rfl : z2 = nG (r 1) := hz2.trans (nI_G (by omega))
  refine r_lmul dX6_soNow_10 (fun z3 hz3 => ?_)
  obtain rfl : z3 = nG (6 * (r 1)) := hz3.trans (nG_mul _ _)
  refine r_aload_n dX6_soNow_11 rfl ?_
  refine r_getR (ci := 6) (k := 7) wf_X6_25 dX6_soNow_12 z_219 k_219 (by decide) (by decide) (fun _ _ => rfl) f_219_7 ?_
  refine r_bipush (nI 6) dX6_soNow_15 (by decide) ?_
  refine r_iald dX6_soNow_17 z_225 k_225 (vp_in_nI (by decide) (by decide)) (fun z4 hz4 => ?_)
  rw [nI_clamp (by omega)] at hz4
  obtain rfl : z4 = nI (r 6) := hz4.trans (hM 6 (by decide))
  refine r_bipush (nI 6) dX6_soNow_18 (by decide) ?_
  refine r_irem dX6_soNow_20 (by decide) (fun z5 hz5 => ?_)
  obtain rfl : z5 = nI (r 6 % 6) := hz5.trans (nI_mod (by omega) (by decide) (by decide))
  have hm6 := Nat.mod_lt (r 6) (show 0 < 6 by decide)
  refine r_i2l dX6_soNow_21 (fun z6 hz6 => ?_)
  obtain rfl : z6 = nG (r 6 % 6) := hz6.trans (nI_G (by omega))
  refine r_ladd dX6_soNow_22 (fun z7 hz7 => ?_)
  obtain rfl : z7 = nG (s_cd r 0) := hz7.trans (nG_add _ _)
  refine r_lstore_n [(1, .long (nG (s_cd r 0))), (0, .ref (B + 219))] dX6_soNow_23 (by decide) rfl ?_
  refine r_iconst (nI 0) dX6_soNow_24 (by decide) ?_
  refine r_istore_n [(3, .int (nI 0)), (1, .long (nG (s_cd r 0))), (0, .ref (B + 219))] dX6_soNow_25 (by decide) rfl ?_
  have L : ∀ fu k : Nat, k ≤ r 5 → r 5 - k < fu → RW yX6_soNow cX6_soNow 4 (some .long) rX6_soNow B (Q2 Z0 (pL (fun v D' E' => v = (nG (s_cd r (r 5))) ∧ D' = D ∧ E' = E))) Z0 D E 0 0 26 [(3, .int (nI k)), (1, .long (nG (s_cd r k))), (0, .ref (B + 219))] [] := by
    intro fu
    induction fu with
    | zero => intro k hku hfu; omega
    | succ fu ih =>
      intro k hku hfu 
      refine r_iload_n dX6_soNow_26 rfl ?_
      refine r_aload_n dX6_soNow_27 rfl ?_
      refine r_getR (ci := 6) (k := 7) wf_X6_25 dX6_soNow_28 z_219 k_219 (by decide) (by decide) (fun _ _ => rfl) f_219_7 ?_
      refine r_iconst (nI 5) dX6_soNow_31 (by decide) ?_
      refine r_iald dX6_soNow_32 z_225 k_225 (vp_in_nI (by decide) (by decide)) (fun z8 hz8 => ?_)
      rw [nI_clamp (by omega)] at hz8
      obtain rfl : z8 = nI (r 5) := hz8.trans (hM 5 (by decide))
      refine r_icmp_ge (tgt := 60) dX6_soNow_33 (by decide) (fun c33 => ?_) (fun c33 => ?_)
      · skip
        rw [nI_leI (by omega) (by omega)] at c33
        refine r_lload_n dX6_soNow_60 rfl ?_
        refine r_lret2 dX6_soNow_61 rfl ⟨Nat.zero_le _, Nat.zero_le _⟩ ?_
        obtain rfl : k = r 5 := by omega
        exact ⟨rfl, rfl, rfl⟩
      · skip
        rw [nI_leI (by omega) (by omega)] at c33
        refine r_ldc2v (nG 21) wg_X6_229 dX6_soNow_36 (by decide) ?_
        refine r_lload_n dX6_soNow_39 rfl ?_
        refine r_lmul dX6_soNow_40 (fun z9 hz9 => ?_)
        obtain rfl : z9 = nG (21 * (s_cd r k)) := hz9.trans (nG_mul _ _)
        refine r_aload_n dX6_soNow_41 rfl ?_
        refine r_getR (ci := 6) (k := 7) wf_X6_25 dX6_soNow_42 z_219 k_219 (by decide) (by decide) (fun _ _ => rfl) f_219_7 ?_
        refine r_iload_n dX6_soNow_45 rfl ?_
        refine r_bipush (nI 6) dX6_soNow_46 (by decide) ?_
        refine r_callSI (As := [.ref (B + 225), .int (nI k), .int (nI 6)]) (c_X6_of B D E 225 (Or.inr rfl) k 6 (by omega)) hs_X6_of wm_X6_159 rfl dX6_soNow_48 rfl rfl (Nat.le_of_ble_eq_true rfl) ⟨Nat.le_of_ble_eq_true rfl, Nat.le_of_ble_eq_true rfl, Nat.zero_le _, Nat.zero_le _⟩ ⟨rfl, rfl⟩ (fun z10 D11 E12 hz10 => ?_)
        obtain ⟨hq1, hqD, hqE⟩ := hz10
        obtain rfl := hqD.symm
        obtain rfl := hqE.symm
        obtain rfl : z10 = nI (r (22 + 8 * k)) := hq1.trans (MA_at hM (by omega) (by omega))
        have ht := cd_t hW k
        refine r_i2l dX6_soNow_51 (fun z13 hz13 => ?_)
        obtain rfl : z13 = nG (r (22 + 8 * k)) := hz13.trans (nI_G (by omega))
        refine r_ladd dX6_soNow_52 (fun z14 hz14 => ?_)
        obtain rfl : z14 = nG (s_cd r (k + 1)) := hz14.trans ((nG_add _ _).trans (congrArg nG (by show 21 * s_cd r k + r (22 + 8 * k) = s_cd r k * 21 + r (22 + 8 * k); rw [Nat.mul_comm])))
        refine r_lstore_n [(1, .long (nG (s_cd r (k + 1)))), (3, .int (nI k)), (0, .ref (B + 219))] dX6_soNow_53 (by decide) rfl ?_
        refine r_iinc (nI (k + 1)) [(3, .int (nI (k + 1))), (1, .long (nG (s_cd r (k + 1)))), (0, .ref (B + 219))] dX6_soNow_54 rfl (nI_1 _) (by decide) rfl ?_
        refine r_goto (tgt := 26) dX6_soNow_57 (by decide) ?_
        exact r_lv [(3, .int (nI (k + 1))), (1, .long (nG (s_cd r (k + 1)))), (0, .ref (B + 219))] (List.forall_mem_cons.mpr ⟨rfl, List.forall_mem_cons.mpr ⟨rfl, List.forall_mem_cons.mpr ⟨rfl, fun _ h => absurd h List.not_mem_nil⟩⟩⟩) (ih (k + 1) (by omega) (by omega))
  exact r_lv [(3, .int (nI 0)), (1, .long (nG (s_cd r 0))), (0, .ref (B + 219))] (List.forall_mem_cons.mpr ⟨rfl, List.forall_mem_cons.mpr ⟨rfl, List.forall_mem_cons.mpr ⟨rfl, fun _ h => absurd h List.not_mem_nil⟩⟩⟩) (L (r 5 + 1) 0 (by omega) (by omega))
set_option maxRecDepth 100000 in
set_option maxHeartbeats 4000000 in
theorem c_X6_round (B : Nat) (D : DD) (E : EE) (wy : Nat → Nat) (r : Row) (hX0 : XM D wy r) (x : Int32) : MR yX6_round cX6_round 4 (some .int) rX6_round B [.ref (B + 219), .int x] Z0 D E (Q2 Z0 (pI (fun v D' E' => v = (if 0 < r 0 then g_round wy r x else -1000002) ∧ MX D D' ∧ EX 230 E E'))) := by
  have hX := hX0.th
  obtain ⟨hO, hM, hwy, hYY⟩ := id hX
  obtain ⟨l0, l5, l4, l6, l7, l8, l1⟩ := hO.le
  have hwy0 := hX0.2.2.1
  have hM0 := hX0.2.1
  refine r_enter [(0, .ref (B + 219)), (1, .int x)] hv_X6_round.1.2.2.2.2 (Nat.le_of_ble_eq_true rfl) rfl ?_
  refine r_aload_n dX6_round_0 rfl ?_
  refine r_iconst (nI 0) dX6_round_1 (by decide) ?_
  refine r_putI (ci := 6) (k := 0) wf_X6_54 dX6_round_2 z_219 k_219 (by decide) (by decide) rfl rfl (fun D1 hD1 => ?_)
  obtain rfl : D1 = thD D := hD1.trans up2_eq
  refine r_aload_n dX6_round_5 rfl ?_
  refine r_callVI (As := []) (o := 219) (c_X6_isThere B (thD D) E (r 0) (hM 0 (by decide)) l0) hv_X6_isThere wm_X6_193 dX6_round_6 rfl rfl z_219 k_219 (by decide) rfl (Nat.le_of_ble_eq_true rfl) ⟨Nat.le_of_ble_eq_true rfl, Nat.le_of_ble_eq_true rfl, Nat.zero_le _, Nat.zero_le _⟩ ⟨rfl, rfl⟩ (fun z2 D3 E4 hz2 => ?_)
  obtain ⟨hqV, hqD, hqE⟩ := hz2
  obtain rfl : z2 = bI (0 < r 0) := hqV
  obtain rfl := hqD.symm
  obtain rfl := hqE.symm
  refine r_if_ne (tgt := 15) dX6_round_9 (by decide) (fun c9 => ?_) (fun c9 => ?_)
  · skip
    rw [bI_n0] at c9
    obtain ⟨hW, hT, hH⟩ := hO.p c9
    have hY := hYY hW
    obtain ⟨b1, b2, b3, b4, b5, b6, b7, b8⟩ := hW.1
    refine r_iload_n dX6_round_15 rfl ?_
    refine r_i2l dX6_round_16 (fun z5 hz5 => ?_)
    subst hz5
    refine r_lconst ((nI 0).toInt64) dX6_round_17 (by decide) ?_
    refine r_lconst ((nI 1).toInt64) dX6_round_18 (by decide) ?_
    refine r_callSI (As := [.long x.toInt64, .long ((nI 0).toInt64), .long ((nI 1).toInt64)]) (c_X6_in B (thD D) E x (nI 0) (nI 1)) hs_X6_in wm_X6_64 rfl dX6_round_19 rfl rfl (Nat.le_of_ble_eq_true rfl) ⟨Nat.le_of_ble_eq_true rfl, Nat.le_of_ble_eq_true rfl, Nat.zero_le _, Nat.zero_le _⟩ ⟨rfl, rfl⟩ (fun z6 D7 E8 hz6 => ?_)
    obtain ⟨hqV, hqD, hqE⟩ := hz6
    obtain rfl : z6 = bI (nI 0 ≤ x ∧ x ≤ nI 1) := hqV
    obtain rfl := hqD.symm
    obtain rfl := hqE.symm
    refine r_if_ne (tgt := 28) dX6_round_22 (by decide) (fun c22 => ?_) (fun c22 => ?_)
    · skip
      rw [bI_n0] at c22
      obtain ⟨wh, hw1, hw2, rfl⟩ := rg (by decide) (by decide) c22
      refine r_aload_n dX6_round_28 rfl ?_
      refine r_callVV (As := []) (o := 219) (c_X6_layThen B (thD D) E r hM) hv_X6_layThen wm_X6_212 dX6_round_29 rfl rfl z_219 k_219 (by decide) rfl (Nat.le_of_ble_eq_true rfl) ⟨Nat.le_of_ble_eq_true rfl, Nat.le_of_ble_eq_true rfl, Nat.zero_le _, Nat.zero_le _⟩ ⟨rfl, rfl⟩ (fun D10 E11 hz9 => ?_)
      obtain ⟨hL1, hL2, hqE⟩ := hz9
      obtain rfl := hqE.symm
      have hXt : MX D D10 := MX.th.trans (MX.of (fun q a _ => hL1 q a))
      have hwt : ∀ j, j < 6 * r 0 → D10 228 j = nI (wy j) := fun j hj => (congrFun (hL1 228 (by decide)) j).trans (hwy j hj)
      refine r_iconst (nI 0) dX6_round_32 (by decide) ?_
      refine r_istore_n [(2, .int (nI 0)), (0, .ref (B + 219)), (1, .int (nI wh))] dX6_round_33 (by decide) rfl ?_
      have L : ∀ (fu k : Nat) (Dk : DD) (Ek : EE), k ≤ 101 → 101 - k < fu → (MX D Dk ∧ MA Dk 225 (s_hours wy k r) ∧ EX 230 E Ek ∧ (∀ j, j < k → Ek 230 j = nG (s_cd (s_hours wy j r) (r 5))) ∧ s_rd wy r k = none) → RW yX6_round cX6_round 4 (some .int) rX6_round B (Q2 Z0 (pI (fun v D' E' => v = (if 0 < r 0 then g_round wy r (nI wh) else -1000002) ∧ MX D D' ∧ EX 230 E E'))) Z0 Dk Ek 0 0 34 [(2, .int (nI k)), (0, .ref (B + 219)), (1, .int (nI wh))] [] := by
        intro fu
        induction fu with
        | zero => intro k Dk Ek hku hfu _; omega
        | succ fu ih =>
          intro k Dk Ek hku hfu hI
          refine r_iload_n dX6_round_34 rfl ?_
          refine r_bipush (nI 101) dX6_round_35 (by decide) ?_
          refine r_icmp_ge (tgt := 105) dX6_round_37 (by decide) (fun c37 => ?_) (fun c37 => ?_)
          · skip
            rw [nI_leI (by omega) (by omega)] at c37
            refine r_ldc wc_X6_97 dX6_round_105 ?_
            refine r_iret2 dX6_round_107 rfl ⟨Nat.zero_le _, Nat.zero_le _⟩ ?_
            obtain rfl : k = 101 := by omega
            refine ⟨?_, hI.1, hI.2.2.1⟩
            unfold g_round
            rw [if_pos c9, if_pos c22, hI.2.2.2.2]
          · skip
            rw [nI_leI (by omega) (by omega)] at c37
            obtain ⟨t1, t2, t3, t4⟩ := s_hours_k hW hT hH hY k
            obtain ⟨u1, u2, u3, u4⟩ := s_hours_k hW hT hH hY (k + 1)
            obtain ⟨v1, v2, v3, -⟩ := t1.1
            obtain ⟨w1, w2, w3, -⟩ := u1.1
            refine r_aload_n dX6_round_40 rfl ?_
            refine r_getR (ci := 6) (k := 21) wf_X6_40 dX6_round_41 z_219 k_219 (by decide) (by decide) (fun _ _ => rfl) f_219_21 ?_
            refine r_iload_n dX6_round_44 rfl ?_
            refine r_aload_n dX6_round_45 rfl ?_
            refine r_callVL (As := []) (o := 219) (c_X6_soNow B Dk Ek (s_hours wy k r) t1 (999 + k) t3 (by omega) hI.2.1) hv_X6_soNow wm_X6_231 dX6_round_46 rfl rfl z_219 k_219 (by decide) rfl (Nat.le_of_ble_eq_true rfl) ⟨Nat.le_of_ble_eq_true rfl, Nat.le_of_ble_eq_true rfl, Nat.zero_le _, Nat.zero_le _⟩ ⟨rfl, rfl⟩ (fun z12 D13 E14 hz12 => ?_)
            obtain ⟨hqV, hqD, hqE⟩ := hz12
            obtain rfl : z12 = nG (s_cd (s_hours wy k r) (s_hours wy k r 5)) := hqV
            obtain rfl := hqD.symm
            obtain rfl := hqE.symm
            refine r_last dX6_round_49 z_230 k_230 (vp_in_nI (by omega) (by decide)) (fun E15 hE15 => ?_)
            rw [nI_clamp (by omega)] at hE15
            have hX8 : EX 230 E E15 := by rw [hE15]; exact hI.2.2.1.up
            have hE4 : ∀ j, j ≤ k → E15 230 j = nG (s_cd (s_hours wy j r) (r 5)) := fun j hj => by
              by_cases e : j = k
              · subst e; rw [hE15, s_hours_5]; exact up2_s
              · rw [hE15, up2_n (fun q => e q.2)]; exact hI.2.2.2.1 j (by omega)
            refine r_iconst (nI 0) dX6_round_50 (by decide) ?_
            refine r_istore_n [(3, .int (nI 0)), (2, .int (nI k)), (0, .ref (B + 219)), (1, .int (nI wh))] dX6_round_51 (by decide) rfl ?_
            have L2 : ∀ fu j : Nat, j ≤ k → k - j < fu → (∀ i, i < j → s_same wy r k i = false) → RW yX6_round cX6_round 4 (some .int) rX6_round B (Q2 Z0 (pI (fun v D' E' => v = (if 0 < r 0 then g_round wy r (nI wh) else -1000002) ∧ MX D D' ∧ EX 230 E E'))) Z0 Dk E15 0 0 52 [(3, .int (nI j)), (2, .int (nI k)), (0, .ref (B + 219)), (1, .int (nI wh))] [] := by
              intro fu
              induction fu with
              | zero => intro j hku hfu; omega
              | succ fu ihL2 =>
                intro j hku hfu hJ
                refine r_iload_n dX6_round_52 rfl ?_
                refine r_iload_n dX6_round_53 rfl ?_
                refine r_icmp_ge (tgt := 89) dX6_round_54 (by decide) (fun c54 => ?_) (fun c54 => ?_)
                · skip
                  rw [nI_leI (by omega) (by omega)] at c54
                  refine r_aload_n dX6_round_89 rfl ?_
                  refine r_aload_n dX6_round_90 rfl ?_
                  refine r_getR (ci := 6) (k := 7) wf_X6_25 dX6_round_91 z_219 k_219 (by decide) (by decide) (fun _ _ => rfl) f_219_7 ?_
                  refine r_iconst (nI 0) dX6_round_94 (by decide) ?_
                  refine r_iconst (nI 0) dX6_round_95 (by decide) ?_
                  refine r_callVV (As := [.ref (B + 225), .int (nI 0), .int (nI 0)]) (o := 219) (c_X6_hour B Dk E15 225 (Or.inr rfl) (s_hours wy k r) wy t1 (999 + k) t3 (by omega) hI.2.1 t4 (fun j hj => (hI.1).wy hwy0 j (by rw [s_hours_0] at hj; exact hj))) hv_X6_hour wm_X6_185 dX6_round_96 rfl rfl z_219 k_219 (by decide) rfl (Nat.le_of_ble_eq_true rfl) ⟨Nat.le_of_ble_eq_true rfl, Nat.le_of_ble_eq_true rfl, Nat.zero_le _, Nat.zero_le _⟩ ⟨rfl, rfl⟩ (fun D17 E18 hz16 => ?_)
                  obtain ⟨hF9, hC9, hqE⟩ := hz16
                  obtain rfl := hqE.symm
                  have hX9 : MX D D17 := (hI.1).trans (MX.of hF9)
                  refine r_iinc (nI (k + 1)) [(2, .int (nI (k + 1))), (3, .int (nI j)), (0, .ref (B + 219)), (1, .int (nI wh))] dX6_round_99 rfl (nI_1 _) (by decide) rfl ?_
                  refine r_goto (tgt := 34) dX6_round_102 (by decide) ?_
                  exact r_lv [(2, .int (nI (k + 1))), (0, .ref (B + 219)), (1, .int (nI wh))] (List.forall_mem_cons.mpr ⟨rfl, List.forall_mem_cons.mpr ⟨rfl, List.forall_mem_cons.mpr ⟨rfl, fun _ h => absurd h List.not_mem_nil⟩⟩⟩) (ih (k + 1) D17 E15 (by omega) (by omega) (⟨hX9, hC9, hX8, fun j hj => hE4 j (by omega), s_rd_n hI.2.2.2.2 (fun i hi => hJ i (by omega))⟩))
                · skip
                  rw [nI_leI (by omega) (by omega)] at c54
                  refine r_aload_n dX6_round_57 rfl ?_
                  refine r_getR (ci := 6) (k := 21) wf_X6_40 dX6_round_58 z_219 k_219 (by decide) (by decide) (fun _ _ => rfl) f_219_21 ?_
                  refine r_iload_n dX6_round_61 rfl ?_
                  refine r_lald dX6_round_62 z_230 k_230 (vp_in_nI (by omega) (by decide)) (fun z19 hz19 => ?_)
                  rw [nI_clamp (by omega)] at hz19
                  obtain rfl : z19 = nG (s_cd (s_hours wy j r) (r 5)) := hz19.trans (hE4 j (by omega))
                  refine r_aload_n dX6_round_63 rfl ?_
                  refine r_getR (ci := 6) (k := 21) wf_X6_40 dX6_round_64 z_219 k_219 (by decide) (by decide) (fun _ _ => rfl) f_219_21 ?_
                  refine r_iload_n dX6_round_67 rfl ?_
                  refine r_lald dX6_round_68 z_230 k_230 (vp_in_nI (by omega) (by decide)) (fun z20 hz20 => ?_)
                  rw [nI_clamp (by omega)] at hz20
                  obtain rfl : z20 = nG (s_cd (s_hours wy k r) (r 5)) := hz20.trans (hE4 k (by omega))
                  refine r_lcmp dX6_round_69 (fun z21 hz21 => ?_)
                  subst hz21
                  refine r_if_ne (tgt := 83) dX6_round_70 (by decide) (fun c70 => ?_) (fun c70 => ?_)
                  · skip
                    rw [gc_eq (Nat.lt_trans (cd_b (s_hours_k hW hT hH hY j).1 b7) (by decide)) (Nat.lt_trans (cd_b t1 b7) (by decide))] at c70
                    have hs98 : s_same wy r k j = false := decide_eq_false c70
                    refine r_iinc (nI (j + 1)) [(3, .int (nI (j + 1))), (2, .int (nI k)), (0, .ref (B + 219)), (1, .int (nI wh))] dX6_round_83 rfl (nI_1 _) (by decide) rfl ?_
                    refine r_goto (tgt := 52) dX6_round_86 (by decide) ?_
                    exact r_lv [(3, .int (nI (j + 1))), (2, .int (nI k)), (0, .ref (B + 219)), (1, .int (nI wh))] (List.forall_mem_cons.mpr ⟨rfl, List.forall_mem_cons.mpr ⟨rfl, List.forall_mem_cons.mpr ⟨rfl, List.forall_mem_cons.mpr ⟨rfl, fun _ h => absurd h List.not_mem_nil⟩⟩⟩⟩) (ihL2 (j + 1) (by omega) (by omega) (fun i hi => (Nat.lt_succ_iff_lt_or_eq.mp hi).elim (fun h => hJ i h) (fun h => h ▸ hs98)))
                  · skip
                    rw [gc_eq (Nat.lt_trans (cd_b (s_hours_k hW hT hH hY j).1 b7) (by decide)) (Nat.lt_trans (cd_b t1 b7) (by decide))] at c70
                    have hs98 : s_same wy r k j = true := decide_eq_true c70
                    refine r_iload_n dX6_round_73 rfl ?_
                    refine r_if_ne (tgt := 81) dX6_round_74 (by decide) (fun c74 => ?_) (fun c74 => ?_)
                    · skip
                      rw [nI_z (by omega)] at c74
                      refine r_iload_n dX6_round_81 rfl ?_
                      refine r_iret2 dX6_round_82 rfl ⟨Nat.zero_le _, Nat.zero_le _⟩ ?_
                      refine ⟨?_, hI.1, hX8⟩
                      unfold g_round
                      rw [if_pos c9, if_pos c22, s_rd_s hI.2.2.2.2 (show j < k by omega) hs98 hJ 101 (by omega)]
                      first
                        | exact (if_pos ((nI_z (by omega)).mpr c74)).symm
                        | exact (if_neg (fun q => c74 ((nI_z (by omega)).mp q))).symm
                    · skip
                      rw [nI_z (by omega)] at c74
                      refine r_iload_n dX6_round_77 rfl ?_
                      refine r_goto (tgt := 82) dX6_round_78 (by decide) ?_
                      refine r_iret2 dX6_round_82 rfl ⟨Nat.zero_le _, Nat.zero_le _⟩ ?_
                      refine ⟨?_, hI.1, hX8⟩
                      unfold g_round
                      rw [if_pos c9, if_pos c22, s_rd_s hI.2.2.2.2 (show j < k by omega) hs98 hJ 101 (by omega)]
                      first
                        | exact (if_pos ((nI_z (by omega)).mpr c74)).symm
                        | exact (if_neg (fun q => c74 ((nI_z (by omega)).mp q))).symm
            exact r_lv [(3, .int (nI 0)), (2, .int (nI k)), (0, .ref (B + 219)), (1, .int (nI wh))] (List.forall_mem_cons.mpr ⟨rfl, List.forall_mem_cons.mpr ⟨rfl, List.forall_mem_cons.mpr ⟨rfl, List.forall_mem_cons.mpr ⟨rfl, fun _ h => absurd h List.not_mem_nil⟩⟩⟩⟩) (L2 (k + 1) 0 (by omega) (by omega) (fun i hi => absurd hi (Nat.not_lt_zero i)))
      exact r_lv [(2, .int (nI 0)), (0, .ref (B + 219)), (1, .int (nI wh))] (List.forall_mem_cons.mpr ⟨rfl, List.forall_mem_cons.mpr ⟨rfl, List.forall_mem_cons.mpr ⟨rfl, fun _ h => absurd h List.not_mem_nil⟩⟩⟩) (L (101 + 1) 0 D10 E (by omega) (by omega) (⟨hXt, hL2, EX.rf, fun j hj => absurd hj (Nat.not_lt_zero j), rfl⟩))
    · skip
      rw [bI_0] at c22
      refine r_ldc wc_X6_74 dX6_round_25 ?_
      refine r_iret2 dX6_round_27 rfl ⟨Nat.zero_le _, Nat.zero_le _⟩ ?_
      refine ⟨?_, MX.th, EX.rf⟩
      unfold g_round
      rw [if_pos c9, if_neg c22]
  · skip
    rw [bI_0] at c9
    refine r_ldc wc_X6_196 dX6_round_12 ?_
    refine r_iret2 dX6_round_14 rfl ⟨Nat.zero_le _, Nat.zero_le _⟩ ?_
    refine ⟨?_, MX.th, EX.rf⟩
    rw [if_neg c9]
