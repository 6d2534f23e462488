set_option maxRecDepth 100000 in
set_option maxHeartbeats 4000000 in
theorem c_X5_isRow (B : Nat) (D : DD) (E : EE) (x : Int32) : MR yX5_isRow cX5_isRow 1 (some .boolean) rX5_isRow B [.int x] Z0 D E (Q2 Z0 (pI (fun v D' E' => v = (bI (nI 0 ≤ x ∧ x ≤ nI 7)) ∧ D' = D ∧ E' = E))) := by
  refine r_enter [(0, .int x)] hs_X5_isRow.1.2.2.2.2 (Nat.le_of_ble_eq_true rfl) rfl ?_
  refine r_iload_n dX5_isRow_0 rfl ?_
  refine r_iconst (nI 0) dX5_isRow_1 (by decide) ?_
  refine r_bipush (nI 7) dX5_isRow_2 (by decide) ?_
  refine r_callSI (As := [.int x, .int (nI 0), .int (nI 7)]) (c_X5_within B D E x (nI 0) (nI 7)) hs_X5_within wm_X5_73 rfl dX5_isRow_4 rfl rfl (Nat.le_of_ble_eq_true rfl) ⟨Nat.le_of_ble_eq_true rfl, Nat.le_of_ble_eq_true rfl, Nat.zero_le _, Nat.zero_le _⟩ ⟨rfl, rfl⟩ (fun z1 D2 E3 hz1 => ?_)
  obtain ⟨hqV, hqD, hqE⟩ := hz1
  obtain rfl : z1 = bI (nI 0 ≤ x ∧ x ≤ nI 7) := hqV
  obtain rfl := hqD.symm
  obtain rfl := hqE.symm
  refine r_zret2 dX5_isRow_7 rfl ⟨Nat.zero_le _, Nat.zero_le _⟩ (narrow_bI _) ?_
  exact ⟨rfl, rfl, rfl⟩
set_option maxRecDepth 100000 in
set_option maxHeartbeats 4000000 in
theorem c_X5_hasLand (B : Nat) (D : DD) (E : EE) (n : Nat) (hn : D 15 0 = nI n) (h6 : n ≤ 6) : MR yX5_hasLand cX5_hasLand 1 (some .boolean) rX5_hasLand B [.ref (B + 0)] Z0 D E (Q2 Z0 (pI (fun v D' E' => v = (bI (0 < n)) ∧ D' = D ∧ E' = E))) := by
  refine r_enter [(0, .ref (B + 0))] hv_X5_hasLand.1.2.2.2.2 (Nat.le_of_ble_eq_true rfl) rfl ?_
  refine r_aload_n dX5_hasLand_0 rfl ?_
  refine r_getR (ci := 5) (k := 2) wf_X5_26 dX5_hasLand_1 z_0 k_0 (by decide) (by decide) (fun _ _ => rfl) f_0_2 ?_
  refine r_getI (ci := 1) (k := 0) wf_X5_244 dX5_hasLand_4 z_15 k_15 (by decide) (by decide) rfl (fun z1 hz1 => ?_)
  obtain rfl : z1 = nI n := hz1.trans hn
  refine r_if_le (tgt := 14) dX5_hasLand_7 (by decide) (fun c7 => ?_) (fun c7 => ?_)
  · skip
    rw [nI_zle (by omega)] at c7
    refine r_iconst (nI 0) dX5_hasLand_14 (by decide) ?_
    refine r_zret2 dX5_hasLand_15 rfl ⟨Nat.zero_le _, Nat.zero_le _⟩ rfl ?_
    first | exact ⟨bI_t (by omega), rfl, rfl⟩ | exact ⟨bI_f (by omega), rfl, rfl⟩
  · skip
    rw [nI_zle (by omega)] at c7
    refine r_iconst (nI 1) dX5_hasLand_10 (by decide) ?_
    refine r_goto (tgt := 15) dX5_hasLand_11 (by decide) ?_
    refine r_zret2 dX5_hasLand_15 rfl ⟨Nat.zero_le _, Nat.zero_le _⟩ rfl ?_
    first | exact ⟨bI_t (by omega), rfl, rfl⟩ | exact ⟨bI_f (by omega), rfl, rfl⟩
set_option maxRecDepth 100000 in
set_option maxHeartbeats 4000000 in
theorem c_X5_isPlace (B : Nat) (D : DD) (E : EE) (x : Int32) (n : Nat) (hn : D 15 0 = nI n) : MR yX5_isPlace cX5_isPlace 2 (some .boolean) rX5_isPlace B [.ref (B + 0), .int x] Z0 D E (Q2 Z0 (pI (fun v D' E' => v = (bI (nI 0 ≤ x ∧ x ≤ nI n - nI 1)) ∧ D' = D ∧ E' = E))) := by
  refine r_enter [(0, .ref (B + 0)), (1, .int x)] hv_X5_isPlace.1.2.2.2.2 (Nat.le_of_ble_eq_true rfl) rfl ?_
  refine r_iload_n dX5_isPlace_0 rfl ?_
  refine r_iconst (nI 0) dX5_isPlace_1 (by decide) ?_
  refine r_aload_n dX5_isPlace_2 rfl ?_
  refine r_getR (ci := 5) (k := 2) wf_X5_26 dX5_isPlace_3 z_0 k_0 (by decide) (by decide) (fun _ _ => rfl) f_0_2 ?_
  refine r_getI (ci := 1) (k := 0) wf_X5_244 dX5_isPlace_6 z_15 k_15 (by decide) (by decide) rfl (fun z1 hz1 => ?_)
  obtain rfl : z1 = nI n := hz1.trans hn
  refine r_iconst (nI 1) dX5_isPlace_9 (by decide) ?_
  refine r_isub dX5_isPlace_10 (fun z2 hz2 => ?_)
  subst hz2
  refine r_callSI (As := [.int x, .int (nI 0), .int ((nI n) - (nI 1))]) (c_X5_within B D E x (nI 0) (nI n - nI 1)) hs_X5_within wm_X5_73 rfl dX5_isPlace_11 rfl rfl (Nat.le_of_ble_eq_true rfl) ⟨Nat.le_of_ble_eq_true rfl, Nat.le_of_ble_eq_true rfl, Nat.zero_le _, Nat.zero_le _⟩ ⟨rfl, rfl⟩ (fun z3 D4 E5 hz3 => ?_)
  obtain ⟨hqV, hqD, hqE⟩ := hz3
  obtain rfl : z3 = bI (nI 0 ≤ x ∧ x ≤ nI n - nI 1) := hqV
  obtain rfl := hqD.symm
  obtain rfl := hqE.symm
  refine r_zret2 dX5_isPlace_14 rfl ⟨Nat.zero_le _, Nat.zero_le _⟩ (narrow_bI _) ?_
  exact ⟨rfl, rfl, rfl⟩
set_option maxRecDepth 100000 in
set_option maxHeartbeats 4000000 in
theorem c_X5_isWisher (B : Nat) (D : DD) (E : EE) (x : Int32) (n : Nat) (hn : D 15 4 = nI n) : MR yX5_isWisher cX5_isWisher 2 (some .boolean) rX5_isWisher B [.ref (B + 0), .int x] Z0 D E (Q2 Z0 (pI (fun v D' E' => v = (bI (nI 0 ≤ x ∧ x ≤ nI n - nI 1)) ∧ D' = D ∧ E' = E))) := by
  refine r_enter [(0, .ref (B + 0)), (1, .int x)] hv_X5_isWisher.1.2.2.2.2 (Nat.le_of_ble_eq_true rfl) rfl ?_
  refine r_iload_n dX5_isWisher_0 rfl ?_
  refine r_iconst (nI 0) dX5_isWisher_1 (by decide) ?_
  refine r_aload_n dX5_isWisher_2 rfl ?_
  refine r_getR (ci := 5) (k := 2) wf_X5_26 dX5_isWisher_3 z_0 k_0 (by decide) (by decide) (fun _ _ => rfl) f_0_2 ?_
  refine r_getI (ci := 1) (k := 4) wf_X5_146 dX5_isWisher_6 z_15 k_15 (by decide) (by decide) rfl (fun z1 hz1 => ?_)
  obtain rfl : z1 = nI n := hz1.trans hn
  refine r_iconst (nI 1) dX5_isWisher_9 (by decide) ?_
  refine r_isub dX5_isWisher_10 (fun z2 hz2 => ?_)
  subst hz2
  refine r_callSI (As := [.int x, .int (nI 0), .int ((nI n) - (nI 1))]) (c_X5_within B D E x (nI 0) (nI n - nI 1)) hs_X5_within wm_X5_73 rfl dX5_isWisher_11 rfl rfl (Nat.le_of_ble_eq_true rfl) ⟨Nat.le_of_ble_eq_true rfl, Nat.le_of_ble_eq_true rfl, Nat.zero_le _, Nat.zero_le _⟩ ⟨rfl, rfl⟩ (fun z3 D4 E5 hz3 => ?_)
  obtain ⟨hqV, hqD, hqE⟩ := hz3
  obtain rfl : z3 = bI (nI 0 ≤ x ∧ x ≤ nI n - nI 1) := hqV
  obtain rfl := hqD.symm
  obtain rfl := hqE.symm
  refine r_zret2 dX5_isWisher_14 rfl ⟨Nat.zero_le _, Nat.zero_le _⟩ (narrow_bI _) ?_
  exact ⟨rfl, rfl, rfl⟩
set_option maxRecDepth 100000 in
set_option maxHeartbeats 4000000 in
theorem c_X5_found (B : Nat) (D : DD) (E : EE) (x : Int32) : MR yX5_found cX5_found 2 (some .int) rX5_found B [.ref (B + 0), .int x] Z0 D E (Q2 Z0 (pI (fun v D' E' => v = (-1000010) - x ∧ D' = upo D 0 (upd (D 0) 15 x) ∧ E' = E))) := by
  refine r_enter [(0, .ref (B + 0)), (1, .int x)] hv_X5_found.1.2.2.2.2 (Nat.le_of_ble_eq_true rfl) rfl ?_
  refine r_aload_n dX5_found_0 rfl ?_
  refine r_iload_n dX5_found_1 rfl ?_
  refine r_putI (ci := 5) (k := 15) wf_X5_315 dX5_found_2 z_0 k_0 (by decide) (by decide) rfl rfl (fun D1 hD1 => ?_)
  obtain rfl : D1 = upo D 0 (upd (D 0) 15 x) := hD1.trans up2_eq
  refine r_ldcw wc_X5_318 dX5_found_5 ?_
  refine r_iload_n dX5_found_8 rfl ?_
  refine r_isub dX5_found_9 (fun z2 hz2 => ?_)
  subst hz2
  refine r_iret2 dX5_found_10 rfl ⟨Nat.zero_le _, Nat.zero_le _⟩ ?_
  exact ⟨rfl, rfl, rfl⟩
set_option maxRecDepth 100000 in
set_option maxHeartbeats 4000000 in
theorem c_X5_fine (B : Nat) (D : DD) (E : EE) (x : Int32) : MR yX5_fine cX5_fine 2 (some .int) rX5_fine B [.ref (B + 0), .int x] Z0 D E (Q2 Z0 (pI (fun v D' E' => v = x ∧ D' = upo D 0 (upd (D 0) 15 (nI 0)) ∧ E' = E))) := by
  refine r_enter [(0, .ref (B + 0)), (1, .int x)] hv_X5_fine.1.2.2.2.2 (Nat.le_of_ble_eq_true rfl) rfl ?_
  refine r_aload_n dX5_fine_0 rfl ?_
  refine r_iconst (nI 0) dX5_fine_1 (by decide) ?_
  refine r_putI (ci := 5) (k := 15) wf_X5_315 dX5_fine_2 z_0 k_0 (by decide) (by decide) rfl rfl (fun D1 hD1 => ?_)
  obtain rfl : D1 = upo D 0 (upd (D 0) 15 (nI 0)) := hD1.trans up2_eq
  refine r_iload_n dX5_fine_5 rfl ?_
  refine r_iret2 dX5_fine_6 rfl ⟨Nat.zero_le _, Nat.zero_le _⟩ ?_
  exact ⟨rfl, rfl, rfl⟩
set_option maxRecDepth 100000 in
set_option maxHeartbeats 4000000 in
theorem c_X5_ahead (B : Nat) (D : DD) (E : EE) (wy : Nat → Nat) (r : Row) (hX : XL D wy r) (x what : Int32) : MR yX5_ahead cX5_ahead 3 (some .int) rX5_ahead B [.ref (B + 0), .int x, .int what] Z0 D E (Q2 Z0 (pI (fun v D' E' => v = (if 0 < r 0 then g_ahead wy r x what else -1000002) ∧ SX D D' ∧ E' = E))) := by
  obtain ⟨hO, hCn, hLl, hYY⟩ := id hX
  obtain ⟨l0, l5, l4, l6, l7, l8, l1⟩ := hO.le
  refine r_enter [(0, .ref (B + 0)), (1, .int x), (2, .int what)] hv_X5_ahead.1.2.2.2.2 (Nat.le_of_ble_eq_true rfl) rfl ?_
  refine r_aload_n dX5_ahead_0 rfl ?_
  refine r_callVI (As := []) (o := 0) (c_X5_hasLand B D E (r 0) hLl.1.1 l0) hv_X5_hasLand wm_X5_156 dX5_ahead_1 rfl rfl z_0 k_0 (by decide) rfl (Nat.le_of_ble_eq_true rfl) ⟨Nat.le_of_ble_eq_true rfl, Nat.le_of_ble_eq_true rfl, Nat.zero_le _, Nat.zero_le _⟩ ⟨rfl, rfl⟩ (fun z1 D2 E3 hz1 => ?_)
  obtain ⟨hqV, hqD, hqE⟩ := hz1
  obtain rfl : z1 = bI (0 < r 0) := hqV
  obtain rfl := hqD.symm
  obtain rfl := hqE.symm
  refine r_if_ne (tgt := 10) dX5_ahead_4 (by decide) (fun c4 => ?_) (fun c4 => ?_)
  · skip
    rw [bI_n0] at c4
    obtain ⟨hW, hT, hH⟩ := hO.p c4
    have hY := hYY hW
    obtain ⟨b1, b2, b3, b4, b5, b6, b7, b8⟩ := hW.1
    refine r_iload_n dX5_ahead_10 rfl ?_
    refine r_iconst (nI 0) dX5_ahead_11 (by decide) ?_
    refine r_bipush (nI 60) dX5_ahead_12 (by decide) ?_
    refine r_callSI (As := [.int x, .int (nI 0), .int (nI 60)]) (c_X5_within B D E x (nI 0) (nI 60)) hs_X5_within wm_X5_73 rfl dX5_ahead_14 rfl rfl (Nat.le_of_ble_eq_true rfl) ⟨Nat.le_of_ble_eq_true rfl, Nat.le_of_ble_eq_true rfl, Nat.zero_le _, Nat.zero_le _⟩ ⟨rfl, rfl⟩ (fun z4 D5 E6 hz4 => ?_)
    obtain ⟨hqV, hqD, hqE⟩ := hz4
    obtain rfl : z4 = bI (nI 0 ≤ x ∧ x ≤ nI 60) := hqV
    obtain rfl := hqD.symm
    obtain rfl := hqE.symm
    refine r_if_eq (tgt := 29) dX5_ahead_17 (by decide) (fun c17 => ?_) (fun c17 => ?_)
    · skip
      rw [bI_0] at c17
      refine r_ldc wc_X5_77 dX5_ahead_29 ?_
      refine r_iret2 dX5_ahead_31 rfl ⟨Nat.zero_le _, Nat.zero_le _⟩ ?_
      refine ⟨?_, SX.rf, rfl⟩
      unfold g_ahead
      rw [if_pos c4]
      first | rw [if_neg c17] | rw [if_pos c17, if_neg c26]
    · skip
      rw [bI_n0] at c17
      obtain ⟨n, hn1, hn2, rfl⟩ := rg (by decide) (by decide) c17
      refine r_iload_n dX5_ahead_20 rfl ?_
      refine r_iconst (nI 0) dX5_ahead_21 (by decide) ?_
      refine r_iconst (nI 1) dX5_ahead_22 (by decide) ?_
      refine r_callSI (As := [.int what, .int (nI 0), .int (nI 1)]) (c_X5_within B D E what (nI 0) (nI 1)) hs_X5_within wm_X5_73 rfl dX5_ahead_23 rfl rfl (Nat.le_of_ble_eq_true rfl) ⟨Nat.le_of_ble_eq_true rfl, Nat.le_of_ble_eq_true rfl, Nat.zero_le _, Nat.zero_le _⟩ ⟨rfl, rfl⟩ (fun z7 D8 E9 hz7 => ?_)
      obtain ⟨hqV, hqD, hqE⟩ := hz7
      obtain rfl : z7 = bI (nI 0 ≤ what ∧ what ≤ nI 1) := hqV
      obtain rfl := hqD.symm
      obtain rfl := hqE.symm
      refine r_if_ne (tgt := 32) dX5_ahead_26 (by decide) (fun c26 => ?_) (fun c26 => ?_)
      · skip
        rw [bI_n0] at c26
        obtain ⟨wh, hw1, hw2, rfl⟩ := rg (by decide) (by decide) c26
        refine r_aload_n dX5_ahead_32 rfl ?_
        refine r_getR (ci := 5) (k := 5) wf_X5_44 dX5_ahead_33 z_0 k_0 (by decide) (by decide) (fun _ _ => rfl) f_0_5 ?_
        refine r_aload_n dX5_ahead_36 rfl ?_
        refine r_getR (ci := 5) (k := 3) wf_X5_33 dX5_ahead_37 z_0 k_0 (by decide) (by decide) (fun _ _ => rfl) f_0_3 ?_
        refine r_callVV (As := [.ref (B + 21)]) (o := 173) (c_X0_take B D E 173 21 isC_p isC_n dj_pn) hv_X0_take wm_X5_140 dX5_ahead_40 rfl rfl z_173 k_173 (by decide) rfl (Nat.le_of_ble_eq_true rfl) ⟨Nat.le_of_ble_eq_true rfl, Nat.le_of_ble_eq_true rfl, Nat.zero_le _, Nat.zero_le _⟩ ⟨rfl, rfl⟩ (fun D11 E12 hz10 => ?_)
        obtain ⟨hqD, hqE⟩ := hz10
        obtain rfl := hqE.symm
        have hP : XP D D11 r := by rw [hqD]; exact XP.take l5 hCn
        refine r_aload_n dX5_ahead_43 rfl ?_
        refine r_getR (ci := 5) (k := 5) wf_X5_44 dX5_ahead_44 z_0 k_0 (by decide) (by decide) (fun _ _ => rfl) f_0_5 ?_
        refine r_aload_n dX5_ahead_47 rfl ?_
        refine r_getR (ci := 5) (k := 2) wf_X5_26 dX5_ahead_48 z_0 k_0 (by decide) (by decide) (fun _ _ => rfl) f_0_2 ?_
        refine r_iload_n dX5_ahead_51 rfl ?_
        refine r_callVV (As := [.ref (B + 15), .int (nI n)]) (o := 173) (c_X0_passMany B D11 E 173 15 isC_p isL_l (dj15 (Or.inr rfl)) r wy hW 999 hH n (by omega) (by omega) hP.1 (hP.2.LA hLl) hY hT) hv_X0_passMany wm_X5_225 dX5_ahead_52 rfl rfl z_173 k_173 (by decide) rfl (Nat.le_of_ble_eq_true rfl) ⟨Nat.le_of_ble_eq_true rfl, Nat.le_of_ble_eq_true rfl, Nat.zero_le _, Nat.zero_le _⟩ ⟨rfl, rfl⟩ (fun D14 E15 hz13 => ?_)
        obtain ⟨hF9, hC9, hqE⟩ := hz13
        obtain rfl := hqE.symm
        have hN : XP D D14 (s_hours wy n r) := hP.step hF9 hC9
        refine r_iload_n dX5_ahead_55 rfl ?_
        refine r_if_ne (tgt := 69) dX5_ahead_56 (by decide) (fun c56 => ?_) (fun c56 => ?_)
        · skip
          rw [nI_z (by omega)] at c56
          skip
          refine r_aload_n dX5_ahead_69 rfl ?_
          refine r_getR (ci := 5) (k := 5) wf_X5_44 dX5_ahead_70 z_0 k_0 (by decide) (by decide) (fun _ _ => rfl) f_0_5 ?_
          refine r_getI (ci := 0) (k := 2) wf_X5_229 dX5_ahead_73 z_173 k_173 (by decide) (by decide) rfl (fun z16 hz16 => ?_)
          obtain rfl : z16 = nI (s_hours wy n r 7) := hz16.trans hN.1.1.2.2.1
          refine r_iret2 dX5_ahead_76 rfl ⟨Nat.zero_le _, Nat.zero_le _⟩ ?_
          refine ⟨?_, hN.2, rfl⟩
          unfold g_ahead
          rw [if_pos c4, if_pos c17, if_pos c26, nI_clamp (by omega)]
          first
            | rw [if_pos ((nI_z (by omega)).mpr c56)]
            | rw [if_neg (fun q => c56 ((nI_z (by omega)).mp q))]
        · skip
          rw [nI_z (by omega)] at c56
          refine r_aload_n dX5_ahead_59 rfl ?_
          refine r_getR (ci := 5) (k := 5) wf_X5_44 dX5_ahead_60 z_0 k_0 (by decide) (by decide) (fun _ _ => rfl) f_0_5 ?_
          refine r_getI (ci := 0) (k := 1) wf_X5_169 dX5_ahead_63 z_173 k_173 (by decide) (by decide) rfl (fun z17 hz17 => ?_)
          obtain rfl : z17 = nI (s_hours wy n r 1) := hz17.trans hN.1.1.2.1
          refine r_goto (tgt := 76) dX5_ahead_66 (by decide) ?_
          refine r_iret2 dX5_ahead_76 rfl ⟨Nat.zero_le _, Nat.zero_le _⟩ ?_
          refine ⟨?_, hN.2, rfl⟩
          unfold g_ahead
          rw [if_pos c4, if_pos c17, if_pos c26, nI_clamp (by omega)]
          first
            | rw [if_pos ((nI_z (by omega)).mpr c56)]
            | rw [if_neg (fun q => c56 ((nI_z (by omega)).mp q))]
      · skip
        rw [bI_0] at c26
        refine r_ldc wc_X5_77 dX5_ahead_29 ?_
        refine r_iret2 dX5_ahead_31 rfl ⟨Nat.zero_le _, Nat.zero_le _⟩ ?_
        refine ⟨?_, SX.rf, rfl⟩
        unfold g_ahead
        rw [if_pos c4]
        first | rw [if_neg c17] | rw [if_pos c17, if_neg c26]
  · skip
    rw [bI_0] at c4
    refine r_ldc wc_X5_152 dX5_ahead_7 ?_
    refine r_iret2 dX5_ahead_9 rfl ⟨Nat.zero_le _, Nat.zero_le _⟩ ?_
    refine ⟨?_, SX.rf, rfl⟩
    rw [if_neg c4]
set_option maxRecDepth 100000 in
set_option maxHeartbeats 4000000 in
theorem c_X5_comes (B : Nat) (D : DD) (E : EE) (wy : Nat → Nat) (r : Row) (hX : XL D wy r) (pl x : Int32) : MR yX5_comes cX5_comes 4 (some .int) rX5_comes B [.ref (B + 0), .int pl, .int x] Z0 D E (Q2 Z0 (pI (fun v D' E' => v = (if 0 < r 0 then g_comes wy r pl x else -1000002) ∧ SX D D' ∧ E' = E))) := by
  obtain ⟨hO, hCn, hLl, hYY⟩ := id hX
  obtain ⟨l0, l5, l4, l6, l7, l8, l1⟩ := hO.le
  refine r_enter [(0, .ref (B + 0)), (1, .int pl), (2, .int x)] hv_X5_comes.1.2.2.2.2 (Nat.le_of_ble_eq_true rfl) rfl ?_
  refine r_aload_n dX5_comes_0 rfl ?_
  refine r_callVI (As := []) (o := 0) (c_X5_hasLand B D E (r 0) hLl.1.1 l0) hv_X5_hasLand wm_X5_156 dX5_comes_1 rfl rfl z_0 k_0 (by decide) rfl (Nat.le_of_ble_eq_true rfl) ⟨Nat.le_of_ble_eq_true rfl, Nat.le_of_ble_eq_true rfl, Nat.zero_le _, Nat.zero_le _⟩ ⟨rfl, rfl⟩ (fun z1 D2 E3 hz1 => ?_)
  obtain ⟨hqV, hqD, hqE⟩ := hz1
  obtain rfl : z1 = bI (0 < r 0) := hqV
  obtain rfl := hqD.symm
  obtain rfl := hqE.symm
  refine r_if_ne (tgt := 10) dX5_comes_4 (by decide) (fun c4 => ?_) (fun c4 => ?_)
  · skip
    rw [bI_n0] at c4
    obtain ⟨hW, hT, hH⟩ := hO.p c4
    have hY := hYY hW
    obtain ⟨b1, b2, b3, b4, b5, b6, b7, b8⟩ := hW.1
    refine r_aload_n dX5_comes_10 rfl ?_
    refine r_iload_n dX5_comes_11 rfl ?_
    refine r_callVI (As := [.int pl]) (o := 0) (c_X5_isPlace B D E pl (r 0) hLl.1.1) hv_X5_isPlace wm_X5_175 dX5_comes_12 rfl rfl z_0 k_0 (by decide) rfl (Nat.le_of_ble_eq_true rfl) ⟨Nat.le_of_ble_eq_true rfl, Nat.le_of_ble_eq_true rfl, Nat.zero_le _, Nat.zero_le _⟩ ⟨rfl, rfl⟩ (fun z4 D5 E6 hz4 => ?_)
    obtain ⟨hqV, hqD, hqE⟩ := hz4
    obtain rfl : z4 = bI (nI 0 ≤ pl ∧ pl ≤ nI (r 0) - nI 1) := hqV
    obtain rfl := hqD.symm
    obtain rfl := hqE.symm
    refine r_if_eq (tgt := 28) dX5_comes_15 (by decide) (fun c15 => ?_) (fun c15 => ?_)
    · skip
      rw [bI_0] at c15
      refine r_ldc wc_X5_77 dX5_comes_28 ?_
      refine r_iret2 dX5_comes_30 rfl ⟨Nat.zero_le _, Nat.zero_le _⟩ ?_
      refine ⟨?_, SX.rf, rfl⟩
      unfold g_comes
      rw [if_pos c4]
      first | rw [if_neg c15] | rw [if_pos c15, if_neg c25]
    · skip
      rw [bI_n0] at c15
      refine r_iload_n dX5_comes_18 rfl ?_
      refine r_iconst (nI 1) dX5_comes_19 (by decide) ?_
      refine r_bipush (nI 60) dX5_comes_20 (by decide) ?_
      refine r_callSI (As := [.int x, .int (nI 1), .int (nI 60)]) (c_X5_within B D E x (nI 1) (nI 60)) hs_X5_within wm_X5_73 rfl dX5_comes_22 rfl rfl (Nat.le_of_ble_eq_true rfl) ⟨Nat.le_of_ble_eq_true rfl, Nat.le_of_ble_eq_true rfl, Nat.zero_le _, Nat.zero_le _⟩ ⟨rfl, rfl⟩ (fun z7 D8 E9 hz7 => ?_)
      obtain ⟨hqV, hqD, hqE⟩ := hz7
      obtain rfl : z7 = bI (nI 1 ≤ x ∧ x ≤ nI 60) := hqV
      obtain rfl := hqD.symm
      obtain rfl := hqE.symm
      refine r_if_ne (tgt := 31) dX5_comes_25 (by decide) (fun c25 => ?_) (fun c25 => ?_)
      · skip
        rw [bI_n0] at c25
        obtain ⟨n, hn1, hn2, rfl⟩ := rg (by decide) (by decide) c25
        refine r_aload_n dX5_comes_31 rfl ?_
        refine r_getR (ci := 5) (k := 5) wf_X5_44 dX5_comes_32 z_0 k_0 (by decide) (by decide) (fun _ _ => rfl) f_0_5 ?_
        refine r_aload_n dX5_comes_35 rfl ?_
        refine r_getR (ci := 5) (k := 3) wf_X5_33 dX5_comes_36 z_0 k_0 (by decide) (by decide) (fun _ _ => rfl) f_0_3 ?_
        refine r_callVV (As := [.ref (B + 21)]) (o := 173) (c_X0_take B D E 173 21 isC_p isC_n dj_pn) hv_X0_take wm_X5_140 dX5_comes_39 rfl rfl z_173 k_173 (by decide) rfl (Nat.le_of_ble_eq_true rfl) ⟨Nat.le_of_ble_eq_true rfl, Nat.le_of_ble_eq_true rfl, Nat.zero_le _, Nat.zero_le _⟩ ⟨rfl, rfl⟩ (fun D11 E12 hz10 => ?_)
        obtain ⟨hqD, hqE⟩ := hz10
        obtain rfl := hqE.symm
        have hP : XP D D11 r := by rw [hqD]; exact XP.take l5 hCn
        refine r_iconst (nI 0) dX5_comes_42 (by decide) ?_
        refine r_istore_n [(3, .int (nI 0)), (0, .ref (B + 0)), (1, .int pl), (2, .int (nI n))] dX5_comes_43 (by decide) rfl ?_
        have L : ∀ (fu k : Nat) (Dk : DD), k ≤ n → n - k < fu → (XP D Dk (s_hours wy k r) ∧ ∀ j, j < k → (nI (s_hours wy j r 1) == pl) = false) → RW yX5_comes cX5_comes 4 (some .int) rX5_comes B (Q2 Z0 (pI (fun v D' E' => v = (if 0 < r 0 then g_comes wy r pl (nI n) else -1000002) ∧ SX D D' ∧ E' = E))) Z0 Dk E 0 0 44 [(3, .int (nI k)), (0, .ref (B + 0)), (1, .int pl), (2, .int (nI n))] [] := by
          intro fu
          induction fu with
          | zero => intro k Dk hku hfu _; omega
          | succ fu ih =>
            intro k Dk hku hfu hI
            refine r_iload_n dX5_comes_44 rfl ?_
            refine r_iload_n dX5_comes_45 rfl ?_
            refine r_icmp_ge (tgt := 79) dX5_comes_46 (by decide) (fun c46 => ?_) (fun c46 => ?_)
            · skip
              rw [nI_leI (by omega) (by omega)] at c46
              have hk := s_hours_k hW hT hH hY k
              obtain ⟨kb1, kb2, kb3, kb4, kb5, kb6, kb7, kb8⟩ := hk.1.1
              refine r_aload_n dX5_comes_79 rfl ?_
              refine r_getR (ci := 5) (k := 5) wf_X5_44 dX5_comes_80 z_0 k_0 (by decide) (by decide) (fun _ _ => rfl) f_0_5 ?_
              refine r_getI (ci := 0) (k := 1) wf_X5_169 dX5_comes_83 z_173 k_173 (by decide) (by decide) rfl (fun z13 hz13 => ?_)
              obtain rfl : z13 = nI (s_hours wy k r 1) := hz13.trans hI.1.1.1.2.1
              refine r_iload_n dX5_comes_86 rfl ?_
              refine r_icmp_ne (tgt := 94) dX5_comes_87 (by decide) (fun c87 => ?_) (fun c87 => ?_)
              · skip
                refine r_ldc wc_X5_232 dX5_comes_94 ?_
                refine r_iret2 dX5_comes_96 rfl ⟨Nat.zero_le _, Nat.zero_le _⟩ ?_
                have hkn : k = n := by omega
                refine ⟨?_, hI.1.2, rfl⟩
                unfold g_comes
                rw [if_pos c4, if_pos c15, if_pos c25, nI_clamp (by omega)]
                first
                  | (rw [s_find_s (P := fun k => nI (s_hours wy k r 1) == pl) (k := k) (beq_iff_eq.mpr c87) hI.2 _ (by omega), hkn]; rfl)
                  | (rw [s_find_n (P := fun k => nI (s_hours wy k r 1) == pl) _ (fun j hj => (Nat.lt_succ_iff_lt_or_eq.mp hj).elim (fun h => hI.2 j (by omega)) (fun h => by rw [h, ← hkn]; exact beq_eq_false_iff_ne.mpr c87))]; rfl)
              · skip
                refine r_iload_n dX5_comes_90 rfl ?_
                refine r_goto (tgt := 96) dX5_comes_91 (by decide) ?_
                refine r_iret2 dX5_comes_96 rfl ⟨Nat.zero_le _, Nat.zero_le _⟩ ?_
                have hkn : k = n := by omega
                refine ⟨?_, hI.1.2, rfl⟩
                unfold g_comes
                rw [if_pos c4, if_pos c15, if_pos c25, nI_clamp (by omega)]
                first
                  | (rw [s_find_s (P := fun k => nI (s_hours wy k r 1) == pl) (k := k) (beq_iff_eq.mpr c87) hI.2 _ (by omega), hkn]; rfl)
                  | (rw [s_find_n (P := fun k => nI (s_hours wy k r 1) == pl) _ (fun j hj => (Nat.lt_succ_iff_lt_or_eq.mp hj).elim (fun h => hI.2 j (by omega)) (fun h => by rw [h, ← hkn]; exact beq_eq_false_iff_ne.mpr c87))]; rfl)
            · skip
              rw [nI_leI (by omega) (by omega)] at c46
              have hk := s_hours_k hW hT hH hY k
              obtain ⟨kb1, kb2, kb3, kb4, kb5, kb6, kb7, kb8⟩ := hk.1.1
              refine r_aload_n dX5_comes_49 rfl ?_
              refine r_getR (ci := 5) (k := 5) wf_X5_44 dX5_comes_50 z_0 k_0 (by decide) (by decide) (fun _ _ => rfl) f_0_5 ?_
              refine r_getI (ci := 0) (k := 1) wf_X5_169 dX5_comes_53 z_173 k_173 (by decide) (by decide) rfl (fun z14 hz14 => ?_)
              obtain rfl : z14 = nI (s_hours wy k r 1) := hz14.trans hI.1.1.1.2.1
              refine r_iload_n dX5_comes_56 rfl ?_
              refine r_icmp_ne (tgt := 62) dX5_comes_57 (by decide) (fun c57 => ?_) (fun c57 => ?_)
              · skip
                refine r_aload_n dX5_comes_62 rfl ?_
                refine r_getR (ci := 5) (k := 5) wf_X5_44 dX5_comes_63 z_0 k_0 (by decide) (by decide) (fun _ _ => rfl) f_0_5 ?_
                refine r_aload_n dX5_comes_66 rfl ?_
                refine r_getR (ci := 5) (k := 2) wf_X5_26 dX5_comes_67 z_0 k_0 (by decide) (by decide) (fun _ _ => rfl) f_0_2 ?_
                refine r_callVV (As := [.ref (B + 15)]) (o := 173) (c_X0_pass B Dk E 173 15 isC_p isL_l (dj15 (Or.inr rfl)) (s_hours wy k r) wy hk.1 (999 + k) hk.2.2.1 (by omega) hI.1.1 (hI.1.2.LA (LA_hours hLl k)) hk.2.2.2 hk.2.1) hv_X0_pass wm_X5_166 dX5_comes_70 rfl rfl z_173 k_173 (by decide) rfl (Nat.le_of_ble_eq_true rfl) ⟨Nat.le_of_ble_eq_true rfl, Nat.le_of_ble_eq_true rfl, Nat.zero_le _, Nat.zero_le _⟩ ⟨rfl, rfl⟩ (fun D16 E17 hz15 => ?_)
                obtain ⟨hF9, hC9, hqE⟩ := hz15
                obtain rfl := hqE.symm
                have hP2 : XP D D16 (s_hours wy (k + 1) r) := hI.1.step hF9 hC9
                refine r_iinc (nI (k + 1)) [(3, .int (nI (k + 1))), (0, .ref (B + 0)), (1, .int pl), (2, .int (nI n))] dX5_comes_73 rfl (nI_1 _) (by decide) rfl ?_
                refine r_goto (tgt := 44) dX5_comes_76 (by decide) ?_
                exact r_lv [(3, .int (nI (k + 1))), (0, .ref (B + 0)), (1, .int pl), (2, .int (nI n))] (List.forall_mem_cons.mpr ⟨rfl, List.forall_mem_cons.mpr ⟨rfl, List.forall_mem_cons.mpr ⟨rfl, List.forall_mem_cons.mpr ⟨rfl, fun _ h => absurd h List.not_mem_nil⟩⟩⟩⟩) (ih (k + 1) D16 (by omega) (by omega) (⟨hP2, fun j hj => (Nat.lt_succ_iff_lt_or_eq.mp hj).elim (fun h => hI.2 j h) (fun h => h ▸ beq_eq_false_iff_ne.mpr c57)⟩))
              · skip
                skip
                refine r_iload_n dX5_comes_60 rfl ?_
                refine r_iret2 dX5_comes_61 rfl ⟨Nat.zero_le _, Nat.zero_le _⟩ ?_
                refine ⟨?_, hI.1.2, rfl⟩
                unfold g_comes
                rw [if_pos c4, if_pos c15, if_pos c25, nI_clamp (by omega), s_find_s (P := fun k => nI (s_hours wy k r 1) == pl) (k := k) (beq_iff_eq.mpr c57) hI.2 _ (by omega)]
                rfl
        exact r_lv [(3, .int (nI 0)), (0, .ref (B + 0)), (1, .int pl), (2, .int (nI n))] (List.forall_mem_cons.mpr ⟨rfl, List.forall_mem_cons.mpr ⟨rfl, List.forall_mem_cons.mpr ⟨rfl, List.forall_mem_cons.mpr ⟨rfl, fun _ h => absurd h List.not_mem_nil⟩⟩⟩⟩) (L (n + 1) 0 D11 (by omega) (by omega) (⟨hP, fun j hj => absurd hj (Nat.not_lt_zero j)⟩))
      · skip
        rw [bI_0] at c25
        refine r_ldc wc_X5_77 dX5_comes_28 ?_
        refine r_iret2 dX5_comes_30 rfl ⟨Nat.zero_le _, Nat.zero_le _⟩ ?_
        refine ⟨?_, SX.rf, rfl⟩
        unfold g_comes
        rw [if_pos c4]
        first | rw [if_neg c15] | rw [if_pos c15, if_neg c25]
  · skip
    rw [bI_0] at c4
    refine r_ldc wc_X5_152 dX5_comes_7 ?_
    refine r_iret2 dX5_comes_9 rfl ⟨Nat.zero_le _, Nat.zero_le _⟩ ?_
    refine ⟨?_, SX.rf, rfl⟩
    rw [if_neg c4]
set_option maxRecDepth 100000 in
set_option maxHeartbeats 4000000 in
theorem c_X5_visits (B : Nat) (D : DD) (E : EE) (wy : Nat → Nat) (r : Row) (hX : XL D wy r) (x : Int32) : MR yX5_visits cX5_visits 4 (some .int) rX5_visits B [.ref (B + 0), .int x] Z0 D E (Q2 Z0 (pI (fun v D' E' => v = (if 0 < r 0 then g_visits wy r x else -1000002) ∧ SX D D' ∧ E' = E))) := by
  obtain ⟨hO, hCn, hLl, hYY⟩ := id hX
  obtain ⟨l0, l5, l4, l6, l7, l8, l1⟩ := hO.le
  refine r_enter [(0, .ref (B + 0)), (1, .int x)] hv_X5_visits.1.2.2.2.2 (Nat.le_of_ble_eq_true rfl) rfl ?_
  refine r_aload_n dX5_visits_0 rfl ?_
  refine r_callVI (As := []) (o := 0) (c_X5_hasLand B D E (r 0) hLl.1.1 l0) hv_X5_hasLand wm_X5_156 dX5_visits_1 rfl rfl z_0 k_0 (by decide) rfl (Nat.le_of_ble_eq_true rfl) ⟨Nat.le_of_ble_eq_true rfl, Nat.le_of_ble_eq_true rfl, Nat.zero_le _, Nat.zero_le _⟩ ⟨rfl, rfl⟩ (fun z1 D2 E3 hz1 => ?_)
  obtain ⟨hqV, hqD, hqE⟩ := hz1
  obtain rfl : z1 = bI (0 < r 0) := hqV
  obtain rfl := hqD.symm
  obtain rfl := hqE.symm
  refine r_if_ne (tgt := 10) dX5_visits_4 (by decide) (fun c4 => ?_) (fun c4 => ?_)
  · skip
    rw [bI_n0] at c4
    obtain ⟨hW, hT, hH⟩ := hO.p c4
    have hY := hYY hW
    obtain ⟨b1, b2, b3, b4, b5, b6, b7, b8⟩ := hW.1
    refine r_iload_n dX5_visits_10 rfl ?_
    refine r_iconst (nI 0) dX5_visits_11 (by decide) ?_
    refine r_bipush (nI 60) dX5_visits_12 (by decide) ?_
    refine r_callSI (As := [.int x, .int (nI 0), .int (nI 60)]) (c_X5_within B D E x (nI 0) (nI 60)) hs_X5_within wm_X5_73 rfl dX5_visits_14 rfl rfl (Nat.le_of_ble_eq_true rfl) ⟨Nat.le_of_ble_eq_true rfl, Nat.le_of_ble_eq_true rfl, Nat.zero_le _, Nat.zero_le _⟩ ⟨rfl, rfl⟩ (fun z4 D5 E6 hz4 => ?_)
    obtain ⟨hqV, hqD, hqE⟩ := hz4
    obtain rfl : z4 = bI (nI 0 ≤ x ∧ x ≤ nI 60) := hqV
    obtain rfl := hqD.symm
    obtain rfl := hqE.symm
    refine r_if_ne (tgt := 23) dX5_visits_17 (by decide) (fun c17 => ?_) (fun c17 => ?_)
    · skip
      rw [bI_n0] at c17
      obtain ⟨n, hn1, hn2, rfl⟩ := rg (by decide) (by decide) c17
      refine r_aload_n dX5_visits_23 rfl ?_
      refine r_getR (ci := 5) (k := 5) wf_X5_44 dX5_visits_24 z_0 k_0 (by decide) (by decide) (fun _ _ => rfl) f_0_5 ?_
      refine r_aload_n dX5_visits_27 rfl ?_
      refine r_getR (ci := 5) (k := 3) wf_X5_33 dX5_visits_28 z_0 k_0 (by decide) (by decide) (fun _ _ => rfl) f_0_3 ?_
      refine r_callVV (As := [.ref (B + 21)]) (o := 173) (c_X0_take B D E 173 21 isC_p isC_n dj_pn) hv_X0_take wm_X5_140 dX5_visits_31 rfl rfl z_173 k_173 (by decide) rfl (Nat.le_of_ble_eq_true rfl) ⟨Nat.le_of_ble_eq_true rfl, Nat.le_of_ble_eq_true rfl, Nat.zero_le _, Nat.zero_le _⟩ ⟨rfl, rfl⟩ (fun D8 E9 hz7 => ?_)
      obtain ⟨hqD, hqE⟩ := hz7
      obtain rfl := hqE.symm
      have hP : XP D D8 r := by rw [hqD]; exact XP.take l5 hCn
      refine r_iconst (nI 1) dX5_visits_34 (by decide) ?_
      refine r_aload_n dX5_visits_35 rfl ?_
      refine r_getR (ci := 5) (k := 5) wf_X5_44 dX5_visits_36 z_0 k_0 (by decide) (by decide) (fun _ _ => rfl) f_0_5 ?_
      refine r_getI (ci := 0) (k := 1) wf_X5_169 dX5_visits_39 z_173 k_173 (by decide) (by decide) rfl (fun z10 hz10 => ?_)
      obtain rfl : z10 = nI (r 1) := hz10.trans hP.1.1.2.1
      refine r_ishl dX5_visits_42 (fun z11 hz11 => ?_)
      obtain rfl : z11 = nI (s_vis wy r 0) := hz11.trans (shl_1 (by omega))
      refine r_istore_n [(2, .int (nI (s_vis wy r 0))), (0, .ref (B + 0)), (1, .int (nI n))] dX5_visits_43 (by decide) rfl ?_
      refine r_iconst (nI 0) dX5_visits_44 (by decide) ?_
      refine r_istore_n [(3, .int (nI 0)), (2, .int (nI (s_vis wy r 0))), (0, .ref (B + 0)), (1, .int (nI n))] dX5_visits_45 (by decide) rfl ?_
      have L : ∀ (fu k : Nat) (Dk : DD), k ≤ n → n - k < fu → (XP D Dk (s_hours wy k r)) → RW yX5_visits cX5_visits 4 (some .int) rX5_visits B (Q2 Z0 (pI (fun v D' E' => v = (if 0 < r 0 then g_visits wy r (nI n) else -1000002) ∧ SX D D' ∧ E' = E))) Z0 Dk E 0 0 46 [(3, .int (nI k)), (2, .int (nI (s_vis wy r k))), (0, .ref (B + 0)), (1, .int (nI n))] [] := by
        intro fu
        induction fu with
        | zero => intro k Dk hku hfu _; omega
        | succ fu ih =>
          intro k Dk hku hfu hI
          refine r_iload_n dX5_visits_46 rfl ?_
          refine r_iload_n dX5_visits_47 rfl ?_
          refine r_icmp_ge (tgt := 80) dX5_visits_48 (by decide) (fun c48 => ?_) (fun c48 => ?_)
          · skip
            rw [nI_leI (by omega) (by omega)] at c48
            have hk := s_hours_k hW hT hH hY k
            obtain ⟨kb1, kb2, kb3, kb4, kb5, kb6, kb7, kb8⟩ := hk.1.1
            refine r_iload_n dX5_visits_80 rfl ?_
            refine r_iret2 dX5_visits_81 rfl ⟨Nat.zero_le _, Nat.zero_le _⟩ ?_
            have hkn : k = n := by omega
            refine ⟨?_, hI.2, rfl⟩
            unfold g_visits
            rw [if_pos c4, if_pos c17, nI_clamp (by omega), hkn]
          · skip
            rw [nI_leI (by omega) (by omega)] at c48
            have hk := s_hours_k hW hT hH hY k
            obtain ⟨kb1, kb2, kb3, kb4, kb5, kb6, kb7, kb8⟩ := hk.1.1
            have hk2 := (s_hours_k hW hT hH hY (k + 1)).1.1
            refine r_aload_n dX5_visits_51 rfl ?_
            refine r_getR (ci := 5) (k := 5) wf_X5_44 dX5_visits_52 z_0 k_0 (by decide) (by decide) (fun _ _ => rfl) f_0_5 ?_
            refine r_aload_n dX5_visits_55 rfl ?_
            refine r_getR (ci := 5) (k := 2) wf_X5_26 dX5_visits_56 z_0 k_0 (by decide) (by decide) (fun _ _ => rfl) f_0_2 ?_
            refine r_callVV (As := [.ref (B + 15)]) (o := 173) (c_X0_pass B Dk E 173 15 isC_p isL_l (dj15 (Or.inr rfl)) (s_hours wy k r) wy hk.1 (999 + k) hk.2.2.1 (by omega) hI.1 (hI.2.LA (LA_hours hLl k)) hk.2.2.2 hk.2.1) hv_X0_pass wm_X5_166 dX5_visits_59 rfl rfl z_173 k_173 (by decide) rfl (Nat.le_of_ble_eq_true rfl) ⟨Nat.le_of_ble_eq_true rfl, Nat.le_of_ble_eq_true rfl, Nat.zero_le _, Nat.zero_le _⟩ ⟨rfl, rfl⟩ (fun D13 E14 hz12 => ?_)
            obtain ⟨hF9, hC9, hqE⟩ := hz12
            obtain rfl := hqE.symm
            have hP2 : XP D D13 (s_hours wy (k + 1) r) := hI.step hF9 hC9
            refine r_iload_n dX5_visits_62 rfl ?_
            refine r_iconst (nI 1) dX5_visits_63 (by decide) ?_
            refine r_aload_n dX5_visits_64 rfl ?_
            refine r_getR (ci := 5) (k := 5) wf_X5_44 dX5_visits_65 z_0 k_0 (by decide) (by decide) (fun _ _ => rfl) f_0_5 ?_
            refine r_getI (ci := 0) (k := 1) wf_X5_169 dX5_visits_68 z_173 k_173 (by decide) (by decide) rfl (fun z15 hz15 => ?_)
            obtain rfl : z15 = nI (s_hours wy (k + 1) r 1) := hz15.trans hP2.1.1.2.1
            refine r_ishl dX5_visits_71 (fun z16 hz16 => ?_)
            obtain rfl : z16 = nI (2 ^ s_hours wy (k + 1) r 1) := hz16.trans (shl_1 (by omega))
            refine r_ior dX5_visits_72 (fun z17 hz17 => ?_)
            obtain rfl : z17 = nI (s_vis wy r (k + 1)) := hz17.trans (nI_or _ _)
            refine r_istore_n [(2, .int (nI (s_vis wy r (k + 1)))), (3, .int (nI k)), (0, .ref (B + 0)), (1, .int (nI n))] dX5_visits_73 (by decide) rfl ?_
            refine r_iinc (nI (k + 1)) [(3, .int (nI (k + 1))), (2, .int (nI (s_vis wy r (k + 1)))), (0, .ref (B + 0)), (1, .int (nI n))] dX5_visits_74 rfl (nI_1 _) (by decide) rfl ?_
            refine r_goto (tgt := 46) dX5_visits_77 (by decide) ?_
            exact r_lv [(3, .int (nI (k + 1))), (2, .int (nI (s_vis wy r (k + 1)))), (0, .ref (B + 0)), (1, .int (nI n))] (List.forall_mem_cons.mpr ⟨rfl, List.forall_mem_cons.mpr ⟨rfl, List.forall_mem_cons.mpr ⟨rfl, List.forall_mem_cons.mpr ⟨rfl, fun _ h => absurd h List.not_mem_nil⟩⟩⟩⟩) (ih (k + 1) D13 (by omega) (by omega) hP2)
      exact r_lv [(3, .int (nI 0)), (2, .int (nI (s_vis wy r 0))), (0, .ref (B + 0)), (1, .int (nI n))] (List.forall_mem_cons.mpr ⟨rfl, List.forall_mem_cons.mpr ⟨rfl, List.forall_mem_cons.mpr ⟨rfl, List.forall_mem_cons.mpr ⟨rfl, fun _ h => absurd h List.not_mem_nil⟩⟩⟩⟩) (L (n + 1) 0 D8 (by omega) (by omega) hP)
    · skip
      rw [bI_0] at c17
      refine r_ldc wc_X5_77 dX5_visits_20 ?_
      refine r_iret2 dX5_visits_22 rfl ⟨Nat.zero_le _, Nat.zero_le _⟩ ?_
      refine ⟨?_, SX.rf, rfl⟩
      unfold g_visits
      rw [if_pos c4, if_neg c17]
  · skip
    rw [bI_0] at c4
    refine r_ldc wc_X5_152 dX5_visits_7 ?_
    refine r_iret2 dX5_visits_9 rfl ⟨Nat.zero_le _, Nat.zero_le _⟩ ?_
    refine ⟨?_, SX.rf, rfl⟩
    rw [if_neg c4]
set_option maxRecDepth 100000 in
set_option maxHeartbeats 4000000 in
theorem c_X5_half (B : Nat) (D : DD) (E : EE) (wy : Nat → Nat) (r : Row) (hX : XL D wy r) (x : Int32) : MR yX5_half cX5_half 3 (some .int) rX5_half B [.ref (B + 0), .int x] Z0 D E (Q2 Z0 (pI (fun v D' E' => v = (if 0 < r 0 then g_half wy r x else -1000002) ∧ SX D D' ∧ E' = E))) := by
  obtain ⟨hO, hCn, hLl, hYY⟩ := id hX
  obtain ⟨l0, l5, l4, l6, l7, l8, l1⟩ := hO.le
  refine r_enter [(0, .ref (B + 0)), (1, .int x)] hv_X5_half.1.2.2.2.2 (Nat.le_of_ble_eq_true rfl) rfl ?_
  refine r_aload_n dX5_half_0 rfl ?_
  refine r_callVI (As := []) (o := 0) (c_X5_hasLand B D E (r 0) hLl.1.1 l0) hv_X5_hasLand wm_X5_156 dX5_half_1 rfl rfl z_0 k_0 (by decide) rfl (Nat.le_of_ble_eq_true rfl) ⟨Nat.le_of_ble_eq_true rfl, Nat.le_of_ble_eq_true rfl, Nat.zero_le _, Nat.zero_le _⟩ ⟨rfl, rfl⟩ (fun z1 D2 E3 hz1 => ?_)
  obtain ⟨hqV, hqD, hqE⟩ := hz1
  obtain rfl : z1 = bI (0 < r 0) := hqV
  obtain rfl := hqD.symm
  obtain rfl := hqE.symm
  refine r_if_ne (tgt := 10) dX5_half_4 (by decide) (fun c4 => ?_) (fun c4 => ?_)
  · skip
    rw [bI_n0] at c4
    obtain ⟨hW, hT, hH⟩ := hO.p c4
    have hY := hYY hW
    obtain ⟨b1, b2, b3, b4, b5, b6, b7, b8⟩ := hW.1
    refine r_iload_n dX5_half_10 rfl ?_
    refine r_iconst (nI 1) dX5_half_11 (by decide) ?_
    refine r_bipush (nI 60) dX5_half_12 (by decide) ?_
    refine r_callSI (As := [.int x, .int (nI 1), .int (nI 60)]) (c_X5_within B D E x (nI 1) (nI 60)) hs_X5_within wm_X5_73 rfl dX5_half_14 rfl rfl (Nat.le_of_ble_eq_true rfl) ⟨Nat.le_of_ble_eq_true rfl, Nat.le_of_ble_eq_true rfl, Nat.zero_le _, Nat.zero_le _⟩ ⟨rfl, rfl⟩ (fun z4 D5 E6 hz4 => ?_)
    obtain ⟨hqV, hqD, hqE⟩ := hz4
    obtain rfl : z4 = bI (nI 1 ≤ x ∧ x ≤ nI 60) := hqV
    obtain rfl := hqD.symm
    obtain rfl := hqE.symm
    refine r_if_ne (tgt := 23) dX5_half_17 (by decide) (fun c17 => ?_) (fun c17 => ?_)
    · skip
      rw [bI_n0] at c17
      obtain ⟨n, hn1, hn2, rfl⟩ := rg (by decide) (by decide) c17
      refine r_aload_n dX5_half_23 rfl ?_
      refine r_getR (ci := 5) (k := 5) wf_X5_44 dX5_half_24 z_0 k_0 (by decide) (by decide) (fun _ _ => rfl) f_0_5 ?_
      refine r_aload_n dX5_half_27 rfl ?_
      refine r_getR (ci := 5) (k := 3) wf_X5_33 dX5_half_28 z_0 k_0 (by decide) (by decide) (fun _ _ => rfl) f_0_3 ?_
      refine r_callVV (As := [.ref (B + 21)]) (o := 173) (c_X0_take B D E 173 21 isC_p isC_n dj_pn) hv_X0_take wm_X5_140 dX5_half_31 rfl rfl z_173 k_173 (by decide) rfl (Nat.le_of_ble_eq_true rfl) ⟨Nat.le_of_ble_eq_true rfl, Nat.le_of_ble_eq_true rfl, Nat.zero_le _, Nat.zero_le _⟩ ⟨rfl, rfl⟩ (fun D8 E9 hz7 => ?_)
      obtain ⟨hqD, hqE⟩ := hz7
      obtain rfl := hqE.symm
      have hP : XP D D8 r := by rw [hqD]; exact XP.take l5 hCn
      refine r_iconst (nI 0) dX5_half_34 (by decide) ?_
      refine r_istore_n [(2, .int (nI 0)), (0, .ref (B + 0)), (1, .int (nI n))] dX5_half_35 (by decide) rfl ?_
      have L : ∀ (fu k : Nat) (Dk : DD), k ≤ n → n - k < fu → (XP D Dk (s_hours wy k r) ∧ ∀ j, j < k → decide (r 8 < s_hours wy (j + 1) r 8) = false) → RW yX5_half cX5_half 3 (some .int) rX5_half B (Q2 Z0 (pI (fun v D' E' => v = (if 0 < r 0 then g_half wy r (nI n) else -1000002) ∧ SX D D' ∧ E' = E))) Z0 Dk E 0 0 36 [(2, .int (nI k)), (0, .ref (B + 0)), (1, .int (nI n))] [] := by
        intro fu
        induction fu with
        | zero => intro k Dk hku hfu _; omega
        | succ fu ih =>
          intro k Dk hku hfu hI
          refine r_iload_n dX5_half_36 rfl ?_
          refine r_iload_n dX5_half_37 rfl ?_
          refine r_icmp_ge (tgt := 77) dX5_half_38 (by decide) (fun c38 => ?_) (fun c38 => ?_)
          · skip
            rw [nI_leI (by omega) (by omega)] at c38
            skip
            refine r_ldc wc_X5_232 dX5_half_77 ?_
            refine r_iret2 dX5_half_79 rfl ⟨Nat.zero_le _, Nat.zero_le _⟩ ?_
            have hkn : k = n := by omega
            refine ⟨?_, hI.1.2, rfl⟩
            unfold g_half
            rw [if_pos c4, if_pos c17, nI_clamp (by omega), s_find_n _ (fun j hj => hI.2 j (by omega))]
            rfl
          · skip
            rw [nI_leI (by omega) (by omega)] at c38
            have hk := s_hours_k hW hT hH hY k
            obtain ⟨kb1, kb2, kb3, kb4, kb5, kb6, kb7, kb8⟩ := hk.1.1
            have hk2 := (s_hours_k hW hT hH hY (k + 1)).2.2.1
            unfold HB at hk2
            refine r_aload_n dX5_half_41 rfl ?_
            refine r_getR (ci := 5) (k := 5) wf_X5_44 dX5_half_42 z_0 k_0 (by decide) (by decide) (fun _ _ => rfl) f_0_5 ?_
            refine r_aload_n dX5_half_45 rfl ?_
            refine r_getR (ci := 5) (k := 2) wf_X5_26 dX5_half_46 z_0 k_0 (by decide) (by decide) (fun _ _ => rfl) f_0_2 ?_
            refine r_callVV (As := [.ref (B + 15)]) (o := 173) (c_X0_pass B Dk E 173 15 isC_p isL_l (dj15 (Or.inr rfl)) (s_hours wy k r) wy hk.1 (999 + k) hk.2.2.1 (by omega) hI.1.1 (hI.1.2.LA (LA_hours hLl k)) hk.2.2.2 hk.2.1) hv_X0_pass wm_X5_166 dX5_half_49 rfl rfl z_173 k_173 (by decide) rfl (Nat.le_of_ble_eq_true rfl) ⟨Nat.le_of_ble_eq_true rfl, Nat.le_of_ble_eq_true rfl, Nat.zero_le _, Nat.zero_le _⟩ ⟨rfl, rfl⟩ (fun D11 E12 hz10 => ?_)
            obtain ⟨hF9, hC9, hqE⟩ := hz10
            obtain rfl := hqE.symm
            have hP2 : XP D D11 (s_hours wy (k + 1) r) := hI.1.step hF9 hC9
            refine r_aload_n dX5_half_52 rfl ?_
            refine r_getR (ci := 5) (k := 5) wf_X5_44 dX5_half_53 z_0 k_0 (by decide) (by decide) (fun _ _ => rfl) f_0_5 ?_
            refine r_getI (ci := 0) (k := 3) wf_X5_258 dX5_half_56 z_173 k_173 (by decide) (by decide) rfl (fun z13 hz13 => ?_)
            obtain rfl : z13 = nI (s_hours wy (k + 1) r 8) := hz13.trans hP2.1.1.2.2.2.1
            refine r_aload_n dX5_half_59 rfl ?_
            refine r_getR (ci := 5) (k := 3) wf_X5_33 dX5_half_60 z_0 k_0 (by decide) (by decide) (fun _ _ => rfl) f_0_3 ?_
            refine r_getI (ci := 0) (k := 3) wf_X5_258 dX5_half_63 z_21 k_21 (by decide) (by decide) rfl (fun z14 hz14 => ?_)
            obtain rfl : z14 = nI (r 8) := hz14.trans (hP2.2.now hCn).1.2.2.2.1
            refine r_icmp_le (tgt := 71) dX5_half_66 (by decide) (fun c66 => ?_) (fun c66 => ?_)
            · skip
              rw [nI_leI (by omega) (by omega)] at c66
              refine r_iinc (nI (k + 1)) [(2, .int (nI (k + 1))), (0, .ref (B + 0)), (1, .int (nI n))] dX5_half_71 rfl (nI_1 _) (by decide) rfl ?_
              refine r_goto (tgt := 36) dX5_half_74 (by decide) ?_
              exact r_lv [(2, .int (nI (k + 1))), (0, .ref (B + 0)), (1, .int (nI n))] (List.forall_mem_cons.mpr ⟨rfl, List.forall_mem_cons.mpr ⟨rfl, List.forall_mem_cons.mpr ⟨rfl, fun _ h => absurd h List.not_mem_nil⟩⟩⟩) (ih (k + 1) D11 (by omega) (by omega) (⟨hP2, fun j hj => (Nat.lt_succ_iff_lt_or_eq.mp hj).elim (fun h => hI.2 j h) (fun h => h ▸ decide_eq_false (by omega))⟩))
            · skip
              rw [nI_leI (by omega) (by omega)] at c66
              refine r_iload_n dX5_half_69 rfl ?_
              refine r_iret2 dX5_half_70 rfl ⟨Nat.zero_le _, Nat.zero_le _⟩ ?_
              refine ⟨?_, hP2.2, rfl⟩
              unfold g_half
              rw [if_pos c4, if_pos c17, nI_clamp (by omega), s_find_s (P := fun k => decide (r 8 < s_hours wy (k + 1) r 8)) (k := k) (decide_eq_true (by omega)) hI.2 _ (by omega)]
              rfl
      exact r_lv [(2, .int (nI 0)), (0, .ref (B + 0)), (1, .int (nI n))] (List.forall_mem_cons.mpr ⟨rfl, List.forall_mem_cons.mpr ⟨rfl, List.forall_mem_cons.mpr ⟨rfl, fun _ h => absurd h List.not_mem_nil⟩⟩⟩) (L (n + 1) 0 D8 (by omega) (by omega) (⟨hP, fun j hj => absurd hj (Nat.not_lt_zero j)⟩))
    · skip
      rw [bI_0] at c17
      refine r_ldc wc_X5_77 dX5_half_20 ?_
      refine r_iret2 dX5_half_22 rfl ⟨Nat.zero_le _, Nat.zero_le _⟩ ?_
      refine ⟨?_, SX.rf, rfl⟩
      unfold g_half
      rw [if_pos c4, if_neg c17]
  · skip
    rw [bI_0] at c4
    refine r_ldc wc_X5_152 dX5_half_7 ?_
    refine r_iret2 dX5_half_9 rfl ⟨Nat.zero_le _, Nat.zero_le _⟩ ?_
    refine ⟨?_, SX.rf, rfl⟩
    rw [if_neg c4]
