set_option maxRecDepth 100000 in
set_option maxHeartbeats 4000000 in
theorem c_J6_bitCount_0f7a4 (B : Nat) (D : DD) (E : EE) (n : Nat) (hn : n < 64) : MR yJ6_bitCount_0f7a4 cJ6_bitCount_0f7a4 1 (some .int) rJ6_bitCount_0f7a4 B [.int (nI n)] Z0 D E (Q2 Z0 (pI (fun v D' E' => v = (nI (s_bits n)) ∧ D' = D ∧ E' = E))) := by
  refine r_enter [(0, .int (nI n))] hs_J6_bitCount_0f7a4.1.2.2.2.2 (Nat.le_of_ble_eq_true rfl) rfl ?_
  refine r_iload_n dJ6_bitCount_0f7a4_0 rfl ?_
  refine r_iload_n dJ6_bitCount_0f7a4_1 rfl ?_
  refine r_iconst (nI 1) dJ6_bitCount_0f7a4_2 (by decide) ?_
  refine r_iushr dJ6_bitCount_0f7a4_3 (fun z1 hz1 => ?_)
  subst hz1
  refine r_ldcw wc_J6_265 dJ6_bitCount_0f7a4_4 ?_
  refine r_iand dJ6_bitCount_0f7a4_7 (fun z2 hz2 => ?_)
  subst hz2
  refine r_isub dJ6_bitCount_0f7a4_8 (fun z3 hz3 => ?_)
  obtain rfl : z3 = bc1 (nI n) := hz3
  refine r_istore_n [(0, .int (bc1 (nI n)))] dJ6_bitCount_0f7a4_9 (by decide) rfl ?_
  refine r_iload_n dJ6_bitCount_0f7a4_10 rfl ?_
  refine r_ldcw wc_J6_266 dJ6_bitCount_0f7a4_11 ?_
  refine r_iand dJ6_bitCount_0f7a4_14 (fun z4 hz4 => ?_)
  subst hz4
  refine r_iload_n dJ6_bitCount_0f7a4_15 rfl ?_
  refine r_iconst (nI 2) dJ6_bitCount_0f7a4_16 (by decide) ?_
  refine r_iushr dJ6_bitCount_0f7a4_17 (fun z5 hz5 => ?_)
  subst hz5
  refine r_ldcw wc_J6_266 dJ6_bitCount_0f7a4_18 ?_
  refine r_iand dJ6_bitCount_0f7a4_21 (fun z6 hz6 => ?_)
  subst hz6
  refine r_iadd dJ6_bitCount_0f7a4_22 (fun z7 hz7 => ?_)
  obtain rfl : z7 = bc2 (nI n) := hz7
  refine r_istore_n [(0, .int (bc2 (nI n)))] dJ6_bitCount_0f7a4_23 (by decide) rfl ?_
  refine r_iload_n dJ6_bitCount_0f7a4_24 rfl ?_
  refine r_iload_n dJ6_bitCount_0f7a4_25 rfl ?_
  refine r_iconst (nI 4) dJ6_bitCount_0f7a4_26 (by decide) ?_
  refine r_iushr dJ6_bitCount_0f7a4_27 (fun z8 hz8 => ?_)
  subst hz8
  refine r_iadd dJ6_bitCount_0f7a4_28 (fun z9 hz9 => ?_)
  subst hz9
  refine r_ldcw wc_J6_267 dJ6_bitCount_0f7a4_29 ?_
  refine r_iand dJ6_bitCount_0f7a4_32 (fun z10 hz10 => ?_)
  obtain rfl : z10 = bc3 (nI n) := hz10
  refine r_istore_n [(0, .int (bc3 (nI n)))] dJ6_bitCount_0f7a4_33 (by decide) rfl ?_
  refine r_iload_n dJ6_bitCount_0f7a4_34 rfl ?_
  refine r_iload_n dJ6_bitCount_0f7a4_35 rfl ?_
  refine r_bipush (nI 8) dJ6_bitCount_0f7a4_36 (by decide) ?_
  refine r_iushr dJ6_bitCount_0f7a4_38 (fun z11 hz11 => ?_)
  subst hz11
  refine r_iadd dJ6_bitCount_0f7a4_39 (fun z12 hz12 => ?_)
  obtain rfl : z12 = bc4 (nI n) := hz12
  refine r_istore_n [(0, .int (bc4 (nI n)))] dJ6_bitCount_0f7a4_40 (by decide) rfl ?_
  refine r_iload_n dJ6_bitCount_0f7a4_41 rfl ?_
  refine r_iload_n dJ6_bitCount_0f7a4_42 rfl ?_
  refine r_bipush (nI 16) dJ6_bitCount_0f7a4_43 (by decide) ?_
  refine r_iushr dJ6_bitCount_0f7a4_45 (fun z13 hz13 => ?_)
  subst hz13
  refine r_iadd dJ6_bitCount_0f7a4_46 (fun z14 hz14 => ?_)
  obtain rfl : z14 = bc5 (nI n) := hz14
  refine r_istore_n [(0, .int (bc5 (nI n)))] dJ6_bitCount_0f7a4_47 (by decide) rfl ?_
  refine r_iload_n dJ6_bitCount_0f7a4_48 rfl ?_
  refine r_bipush (nI 63) dJ6_bitCount_0f7a4_49 (by decide) ?_
  refine r_iand dJ6_bitCount_0f7a4_51 (fun z15 hz15 => ?_)
  subst hz15
  refine r_iret2 dJ6_bitCount_0f7a4_52 rfl ⟨Nat.zero_le _, Nat.zero_le _⟩ ?_
  exact ⟨bc_n n hn, rfl, rfl⟩
set_option maxRecDepth 100000 in
set_option maxHeartbeats 4000000 in
theorem c_X5_isThereBy (B : Nat) (D : DD) (E : EE) (wy : Nat → Nat) (r : Row) (hW : WF r) (hT : T2 r) (hH : HB r 999) (hY : WY wy r) (hCn : CA D 21 r) (hLl : LA D 15 wy r) (c p n : Nat) (hc : c < 64) (hp : p < 6) (hn : n ≤ 24) : MR yX5_isThereBy cX5_isThereBy 4 (some .boolean) rX5_isThereBy B [.ref (B + 0), .int (nI c), .int (nI p), .int (nI n)] Z0 D E (Q2 Z0 (pI (fun v D' E' => v = bI (s_hours wy n (s_rest r c) 1 = p) ∧ SX D D' ∧ E' = E))) := by
  obtain ⟨b1, b2, b3, b4, b5, b6, b7, b8⟩ := id hW.1
  have l5 := b7
  have hp2 := pw2_le b7
  have hr5 := rmask_lt (r 5) (fun w hw => (hW.2.2.1 w hw).2.2.2.2.2.2.2)
  refine r_enter [(0, .ref (B + 0)), (1, .int (nI c)), (2, .int (nI p)), (3, .int (nI n))] hv_X5_isThereBy.1.2.2.2.2 (Nat.le_of_ble_eq_true rfl) rfl ?_
  refine r_aload_n dX5_isThereBy_0 rfl ?_
  refine r_getR (ci := 5) (k := 5) wf_X5_44 dX5_isThereBy_1 z_0 k_0 (by decide) (by decide) (fun _ _ => rfl) f_0_5 ?_
  refine r_aload_n dX5_isThereBy_4 rfl ?_
  refine r_getR (ci := 5) (k := 3) wf_X5_33 dX5_isThereBy_5 z_0 k_0 (by decide) (by decide) (fun _ _ => rfl) f_0_3 ?_
  refine r_callVV (As := [.ref (B + 21)]) (o := 173) (c_X0_take B D E 173 21 isC_p isC_n dj_pn) hv_X0_take wm_X5_140 dX5_isThereBy_8 rfl rfl z_173 k_173 (by decide) rfl (Nat.le_of_ble_eq_true rfl) ⟨Nat.le_of_ble_eq_true rfl, Nat.le_of_ble_eq_true rfl, Nat.zero_le _, Nat.zero_le _⟩ ⟨rfl, rfl⟩ (fun D2 E3 hz1 => ?_)
  obtain ⟨hqD, hqE⟩ := hz1
  obtain rfl := hqE.symm
  have hP : XP D D2 r := by rw [hqD]; exact XP.take l5 hCn
  refine r_aload_n dX5_isThereBy_11 rfl ?_
  refine r_getR (ci := 5) (k := 5) wf_X5_44 dX5_isThereBy_12 z_0 k_0 (by decide) (by decide) (fun _ _ => rfl) f_0_5 ?_
  refine r_dup dX5_isThereBy_15 rfl ?_
  refine r_getI (ci := 0) (k := 5) wf_X5_184 dX5_isThereBy_16 z_173 k_173 (by decide) (by decide) rfl (fun z4 hz4 => ?_)
  obtain rfl : z4 = nI (rmask r (r 5)) := hz4.trans hP.1.1.2.2.2.2.2
  refine r_aload_n dX5_isThereBy_19 rfl ?_
  refine r_getR (ci := 5) (k := 2) wf_X5_26 dX5_isThereBy_20 z_0 k_0 (by decide) (by decide) (fun _ _ => rfl) f_0_2 ?_
  refine r_callVI (As := []) (o := 15) (c_X1_everyone B D2 E 15 (r 5) isL_l (hP.2.LA hLl).1.2.2.2.2 b7) hv_X1_everyone wm_X5_233 dX5_isThereBy_23 rfl rfl z_15 k_15 (by decide) rfl (Nat.le_of_ble_eq_true rfl) ⟨Nat.le_of_ble_eq_true rfl, Nat.le_of_ble_eq_true rfl, Nat.zero_le _, Nat.zero_le _⟩ ⟨rfl, rfl⟩ (fun z5 D6 E7 hz5 => ?_)
  obtain ⟨hqV, hqD, hqE⟩ := hz5
  obtain rfl : z5 = nI (2 ^ r 5 - 1) := hqV
  obtain rfl := hqD.symm
  obtain rfl := hqE.symm
  refine r_iload_n dX5_isThereBy_26 rfl ?_
  refine r_iconst ((-1)) dX5_isThereBy_27 (by decide) ?_
  refine r_ixor dX5_isThereBy_28 (fun z8 hz8 => ?_)
  subst hz8
  refine r_iand dX5_isThereBy_29 (fun z9 hz9 => ?_)
  obtain rfl : z9 = nI ((2 ^ r 5 - 1) &&& (63 ^^^ c)) := hz9.trans (mask_n c hc _ (by omega))
  refine r_ior dX5_isThereBy_30 (fun z10 hz10 => ?_)
  obtain rfl : z10 = nI (rmask r (r 5) ||| ((2 ^ r 5 - 1) &&& (63 ^^^ c))) := hz10.trans (nI_or _ _)
  refine r_putI (ci := 0) (k := 5) wf_X5_184 dX5_isThereBy_31 z_173 k_173 (by decide) (by decide) rfl rfl (fun D11 hD11 => ?_)
  obtain rfl : D11 = upo D2 173 (upd (D2 173) 5 (nI (rmask r (r 5) ||| ((2 ^ r 5 - 1) &&& (63 ^^^ c))))) := hD11.trans up2_eq
  refine r_aload_n dX5_isThereBy_34 rfl ?_
  refine r_getR (ci := 5) (k := 5) wf_X5_44 dX5_isThereBy_35 z_0 k_0 (by decide) (by decide) (fun _ _ => rfl) f_0_5 ?_
  refine r_aload_n dX5_isThereBy_38 rfl ?_
  refine r_getR (ci := 5) (k := 2) wf_X5_26 dX5_isThereBy_39 z_0 k_0 (by decide) (by decide) (fun _ _ => rfl) f_0_2 ?_
  refine r_iload_n dX5_isThereBy_42 rfl ?_
  refine r_callVV (As := [.ref (B + 15), .int (nI n)]) (o := 173) (c_X0_passMany B (upo D2 173 (upd (D2 173) 5 (nI (rmask r (r 5) ||| ((2 ^ r 5 - 1) &&& (63 ^^^ c)))))) E 173 15 isC_p isL_l (dj15 (Or.inr rfl)) (s_rest r c) wy (WF_rest hW) 999 (HB_rest hH) n (by omega) (by omega) (CA_rest hW hc hP.1) (LA_rest (LA_upo (hP.2.LA hLl) (fun j hj => by omega))) (WY_rest hY) (T2_rest hT)) hv_X0_passMany wm_X5_225 dX5_isThereBy_43 rfl rfl z_173 k_173 (by decide) rfl (Nat.le_of_ble_eq_true rfl) ⟨Nat.le_of_ble_eq_true rfl, Nat.le_of_ble_eq_true rfl, Nat.zero_le _, Nat.zero_le _⟩ ⟨rfl, rfl⟩ (fun D13 E14 hz12 => ?_)
  obtain ⟨hF9, hC9, hqE⟩ := hz12
  obtain rfl := hqE.symm
  have hS9 : SX D D13 := fun q h1 h2 => (hF9 q (by omega) (by omega) (by omega)).trans ((upo_n (by omega)).trans (hP.2 q h1 h2))
  have hk := (s_hours_k (WF_rest (c := c) hW) (T2_rest hT) (HB_rest hH) (WY_rest hY) n).1.1
  obtain ⟨k1, k2, k3, -⟩ := hk
  refine r_aload_n dX5_isThereBy_46 rfl ?_
  refine r_getR (ci := 5) (k := 5) wf_X5_44 dX5_isThereBy_47 z_0 k_0 (by decide) (by decide) (fun _ _ => rfl) f_0_5 ?_
  refine r_getI (ci := 0) (k := 1) wf_X5_169 dX5_isThereBy_50 z_173 k_173 (by decide) (by decide) rfl (fun z15 hz15 => ?_)
  obtain rfl : z15 = nI (s_hours wy n (s_rest r c) 1) := hz15.trans hC9.1.2.1
  refine r_iload_n dX5_isThereBy_53 rfl ?_
  refine r_icmp_ne (tgt := 61) dX5_isThereBy_54 (by decide) (fun c54 => ?_) (fun c54 => ?_)
  · skip
    rw [nI_eq (by omega) (by omega)] at c54
    refine r_iconst (nI 0) dX5_isThereBy_61 (by decide) ?_
    refine r_zret2 dX5_isThereBy_62 rfl ⟨Nat.zero_le _, Nat.zero_le _⟩ rfl ?_
    first | exact ⟨bI_t c54, hS9, rfl⟩ | exact ⟨bI_f c54, hS9, rfl⟩
  · skip
    rw [nI_eq (by omega) (by omega)] at c54
    refine r_iconst (nI 1) dX5_isThereBy_57 (by decide) ?_
    refine r_goto (tgt := 62) dX5_isThereBy_58 (by decide) ?_
    refine r_zret2 dX5_isThereBy_62 rfl ⟨Nat.zero_le _, Nat.zero_le _⟩ rfl ?_
    first | exact ⟨bI_t c54, hS9, rfl⟩ | exact ⟨bI_f c54, hS9, rfl⟩
set_option maxRecDepth 100000 in
set_option maxHeartbeats 4000000 in
theorem c_X5_fewest (B : Nat) (D : DD) (E : EE) (wy : Nat → Nat) (r : Row) (hX : XL D wy r) (pl x what : Int32) : MR yX5_fewest cX5_fewest 7 (some .int) rX5_fewest B [.ref (B + 0), .int pl, .int x, .int what] Z0 D E (Q2 Z0 (pI (fun v D' E' => v = (if 0 < r 0 then g_fewest wy r pl x what else -1000002) ∧ SX D D' ∧ E' = E))) := by
  obtain ⟨hO, hCn, hLl, hYY⟩ := id hX
  obtain ⟨l0, l5, l4, l6, l7, l8, l1⟩ := hO.le
  refine r_enter [(0, .ref (B + 0)), (1, .int pl), (2, .int x), (3, .int what)] hv_X5_fewest.1.2.2.2.2 (Nat.le_of_ble_eq_true rfl) rfl ?_
  refine r_aload_n dX5_fewest_0 rfl ?_
  refine r_callVI (As := []) (o := 0) (c_X5_hasLand B D E (r 0) hLl.1.1 l0) hv_X5_hasLand wm_X5_156 dX5_fewest_1 rfl rfl z_0 k_0 (by decide) rfl (Nat.le_of_ble_eq_true rfl) ⟨Nat.le_of_ble_eq_true rfl, Nat.le_of_ble_eq_true rfl, Nat.zero_le _, Nat.zero_le _⟩ ⟨rfl, rfl⟩ (fun z1 D2 E3 hz1 => ?_)
  obtain ⟨hqV, hqD, hqE⟩ := hz1
  obtain rfl : z1 = bI (0 < r 0) := hqV
  obtain rfl := hqD.symm
  obtain rfl := hqE.symm
  refine r_if_ne (tgt := 10) dX5_fewest_4 (by decide) (fun c4 => ?_) (fun c4 => ?_)
  · skip
    rw [bI_n0] at c4
    obtain ⟨hW, hT, hH⟩ := hO.p c4
    have hY := hYY hW
    obtain ⟨b1, b2, b3, b4, b5, b6, b7, b8⟩ := hW.1
    have hp2 := pw2_le b7
    have hp3 := Nat.one_le_two_pow (n := r 5)
    refine r_aload_n dX5_fewest_10 rfl ?_
    refine r_iload_n dX5_fewest_11 rfl ?_
    refine r_callVI (As := [.int pl]) (o := 0) (c_X5_isPlace B D E pl (r 0) hLl.1.1) hv_X5_isPlace wm_X5_175 dX5_fewest_12 rfl rfl z_0 k_0 (by decide) rfl (Nat.le_of_ble_eq_true rfl) ⟨Nat.le_of_ble_eq_true rfl, Nat.le_of_ble_eq_true rfl, Nat.zero_le _, Nat.zero_le _⟩ ⟨rfl, rfl⟩ (fun z4 D5 E6 hz4 => ?_)
    obtain ⟨hqV, hqD, hqE⟩ := hz4
    obtain rfl : z4 = bI (nI 0 ≤ pl ∧ pl ≤ nI (r 0) - nI 1) := hqV
    obtain rfl := hqD.symm
    obtain rfl := hqE.symm
    refine r_if_eq (tgt := 37) dX5_fewest_15 (by decide) (fun c15 => ?_) (fun c15 => ?_)
    · skip
      rw [bI_0] at c15
      refine r_ldc wc_X5_77 dX5_fewest_37 ?_
      refine r_iret2 dX5_fewest_39 rfl ⟨Nat.zero_le _, Nat.zero_le _⟩ ?_
      refine ⟨?_, SX.rf, rfl⟩
      unfold g_fewest
      rw [if_pos c4]
      first | rw [if_neg c15] | rw [if_pos c15, if_neg c25] | rw [if_pos c15, if_pos c25, if_neg c34]
    · skip
      rw [bI_n0] at c15
      obtain ⟨p, hp1, rfl⟩ := gd_n (by omega) c15
      refine r_iload_n dX5_fewest_18 rfl ?_
      refine r_iconst (nI 1) dX5_fewest_19 (by decide) ?_
      refine r_bipush (nI 24) dX5_fewest_20 (by decide) ?_
      refine r_callSI (As := [.int x, .int (nI 1), .int (nI 24)]) (c_X5_within B D E x (nI 1) (nI 24)) hs_X5_within wm_X5_73 rfl dX5_fewest_22 rfl rfl (Nat.le_of_ble_eq_true rfl) ⟨Nat.le_of_ble_eq_true rfl, Nat.le_of_ble_eq_true rfl, Nat.zero_le _, Nat.zero_le _⟩ ⟨rfl, rfl⟩ (fun z7 D8 E9 hz7 => ?_)
      obtain ⟨hqV, hqD, hqE⟩ := hz7
      obtain rfl : z7 = bI (nI 1 ≤ x ∧ x ≤ nI 24) := hqV
      obtain rfl := hqD.symm
      obtain rfl := hqE.symm
      refine r_if_eq (tgt := 37) dX5_fewest_25 (by decide) (fun c25 => ?_) (fun c25 => ?_)
      · skip
        rw [bI_0] at c25
        refine r_ldc wc_X5_77 dX5_fewest_37 ?_
        refine r_iret2 dX5_fewest_39 rfl ⟨Nat.zero_le _, Nat.zero_le _⟩ ?_
        refine ⟨?_, SX.rf, rfl⟩
        unfold g_fewest
        rw [if_pos c4]
        first | rw [if_neg c15] | rw [if_pos c15, if_neg c25] | rw [if_pos c15, if_pos c25, if_neg c34]
      · skip
        rw [bI_n0] at c25
        obtain ⟨n, hn1, hn2, rfl⟩ := rg (by decide) (by decide) c25
        refine r_iload_n dX5_fewest_28 rfl ?_
        refine r_iconst (nI 0) dX5_fewest_29 (by decide) ?_
        refine r_iconst (nI 1) dX5_fewest_30 (by decide) ?_
        refine r_callSI (As := [.int what, .int (nI 0), .int (nI 1)]) (c_X5_within B D E what (nI 0) (nI 1)) hs_X5_within wm_X5_73 rfl dX5_fewest_31 rfl rfl (Nat.le_of_ble_eq_true rfl) ⟨Nat.le_of_ble_eq_true rfl, Nat.le_of_ble_eq_true rfl, Nat.zero_le _, Nat.zero_le _⟩ ⟨rfl, rfl⟩ (fun z10 D11 E12 hz10 => ?_)
        obtain ⟨hqV, hqD, hqE⟩ := hz10
        obtain rfl : z10 = bI (nI 0 ≤ what ∧ what ≤ nI 1) := hqV
        obtain rfl := hqD.symm
        obtain rfl := hqE.symm
        refine r_if_ne (tgt := 40) dX5_fewest_34 (by decide) (fun c34 => ?_) (fun c34 => ?_)
        · skip
          rw [bI_n0] at c34
          obtain ⟨wh, hw1, hw2, rfl⟩ := rg (by decide) (by decide) c34
          refine r_bipush (nI 7) dX5_fewest_40 (by decide) ?_
          refine r_istore [(4, .int (nI 7)), (0, .ref (B + 0)), (1, .int (nI p)), (2, .int (nI n)), (3, .int (nI wh))] dX5_fewest_42 (by decide) rfl ?_
          refine r_iconst (nI 0) dX5_fewest_44 (by decide) ?_
          refine r_istore [(5, .int (nI 0)), (4, .int (nI 7)), (0, .ref (B + 0)), (1, .int (nI p)), (2, .int (nI n)), (3, .int (nI wh))] dX5_fewest_45 (by decide) rfl ?_
          refine r_iconst (nI 0) dX5_fewest_47 (by decide) ?_
          refine r_istore [(6, .int (nI 0)), (5, .int (nI 0)), (4, .int (nI 7)), (0, .ref (B + 0)), (1, .int (nI p)), (2, .int (nI n)), (3, .int (nI wh))] dX5_fewest_48 (by decide) rfl ?_
          refine r_lv [(6, .int (nI 0)), (5, .int (nI (f_which (s_few wy r p n 0)))), (4, .int (nI (f_many (s_few wy r p n 0)))), (0, .ref (B + 0)), (1, .int (nI p)), (2, .int (nI n)), (3, .int (nI wh))] (List.forall_mem_cons.mpr ⟨rfl, List.forall_mem_cons.mpr ⟨congrArg (fun x => some (Value.int x)) rfl, List.forall_mem_cons.mpr ⟨congrArg (fun x => some (Value.int x)) rfl, List.forall_mem_cons.mpr ⟨rfl, List.forall_mem_cons.mpr ⟨rfl, List.forall_mem_cons.mpr ⟨rfl, List.forall_mem_cons.mpr ⟨rfl, fun _ h => absurd h List.not_mem_nil⟩⟩⟩⟩⟩⟩⟩) ?_
          have L : ∀ (fu k : Nat) (Dk : DD), k ≤ 2 ^ r 5 → 2 ^ r 5 - k < fu → (SX D Dk) → RW yX5_fewest cX5_fewest 7 (some .int) rX5_fewest B (Q2 Z0 (pI (fun v D' E' => v = (if 0 < r 0 then g_fewest wy r (nI p) (nI n) (nI wh) else -1000002) ∧ SX D D' ∧ E' = E))) Z0 Dk E 0 0 50 [(6, .int (nI k)), (5, .int (nI (f_which (s_few wy r p n k)))), (4, .int (nI (f_many (s_few wy r p n k)))), (0, .ref (B + 0)), (1, .int (nI p)), (2, .int (nI n)), (3, .int (nI wh))] [] := by
            intro fu
            induction fu with
            | zero => intro k Dk hku hfu _; omega
            | succ fu ih =>
              intro k Dk hku hfu hI
              refine r_iload dX5_fewest_50 rfl ?_
              refine r_aload_n dX5_fewest_52 rfl ?_
              refine r_getR (ci := 5) (k := 2) wf_X5_26 dX5_fewest_53 z_0 k_0 (by decide) (by decide) (fun _ _ => rfl) f_0_2 ?_
              refine r_callVI (As := []) (o := 15) (c_X1_everyone B Dk E 15 (r 5) isL_l (hI.LA hLl).1.2.2.2.2 b7) hv_X1_everyone wm_X5_233 dX5_fewest_56 rfl rfl z_15 k_15 (by decide) rfl (Nat.le_of_ble_eq_true rfl) ⟨Nat.le_of_ble_eq_true rfl, Nat.le_of_ble_eq_true rfl, Nat.zero_le _, Nat.zero_le _⟩ ⟨rfl, rfl⟩ (fun z13 D14 E15 hz13 => ?_)
              obtain ⟨hqV, hqD, hqE⟩ := hz13
              obtain rfl : z13 = nI (2 ^ r 5 - 1) := hqV
              obtain rfl := hqD.symm
              obtain rfl := hqE.symm
              refine r_icmp_gt (tgt := 100) dX5_fewest_59 (by decide) (fun c59 => ?_) (fun c59 => ?_)
              · skip
                rw [nI_ltI (by omega) (by omega)] at c59
                have hfm : f_many (s_few wy r p n k) ≤ 7 := f_many_le
                refine r_iload dX5_fewest_100 rfl ?_
                refine r_bipush (nI 6) dX5_fewest_102 (by decide) ?_
                refine r_icmp_le (tgt := 110) dX5_fewest_104 (by decide) (fun c104 => ?_) (fun c104 => ?_)
                · skip
                  rw [nI_leI (by omega) (by omega)] at c104
                  have hfw := f_which_lt (wy := wy) (r := r) (pl := p) (n := n) k
                  refine r_iload_n dX5_fewest_110 rfl ?_
                  refine r_if_ne (tgt := 119) dX5_fewest_111 (by decide) (fun c111 => ?_) (fun c111 => ?_)
                  · skip
                    rw [nI_z (by omega)] at c111
                    skip
                    refine r_iload dX5_fewest_119 rfl ?_
                    refine r_iret2 dX5_fewest_121 rfl ⟨Nat.zero_le _, Nat.zero_le _⟩ ?_
                    have hkn : k = 2 ^ r 5 := by omega
                    refine ⟨?_, hI, rfl⟩
                    unfold g_fewest
                    rw [if_pos c4, if_pos c15, if_pos c25, if_pos c34, nI_clamp (show p < 2 ^ 31 by omega), nI_clamp (show n < 2 ^ 31 by omega), ← hkn]
                    cases hs : s_few wy r p n k with
                    | none => exfalso; rw [hs] at c104; exact absurd c104 (by decide)
                    | some b9 =>
                      first
                        | exact (if_pos ((nI_z (by omega)).mpr c111)).symm
                        | exact (if_neg (fun q => c111 ((nI_z (by omega)).mp q))).symm
                  · skip
                    rw [nI_z (by omega)] at c111
                    refine r_iload dX5_fewest_114 rfl ?_
                    refine r_goto (tgt := 121) dX5_fewest_116 (by decide) ?_
                    refine r_iret2 dX5_fewest_121 rfl ⟨Nat.zero_le _, Nat.zero_le _⟩ ?_
                    have hkn : k = 2 ^ r 5 := by omega
                    refine ⟨?_, hI, rfl⟩
                    unfold g_fewest
                    rw [if_pos c4, if_pos c15, if_pos c25, if_pos c34, nI_clamp (show p < 2 ^ 31 by omega), nI_clamp (show n < 2 ^ 31 by omega), ← hkn]
                    cases hs : s_few wy r p n k with
                    | none => exfalso; rw [hs] at c104; exact absurd c104 (by decide)
                    | some b9 =>
                      first
                        | exact (if_pos ((nI_z (by omega)).mpr c111)).symm
                        | exact (if_neg (fun q => c111 ((nI_z (by omega)).mp q))).symm
                · skip
                  rw [nI_leI (by omega) (by omega)] at c104
                  skip
                  refine r_ldc wc_X5_232 dX5_fewest_107 ?_
                  refine r_iret2 dX5_fewest_109 rfl ⟨Nat.zero_le _, Nat.zero_le _⟩ ?_
                  have hkn : k = 2 ^ r 5 := by omega
                  refine ⟨?_, hI, rfl⟩
                  unfold g_fewest
                  rw [if_pos c4, if_pos c15, if_pos c25, if_pos c34, nI_clamp (by omega), nI_clamp (by omega), ← hkn]
                  cases hs : s_few wy r p n k with
                  | none => rfl
                  | some b9 => exfalso; rw [hs] at c104; have := s_bits_le (c := b9); exact c104 this
              · skip
                rw [nI_ltI (by omega) (by omega)] at c59
                have hfm : f_many (s_few wy r p n k) ≤ 7 := f_many_le
                have hsb := s_bits_le (c := k)
                refine r_iload dX5_fewest_62 rfl ?_
                refine r_callSOI (As := [.int (nI k)]) (c_J6_bitCount_0f7a4 B Dk E k (by omega)) hs_J6_bitCount_0f7a4 wm_X5_191 dX5_fewest_64 rfl rfl (Nat.le_of_ble_eq_true rfl) ⟨Nat.le_of_ble_eq_true rfl, Nat.le_of_ble_eq_true rfl, Nat.zero_le _, Nat.zero_le _⟩ ⟨rfl, rfl⟩ (fun z16 D17 E18 hz16 => ?_)
                obtain ⟨hqV, hqD, hqE⟩ := hz16
                obtain rfl : z16 = nI (s_bits k) := hqV
                obtain rfl := hqD.symm
                obtain rfl := hqE.symm
                refine r_iload dX5_fewest_67 rfl ?_
                refine r_icmp_ge (tgt := 94) dX5_fewest_69 (by decide) (fun c69 => ?_) (fun c69 => ?_)
                · skip
                  rw [nI_leI (by omega) (by omega)] at c69
                  have hS : SX D Dk := hI
                  refine r_lv [(6, .int (nI k)), (5, .int (nI (f_which (s_few wy r p n (k + 1))))), (4, .int (nI (f_many (s_few wy r p n (k + 1))))), (0, .ref (B + 0)), (1, .int (nI p)), (2, .int (nI n)), (3, .int (nI wh))] (List.forall_mem_cons.mpr ⟨rfl, List.forall_mem_cons.mpr ⟨congrArg (fun x => some (Value.int x)) (congrArg (fun o => nI (f_which o)) (s_few_f (fun q => by have q1 := q.1; omega)).symm), List.forall_mem_cons.mpr ⟨congrArg (fun x => some (Value.int x)) (congrArg (fun o => nI (f_many o)) (s_few_f (fun q => by have q1 := q.1; omega)).symm), List.forall_mem_cons.mpr ⟨rfl, List.forall_mem_cons.mpr ⟨rfl, List.forall_mem_cons.mpr ⟨rfl, List.forall_mem_cons.mpr ⟨rfl, fun _ h => absurd h List.not_mem_nil⟩⟩⟩⟩⟩⟩⟩) ?_
                  refine r_iinc (nI (k + 1)) [(6, .int (nI (k + 1))), (5, .int (nI (f_which (s_few wy r p n (k + 1))))), (4, .int (nI (f_many (s_few wy r p n (k + 1))))), (0, .ref (B + 0)), (1, .int (nI p)), (2, .int (nI n)), (3, .int (nI wh))] dX5_fewest_94 rfl (nI_1 _) (by decide) rfl ?_
                  refine r_goto (tgt := 50) dX5_fewest_97 (by decide) ?_
                  exact r_lv [(6, .int (nI (k + 1))), (5, .int (nI (f_which (s_few wy r p n (k + 1))))), (4, .int (nI (f_many (s_few wy r p n (k + 1))))), (0, .ref (B + 0)), (1, .int (nI p)), (2, .int (nI n)), (3, .int (nI wh))] (List.forall_mem_cons.mpr ⟨rfl, List.forall_mem_cons.mpr ⟨rfl, List.forall_mem_cons.mpr ⟨rfl, List.forall_mem_cons.mpr ⟨rfl, List.forall_mem_cons.mpr ⟨rfl, List.forall_mem_cons.mpr ⟨rfl, List.forall_mem_cons.mpr ⟨rfl, fun _ h => absurd h List.not_mem_nil⟩⟩⟩⟩⟩⟩⟩) (ih (k + 1) Dk (by omega) (by omega) hS)
                · skip
                  rw [nI_leI (by omega) (by omega)] at c69
                  refine r_aload_n dX5_fewest_72 rfl ?_
                  refine r_iload dX5_fewest_73 rfl ?_
                  refine r_iload_n dX5_fewest_75 rfl ?_
                  refine r_iload_n dX5_fewest_76 rfl ?_
                  refine r_callVI (As := [.int (nI k), .int (nI p), .int (nI n)]) (o := 0) (c_X5_isThereBy B Dk E wy r hW hT hH hY (hI.now hCn) (hI.LA hLl) k p n (by omega) (by omega) (by omega)) hv_X5_isThereBy wm_X5_237 dX5_fewest_77 rfl rfl z_0 k_0 (by decide) rfl (Nat.le_of_ble_eq_true rfl) ⟨Nat.le_of_ble_eq_true rfl, Nat.le_of_ble_eq_true rfl, Nat.zero_le _, Nat.zero_le _⟩ ⟨rfl, rfl⟩ (fun z19 D20 E21 hz19 => ?_)
                  obtain ⟨hq1, hS9, hqE⟩ := hz19
                  obtain rfl := hq1.symm
                  obtain rfl := hqE.symm
                  have hS : SX D D20 := hI.trans hS9
                  refine r_if_eq (tgt := 94) dX5_fewest_80 (by decide) (fun c80 => ?_) (fun c80 => ?_)
                  · skip
                    rw [bI_0] at c80
                    refine r_lv [(6, .int (nI k)), (5, .int (nI (f_which (s_few wy r p n (k + 1))))), (4, .int (nI (f_many (s_few wy r p n (k + 1))))), (0, .ref (B + 0)), (1, .int (nI p)), (2, .int (nI n)), (3, .int (nI wh))] (List.forall_mem_cons.mpr ⟨rfl, List.forall_mem_cons.mpr ⟨congrArg (fun x => some (Value.int x)) (congrArg (fun o => nI (f_which o)) (s_few_f (fun q => c80 q.2)).symm), List.forall_mem_cons.mpr ⟨congrArg (fun x => some (Value.int x)) (congrArg (fun o => nI (f_many o)) (s_few_f (fun q => c80 q.2)).symm), List.forall_mem_cons.mpr ⟨rfl, List.forall_mem_cons.mpr ⟨rfl, List.forall_mem_cons.mpr ⟨rfl, List.forall_mem_cons.mpr ⟨rfl, fun _ h => absurd h List.not_mem_nil⟩⟩⟩⟩⟩⟩⟩) ?_
                    refine r_iinc (nI (k + 1)) [(6, .int (nI (k + 1))), (5, .int (nI (f_which (s_few wy r p n (k + 1))))), (4, .int (nI (f_many (s_few wy r p n (k + 1))))), (0, .ref (B + 0)), (1, .int (nI p)), (2, .int (nI n)), (3, .int (nI wh))] dX5_fewest_94 rfl (nI_1 _) (by decide) rfl ?_
                    refine r_goto (tgt := 50) dX5_fewest_97 (by decide) ?_
                    exact r_lv [(6, .int (nI (k + 1))), (5, .int (nI (f_which (s_few wy r p n (k + 1))))), (4, .int (nI (f_many (s_few wy r p n (k + 1))))), (0, .ref (B + 0)), (1, .int (nI p)), (2, .int (nI n)), (3, .int (nI wh))] (List.forall_mem_cons.mpr ⟨rfl, List.forall_mem_cons.mpr ⟨rfl, List.forall_mem_cons.mpr ⟨rfl, List.forall_mem_cons.mpr ⟨rfl, List.forall_mem_cons.mpr ⟨rfl, List.forall_mem_cons.mpr ⟨rfl, List.forall_mem_cons.mpr ⟨rfl, fun _ h => absurd h List.not_mem_nil⟩⟩⟩⟩⟩⟩⟩) (ih (k + 1) D20 (by omega) (by omega) hS)
                  · skip
                    rw [bI_n0] at c80
                    refine r_iload dX5_fewest_83 rfl ?_
                    refine r_callSOI (As := [.int (nI k)]) (c_J6_bitCount_0f7a4 B D20 E k (by omega)) hs_J6_bitCount_0f7a4 wm_X5_191 dX5_fewest_85 rfl rfl (Nat.le_of_ble_eq_true rfl) ⟨Nat.le_of_ble_eq_true rfl, Nat.le_of_ble_eq_true rfl, Nat.zero_le _, Nat.zero_le _⟩ ⟨rfl, rfl⟩ (fun z22 D23 E24 hz22 => ?_)
                    obtain ⟨hqV, hqD, hqE⟩ := hz22
                    obtain rfl : z22 = nI (s_bits k) := hqV
                    obtain rfl := hqD.symm
                    obtain rfl := hqE.symm
                    refine r_istore [(4, .int (nI (s_bits k))), (6, .int (nI k)), (5, .int (nI (f_which (s_few wy r p n k)))), (0, .ref (B + 0)), (1, .int (nI p)), (2, .int (nI n)), (3, .int (nI wh))] dX5_fewest_88 (by decide) rfl ?_
                    refine r_iload dX5_fewest_90 rfl ?_
                    have hst : s_few wy r p n (k + 1) = some k := s_few_t (by omega) c80
                    refine r_istore [(5, .int (nI k)), (4, .int (nI (s_bits k))), (6, .int (nI k)), (0, .ref (B + 0)), (1, .int (nI p)), (2, .int (nI n)), (3, .int (nI wh))] dX5_fewest_92 (by decide) rfl ?_
                    refine r_lv [(5, .int (nI (f_which (s_few wy r p n (k + 1))))), (4, .int (nI (f_many (s_few wy r p n (k + 1))))), (6, .int (nI k)), (0, .ref (B + 0)), (1, .int (nI p)), (2, .int (nI n)), (3, .int (nI wh))] (List.forall_mem_cons.mpr ⟨congrArg (fun x => some (Value.int x)) (congrArg (fun o => nI (f_which o)) hst.symm), List.forall_mem_cons.mpr ⟨congrArg (fun x => some (Value.int x)) (congrArg (fun o => nI (f_many o)) hst.symm), List.forall_mem_cons.mpr ⟨rfl, List.forall_mem_cons.mpr ⟨rfl, List.forall_mem_cons.mpr ⟨rfl, List.forall_mem_cons.mpr ⟨rfl, List.forall_mem_cons.mpr ⟨rfl, fun _ h => absurd h List.not_mem_nil⟩⟩⟩⟩⟩⟩⟩) ?_
                    refine r_iinc (nI (k + 1)) [(6, .int (nI (k + 1))), (5, .int (nI (f_which (s_few wy r p n (k + 1))))), (4, .int (nI (f_many (s_few wy r p n (k + 1))))), (0, .ref (B + 0)), (1, .int (nI p)), (2, .int (nI n)), (3, .int (nI wh))] dX5_fewest_94 rfl (nI_1 _) (by decide) rfl ?_
                    refine r_goto (tgt := 50) dX5_fewest_97 (by decide) ?_
                    exact r_lv [(6, .int (nI (k + 1))), (5, .int (nI (f_which (s_few wy r p n (k + 1))))), (4, .int (nI (f_many (s_few wy r p n (k + 1))))), (0, .ref (B + 0)), (1, .int (nI p)), (2, .int (nI n)), (3, .int (nI wh))] (List.forall_mem_cons.mpr ⟨rfl, List.forall_mem_cons.mpr ⟨rfl, List.forall_mem_cons.mpr ⟨rfl, List.forall_mem_cons.mpr ⟨rfl, List.forall_mem_cons.mpr ⟨rfl, List.forall_mem_cons.mpr ⟨rfl, List.forall_mem_cons.mpr ⟨rfl, fun _ h => absurd h List.not_mem_nil⟩⟩⟩⟩⟩⟩⟩) (ih (k + 1) D20 (by omega) (by omega) hS)
          exact r_lv [(6, .int (nI 0)), (5, .int (nI (f_which (s_few wy r p n 0)))), (4, .int (nI (f_many (s_few wy r p n 0)))), (0, .ref (B + 0)), (1, .int (nI p)), (2, .int (nI n)), (3, .int (nI wh))] (List.forall_mem_cons.mpr ⟨rfl, List.forall_mem_cons.mpr ⟨rfl, List.forall_mem_cons.mpr ⟨rfl, List.forall_mem_cons.mpr ⟨rfl, List.forall_mem_cons.mpr ⟨rfl, List.forall_mem_cons.mpr ⟨rfl, List.forall_mem_cons.mpr ⟨rfl, fun _ h => absurd h List.not_mem_nil⟩⟩⟩⟩⟩⟩⟩) (L (2 ^ r 5 + 1) 0 D (by omega) (by omega) SX.rf)
        · skip
          rw [bI_0] at c34
          refine r_ldc wc_X5_77 dX5_fewest_37 ?_
          refine r_iret2 dX5_fewest_39 rfl ⟨Nat.zero_le _, Nat.zero_le _⟩ ?_
          refine ⟨?_, SX.rf, rfl⟩
          unfold g_fewest
          rw [if_pos c4]
          first | rw [if_neg c15] | rw [if_pos c15, if_neg c25] | rw [if_pos c15, if_pos c25, if_neg c34]
  · skip
    rw [bI_0] at c4
    refine r_ldc wc_X5_152 dX5_fewest_7 ?_
    refine r_iret2 dX5_fewest_9 rfl ⟨Nat.zero_le _, Nat.zero_le _⟩ ?_
    refine ⟨?_, SX.rf, rfl⟩
    rw [if_neg c4]
set_option maxRecDepth 100000 in
set_option maxHeartbeats 4000000 in
theorem c_X5_hard (B : Nat) (D : DD) (E : EE) (wy : Nat → Nat) (r : Row) (hX : XL D wy r) (x y : Int32) : MR yX5_hard cX5_hard 4 (some .int) rX5_hard B [.ref (B + 0), .int x, .int y] Z0 D E (Q2 Z0 (pI (fun v D' E' => v = (g_hard wy r x y) ∧ SX D D' ∧ E' = E))) := by
  obtain ⟨hO, hCn, hLl, hYY⟩ := id hX
  obtain ⟨l0, l5, l4, l6, l7, l8, l1⟩ := hO.le
  refine r_enter [(0, .ref (B + 0)), (1, .int x), (2, .int y)] hv_X5_hard.1.2.2.2.2 (Nat.le_of_ble_eq_true rfl) rfl ?_
  refine r_aload_n dX5_hard_0 rfl ?_
  refine r_iload_n dX5_hard_1 rfl ?_
  refine r_callVI (As := [.int x]) (o := 0) (c_X5_isWisher B D E x (r 5) hLl.1.2.2.2.2) hv_X5_isWisher wm_X5_172 dX5_hard_2 rfl rfl z_0 k_0 (by decide) rfl (Nat.le_of_ble_eq_true rfl) ⟨Nat.le_of_ble_eq_true rfl, Nat.le_of_ble_eq_true rfl, Nat.zero_le _, Nat.zero_le _⟩ ⟨rfl, rfl⟩ (fun z1 D2 E3 hz1 => ?_)
  obtain ⟨hqV, hqD, hqE⟩ := hz1
  obtain rfl : z1 = bI (nI 0 ≤ x ∧ x ≤ nI (r 5) - nI 1) := hqV
  obtain rfl := hqD.symm
  obtain rfl := hqE.symm
  refine r_if_eq (tgt := 18) dX5_hard_5 (by decide) (fun c5 => ?_) (fun c5 => ?_)
  · skip
    rw [bI_0] at c5
    refine r_ldc wc_X5_77 dX5_hard_18 ?_
    refine r_iret2 dX5_hard_20 rfl ⟨Nat.zero_le _, Nat.zero_le _⟩ ?_
    refine ⟨?_, SX.rf, rfl⟩
    unfold g_hard
    first | rw [if_neg c5] | rw [if_pos c5, if_neg c15]
  · skip
    rw [bI_n0] at c5
    obtain ⟨w, hw1, rfl⟩ := gd_n (by omega) c5
    obtain ⟨hW, hT, hH⟩ := hO.w hw1
    have hY := hYY hW
    obtain ⟨b1, b2, b3, b4, b5, b6, b7, b8⟩ := hW.1
    obtain ⟨⟨d1, d2⟩, d3, d4, d5, d6, ⟨d7, d8⟩, d9, d10⟩ := hW.2.2.1 w hw1
    refine r_iload_n dX5_hard_8 rfl ?_
    refine r_iconst (nI 1) dX5_hard_9 (by decide) ?_
    refine r_bipush (nI 24) dX5_hard_10 (by decide) ?_
    refine r_callSI (As := [.int y, .int (nI 1), .int (nI 24)]) (c_X5_within B D E y (nI 1) (nI 24)) hs_X5_within wm_X5_73 rfl dX5_hard_12 rfl rfl (Nat.le_of_ble_eq_true rfl) ⟨Nat.le_of_ble_eq_true rfl, Nat.le_of_ble_eq_true rfl, Nat.zero_le _, Nat.zero_le _⟩ ⟨rfl, rfl⟩ (fun z4 D5 E6 hz4 => ?_)
    obtain ⟨hqV, hqD, hqE⟩ := hz4
    obtain rfl : z4 = bI (nI 1 ≤ y ∧ y ≤ nI 24) := hqV
    obtain rfl := hqD.symm
    obtain rfl := hqE.symm
    refine r_if_ne (tgt := 21) dX5_hard_15 (by decide) (fun c15 => ?_) (fun c15 => ?_)
    · skip
      rw [bI_n0] at c15
      obtain ⟨n, hn1, hn2, rfl⟩ := rg (by decide) (by decide) c15
      refine r_iconst (nI 0) dX5_hard_21 (by decide) ?_
      refine r_istore_n [(3, .int (nI 0)), (0, .ref (B + 0)), (1, .int (nI w)), (2, .int (nI n))] dX5_hard_22 (by decide) rfl ?_
      have L : ∀ (fu k : Nat) (Dk : DD), k ≤ 41 → 41 - k < fu → (SX D Dk ∧ ∀ j, j < k → (s_hours wy n (rset r (19 + 8 * w) j) 1 == r (18 + 8 * w)) = false) → RW yX5_hard cX5_hard 4 (some .int) rX5_hard B (Q2 Z0 (pI (fun v D' E' => v = (g_hard wy r (nI w) (nI n)) ∧ SX D D' ∧ E' = E))) Z0 Dk E 0 0 23 [(3, .int (nI k)), (0, .ref (B + 0)), (1, .int (nI w)), (2, .int (nI n))] [] := by
        intro fu
        induction fu with
        | zero => intro k Dk hku hfu _; omega
        | succ fu ih =>
          intro k Dk hku hfu hI
          refine r_iload_n dX5_hard_23 rfl ?_
          refine r_bipush (nI 40) dX5_hard_24 (by decide) ?_
          refine r_icmp_gt (tgt := 89) dX5_hard_26 (by decide) (fun c26 => ?_) (fun c26 => ?_)
          · skip
            rw [nI_ltI (by omega) (by omega)] at c26
            refine r_ldc wc_X5_232 dX5_hard_89 ?_
            refine r_iret2 dX5_hard_91 rfl ⟨Nat.zero_le _, Nat.zero_le _⟩ ?_
            refine ⟨?_, hI.1, rfl⟩
            unfold g_hard
            rw [if_pos c5, if_pos c15, nI_clamp (show n < 2 ^ 31 by omega), nI_clamp (show w < 2 ^ 31 by omega), s_find_n (P := fun s => s_hours wy n (rset r (19 + 8 * w) s) 1 == r (18 + 8 * w)) _ (fun j hj => hI.2 j (by omega))]
            rfl
          · skip
            rw [nI_ltI (by omega) (by omega)] at c26
            refine r_aload_n dX5_hard_29 rfl ?_
            refine r_getR (ci := 5) (k := 5) wf_X5_44 dX5_hard_30 z_0 k_0 (by decide) (by decide) (fun _ _ => rfl) f_0_5 ?_
            refine r_aload_n dX5_hard_33 rfl ?_
            refine r_getR (ci := 5) (k := 3) wf_X5_33 dX5_hard_34 z_0 k_0 (by decide) (by decide) (fun _ _ => rfl) f_0_3 ?_
            refine r_callVV (As := [.ref (B + 21)]) (o := 173) (c_X0_take B Dk E 173 21 isC_p isC_n dj_pn) hv_X0_take wm_X5_140 dX5_hard_37 rfl rfl z_173 k_173 (by decide) rfl (Nat.le_of_ble_eq_true rfl) ⟨Nat.le_of_ble_eq_true rfl, Nat.le_of_ble_eq_true rfl, Nat.zero_le _, Nat.zero_le _⟩ ⟨rfl, rfl⟩ (fun D8 E9 hz7 => ?_)
            obtain ⟨hqD, hqE⟩ := hz7
            obtain rfl := hqE.symm
            have hP : XP Dk D8 r := by rw [hqD]; exact XP.take l5 (hI.1.now hCn)
            refine r_aload_n dX5_hard_40 rfl ?_
            refine r_getR (ci := 5) (k := 5) wf_X5_44 dX5_hard_41 z_0 k_0 (by decide) (by decide) (fun _ _ => rfl) f_0_5 ?_
            refine r_getR (ci := 0) (k := 8) wf_X5_181 dX5_hard_44 z_173 k_173 (by decide) (by decide) (fun _ _ => rfl) f_173_8 ?_
            refine r_iload_n dX5_hard_47 rfl ?_
            refine r_iload_n dX5_hard_48 rfl ?_
            refine r_iast dX5_hard_49 z_176 k_176 (vp_in_nI (by omega) (by decide)) (fun D10 hD10 => ?_)
            rw [nI_clamp (by omega)] at hD10
            obtain rfl : D10 = upo D8 176 (upd (D8 176) w (nI k)) := hD10.trans up2_eq
            refine r_aload_n dX5_hard_50 rfl ?_
            refine r_getR (ci := 5) (k := 5) wf_X5_44 dX5_hard_51 z_0 k_0 (by decide) (by decide) (fun _ _ => rfl) f_0_5 ?_
            refine r_aload_n dX5_hard_54 rfl ?_
            refine r_getR (ci := 5) (k := 2) wf_X5_26 dX5_hard_55 z_0 k_0 (by decide) (by decide) (fun _ _ => rfl) f_0_2 ?_
            refine r_iload_n dX5_hard_58 rfl ?_
            refine r_callVV (As := [.ref (B + 15), .int (nI n)]) (o := 173) (c_X0_passMany B (upo D8 176 (upd (D8 176) w (nI k))) E 173 15 isC_p isL_l (dj15 (Or.inr rfl)) (rset r (19 + 8 * w) k) wy (WF_set hW (Or.inr ⟨w, hw1, by omega⟩)) 999 (HB_set hH (by omega)) n (by omega) (by omega) (CA_str hP.1) (LA_set (LA_upo ((hI.1.trans hP.2).LA hLl) (fun j hj => by omega)) (by omega)) (WY_set hY (by omega)) (T2_set hT (by omega))) hv_X0_passMany wm_X5_225 dX5_hard_59 rfl rfl z_173 k_173 (by decide) rfl (Nat.le_of_ble_eq_true rfl) ⟨Nat.le_of_ble_eq_true rfl, Nat.le_of_ble_eq_true rfl, Nat.zero_le _, Nat.zero_le _⟩ ⟨rfl, rfl⟩ (fun D12 E13 hz11 => ?_)
            obtain ⟨hF9, hC9, hqE⟩ := hz11
            obtain rfl := hqE.symm
            have hS9 : SX D D12 := hI.1.trans (fun q h1 h2 => (hF9 q (by omega) (by omega) (by omega)).trans ((upo_n (by omega)).trans (hP.2 q h1 h2)))
            have hk := (s_hours_k (WF_set (k := 19 + 8 * w) (v := k) hW (Or.inr ⟨w, hw1, by omega⟩)) (T2_set hT (by omega)) (HB_set hH (by omega)) (WY_set hY (by omega)) n).1.1
            obtain ⟨k1, k2, k3, -⟩ := hk
            refine r_aload_n dX5_hard_62 rfl ?_
            refine r_getR (ci := 5) (k := 5) wf_X5_44 dX5_hard_63 z_0 k_0 (by decide) (by decide) (fun _ _ => rfl) f_0_5 ?_
            refine r_getI (ci := 0) (k := 1) wf_X5_169 dX5_hard_66 z_173 k_173 (by decide) (by decide) rfl (fun z14 hz14 => ?_)
            obtain rfl : z14 = nI (s_hours wy n (rset r (19 + 8 * w) k) 1) := hz14.trans hC9.1.2.1
            refine r_aload_n dX5_hard_69 rfl ?_
            refine r_getR (ci := 5) (k := 5) wf_X5_44 dX5_hard_70 z_0 k_0 (by decide) (by decide) (fun _ _ => rfl) f_0_5 ?_
            refine r_getR (ci := 0) (k := 7) wf_X5_178 dX5_hard_73 z_173 k_173 (by decide) (by decide) (fun _ _ => rfl) f_173_7 ?_
            refine r_iload_n dX5_hard_76 rfl ?_
            refine r_iald dX5_hard_77 z_175 k_175 (vp_in_nI (by omega) (by decide)) (fun z15 hz15 => ?_)
            rw [nI_clamp (by omega)] at hz15
            obtain rfl : z15 = nI (r (18 + 8 * w)) := hz15.trans ((hC9.2.1 w (by rw [s_hours_o (by omega) (by omega), rset_n (by omega)]; exact hw1)).2.1.trans (congrArg nI ((s_hours_o (by omega) (by omega) _).trans (rset_n (by omega)))))
            refine r_icmp_ne (tgt := 83) dX5_hard_78 (by decide) (fun c78 => ?_) (fun c78 => ?_)
            · skip
              rw [nI_eq (by omega) (by omega)] at c78
              refine r_iinc (nI (k + 1)) [(3, .int (nI (k + 1))), (0, .ref (B + 0)), (1, .int (nI w)), (2, .int (nI n))] dX5_hard_83 rfl (nI_1 _) (by decide) rfl ?_
              refine r_goto (tgt := 23) dX5_hard_86 (by decide) ?_
              exact r_lv [(3, .int (nI (k + 1))), (0, .ref (B + 0)), (1, .int (nI w)), (2, .int (nI n))] (List.forall_mem_cons.mpr ⟨rfl, List.forall_mem_cons.mpr ⟨rfl, List.forall_mem_cons.mpr ⟨rfl, List.forall_mem_cons.mpr ⟨rfl, fun _ h => absurd h List.not_mem_nil⟩⟩⟩⟩) (ih (k + 1) D12 (by omega) (by omega) (⟨hS9, fun j hj => (Nat.lt_succ_iff_lt_or_eq.mp hj).elim (fun h => hI.2 j h) (fun h => h ▸ beq_eq_false_iff_ne.mpr c78)⟩))
            · skip
              rw [nI_eq (by omega) (by omega)] at c78
              refine r_iload_n dX5_hard_81 rfl ?_
              refine r_iret2 dX5_hard_82 rfl ⟨Nat.zero_le _, Nat.zero_le _⟩ ?_
              refine ⟨?_, hS9, rfl⟩
              unfold g_hard
              rw [if_pos c5, if_pos c15, nI_clamp (show n < 2 ^ 31 by omega), nI_clamp (show w < 2 ^ 31 by omega), s_find_s (P := fun s => s_hours wy n (rset r (19 + 8 * w) s) 1 == r (18 + 8 * w)) (k := k) (beq_iff_eq.mpr c78) hI.2 _ (by omega)]
              rfl
      exact r_lv [(3, .int (nI 0)), (0, .ref (B + 0)), (1, .int (nI w)), (2, .int (nI n))] (List.forall_mem_cons.mpr ⟨rfl, List.forall_mem_cons.mpr ⟨rfl, List.forall_mem_cons.mpr ⟨rfl, List.forall_mem_cons.mpr ⟨rfl, fun _ h => absurd h List.not_mem_nil⟩⟩⟩⟩) (L (41 + 1) 0 D (by omega) (by omega) (⟨SX.rf, fun j hj => absurd hj (Nat.not_lt_zero j)⟩))
    · skip
      rw [bI_0] at c15
      refine r_ldc wc_X5_77 dX5_hard_18 ?_
      refine r_iret2 dX5_hard_20 rfl ⟨Nat.zero_le _, Nat.zero_le _⟩ ?_
      refine ⟨?_, SX.rf, rfl⟩
      unfold g_hard
      first | rw [if_neg c5] | rw [if_pos c5, if_neg c15]
set_option maxRecDepth 100000 in
set_option maxHeartbeats 4000000 in
theorem c_X5_stolen (B : Nat) (D : DD) (E : EE) (wy : Nat → Nat) (r : Row) (hX : XL D wy r) (pl x y : Int32) : MR yX5_stolen cX5_stolen 6 (some .int) rX5_stolen B [.ref (B + 0), .int pl, .int x, .int y] Z0 D E (Q2 Z0 (pI (fun v D' E' => v = (if 0 < r 0 then g_stolen wy r pl x y else -1000002) ∧ SX D D' ∧ E' = E))) := by
  obtain ⟨hO, hCn, hLl, hYY⟩ := id hX
  obtain ⟨l0, l5, l4, l6, l7, l8, l1⟩ := hO.le
  refine r_enter [(0, .ref (B + 0)), (1, .int pl), (2, .int x), (3, .int y)] hv_X5_stolen.1.2.2.2.2 (Nat.le_of_ble_eq_true rfl) rfl ?_
  refine r_aload_n dX5_stolen_0 rfl ?_
  refine r_callVI (As := []) (o := 0) (c_X5_hasLand B D E (r 0) hLl.1.1 l0) hv_X5_hasLand wm_X5_156 dX5_stolen_1 rfl rfl z_0 k_0 (by decide) rfl (Nat.le_of_ble_eq_true rfl) ⟨Nat.le_of_ble_eq_true rfl, Nat.le_of_ble_eq_true rfl, Nat.zero_le _, Nat.zero_le _⟩ ⟨rfl, rfl⟩ (fun z1 D2 E3 hz1 => ?_)
  obtain ⟨hqV, hqD, hqE⟩ := hz1
  obtain rfl : z1 = bI (0 < r 0) := hqV
  obtain rfl := hqD.symm
  obtain rfl := hqE.symm
  refine r_if_ne (tgt := 10) dX5_stolen_4 (by decide) (fun c4 => ?_) (fun c4 => ?_)
  · skip
    rw [bI_n0] at c4
    obtain ⟨hW, hT, hH⟩ := hO.p c4
    have hY := hYY hW
    obtain ⟨b1, b2, b3, b4, b5, b6, b7, b8⟩ := hW.1
    refine r_aload_n dX5_stolen_10 rfl ?_
    refine r_iload_n dX5_stolen_11 rfl ?_
    refine r_callVI (As := [.int pl]) (o := 0) (c_X5_isPlace B D E pl (r 0) hLl.1.1) hv_X5_isPlace wm_X5_175 dX5_stolen_12 rfl rfl z_0 k_0 (by decide) rfl (Nat.le_of_ble_eq_true rfl) ⟨Nat.le_of_ble_eq_true rfl, Nat.le_of_ble_eq_true rfl, Nat.zero_le _, Nat.zero_le _⟩ ⟨rfl, rfl⟩ (fun z4 D5 E6 hz4 => ?_)
    obtain ⟨hqV, hqD, hqE⟩ := hz4
    obtain rfl : z4 = bI (nI 0 ≤ pl ∧ pl ≤ nI (r 0) - nI 1) := hqV
    obtain rfl := hqD.symm
    obtain rfl := hqE.symm
    refine r_if_eq (tgt := 38) dX5_stolen_15 (by decide) (fun c15 => ?_) (fun c15 => ?_)
    · skip
      rw [bI_0] at c15
      refine r_ldc wc_X5_77 dX5_stolen_38 ?_
      refine r_iret2 dX5_stolen_40 rfl ⟨Nat.zero_le _, Nat.zero_le _⟩ ?_
      refine ⟨?_, SX.rf, rfl⟩
      unfold g_stolen
      rw [if_pos c4]
      first | rw [if_neg c15] | rw [if_pos c15, if_neg c25] | rw [if_pos c15, if_pos c25, if_neg c35]
    · skip
      rw [bI_n0] at c15
      obtain ⟨p, hp1, rfl⟩ := gd_n (by omega) c15
      refine r_iload_n dX5_stolen_18 rfl ?_
      refine r_iconst (nI 0) dX5_stolen_19 (by decide) ?_
      refine r_bipush (nI 60) dX5_stolen_20 (by decide) ?_
      refine r_callSI (As := [.int x, .int (nI 0), .int (nI 60)]) (c_X5_within B D E x (nI 0) (nI 60)) hs_X5_within wm_X5_73 rfl dX5_stolen_22 rfl rfl (Nat.le_of_ble_eq_true rfl) ⟨Nat.le_of_ble_eq_true rfl, Nat.le_of_ble_eq_true rfl, Nat.zero_le _, Nat.zero_le _⟩ ⟨rfl, rfl⟩ (fun z7 D8 E9 hz7 => ?_)
      obtain ⟨hqV, hqD, hqE⟩ := hz7
      obtain rfl : z7 = bI (nI 0 ≤ x ∧ x ≤ nI 60) := hqV
      obtain rfl := hqD.symm
      obtain rfl := hqE.symm
      refine r_if_eq (tgt := 38) dX5_stolen_25 (by decide) (fun c25 => ?_) (fun c25 => ?_)
      · skip
        rw [bI_0] at c25
        refine r_ldc wc_X5_77 dX5_stolen_38 ?_
        refine r_iret2 dX5_stolen_40 rfl ⟨Nat.zero_le _, Nat.zero_le _⟩ ?_
        refine ⟨?_, SX.rf, rfl⟩
        unfold g_stolen
        rw [if_pos c4]
        first | rw [if_neg c15] | rw [if_pos c15, if_neg c25] | rw [if_pos c15, if_pos c25, if_neg c35]
      · skip
        rw [bI_n0] at c25
        obtain ⟨s, hs1, hs2, rfl⟩ := rg (by decide) (by decide) c25
        refine r_iload_n dX5_stolen_28 rfl ?_
        refine r_iconst (nI 1) dX5_stolen_29 (by decide) ?_
        refine r_bipush (nI 24) dX5_stolen_30 (by decide) ?_
        refine r_callSI (As := [.int y, .int (nI 1), .int (nI 24)]) (c_X5_within B D E y (nI 1) (nI 24)) hs_X5_within wm_X5_73 rfl dX5_stolen_32 rfl rfl (Nat.le_of_ble_eq_true rfl) ⟨Nat.le_of_ble_eq_true rfl, Nat.le_of_ble_eq_true rfl, Nat.zero_le _, Nat.zero_le _⟩ ⟨rfl, rfl⟩ (fun z10 D11 E12 hz10 => ?_)
        obtain ⟨hqV, hqD, hqE⟩ := hz10
        obtain rfl : z10 = bI (nI 1 ≤ y ∧ y ≤ nI 24) := hqV
        obtain rfl := hqD.symm
        obtain rfl := hqE.symm
        refine r_if_ne (tgt := 41) dX5_stolen_35 (by decide) (fun c35 => ?_) (fun c35 => ?_)
        · skip
          rw [bI_n0] at c35
          obtain ⟨n, hn1, hn2, rfl⟩ := rg (by decide) (by decide) c35
          refine r_aload_n dX5_stolen_41 rfl ?_
          refine r_getR (ci := 5) (k := 5) wf_X5_44 dX5_stolen_42 z_0 k_0 (by decide) (by decide) (fun _ _ => rfl) f_0_5 ?_
          refine r_aload_n dX5_stolen_45 rfl ?_
          refine r_getR (ci := 5) (k := 3) wf_X5_33 dX5_stolen_46 z_0 k_0 (by decide) (by decide) (fun _ _ => rfl) f_0_3 ?_
          refine r_callVV (As := [.ref (B + 21)]) (o := 173) (c_X0_take B D E 173 21 isC_p isC_n dj_pn) hv_X0_take wm_X5_140 dX5_stolen_49 rfl rfl z_173 k_173 (by decide) rfl (Nat.le_of_ble_eq_true rfl) ⟨Nat.le_of_ble_eq_true rfl, Nat.le_of_ble_eq_true rfl, Nat.zero_le _, Nat.zero_le _⟩ ⟨rfl, rfl⟩ (fun D14 E15 hz13 => ?_)
          obtain ⟨hqD, hqE⟩ := hz13
          obtain rfl := hqE.symm
          have hP : XP D D14 r := by rw [hqD]; exact XP.take l5 hCn
          refine r_iconst (nI 0) dX5_stolen_52 (by decide) ?_
          refine r_istore [(4, .int (nI 0)), (0, .ref (B + 0)), (1, .int (nI p)), (2, .int (nI s)), (3, .int (nI n))] dX5_stolen_53 (by decide) rfl ?_
          refine r_iconst (nI 0) dX5_stolen_55 (by decide) ?_
          refine r_istore [(5, .int (nI 0)), (4, .int (nI 0)), (0, .ref (B + 0)), (1, .int (nI p)), (2, .int (nI s)), (3, .int (nI n))] dX5_stolen_56 (by decide) rfl ?_
          refine r_lv [(5, .int (nI 0)), (4, .int (nI (s_sb wy r p (nI s) 0))), (0, .ref (B + 0)), (1, .int (nI p)), (2, .int (nI s)), (3, .int (nI n))] (List.forall_mem_cons.mpr ⟨rfl, List.forall_mem_cons.mpr ⟨congrArg (fun x => some (Value.int x)) rfl, List.forall_mem_cons.mpr ⟨rfl, List.forall_mem_cons.mpr ⟨rfl, List.forall_mem_cons.mpr ⟨rfl, List.forall_mem_cons.mpr ⟨rfl, fun _ h => absurd h List.not_mem_nil⟩⟩⟩⟩⟩⟩) ?_
          have L : ∀ (fu k : Nat) (Dk : DD), k ≤ n → n - k < fu → (XP D Dk (s_hours wy k r)) → RW yX5_stolen cX5_stolen 6 (some .int) rX5_stolen B (Q2 Z0 (pI (fun v D' E' => v = (if 0 < r 0 then g_stolen wy r (nI p) (nI s) (nI n) else -1000002) ∧ SX D D' ∧ E' = E))) Z0 Dk E 0 0 58 [(5, .int (nI k)), (4, .int (nI (s_sb wy r p (nI s) k))), (0, .ref (B + 0)), (1, .int (nI p)), (2, .int (nI s)), (3, .int (nI n))] [] := by
            intro fu
            induction fu with
            | zero => intro k Dk hku hfu _; omega
            | succ fu ih =>
              intro k Dk hku hfu hI
              refine r_iload dX5_stolen_58 rfl ?_
              refine r_iload_n dX5_stolen_60 rfl ?_
              refine r_icmp_ge (tgt := 129) dX5_stolen_61 (by decide) (fun c61 => ?_) (fun c61 => ?_)
              · skip
                rw [nI_leI (by omega) (by omega)] at c61
                refine r_iload dX5_stolen_129 rfl ?_
                refine r_iret2 dX5_stolen_131 rfl ⟨Nat.zero_le _, Nat.zero_le _⟩ ?_
                have hkn : k = n := by omega
                refine ⟨?_, hI.2, rfl⟩
                unfold g_stolen
                rw [if_pos c4, if_pos c15, if_pos c25, if_pos c35, nI_clamp (show p < 2 ^ 31 by omega), nI_clamp (show n < 2 ^ 31 by omega), hkn]
              · skip
                rw [nI_leI (by omega) (by omega)] at c61
                have hk := s_hours_k hW hT hH hY k
                obtain ⟨kb1, kb2, kb3, kb4, kb5, kb6, kb7, kb8⟩ := hk.1.1
                have hr0 : s_hours wy k r 0 = r 0 := s_hours_o (by omega) (by omega) k
                refine r_aload_n dX5_stolen_64 rfl ?_
                refine r_getR (ci := 5) (k := 5) wf_X5_44 dX5_stolen_65 z_0 k_0 (by decide) (by decide) (fun _ _ => rfl) f_0_5 ?_
                refine r_aload_n dX5_stolen_68 rfl ?_
                refine r_getR (ci := 5) (k := 2) wf_X5_26 dX5_stolen_69 z_0 k_0 (by decide) (by decide) (fun _ _ => rfl) f_0_2 ?_
                refine r_callVV (As := [.ref (B + 15)]) (o := 173) (c_X0_weigh B Dk E 173 15 isC_p isL_l (dj15 (Or.inr rfl)) (s_hours wy k r) wy hk.1 (999 + k) hk.2.2.1 (by omega) hI.1 (hI.2.LA (LA_hours hLl k)) hk.2.2.2 hk.2.1) hv_X0_weigh wm_X5_210 dX5_stolen_72 rfl rfl z_173 k_173 (by decide) rfl (Nat.le_of_ble_eq_true rfl) ⟨Nat.le_of_ble_eq_true rfl, Nat.le_of_ble_eq_true rfl, Nat.zero_le _, Nat.zero_le _⟩ ⟨rfl, rfl⟩ (fun D17 E18 hz16 => ?_)
                obtain ⟨⟨g5, hqD, hg⟩, hqE⟩ := hz16
                obtain rfl := hqE.symm
                subst hqD
                refine r_aload_n dX5_stolen_75 rfl ?_
                refine r_getR (ci := 5) (k := 5) wf_X5_44 dX5_stolen_76 z_0 k_0 (by decide) (by decide) (fun _ _ => rfl) f_0_5 ?_
                refine r_getR (ci := 0) (k := 10) wf_X5_213 dX5_stolen_79 z_173 k_173 (by decide) (by decide) (fun _ _ => rfl) f_173_10 ?_
                refine r_iload_n dX5_stolen_82 rfl ?_
                refine r_dup2 dX5_stolen_83 rfl rfl ?_
                refine r_iald dX5_stolen_84 z_178 k_178 (vp_in_nI (by omega) (by decide)) (fun z19 hz19 => ?_)
                rw [nI_clamp (by omega)] at hz19
                obtain rfl : z19 = g5 p := hz19.trans (congrFun upo_s p)
                refine r_iload_n dX5_stolen_85 rfl ?_
                refine r_iadd dX5_stolen_86 (fun z20 hz20 => ?_)
                subst hz20
                refine r_iast dX5_stolen_87 z_178 k_178 (vp_in_nI (by omega) (by decide)) (fun D21 hD21 => ?_)
                rw [nI_clamp (by omega)] at hD21
                obtain rfl : D21 = upo Dk 178 (upd g5 p (g5 p + nI s)) := hD21.trans up2_upo
                refine r_aload_n dX5_stolen_88 rfl ?_
                refine r_getR (ci := 5) (k := 5) wf_X5_44 dX5_stolen_89 z_0 k_0 (by decide) (by decide) (fun _ _ => rfl) f_0_5 ?_
                refine r_aload_n dX5_stolen_92 rfl ?_
                refine r_getR (ci := 5) (k := 2) wf_X5_26 dX5_stolen_93 z_0 k_0 (by decide) (by decide) (fun _ _ => rfl) f_0_2 ?_
                refine r_callVI (As := [.ref (B + 15)]) (o := 173) (c_X0_goesTo B (upo Dk 178 (upd g5 p (g5 p + nI s))) E 173 15 isC_p isL_l (dj15 (Or.inr rfl)) (s_hours wy k r) wy hk.1 (999 + k) hk.2.2.1 (by omega) (CA_upo hI.1 (fun j hj => by omega)) (LA_upo (hI.2.LA (LA_hours hLl k)) (fun j hj => by omega)) hk.2.2.2 (s_pull wy (s_hours wy k r) 63 p (nI s)) (fun q hq => (congrFun upo_s q).trans (by rw [s_pull_shift]; unfold upd; by_cases e : q = p; (rw [if_pos e, if_pos e, ← e, hg q hq]); (rw [if_neg e, if_neg e, hg q hq, nI_0, Int32.add_zero])))) hv_X0_goesTo wm_X5_240 dX5_stolen_96 rfl rfl z_173 k_173 (by decide) rfl (Nat.le_of_ble_eq_true rfl) ⟨Nat.le_of_ble_eq_true rfl, Nat.le_of_ble_eq_true rfl, Nat.zero_le _, Nat.zero_le _⟩ ⟨rfl, rfl⟩ (fun z22 D23 E24 hz22 => ?_)
                obtain ⟨hqV, hqD, hqE⟩ := hz22
                obtain rfl : z22 = nI (s_st wy (s_hours wy k r) p (nI s)) := hqV
                obtain rfl := hqD.symm
                obtain rfl := hqE.symm
                refine r_iload_n dX5_stolen_99 rfl ?_
                have hst9 : s_st wy (s_hours wy k r) p (nI s) < 6 := by
                  unfold s_st
                  rcases s_to_ok (f := s_pull wy (s_hours wy k r) 63 p (nI s)) kb3 with h | h
                  · rw [if_pos h]; omega
                  · rw [if_neg (by omega)]; omega
                refine r_icmp_ne (tgt := 112) dX5_stolen_100 (by decide) (fun c100 => ?_) (fun c100 => ?_)
                · skip
                  rw [nI_eq (by omega) (by omega)] at c100
                  refine r_lv [(5, .int (nI k)), (4, .int (nI (s_sb wy r p (nI s) (k + 1)))), (0, .ref (B + 0)), (1, .int (nI p)), (2, .int (nI s)), (3, .int (nI n))] (List.forall_mem_cons.mpr ⟨rfl, List.forall_mem_cons.mpr ⟨congrArg (fun x => some (Value.int x)) (congrArg nI (by show _ = (if _ then _ else _); rw [if_neg c100])), List.forall_mem_cons.mpr ⟨rfl, List.forall_mem_cons.mpr ⟨rfl, List.forall_mem_cons.mpr ⟨rfl, List.forall_mem_cons.mpr ⟨rfl, fun _ h => absurd h List.not_mem_nil⟩⟩⟩⟩⟩⟩) ?_
                  refine r_aload_n dX5_stolen_112 rfl ?_
                  refine r_getR (ci := 5) (k := 5) wf_X5_44 dX5_stolen_113 z_0 k_0 (by decide) (by decide) (fun _ _ => rfl) f_0_5 ?_
                  refine r_aload_n dX5_stolen_116 rfl ?_
                  refine r_getR (ci := 5) (k := 2) wf_X5_26 dX5_stolen_117 z_0 k_0 (by decide) (by decide) (fun _ _ => rfl) f_0_2 ?_
                  refine r_callVV (As := [.ref (B + 15)]) (o := 173) (c_X0_pass B (upo Dk 178 (upd g5 p (g5 p + nI s))) E 173 15 isC_p isL_l (dj15 (Or.inr rfl)) (s_hours wy k r) wy hk.1 (999 + k) hk.2.2.1 (by omega) (CA_upo hI.1 (fun j hj => by omega)) (LA_upo (hI.2.LA (LA_hours hLl k)) (fun j hj => by omega)) hk.2.2.2 hk.2.1) hv_X0_pass wm_X5_166 dX5_stolen_120 rfl rfl z_173 k_173 (by decide) rfl (Nat.le_of_ble_eq_true rfl) ⟨Nat.le_of_ble_eq_true rfl, Nat.le_of_ble_eq_true rfl, Nat.zero_le _, Nat.zero_le _⟩ ⟨rfl, rfl⟩ (fun D26 E27 hz25 => ?_)
                  obtain ⟨hF9, hC9, hqE⟩ := hz25
                  obtain rfl := hqE.symm
                  have hP2 : XP D D26 (s_hours wy (k + 1) r) := ⟨hC9, fun q h1 h2 => (hF9 q (by omega) (by omega) (by omega)).trans ((upo_n (by omega)).trans (hI.2 q h1 h2))⟩
                  refine r_iinc (nI (k + 1)) [(5, .int (nI (k + 1))), (4, .int (nI (s_sb wy r p (nI s) (k + 1)))), (0, .ref (B + 0)), (1, .int (nI p)), (2, .int (nI s)), (3, .int (nI n))] dX5_stolen_123 rfl (nI_1 _) (by decide) rfl ?_
                  refine r_goto (tgt := 58) dX5_stolen_126 (by decide) ?_
                  exact r_lv [(5, .int (nI (k + 1))), (4, .int (nI (s_sb wy r p (nI s) (k + 1)))), (0, .ref (B + 0)), (1, .int (nI p)), (2, .int (nI s)), (3, .int (nI n))] (List.forall_mem_cons.mpr ⟨rfl, List.forall_mem_cons.mpr ⟨rfl, List.forall_mem_cons.mpr ⟨rfl, List.forall_mem_cons.mpr ⟨rfl, List.forall_mem_cons.mpr ⟨rfl, List.forall_mem_cons.mpr ⟨rfl, fun _ h => absurd h List.not_mem_nil⟩⟩⟩⟩⟩⟩) (ih (k + 1) D26 (by omega) (by omega) hP2)
                · skip
                  rw [nI_eq (by omega) (by omega)] at c100
                  refine r_iload dX5_stolen_103 rfl ?_
                  refine r_iconst (nI 1) dX5_stolen_105 (by decide) ?_
                  refine r_iload dX5_stolen_106 rfl ?_
                  refine r_ishl dX5_stolen_108 (fun z28 hz28 => ?_)
                  obtain rfl : z28 = nI (2 ^ k) := hz28.trans (shl_1 (by omega))
                  refine r_ior dX5_stolen_109 (fun z29 hz29 => ?_)
                  obtain rfl : z29 = nI (s_sb wy r p (nI s) (k + 1)) := hz29.trans ((nI_or _ _).trans (congrArg nI (by show _ = (if _ then _ else _); rw [if_pos c100])))
                  refine r_istore [(4, .int (nI (s_sb wy r p (nI s) (k + 1)))), (5, .int (nI k)), (0, .ref (B + 0)), (1, .int (nI p)), (2, .int (nI s)), (3, .int (nI n))] dX5_stolen_110 (by decide) rfl ?_
                  refine r_aload_n dX5_stolen_112 rfl ?_
                  refine r_getR (ci := 5) (k := 5) wf_X5_44 dX5_stolen_113 z_0 k_0 (by decide) (by decide) (fun _ _ => rfl) f_0_5 ?_
                  refine r_aload_n dX5_stolen_116 rfl ?_
                  refine r_getR (ci := 5) (k := 2) wf_X5_26 dX5_stolen_117 z_0 k_0 (by decide) (by decide) (fun _ _ => rfl) f_0_2 ?_
                  refine r_callVV (As := [.ref (B + 15)]) (o := 173) (c_X0_pass B (upo Dk 178 (upd g5 p (g5 p + nI s))) E 173 15 isC_p isL_l (dj15 (Or.inr rfl)) (s_hours wy k r) wy hk.1 (999 + k) hk.2.2.1 (by omega) (CA_upo hI.1 (fun j hj => by omega)) (LA_upo (hI.2.LA (LA_hours hLl k)) (fun j hj => by omega)) hk.2.2.2 hk.2.1) hv_X0_pass wm_X5_166 dX5_stolen_120 rfl rfl z_173 k_173 (by decide) rfl (Nat.le_of_ble_eq_true rfl) ⟨Nat.le_of_ble_eq_true rfl, Nat.le_of_ble_eq_true rfl, Nat.zero_le _, Nat.zero_le _⟩ ⟨rfl, rfl⟩ (fun D31 E32 hz30 => ?_)
                  obtain ⟨hF9, hC9, hqE⟩ := hz30
                  obtain rfl := hqE.symm
                  have hP2 : XP D D31 (s_hours wy (k + 1) r) := ⟨hC9, fun q h1 h2 => (hF9 q (by omega) (by omega) (by omega)).trans ((upo_n (by omega)).trans (hI.2 q h1 h2))⟩
                  refine r_iinc (nI (k + 1)) [(5, .int (nI (k + 1))), (4, .int (nI (s_sb wy r p (nI s) (k + 1)))), (0, .ref (B + 0)), (1, .int (nI p)), (2, .int (nI s)), (3, .int (nI n))] dX5_stolen_123 rfl (nI_1 _) (by decide) rfl ?_
                  refine r_goto (tgt := 58) dX5_stolen_126 (by decide) ?_
                  exact r_lv [(5, .int (nI (k + 1))), (4, .int (nI (s_sb wy r p (nI s) (k + 1)))), (0, .ref (B + 0)), (1, .int (nI p)), (2, .int (nI s)), (3, .int (nI n))] (List.forall_mem_cons.mpr ⟨rfl, List.forall_mem_cons.mpr ⟨rfl, List.forall_mem_cons.mpr ⟨rfl, List.forall_mem_cons.mpr ⟨rfl, List.forall_mem_cons.mpr ⟨rfl, List.forall_mem_cons.mpr ⟨rfl, fun _ h => absurd h List.not_mem_nil⟩⟩⟩⟩⟩⟩) (ih (k + 1) D31 (by omega) (by omega) hP2)
          exact r_lv [(5, .int (nI 0)), (4, .int (nI (s_sb wy r p (nI s) 0))), (0, .ref (B + 0)), (1, .int (nI p)), (2, .int (nI s)), (3, .int (nI n))] (List.forall_mem_cons.mpr ⟨rfl, List.forall_mem_cons.mpr ⟨rfl, List.forall_mem_cons.mpr ⟨rfl, List.forall_mem_cons.mpr ⟨rfl, List.forall_mem_cons.mpr ⟨rfl, List.forall_mem_cons.mpr ⟨rfl, fun _ h => absurd h List.not_mem_nil⟩⟩⟩⟩⟩⟩) (L (n + 1) 0 D14 (by omega) (by omega) hP)
        · skip
          rw [bI_0] at c35
          refine r_ldc wc_X5_77 dX5_stolen_38 ?_
          refine r_iret2 dX5_stolen_40 rfl ⟨Nat.zero_le _, Nat.zero_le _⟩ ?_
          refine ⟨?_, SX.rf, rfl⟩
          unfold g_stolen
          rw [if_pos c4]
          first | rw [if_neg c15] | rw [if_pos c15, if_neg c25] | rw [if_pos c15, if_pos c25, if_neg c35]
  · skip
    rw [bI_0] at c4
    refine r_ldc wc_X5_152 dX5_stolen_7 ?_
    refine r_iret2 dX5_stolen_9 rfl ⟨Nat.zero_le _, Nat.zero_le _⟩ ?_
    refine ⟨?_, SX.rf, rfl⟩
    rw [if_neg c4]
