set_option maxRecDepth 100000 in
set_option maxHeartbeats 4000000 in
theorem c_X5_within (B : Nat) (D : DD) (E : EE) (a b c : Int32) : MR yX5_within cX5_within 3 (some .boolean) rX5_within B [.int a, .int b, .int c] Z0 D E (Q2 Z0 (pI (fun v D' E' => v = (bI (b ≤ a ∧ a ≤ c)) ∧ D' = D ∧ E' = E))) := by
  refine r_enter [(0, .int a), (1, .int b), (2, .int c)] hs_X5_within.1.2.2.2.2 (Nat.le_of_ble_eq_true rfl) rfl ?_
  refine r_iload_n dX5_within_0 rfl ?_
  refine r_iload_n dX5_within_1 rfl ?_
  refine r_icmp_lt (tgt := 14) dX5_within_2 (by decide) (fun c2 => ?_) (fun c2 => ?_)
  · skip
    refine r_iconst (nI 0) dX5_within_14 (by decide) ?_
    refine r_zret2 dX5_within_15 rfl ⟨Nat.zero_le _, Nat.zero_le _⟩ rfl ?_
    first | exact ⟨bI_t ⟨Int32.not_lt.mp c2, Int32.not_lt.mp c7⟩, rfl, rfl⟩ | exact ⟨bI_f (fun q => Int32.not_lt.mpr q.1 c2), rfl, rfl⟩ | exact ⟨bI_f (fun q => Int32.not_lt.mpr q.2 c7), rfl, rfl⟩
  · skip
    refine r_iload_n dX5_within_5 rfl ?_
    refine r_iload_n dX5_within_6 rfl ?_
    refine r_icmp_gt (tgt := 14) dX5_within_7 (by decide) (fun c7 => ?_) (fun c7 => ?_)
    · skip
      refine r_iconst (nI 0) dX5_within_14 (by decide) ?_
      refine r_zret2 dX5_within_15 rfl ⟨Nat.zero_le _, Nat.zero_le _⟩ rfl ?_
      first | exact ⟨bI_t ⟨Int32.not_lt.mp c2, Int32.not_lt.mp c7⟩, rfl, rfl⟩ | exact ⟨bI_f (fun q => Int32.not_lt.mpr q.1 c2), rfl, rfl⟩ | exact ⟨bI_f (fun q => Int32.not_lt.mpr q.2 c7), rfl, rfl⟩
    · skip
      refine r_iconst (nI 1) dX5_within_10 (by decide) ?_
      refine r_goto (tgt := 15) dX5_within_11 (by decide) ?_
      refine r_zret2 dX5_within_15 rfl ⟨Nat.zero_le _, Nat.zero_le _⟩ rfl ?_
      first | exact ⟨bI_t ⟨Int32.not_lt.mp c2, Int32.not_lt.mp c7⟩, rfl, rfl⟩ | exact ⟨bI_f (fun q => Int32.not_lt.mpr q.1 c2), rfl, rfl⟩ | exact ⟨bI_f (fun q => Int32.not_lt.mpr q.2 c7), rfl, rfl⟩
set_option maxRecDepth 100000 in
set_option maxHeartbeats 4000000 in
theorem c_X5_bit (B : Nat) (D : DD) (E : EE) (a b : Int32) : MR yX5_bit cX5_bit 2 (some .int) rX5_bit B [.int a, .int b] Z0 D E (Q2 Z0 (pI (fun v D' E' => v = (a >>> (b &&& 31) &&& nI 1) ∧ D' = D ∧ E' = E))) := by
  refine r_enter [(0, .int a), (1, .int b)] hs_X5_bit.1.2.2.2.2 (Nat.le_of_ble_eq_true rfl) rfl ?_
  refine r_iload_n dX5_bit_0 rfl ?_
  refine r_iload_n dX5_bit_1 rfl ?_
  refine r_ishr dX5_bit_2 (fun z1 hz1 => ?_)
  subst hz1
  refine r_iconst (nI 1) dX5_bit_3 (by decide) ?_
  refine r_iand dX5_bit_4 (fun z2 hz2 => ?_)
  subst hz2
  refine r_iret2 dX5_bit_5 rfl ⟨Nat.zero_le _, Nat.zero_le _⟩ ?_
  exact ⟨rfl, rfl, rfl⟩
set_option maxRecDepth 100000 in
set_option maxHeartbeats 4000000 in
theorem c_X1_way (B : Nat) (D : DD) (E : EE) (p a b : Nat) (hp : isL p) (h : 6 * a + b < 36) : MR yX1_way cX1_way 3 (some .int) rX1_way B [.ref (B + p), .int (nI a), .int (nI b)] Z0 D E (Q2 Z0 (pI (fun v D' E' => v = (D (p + 2) (6 * a + b)) ∧ D' = D ∧ E' = E))) := by
  refine r_enter [(0, .ref (B + p)), (1, .int (nI a)), (2, .int (nI b))] hv_X1_way.1.2.2.2.2 (Nat.le_of_ble_eq_true rfl) rfl ?_
  refine r_aload_n dX1_way_0 rfl ?_
  refine r_getR (ci := 1) (k := 6) wf_X1_15 dX1_way_1 hp.1.1 hp.2.1.1 (by decide) (by decide) (fun _ _ => rfl) hp.2.2.2.1 ?_
  refine r_bipush (nI 6) dX1_way_4 (by decide) ?_
  refine r_iload_n dX1_way_6 rfl ?_
  refine r_imul dX1_way_7 (fun z1 hz1 => ?_)
  obtain rfl : z1 = nI (6 * a) := (hz1.trans (pk_mul _ _))
  refine r_iload_n dX1_way_8 rfl ?_
  refine r_iadd dX1_way_9 (fun z2 hz2 => ?_)
  obtain rfl : z2 = nI ((6 * a) + b) := (hz2.trans (nI_add _ _))
  refine r_iald dX1_way_10 hp.1.2.2.1 hp.2.1.2.2.1 (vp_in_nI (by omega) (by decide)) (fun z3 hz3 => ?_)
  rw [nI_clamp (by omega)] at hz3
  subst hz3
  refine r_iret2 dX1_way_11 rfl ⟨Nat.zero_le _, Nat.zero_le _⟩ ?_
  exact ⟨rfl, rfl, rfl⟩
set_option maxRecDepth 100000 in
set_option maxHeartbeats 4000000 in
theorem c_X0_wishes (B : Nat) (D : DD) (E : EE) (o p : Nat) (ho : isC o) (hp : isL p) (hd : DJ o p) (r : Row) (wy : Nat → Nat) (hW : WF r) (b : Nat) (hH : HB r b) (hb : b < 2 ^ 20) (hC : CW D o r) (hL : LA D p wy r) (hY : WY wy r) (w : Nat) (hw : w < r 5) : MR yX0_wishes cX0_wishes 4 (some .boolean) rX0_wishes B [.ref (B + o), .ref (B + p), .int (nI w)] Z0 D E (Q2 Z0 (pI (fun v D' E' => v = (bI (s_wiB r w = true)) ∧ D' = D ∧ E' = E))) := by
  obtain ⟨⟨b1, b2, b3, b4, b5, b6, b7, b8⟩, b9, b10, b11⟩ := id hW
  obtain ⟨hb1, hb2, hb3⟩ := id hH
  obtain ⟨⟨d1, d2⟩, d3, d4, d5, d6, ⟨d7, d8⟩, d9, d10⟩ := b10 w hw
  have hm1 := rmask_lt (r 5) (fun w hw => (b10 w hw).2.2.2.2.2.2.2)
  have hm2 : 2 ^ r 5 ≤ 2 ^ 6 := Nat.pow_le_pow_right (by decide) b7
  refine r_enter [(0, .ref (B + o)), (1, .ref (B + p)), (2, .int (nI w))] hv_X0_wishes.1.2.2.2.2 (Nat.le_of_ble_eq_true rfl) rfl ?_
  refine r_aload_n dX0_wishes_0 rfl ?_
  refine r_getI (ci := 0) (k := 0) wf_X0_27 dX0_wishes_1 ho.1.1 ho.2.1.1 (by decide) (by decide) rfl (fun z1 hz1 => ?_)
  obtain rfl : z1 = nI (r 6) := hz1.trans (hC.1)
  refine r_bipush (nI 6) dX0_wishes_4 (by decide) ?_
  refine r_iadd dX0_wishes_6 (fun z2 hz2 => ?_)
  obtain rfl : z2 = nI ((r 6) + 6) := (hz2.trans (nI_add _ _))
  refine r_aload_n dX0_wishes_7 rfl ?_
  refine r_getR (ci := 1) (k := 8) wf_X0_52 dX0_wishes_8 hp.1.1 hp.2.1.1 (by decide) (by decide) (fun _ _ => rfl) hp.2.2.2.2.2.1 ?_
  refine r_iload_n dX0_wishes_11 rfl ?_
  refine r_iald dX0_wishes_12 hp.1.2.2.2.2.1 hp.2.1.2.2.2.2.1 (vp_in_nI (by omega) (by decide)) (fun z3 hz3 => ?_)
  rw [nI_clamp (by omega)] at hz3
  obtain rfl : z3 = nI (r (20 + 8 * w)) := hz3.trans ((hL.2.2.2 w (by omega)).2.1)
  refine r_isub dX0_wishes_13 (fun z4 hz4 => ?_)
  obtain rfl : z4 = nI (r 6 + 6 - r (20 + 8 * w)) := hz4.trans (nI_sub (by omega))
  refine r_bipush (nI 6) dX0_wishes_14 (by decide) ?_
  refine r_irem dX0_wishes_16 (by decide) (fun z5 hz5 => ?_)
  obtain rfl : z5 = nI ((r 6 + 6 - r (20 + 8 * w)) % 6) := hz5.trans (nI_mod (by omega) (by decide) (by decide))
  refine r_istore_n [(3, .int (nI ((r 6 + 6 - r (20 + 8 * w)) % 6))), (0, .ref (B + o)), (1, .ref (B + p)), (2, .int (nI w))] dX0_wishes_17 (by decide) rfl ?_
  refine r_iload_n dX0_wishes_18 rfl ?_
  refine r_aload_n dX0_wishes_19 rfl ?_
  refine r_getR (ci := 1) (k := 9) wf_X0_57 dX0_wishes_20 hp.1.1 hp.2.1.1 (by decide) (by decide) (fun _ _ => rfl) hp.2.2.2.2.2.2 ?_
  refine r_iload_n dX0_wishes_23 rfl ?_
  refine r_iald dX0_wishes_24 hp.1.2.2.2.2.2 hp.2.1.2.2.2.2.2 (vp_in_nI (by omega) (by decide)) (fun z6 hz6 => ?_)
  rw [nI_clamp (by omega)] at hz6
  obtain rfl : z6 = nI (r (21 + 8 * w)) := hz6.trans ((hL.2.2.2 w (by omega)).2.2)
  refine r_icmp_ge (tgt := 43) dX0_wishes_25 (by decide) (fun c25 => ?_) (fun c25 => ?_)
  · skip
    rw [nI_leI (by omega) (by omega)] at c25
    refine r_iconst (nI 0) dX0_wishes_43 (by decide) ?_
    refine r_zret2 dX0_wishes_44 rfl ⟨Nat.zero_le _, Nat.zero_le _⟩ rfl ?_
    first | exact ⟨bI_t (s_wiB_iff.mpr ⟨by omega, by omega⟩), rfl, rfl⟩ | exact ⟨bI_f (fun q => by have q1 := (s_wiB_iff.mp q).1; have q2 := (s_wiB_iff.mp q).2; omega), rfl, rfl⟩
  · skip
    rw [nI_leI (by omega) (by omega)] at c25
    refine r_aload_n dX0_wishes_28 rfl ?_
    refine r_getI (ci := 0) (k := 5) wf_X0_43 dX0_wishes_29 ho.1.1 ho.2.1.1 (by decide) (by decide) rfl (fun z7 hz7 => ?_)
    obtain rfl : z7 = nI (rmask r (r 5)) := hz7.trans (hC.2)
    refine r_iload_n dX0_wishes_32 rfl ?_
    refine r_callSNI (As := [.int (nI (rmask r (r 5))), .int (nI w)]) (c_X5_bit B D E _ _) hs_X5_bit (by decide) dX0_wishes_33 rfl rfl (Nat.le_of_ble_eq_true rfl) ⟨Nat.le_of_ble_eq_true rfl, Nat.le_of_ble_eq_true rfl, Nat.zero_le _, Nat.zero_le _⟩ ⟨rfl, rfl⟩ (fun z8 D9 E10 hz8 => ?_)
    obtain ⟨hq1, hqD, hqE⟩ := hz8
    obtain rfl := hqD.symm
    obtain rfl := hqE.symm
    obtain rfl : z8 = nI (r (23 + 8 * w)) := hq1.trans ((bit_n (by omega) (by omega)).trans (congrArg nI (rmask_bit _ (fun w hw => (b10 w hw).2.2.2.2.2.2.2) w hw)))
    refine r_if_ne (tgt := 43) dX0_wishes_36 (by decide) (fun c36 => ?_) (fun c36 => ?_)
    · skip
      rw [nI_z (by omega)] at c36
      refine r_iconst (nI 0) dX0_wishes_43 (by decide) ?_
      refine r_zret2 dX0_wishes_44 rfl ⟨Nat.zero_le _, Nat.zero_le _⟩ rfl ?_
      first | exact ⟨bI_t (s_wiB_iff.mpr ⟨by omega, by omega⟩), rfl, rfl⟩ | exact ⟨bI_f (fun q => by have q1 := (s_wiB_iff.mp q).1; have q2 := (s_wiB_iff.mp q).2; omega), rfl, rfl⟩
    · skip
      rw [nI_z (by omega)] at c36
      refine r_iconst (nI 1) dX0_wishes_39 (by decide) ?_
      refine r_goto (tgt := 44) dX0_wishes_40 (by decide) ?_
      refine r_zret2 dX0_wishes_44 rfl ⟨Nat.zero_le _, Nat.zero_le _⟩ rfl ?_
      first | exact ⟨bI_t (s_wiB_iff.mpr ⟨by omega, by omega⟩), rfl, rfl⟩ | exact ⟨bI_f (fun q => by have q1 := (s_wiB_iff.mp q).1; have q2 := (s_wiB_iff.mp q).2; omega), rfl, rfl⟩
set_option maxRecDepth 100000 in
set_option maxHeartbeats 4000000 in
theorem c_X0_force (B : Nat) (D : DD) (E : EE) (o p : Nat) (ho : isC o) (hp : isL p) (hd : DJ o p) (r : Row) (wy : Nat → Nat) (hW : WF r) (b : Nat) (hH : HB r b) (hb : b < 2 ^ 20) (hC : CA D o r) (hL : LA D p wy r) (hY : WY wy r) (hT : T2 r) (w : Nat) (hw : w < r 5) : MR yX0_force cX0_force 5 (some .int) rX0_force B [.ref (B + o), .ref (B + p), .int (nI w)] Z0 D E (Q2 Z0 (pI (fun v D' E' => v = (nI (s_wish wy r w)) ∧ D' = D ∧ E' = E))) := by
  obtain ⟨⟨b1, b2, b3, b4, b5, b6, b7, b8⟩, b9, b10, b11⟩ := id hW
  obtain ⟨hb1, hb2, hb3⟩ := id hH
  obtain ⟨⟨d1, d2⟩, d3, d4, d5, d6, ⟨d7, d8⟩, d9, d10⟩ := b10 w hw
  have hm1 := rmask_lt (r 5) (fun w hw => (b10 w hw).2.2.2.2.2.2.2)
  have hm2 : 2 ^ r 5 ≤ 2 ^ 6 := Nat.pow_le_pow_right (by decide) b7
  have ht2 := hT w hw
  have hwy : wy (6 * r (17 + 8 * w) + r (18 + 8 * w)) ≤ 9 := hY.1 _ (by omega)
  refine r_enter [(0, .ref (B + o)), (1, .ref (B + p)), (2, .int (nI w))] hv_X0_force.1.2.2.2.2 (Nat.le_of_ble_eq_true rfl) rfl ?_
  refine r_iconst (nI 0) dX0_force_0 (by decide) ?_
  refine r_aload_n dX0_force_1 rfl ?_
  refine r_getR (ci := 0) (k := 8) wf_X0_18 dX0_force_2 ho.1.1 ho.2.1.1 (by decide) (by decide) (fun _ _ => rfl) ho.2.2.2.2.1 ?_
  refine r_iload_n dX0_force_5 rfl ?_
  refine r_iald dX0_force_6 ho.1.2.2.2.1 ho.2.1.2.2.2.1 (vp_in_nI (by omega) (by decide)) (fun z1 hz1 => ?_)
  rw [nI_clamp (by omega)] at hz1
  obtain rfl : z1 = nI (r (19 + 8 * w)) := hz1.trans ((hC.2.1 w (by omega)).2.2.1)
  refine r_aload_n dX0_force_7 rfl ?_
  refine r_getR (ci := 0) (k := 9) wf_X0_21 dX0_force_8 ho.1.1 ho.2.1.1 (by decide) (by decide) (fun _ _ => rfl) ho.2.2.2.2.2.1 ?_
  refine r_iload_n dX0_force_11 rfl ?_
  refine r_iald dX0_force_12 ho.1.2.2.2.2.1 ho.2.1.2.2.2.2.1 (vp_in_nI (by omega) (by decide)) (fun z2 hz2 => ?_)
  rw [nI_clamp (by omega)] at hz2
  obtain rfl : z2 = nI (r (22 + 8 * w)) := hz2.trans ((hC.2.1 w (by omega)).2.2.2)
  refine r_isub dX0_force_13 (fun z3 hz3 => ?_)
  subst hz3
  refine r_mmax wm_X0_71 dX0_force_14 (Nat.le_of_ble_eq_true rfl) (Nat.le_of_ble_eq_true rfl) (Nat.zero_le _) (Nat.zero_le _) (fun z4 hz4 => ?_)
  obtain rfl : z4 = nI (r (19 + 8 * w) - r (22 + 8 * w)) := hz4.trans (mx_1 (by omega) (by omega))
  refine r_istore_n [(3, .int (nI (r (19 + 8 * w) - r (22 + 8 * w)))), (0, .ref (B + o)), (1, .ref (B + p)), (2, .int (nI w))] dX0_force_17 (by decide) rfl ?_
  refine r_iconst (nI 0) dX0_force_18 (by decide) ?_
  refine r_aload_n dX0_force_19 rfl ?_
  refine r_getR (ci := 0) (k := 8) wf_X0_18 dX0_force_20 ho.1.1 ho.2.1.1 (by decide) (by decide) (fun _ _ => rfl) ho.2.2.2.2.1 ?_
  refine r_iload_n dX0_force_23 rfl ?_
  refine r_iald dX0_force_24 ho.1.2.2.2.1 ho.2.1.2.2.2.1 (vp_in_nI (by omega) (by decide)) (fun z5 hz5 => ?_)
  rw [nI_clamp (by omega)] at hz5
  obtain rfl : z5 = nI (r (19 + 8 * w)) := hz5.trans ((hC.2.1 w (by omega)).2.2.1)
  refine r_aload_n dX0_force_25 rfl ?_
  refine r_aload_n dX0_force_26 rfl ?_
  refine r_getR (ci := 1) (k := 7) wf_X0_76 dX0_force_27 hp.1.1 hp.2.1.1 (by decide) (by decide) (fun _ _ => rfl) hp.2.2.2.2.1 ?_
  refine r_iload_n dX0_force_30 rfl ?_
  refine r_iald dX0_force_31 hp.1.2.2.2.1 hp.2.1.2.2.2.1 (vp_in_nI (by omega) (by decide)) (fun z6 hz6 => ?_)
  rw [nI_clamp (by omega)] at hz6
  obtain rfl : z6 = nI (r (17 + 8 * w)) := hz6.trans ((hL.2.2.2 w (by omega)).1)
  refine r_aload_n dX0_force_32 rfl ?_
  refine r_getR (ci := 0) (k := 7) wf_X0_15 dX0_force_33 ho.1.1 ho.2.1.1 (by decide) (by decide) (fun _ _ => rfl) ho.2.2.2.1 ?_
  refine r_iload_n dX0_force_36 rfl ?_
  refine r_iald dX0_force_37 ho.1.2.2.1 ho.2.1.2.2.1 (vp_in_nI (by omega) (by decide)) (fun z7 hz7 => ?_)
  rw [nI_clamp (by omega)] at hz7
  obtain rfl : z7 = nI (r (18 + 8 * w)) := hz7.trans ((hC.2.1 w (by omega)).2.1)
  refine r_callVI (As := [.int (nI (r (17 + 8 * w))), .int (nI (r (18 + 8 * w)))]) (o := p) (c_X1_way B D E p (r (17 + 8 * w)) (r (18 + 8 * w)) hp (by omega)) hv_X1_way wm_X0_79 dX0_force_38 rfl rfl hp.1.1 hp.2.1.1 (by decide) rfl (Nat.le_of_ble_eq_true rfl) ⟨Nat.le_of_ble_eq_true rfl, Nat.le_of_ble_eq_true rfl, Nat.zero_le _, Nat.zero_le _⟩ ⟨rfl, rfl⟩ (fun z8 D9 E10 hz8 => ?_)
  obtain ⟨hq1, hqD, hqE⟩ := hz8
  obtain rfl := hqD.symm
  obtain rfl := hqE.symm
  obtain rfl : z8 = nI (wy (6 * r (17 + 8 * w) + r (18 + 8 * w))) := hq1.trans (hL.2.2.1 _ (by omega))
  refine r_isub dX0_force_41 (fun z11 hz11 => ?_)
  subst hz11
  refine r_aload_n dX0_force_42 rfl ?_
  refine r_getR (ci := 0) (k := 9) wf_X0_21 dX0_force_43 ho.1.1 ho.2.1.1 (by decide) (by decide) (fun _ _ => rfl) ho.2.2.2.2.2.1 ?_
  refine r_iload_n dX0_force_46 rfl ?_
  refine r_iald dX0_force_47 ho.1.2.2.2.2.1 ho.2.1.2.2.2.2.1 (vp_in_nI (by omega) (by decide)) (fun z12 hz12 => ?_)
  rw [nI_clamp (by omega)] at hz12
  obtain rfl : z12 = nI (r (22 + 8 * w)) := hz12.trans ((hC.2.1 w (by omega)).2.2.2)
  refine r_isub dX0_force_48 (fun z13 hz13 => ?_)
  subst hz13
  refine r_mmax wm_X0_71 dX0_force_49 (Nat.le_of_ble_eq_true rfl) (Nat.le_of_ble_eq_true rfl) (Nat.zero_le _) (Nat.zero_le _) (fun z14 hz14 => ?_)
  obtain rfl : z14 = nI (r (19 + 8 * w) - wy (6 * r (17 + 8 * w) + r (18 + 8 * w)) - r (22 + 8 * w)) := hz14.trans (mx_2 (by omega) (by omega) (by omega))
  refine r_istore [(4, .int (nI (r (19 + 8 * w) - wy (6 * r (17 + 8 * w) + r (18 + 8 * w)) - r (22 + 8 * w)))), (3, .int (nI (r (19 + 8 * w) - r (22 + 8 * w)))), (0, .ref (B + o)), (1, .ref (B + p)), (2, .int (nI w))] dX0_force_52 (by decide) rfl ?_
  refine r_aload_n dX0_force_54 rfl ?_
  refine r_getR (ci := 0) (k := 6) wf_X0_9 dX0_force_55 ho.1.1 ho.2.1.1 (by decide) (by decide) (fun _ _ => rfl) ho.2.2.1 ?_
  refine r_iload_n dX0_force_58 rfl ?_
  refine r_iald dX0_force_59 ho.1.2.1 ho.2.1.2.1 (vp_in_nI (by omega) (by decide)) (fun z15 hz15 => ?_)
  rw [nI_clamp (by omega)] at hz15
  obtain rfl : z15 = nI (r (16 + 8 * w)) := hz15.trans ((hC.2.1 w (by omega)).1)
  rcases (show r (16 + 8 * w) = 3 ∨ r (16 + 8 * w) = 4 ∨ r (16 + 8 * w) = 5 ∨ r (16 + 8 * w) < 3 by omega) with hk | hk | hk | hk
  · refine r_tabIn (off := 28) (tgt := 88) dX0_force_60 (by rw [hk]; decide) (by rw [hk]; decide) (by rw [hk]; rfl) (by decide) ?_
    refine r_aload_n dX0_force_88 rfl ?_
    refine r_getI (ci := 0) (k := 0) wf_X0_27 dX0_force_89 ho.1.1 ho.2.1.1 (by decide) (by decide) rfl (fun z16 hz16 => ?_)
    obtain rfl : z16 = nI (r 6) := hz16.trans (hC.1.1)
    refine r_bipush (nI 6) dX0_force_92 (by decide) ?_
    refine r_irem dX0_force_94 (by decide) (fun z17 hz17 => ?_)
    obtain rfl : z17 = nI (r 6 % 6) := hz17.trans (nI_mod (by omega) (by decide) (by decide))
    refine r_iconst (nI 4) dX0_force_95 (by decide) ?_
    refine r_icmp_lt (tgt := 106) dX0_force_96 (by decide) (fun c96 => ?_) (fun c96 => ?_)
    · skip
      rw [nI_ltI (by omega) (by omega)] at c96
      refine r_iconst (nI 0) dX0_force_106 (by decide) ?_
      refine r_iret2 dX0_force_107 rfl ⟨Nat.zero_le _, Nat.zero_le _⟩ ?_
      refine ⟨congrArg nI ?_, rfl, rfl⟩
      unfold s_wish
      rw [if_neg (by omega), if_neg (by omega), if_pos hk]
      first | rw [if_pos (by omega)] | rw [if_neg (by omega)]
    · skip
      rw [nI_ltI (by omega) (by omega)] at c96
      refine r_iconst (nI 2) dX0_force_99 (by decide) ?_
      refine r_iload dX0_force_100 rfl ?_
      refine r_imul dX0_force_102 (fun z18 hz18 => ?_)
      obtain rfl : z18 = nI (2 * (r (19 + 8 * w) - wy (6 * r (17 + 8 * w) + r (18 + 8 * w)) - r (22 + 8 * w))) := hz18.trans (pk_mul _ _)
      refine r_goto (tgt := 107) dX0_force_103 (by decide) ?_
      refine r_iret2 dX0_force_107 rfl ⟨Nat.zero_le _, Nat.zero_le _⟩ ?_
      refine ⟨congrArg nI ?_, rfl, rfl⟩
      unfold s_wish
      rw [if_neg (by omega), if_neg (by omega), if_pos hk]
      first | rw [if_pos (by omega)] | rw [if_neg (by omega)]
  · refine r_tabIn (off := 48) (tgt := 108) dX0_force_60 (by rw [hk]; decide) (by rw [hk]; decide) (by rw [hk]; rfl) (by decide) ?_
    refine r_iload_n dX0_force_108 rfl ?_
    refine r_iret2 dX0_force_109 rfl ⟨Nat.zero_le _, Nat.zero_le _⟩ ?_
    refine ⟨congrArg nI ?_, rfl, rfl⟩
    unfold s_wish
    rw [if_neg (by omega), if_neg (by omega), if_neg (by omega), if_pos hk]
  · refine r_tabIn (off := 50) (tgt := 110) dX0_force_60 (by rw [hk]; decide) (by rw [hk]; decide) (by rw [hk]; rfl) (by decide) ?_
    refine r_iload_n dX0_force_110 rfl ?_
    refine r_iconst (nI 2) dX0_force_111 (by decide) ?_
    refine r_aload_n dX0_force_112 rfl ?_
    refine r_getR (ci := 1) (k := 9) wf_X0_57 dX0_force_113 hp.1.1 hp.2.1.1 (by decide) (by decide) (fun _ _ => rfl) hp.2.2.2.2.2.2 ?_
    refine r_iload_n dX0_force_116 rfl ?_
    refine r_iald dX0_force_117 hp.1.2.2.2.2.2 hp.2.1.2.2.2.2.2 (vp_in_nI (by omega) (by decide)) (fun z19 hz19 => ?_)
    rw [nI_clamp (by omega)] at hz19
    obtain rfl : z19 = nI (r (21 + 8 * w)) := hz19.trans ((hL.2.2.2 w (by omega)).2.2)
    refine r_iconst (nI 1) dX0_force_118 (by decide) ?_
    refine r_isub dX0_force_119 (fun z20 hz20 => ?_)
    obtain rfl : z20 = nI (r (21 + 8 * w) - 1) := hz20.trans (nI_sub (by omega))
    refine r_imul dX0_force_120 (fun z21 hz21 => ?_)
    obtain rfl : z21 = nI (2 * (r (21 + 8 * w) - 1)) := (hz21.trans (pk_mul _ _))
    refine r_iadd dX0_force_121 (fun z22 hz22 => ?_)
    obtain rfl : z22 = nI ((r (19 + 8 * w) - r (22 + 8 * w)) + (2 * (r (21 + 8 * w) - 1))) := (hz22.trans (nI_add _ _))
    refine r_iret2 dX0_force_122 rfl ⟨Nat.zero_le _, Nat.zero_le _⟩ ?_
    refine ⟨congrArg nI ?_, rfl, rfl⟩
    unfold s_wish
    rw [if_neg (by omega), if_neg (by omega), if_neg (by omega), if_neg (by omega)]
  · refine r_tabOut (tgt := 123) dX0_force_60 (Or.inl (by rw [nI_toInt (by omega)]; omega)) (by decide) ?_
    refine r_iload dX0_force_123 rfl ?_
    refine r_iret2 dX0_force_125 rfl ⟨Nat.zero_le _, Nat.zero_le _⟩ ?_
    refine ⟨congrArg nI ?_, rfl, rfl⟩
    unfold s_wish
    rcases (show r (16 + 8 * w) = 1 ∨ r (16 + 8 * w) = 2 by omega) with h1 | h1
    · rw [if_pos h1]
    · rw [if_neg (by omega), if_pos h1, ht2 h1]; rfl
set_option maxRecDepth 100000 in
set_option maxHeartbeats 4000000 in
theorem c_X0_wishing (B : Nat) (D : DD) (E : EE) (o p : Nat) (ho : isC o) (hp : isL p) (hd : DJ o p) (r : Row) (wy : Nat → Nat) (hW : WF r) (b : Nat) (hH : HB r b) (hb : b < 2 ^ 20) (hC : CA D o r) (hL : LA D p wy r) (hY : WY wy r) : MR yX0_wishing cX0_wishing 4 (some .int) rX0_wishing B [.ref (B + o), .ref (B + p)] Z0 D E (Q2 Z0 (pI (fun v D' E' => v = (nI (s_wg r (r 5))) ∧ D' = D ∧ E' = E))) := by
  obtain ⟨⟨b1, b2, b3, b4, b5, b6, b7, b8⟩, b9, b10, b11⟩ := id hW
  obtain ⟨hb1, hb2, hb3⟩ := id hH
  refine r_enter [(0, .ref (B + o)), (1, .ref (B + p))] hv_X0_wishing.1.2.2.2.2 (Nat.le_of_ble_eq_true rfl) rfl ?_
  refine r_iconst (nI 0) dX0_wishing_0 (by decide) ?_
  refine r_istore_n [(2, .int (nI 0)), (0, .ref (B + o)), (1, .ref (B + p))] dX0_wishing_1 (by decide) rfl ?_
  refine r_iconst (nI 0) dX0_wishing_2 (by decide) ?_
  refine r_istore_n [(3, .int (nI 0)), (2, .int (nI 0)), (0, .ref (B + o)), (1, .ref (B + p))] dX0_wishing_3 (by decide) rfl ?_
  have L : ∀ fu k : Nat, k ≤ r 5 → r 5 - k < fu → RW yX0_wishing cX0_wishing 4 (some .int) rX0_wishing B (Q2 Z0 (pI (fun v D' E' => v = (nI (s_wg r (r 5))) ∧ D' = D ∧ E' = E))) Z0 D E 0 0 4 [(3, .int (nI k)), (2, .int (nI (s_wg r k))), (0, .ref (B + o)), (1, .ref (B + p))] [] := by
    intro fu
    induction fu with
    | zero => intro k hku hfu; omega
    | succ fu ih =>
      intro k hku hfu 
      refine r_iload_n dX0_wishing_4 rfl ?_
      refine r_aload_n dX0_wishing_5 rfl ?_
      refine r_getI (ci := 1) (k := 4) wf_X0_64 dX0_wishing_6 hp.1.1 hp.2.1.1 (by decide) (by decide) rfl (fun z1 hz1 => ?_)
      obtain rfl : z1 = nI (r 5) := hz1.trans (hL.1.2.2.2.2)
      refine r_icmp_ge (tgt := 33) dX0_wishing_9 (by decide) (fun c9 => ?_) (fun c9 => ?_)
      · skip
        rw [nI_leI (by omega) (by omega)] at c9
        refine r_iload_n dX0_wishing_33 rfl ?_
        refine r_iret2 dX0_wishing_34 rfl ⟨Nat.zero_le _, Nat.zero_le _⟩ ?_
        obtain rfl : k = r 5 := by omega
        exact ⟨rfl, rfl, rfl⟩
      · skip
        rw [nI_leI (by omega) (by omega)] at c9
        refine r_aload_n dX0_wishing_12 rfl ?_
        refine r_aload_n dX0_wishing_13 rfl ?_
        refine r_iload_n dX0_wishing_14 rfl ?_
        refine r_callVI (As := [.ref (B + p), .int (nI k)]) (o := o) (c_X0_wishes B D E o p ho hp hd r wy hW b hH hb hC.w hL hY k (by omega)) hv_X0_wishes wm_X0_67 dX0_wishing_15 rfl rfl ho.1.1 ho.2.1.1 (by decide) rfl (Nat.le_of_ble_eq_true rfl) ⟨Nat.le_of_ble_eq_true rfl, Nat.le_of_ble_eq_true rfl, Nat.zero_le _, Nat.zero_le _⟩ ⟨rfl, rfl⟩ (fun z2 D3 E4 hz2 => ?_)
        obtain ⟨hqV, hqD, hqE⟩ := hz2
        obtain rfl : z2 = bI (s_wiB r k = true) := hqV
        obtain rfl := hqD.symm
        obtain rfl := hqE.symm
        refine r_if_eq (tgt := 27) dX0_wishing_18 (by decide) (fun c18 => ?_) (fun c18 => ?_)
        · skip
          rw [bI_0] at c18
          have hq9 : s_wg r k = s_wg r (k + 1) := by (show _ = (if s_wiB r k = true then s_wg r k ||| 2 ^ k else s_wg r k); rw [if_neg c18])
          refine r_lv [(3, .int (nI k)), (2, .int (nI (s_wg r (k + 1)))), (0, .ref (B + o)), (1, .ref (B + p))] (List.forall_mem_cons.mpr ⟨rfl, List.forall_mem_cons.mpr ⟨congrArg (fun x => some (Value.int x)) (congrArg nI hq9), List.forall_mem_cons.mpr ⟨rfl, List.forall_mem_cons.mpr ⟨rfl, fun _ h => absurd h List.not_mem_nil⟩⟩⟩⟩) ?_
          refine r_iinc (nI (k + 1)) [(3, .int (nI (k + 1))), (2, .int (nI (s_wg r (k + 1)))), (0, .ref (B + o)), (1, .ref (B + p))] dX0_wishing_27 rfl (nI_1 _) (by decide) rfl ?_
          refine r_goto (tgt := 4) dX0_wishing_30 (by decide) ?_
          exact r_lv [(3, .int (nI (k + 1))), (2, .int (nI (s_wg r (k + 1)))), (0, .ref (B + o)), (1, .ref (B + p))] (List.forall_mem_cons.mpr ⟨rfl, List.forall_mem_cons.mpr ⟨rfl, List.forall_mem_cons.mpr ⟨rfl, List.forall_mem_cons.mpr ⟨rfl, fun _ h => absurd h List.not_mem_nil⟩⟩⟩⟩) (ih (k + 1) (by omega) (by omega))
        · skip
          rw [bI_n0] at c18
          skip
          refine r_iload_n dX0_wishing_21 rfl ?_
          refine r_iconst (nI 1) dX0_wishing_22 (by decide) ?_
          refine r_iload_n dX0_wishing_23 rfl ?_
          refine r_ishl dX0_wishing_24 (fun z5 hz5 => ?_)
          obtain rfl : z5 = nI (2 ^ k) := hz5.trans (shl_1 (by omega))
          refine r_ior dX0_wishing_25 (fun z6 hz6 => ?_)
          obtain rfl : z6 = nI (s_wg r (k + 1)) := hz6.trans ((nI_or _ _).trans (congrArg nI (by show _ = (if s_wiB r k = true then s_wg r k ||| 2 ^ k else s_wg r k); rw [if_pos c18])))
          refine r_istore_n [(2, .int (nI (s_wg r (k + 1)))), (3, .int (nI k)), (0, .ref (B + o)), (1, .ref (B + p))] dX0_wishing_26 (by decide) rfl ?_
          refine r_iinc (nI (k + 1)) [(3, .int (nI (k + 1))), (2, .int (nI (s_wg r (k + 1)))), (0, .ref (B + o)), (1, .ref (B + p))] dX0_wishing_27 rfl (nI_1 _) (by decide) rfl ?_
          refine r_goto (tgt := 4) dX0_wishing_30 (by decide) ?_
          exact r_lv [(3, .int (nI (k + 1))), (2, .int (nI (s_wg r (k + 1)))), (0, .ref (B + o)), (1, .ref (B + p))] (List.forall_mem_cons.mpr ⟨rfl, List.forall_mem_cons.mpr ⟨rfl, List.forall_mem_cons.mpr ⟨rfl, List.forall_mem_cons.mpr ⟨rfl, fun _ h => absurd h List.not_mem_nil⟩⟩⟩⟩) (ih (k + 1) (by omega) (by omega))
  exact r_lv [(3, .int (nI 0)), (2, .int (nI (s_wg r 0))), (0, .ref (B + o)), (1, .ref (B + p))] (List.forall_mem_cons.mpr ⟨rfl, List.forall_mem_cons.mpr ⟨rfl, List.forall_mem_cons.mpr ⟨rfl, List.forall_mem_cons.mpr ⟨rfl, fun _ h => absurd h List.not_mem_nil⟩⟩⟩⟩) (L (r 5 + 1) 0 (by omega) (by omega))
