set_option maxRecDepth 100000 in
set_option maxHeartbeats 4000000 in
theorem c_X5_feed (B : Nat) (D : DD) (E : EE) (t : TPt) (hT : TP D t) (x : Int32) : MR yX5_feed cX5_feed 2 (some .int) rX5_feed B [.ref (B + 0), .int x] Z0 D E (Q2 Z0 (pI (fun v D' E' => v = (g_feed x t).1 ∧ TP D' (g_feed x t).2 ∧ (∀ q, q ≠ 13 → q ≠ 14 → D' q = D q) ∧ E' = E))) := by
  obtain ⟨h1, h2, h3⟩ := id hT
  refine r_enter [(0, .ref (B + 0)), (1, .int x)] hv_X5_feed.1.2.2.2.2 (Nat.le_of_ble_eq_true rfl) rfl ?_
  refine r_iload_n dX5_feed_0 rfl ?_
  refine r_iconst (nI 0) dX5_feed_1 (by decide) ?_
  refine r_sipush (nI 255) dX5_feed_2 (by decide) ?_
  refine r_callSI (As := [.int x, .int (nI 0), .int (nI 255)]) (c_X5_within B D E x (nI 0) (nI 255)) hs_X5_within wm_X5_73 rfl dX5_feed_5 rfl rfl (Nat.le_of_ble_eq_true rfl) ⟨Nat.le_of_ble_eq_true rfl, Nat.le_of_ble_eq_true rfl, Nat.zero_le _, Nat.zero_le _⟩ ⟨rfl, rfl⟩ (fun z1 D2 E3 hz1 => ?_)
  obtain ⟨hqV, hqD, hqE⟩ := hz1
  obtain rfl : z1 = bI (nI 0 ≤ x ∧ x ≤ nI 255) := hqV
  obtain rfl := hqD.symm
  obtain rfl := hqE.symm
  refine r_if_ne (tgt := 14) dX5_feed_8 (by decide) (fun c8 => ?_) (fun c8 => ?_)
  · skip
    rw [bI_n0] at c8
    obtain ⟨c, hc1, hc2, rfl⟩ := rg (by decide) (by decide) c8
    refine r_aload_n dX5_feed_14 rfl ?_
    refine r_getR (ci := 5) (k := 1) wf_X5_19 dX5_feed_15 z_0 k_0 (by decide) (by decide) (fun _ _ => rfl) f_0_1 ?_
    refine r_getI (ci := 4) (k := 1) wf_X5_115 dX5_feed_18 z_13 k_13 (by decide) (by decide) rfl (fun z4 hz4 => ?_)
    obtain rfl : z4 = nI t.1 := hz4.trans h1
    refine r_bipush (nI 120) dX5_feed_21 (by decide) ?_
    refine r_icmp_lt (tgt := 29) dX5_feed_23 (by decide) (fun c23 => ?_) (fun c23 => ?_)
    · skip
      rw [nI_ltI (by omega) (by omega)] at c23
      refine r_aload_n dX5_feed_29 rfl ?_
      refine r_getR (ci := 5) (k := 1) wf_X5_19 dX5_feed_30 z_0 k_0 (by decide) (by decide) (fun _ _ => rfl) f_0_1 ?_
      refine r_getR (ci := 4) (k := 0) wf_X5_120 dX5_feed_33 z_13 k_13 (by decide) (by decide) (fun _ _ => rfl) f_13_0 ?_
      refine r_aload_n dX5_feed_36 rfl ?_
      refine r_getR (ci := 5) (k := 1) wf_X5_19 dX5_feed_37 z_0 k_0 (by decide) (by decide) (fun _ _ => rfl) f_0_1 ?_
      refine r_getI (ci := 4) (k := 1) wf_X5_115 dX5_feed_40 z_13 k_13 (by decide) (by decide) rfl (fun z5 hz5 => ?_)
      obtain rfl : z5 = nI t.1 := hz5.trans h1
      refine r_iload_n dX5_feed_43 rfl ?_
      refine r_iast dX5_feed_44 z_14 k_14 (vp_in_nI (by omega) (by decide)) (fun D6 hD6 => ?_)
      rw [nI_clamp (by omega)] at hD6
      have hE1 := hD6
      refine r_aload_n dX5_feed_45 rfl ?_
      refine r_getR (ci := 5) (k := 1) wf_X5_19 dX5_feed_46 z_0 k_0 (by decide) (by decide) (fun _ _ => rfl) f_0_1 ?_
      refine r_dup dX5_feed_49 rfl ?_
      refine r_getI (ci := 4) (k := 1) wf_X5_115 dX5_feed_50 z_13 k_13 (by decide) (by decide) rfl (fun z7 hz7 => ?_)
      obtain rfl : z7 = nI t.1 := hz7.trans (by rw [hE1]; exact (congrFun (up2_o (by decide)) 1).trans h1)
      refine r_iconst (nI 1) dX5_feed_53 (by decide) ?_
      refine r_iadd dX5_feed_54 (fun z8 hz8 => ?_)
      obtain rfl : z8 = nI (t.1 + 1) := (hz8.trans (nI_add _ _))
      refine r_putI (ci := 4) (k := 1) wf_X5_115 dX5_feed_55 z_13 k_13 (by decide) (by decide) rfl rfl (fun D9 hD9 => ?_)
      have hE2 := hD9
      have hEE := TP_up hT c23 hc2 hE1 hE2
      refine r_aload_n dX5_feed_58 rfl ?_
      refine r_getR (ci := 5) (k := 1) wf_X5_19 dX5_feed_59 z_0 k_0 (by decide) (by decide) (fun _ _ => rfl) f_0_1 ?_
      refine r_getI (ci := 4) (k := 1) wf_X5_115 dX5_feed_62 z_13 k_13 (by decide) (by decide) rfl (fun z10 hz10 => ?_)
      obtain rfl : z10 = nI (t.1 + 1) := hz10.trans (by rw [hE2]; exact up2_s)
      refine r_iret2 dX5_feed_65 rfl ⟨Nat.zero_le _, Nat.zero_le _⟩ ?_
      unfold g_feed
      rw [if_pos c8, if_pos c23, nI_clamp (by omega)]
      exact ⟨rfl, hEE.1, hEE.2, rfl⟩
    · skip
      rw [nI_ltI (by omega) (by omega)] at c23
      refine r_ldc wc_X5_119 dX5_feed_26 ?_
      refine r_iret2 dX5_feed_28 rfl ⟨Nat.zero_le _, Nat.zero_le _⟩ ?_
      unfold g_feed
      rw [if_pos c8, if_neg c23]
      exact ⟨rfl, hT, fun _ _ _ => rfl, rfl⟩
  · skip
    rw [bI_0] at c8
    refine r_ldc wc_X5_77 dX5_feed_11 ?_
    refine r_iret2 dX5_feed_13 rfl ⟨Nat.zero_le _, Nat.zero_le _⟩ ?_
    unfold g_feed
    rw [if_neg c8]
    exact ⟨rfl, hT, fun _ _ _ => rfl, rfl⟩
set_option maxRecDepth 100000 in
set_option maxHeartbeats 4000000 in
theorem c_X6_feed (B : Nat) (D : DD) (E : EE) (t : TPt) (hT0 : TPm D t) (x : Int32) : MR yX6_feed cX6_feed 2 (some .int) rX6_feed B [.ref (B + 219), .int x] Z0 D E (Q2 Z0 (pI (fun v D' E' => v = (g_feed x t).1 ∧ TPm D' (g_feed x t).2 ∧ ((∀ q, q ≠ 219 → q ≠ 227 → D' q = D q) ∧ ∀ f, f ≠ 0 → f ≠ 11 → D' 219 f = D 219 f) ∧ E' = E))) := by
  have hT : TPm (thD D) t := ⟨(MX.th.2 11 (by decide)).trans hT0.1, hT0.2.1, fun j hj => ⟨(congrFun (MX.th.1 227 (by decide) (by decide) (by decide)) j).trans (hT0.2.2 j hj).1, (hT0.2.2 j hj).2⟩⟩
  obtain ⟨h1, h2, h3⟩ := id hT
  refine r_enter [(0, .ref (B + 219)), (1, .int x)] hv_X6_feed.1.2.2.2.2 (Nat.le_of_ble_eq_true rfl) rfl ?_
  refine r_aload_n dX6_feed_0 rfl ?_
  refine r_iconst (nI 0) dX6_feed_1 (by decide) ?_
  refine r_putI (ci := 6) (k := 0) wf_X6_54 dX6_feed_2 z_219 k_219 (by decide) (by decide) rfl rfl (fun D1 hD1 => ?_)
  obtain rfl : D1 = thD D := hD1.trans up2_eq
  refine r_iload_n dX6_feed_5 rfl ?_
  refine r_i2l dX6_feed_6 (fun z2 hz2 => ?_)
  subst hz2
  refine r_lconst ((nI 0).toInt64) dX6_feed_7 (by decide) ?_
  refine r_ldc2v ((nI 255).toInt64) wg_X6_79 dX6_feed_8 (by decide) ?_
  refine r_callSI (As := [.long x.toInt64, .long ((nI 0).toInt64), .long ((nI 255).toInt64)]) (c_X6_in B (thD D) E x (nI 0) (nI 255)) hs_X6_in wm_X6_64 rfl dX6_feed_11 rfl rfl (Nat.le_of_ble_eq_true rfl) ⟨Nat.le_of_ble_eq_true rfl, Nat.le_of_ble_eq_true rfl, Nat.zero_le _, Nat.zero_le _⟩ ⟨rfl, rfl⟩ (fun z3 D4 E5 hz3 => ?_)
  obtain ⟨hqV, hqD, hqE⟩ := hz3
  obtain rfl : z3 = bI (nI 0 ≤ x ∧ x ≤ nI 255) := hqV
  obtain rfl := hqD.symm
  obtain rfl := hqE.symm
  refine r_if_ne (tgt := 20) dX6_feed_14 (by decide) (fun c14 => ?_) (fun c14 => ?_)
  · skip
    rw [bI_n0] at c14
    obtain ⟨c, hc1, hc2, rfl⟩ := rg (by decide) (by decide) c14
    refine r_aload_n dX6_feed_20 rfl ?_
    refine r_getI (ci := 6) (k := 11) wf_X6_81 dX6_feed_21 z_219 k_219 (by decide) (by decide) rfl (fun z6 hz6 => ?_)
    obtain rfl : z6 = nI t.1 := hz6.trans h1
    refine r_bipush (nI 120) dX6_feed_24 (by decide) ?_
    refine r_icmp_ne (tgt := 32) dX6_feed_26 (by decide) (fun c26 => ?_) (fun c26 => ?_)
    · skip
      rw [nI_eq (by omega) (by omega)] at c26
      refine r_aload_n dX6_feed_32 rfl ?_
      refine r_getR (ci := 6) (k := 10) wf_X6_31 dX6_feed_33 z_219 k_219 (by decide) (by decide) (fun _ _ => rfl) f_219_10 ?_
      refine r_aload_n dX6_feed_36 rfl ?_
      refine r_getI (ci := 6) (k := 11) wf_X6_81 dX6_feed_37 z_219 k_219 (by decide) (by decide) rfl (fun z7 hz7 => ?_)
      obtain rfl : z7 = nI t.1 := hz7.trans h1
      refine r_iload_n dX6_feed_40 rfl ?_
      refine r_iast dX6_feed_41 z_227 k_227 (vp_in_nI (by omega) (by decide)) (fun D8 hD8 => ?_)
      rw [nI_clamp (by omega)] at hD8
      have hE1 := hD8
      refine r_aload_n dX6_feed_42 rfl ?_
      refine r_dup dX6_feed_43 rfl ?_
      refine r_getI (ci := 6) (k := 11) wf_X6_81 dX6_feed_44 z_219 k_219 (by decide) (by decide) rfl (fun z9 hz9 => ?_)
      obtain rfl : z9 = nI t.1 := hz9.trans (by rw [hE1]; exact (congrFun (up2_o (by decide)) 11).trans h1)
      refine r_iconst (nI 1) dX6_feed_47 (by decide) ?_
      refine r_iadd dX6_feed_48 (fun z10 hz10 => ?_)
      obtain rfl : z10 = nI (t.1 + 1) := (hz10.trans (nI_add _ _))
      refine r_putI (ci := 6) (k := 11) wf_X6_81 dX6_feed_49 z_219 k_219 (by decide) (by decide) rfl rfl (fun D11 hD11 => ?_)
      have hE2 := hD11
      have hEE := TPm_up hT (by omega) hc2 hE1 hE2
      refine r_aload_n dX6_feed_52 rfl ?_
      refine r_getI (ci := 6) (k := 11) wf_X6_81 dX6_feed_53 z_219 k_219 (by decide) (by decide) rfl (fun z12 hz12 => ?_)
      obtain rfl : z12 = nI (t.1 + 1) := hz12.trans (by rw [hE2]; exact up2_s)
      refine r_iret2 dX6_feed_56 rfl ⟨Nat.zero_le _, Nat.zero_le _⟩ ?_
      unfold g_feed
      rw [if_pos c14, if_pos (by omega), nI_clamp (by omega)]
      exact ⟨rfl, hEE.1, ⟨fun q a b => (hEE.2.1 q a b).trans (upo_n a), fun f a b => (hEE.2.2 f b).trans (MX.th.2 f a)⟩, rfl⟩
    · skip
      rw [nI_eq (by omega) (by omega)] at c26
      refine r_ldc wc_X6_84 dX6_feed_29 ?_
      refine r_iret2 dX6_feed_31 rfl ⟨Nat.zero_le _, Nat.zero_le _⟩ ?_
      unfold g_feed
      rw [if_pos c14, if_neg (by omega)]
      exact ⟨rfl, hT, ⟨fun q a _ => upo_n a, fun f a _ => MX.th.2 f a⟩, rfl⟩
  · skip
    rw [bI_0] at c14
    refine r_ldc wc_X6_74 dX6_feed_17 ?_
    refine r_iret2 dX6_feed_19 rfl ⟨Nat.zero_le _, Nat.zero_le _⟩ ?_
    unfold g_feed
    rw [if_neg c14]
    exact ⟨rfl, hT, ⟨fun q a _ => upo_n a, fun f a _ => MX.th.2 f a⟩, rfl⟩
