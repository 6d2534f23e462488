set_option maxRecDepth 100000 in
set_option maxHeartbeats 4000000 in
theorem c_X4_byteAt (B : Nat) (D : DD) (E : EE) (t : TPt) (hT : TP D t) (i : Nat) (hi : i < 2 ^ 30) : MR yX4_byteAt cX4_byteAt 2 (some .int) rX4_byteAt B [.ref (B + 13), .int (nI i)] Z0 D E (Q2 Z0 (pI (fun v D' E' => v = (byI t i) ∧ D' = D ∧ E' = E))) := by
  obtain ⟨e1, e2, e3⟩ := id hT
  refine r_enter [(0, .ref (B + 13)), (1, .int (nI i))] hv_X4_byteAt.1.2.2.2.2 (Nat.le_of_ble_eq_true rfl) rfl ?_
  refine r_iload_n dX4_byteAt_0 rfl ?_
  refine r_if_lt (tgt := 27) dX4_byteAt_1 (by decide) (fun c1 => ?_) (fun c1 => ?_)
  · skip
    rw [nI_zlt (by omega)] at c1
    refine r_iconst ((-1)) dX4_byteAt_27 (by decide) ?_
    refine r_iret2 dX4_byteAt_28 rfl ⟨Nat.zero_le _, Nat.zero_le _⟩ ?_
    refine ⟨?_, rfl, rfl⟩
    first
      | exact c1.elim
      | (unfold byI; rw [if_neg (by omega)]; done)
      | (unfold byI; rw [if_pos (by omega)])
  · skip
    rw [nI_zlt (by omega)] at c1
    refine r_iload_n dX4_byteAt_4 rfl ?_
    refine r_aload_n dX4_byteAt_5 rfl ?_
    refine r_getI (ci := 4) (k := 1) wf_X4_22 dX4_byteAt_6 z_13 k_13 (by decide) (by decide) rfl (fun z1 hz1 => ?_)
    obtain rfl : z1 = nI t.1 := hz1.trans e1
    refine r_icmp_ge (tgt := 27) dX4_byteAt_9 (by decide) (fun c9 => ?_) (fun c9 => ?_)
    · skip
      rw [nI_leI (by omega) (by omega)] at c9
      refine r_iconst ((-1)) dX4_byteAt_27 (by decide) ?_
      refine r_iret2 dX4_byteAt_28 rfl ⟨Nat.zero_le _, Nat.zero_le _⟩ ?_
      refine ⟨?_, rfl, rfl⟩
      first
        | exact c1.elim
        | (unfold byI; rw [if_neg (by omega)]; done)
        | (unfold byI; rw [if_pos (by omega)])
    · skip
      rw [nI_leI (by omega) (by omega)] at c9
      refine r_iload_n dX4_byteAt_12 rfl ?_
      refine r_bipush (nI 120) dX4_byteAt_13 (by decide) ?_
      refine r_icmp_ge (tgt := 27) dX4_byteAt_15 (by decide) (fun c15 => ?_) (fun c15 => ?_)
      · skip
        rw [nI_leI (by omega) (by omega)] at c15
        refine r_iconst ((-1)) dX4_byteAt_27 (by decide) ?_
        refine r_iret2 dX4_byteAt_28 rfl ⟨Nat.zero_le _, Nat.zero_le _⟩ ?_
        refine ⟨?_, rfl, rfl⟩
        first
          | exact c1.elim
          | (unfold byI; rw [if_neg (by omega)]; done)
          | (unfold byI; rw [if_pos (by omega)])
      · skip
        rw [nI_leI (by omega) (by omega)] at c15
        refine r_aload_n dX4_byteAt_18 rfl ?_
        refine r_getR (ci := 4) (k := 0) wf_X4_9 dX4_byteAt_19 z_13 k_13 (by decide) (by decide) (fun _ _ => rfl) f_13_0 ?_
        refine r_iload_n dX4_byteAt_22 rfl ?_
        refine r_iald dX4_byteAt_23 z_14 k_14 (vp_in_nI (by omega) (by decide)) (fun z2 hz2 => ?_)
        rw [nI_clamp (by omega)] at hz2
        obtain rfl : z2 = nI (t.2 (i)) := hz2.trans (e3 _ (by omega)).1
        refine r_goto (tgt := 28) dX4_byteAt_24 (by decide) ?_
        refine r_iret2 dX4_byteAt_28 rfl ⟨Nat.zero_le _, Nat.zero_le _⟩ ?_
        refine ⟨?_, rfl, rfl⟩
        first
          | exact c1.elim
          | (unfold byI; rw [if_neg (by omega)]; done)
          | (unfold byI; rw [if_pos (by omega)])
set_option maxRecDepth 100000 in
set_option maxHeartbeats 4000000 in
theorem c_X4_next (B : Nat) (D : DD) (E : EE) (t : TPt) (s : PSt) (hS : TS D t s) : MR yX4_next cX4_next 1 (some .int) rX4_next B [.ref (B + 13)] Z0 D E (Q2 Z0 (pI (fun v D' E' => v = (byI t s.1) ∧ D' = D ∧ E' = E))) := by
  obtain ⟨⟨e1, e2, e3⟩, e4, e5, e6, e7, e8, e9⟩ := id hS
  have ht : ∀ j, j < t.1 → t.2 j ≤ 255 := fun j hj => (e3 j hj).2
  refine r_enter [(0, .ref (B + 13))] hv_X4_next.1.2.2.2.2 (Nat.le_of_ble_eq_true rfl) rfl ?_
  refine r_aload_n dX4_next_0 rfl ?_
  refine r_aload_n dX4_next_1 rfl ?_
  refine r_getI (ci := 4) (k := 2) wf_X4_15 dX4_next_2 z_13 k_13 (by decide) (by decide) rfl (fun z1 hz1 => ?_)
  obtain rfl : z1 = nI s.1 := hz1.trans e4
  refine r_callVI (As := [.int (nI s.1)]) (o := 13) (c_X4_byteAt B D E t hS.1 s.1 (by omega)) hv_X4_byteAt wm_X4_28 dX4_next_5 rfl rfl z_13 k_13 (by decide) rfl (Nat.le_of_ble_eq_true rfl) ⟨Nat.le_of_ble_eq_true rfl, Nat.le_of_ble_eq_true rfl, Nat.zero_le _, Nat.zero_le _⟩ ⟨rfl, rfl⟩ (fun z2 D3 E4 hz2 => ?_)
  obtain ⟨hqV, hqD, hqE⟩ := hz2
  obtain rfl : z2 = byI t s.1 := hqV
  obtain rfl := hqD.symm
  obtain rfl := hqE.symm
  refine r_iret2 dX4_next_8 rfl ⟨Nat.zero_le _, Nat.zero_le _⟩ ?_
  exact ⟨rfl, rfl, rfl⟩
set_option maxRecDepth 100000 in
set_option maxHeartbeats 4000000 in
theorem c_X4_isFigure (B : Nat) (D : DD) (E : EE) (t : TPt) (hT : TP D t) (i : Nat) (hi : i < 2 ^ 30) : MR yX4_isFigure cX4_isFigure 2 (some .boolean) rX4_isFigure B [.ref (B + 13), .int (nI i)] Z0 D E (Q2 Z0 (pI (fun v D' E' => v = (bI (s_fgB t i = true)) ∧ D' = D ∧ E' = E))) := by
  obtain ⟨e1, e2, e3⟩ := id hT
  refine r_enter [(0, .ref (B + 13)), (1, .int (nI i))] hv_X4_isFigure.1.2.2.2.2 (Nat.le_of_ble_eq_true rfl) rfl ?_
  refine r_aload_n dX4_isFigure_0 rfl ?_
  refine r_iload_n dX4_isFigure_1 rfl ?_
  refine r_callVI (As := [.int (nI i)]) (o := 13) (c_X4_byteAt B D E t hT i hi) hv_X4_byteAt wm_X4_28 dX4_isFigure_2 rfl rfl z_13 k_13 (by decide) rfl (Nat.le_of_ble_eq_true rfl) ⟨Nat.le_of_ble_eq_true rfl, Nat.le_of_ble_eq_true rfl, Nat.zero_le _, Nat.zero_le _⟩ ⟨rfl, rfl⟩ (fun z1 D2 E3 hz1 => ?_)
  obtain ⟨hqV, hqD, hqE⟩ := hz1
  obtain rfl : z1 = byI t i := hqV
  obtain rfl := hqD.symm
  obtain rfl := hqE.symm
  refine r_bipush (nI 48) dX4_isFigure_5 (by decide) ?_
  refine r_bipush (nI 57) dX4_isFigure_7 (by decide) ?_
  refine r_callSNI (As := [.int (byI t i), .int (nI 48), .int (nI 57)]) (c_X5_within B D E (byI t i) (nI 48) (nI 57)) hs_X5_within (by decide) dX4_isFigure_9 rfl rfl (Nat.le_of_ble_eq_true rfl) ⟨Nat.le_of_ble_eq_true rfl, Nat.le_of_ble_eq_true rfl, Nat.zero_le _, Nat.zero_le _⟩ ⟨rfl, rfl⟩ (fun z4 D5 E6 hz4 => ?_)
  obtain ⟨hqV, hqD, hqE⟩ := hz4
  obtain rfl : z4 = bI (nI 48 ≤ byI t i ∧ byI t i ≤ nI 57) := hqV
  obtain rfl := hqD.symm
  obtain rfl := hqE.symm
  refine r_zret2 dX4_isFigure_12 rfl ⟨Nat.zero_le _, Nat.zero_le _⟩ (narrow_bI _) ?_
  exact ⟨bI_c (byI_fg (fun j hj => (e3 j hj).2)), rfl, rfl⟩
set_option maxRecDepth 100000 in
set_option maxHeartbeats 4000000 in
theorem c_X4_goesOn (B : Nat) (D : DD) (E : EE) (t : TPt) (s : PSt) (hS : TS D t s) : MR yX4_goesOn cX4_goesOn 1 (some .boolean) rX4_goesOn B [.ref (B + 13)] Z0 D E (Q2 Z0 (pI (fun v D' E' => v = (bI (s.2.1 = 0 ∧ s.1 < t.1)) ∧ D' = D ∧ E' = E))) := by
  obtain ⟨⟨e1, e2, e3⟩, e4, e5, e6, e7, e8, e9⟩ := id hS
  have ht : ∀ j, j < t.1 → t.2 j ≤ 255 := fun j hj => (e3 j hj).2
  refine r_enter [(0, .ref (B + 13))] hv_X4_goesOn.1.2.2.2.2 (Nat.le_of_ble_eq_true rfl) rfl ?_
  refine r_aload_n dX4_goesOn_0 rfl ?_
  refine r_getI (ci := 4) (k := 3) wf_X4_19 dX4_goesOn_1 z_13 k_13 (by decide) (by decide) rfl (fun z1 hz1 => ?_)
  obtain rfl : z1 = nI s.2.1 := hz1.trans e5
  refine r_if_ne (tgt := 22) dX4_goesOn_4 (by decide) (fun c4 => ?_) (fun c4 => ?_)
  · skip
    rw [nI_z (by omega)] at c4
    refine r_iconst (nI 0) dX4_goesOn_22 (by decide) ?_
    refine r_zret2 dX4_goesOn_23 rfl ⟨Nat.zero_le _, Nat.zero_le _⟩ rfl ?_
    refine ⟨?_, rfl, rfl⟩
    first | exact bI_t (by omega) | exact bI_f (by omega)
  · skip
    rw [nI_z (by omega)] at c4
    refine r_aload_n dX4_goesOn_7 rfl ?_
    refine r_getI (ci := 4) (k := 2) wf_X4_15 dX4_goesOn_8 z_13 k_13 (by decide) (by decide) rfl (fun z2 hz2 => ?_)
    obtain rfl : z2 = nI s.1 := hz2.trans e4
    refine r_aload_n dX4_goesOn_11 rfl ?_
    refine r_getI (ci := 4) (k := 1) wf_X4_22 dX4_goesOn_12 z_13 k_13 (by decide) (by decide) rfl (fun z3 hz3 => ?_)
    obtain rfl : z3 = nI t.1 := hz3.trans e1
    refine r_icmp_ge (tgt := 22) dX4_goesOn_15 (by decide) (fun c15 => ?_) (fun c15 => ?_)
    · skip
      rw [nI_leI (by omega) (by omega)] at c15
      refine r_iconst (nI 0) dX4_goesOn_22 (by decide) ?_
      refine r_zret2 dX4_goesOn_23 rfl ⟨Nat.zero_le _, Nat.zero_le _⟩ rfl ?_
      refine ⟨?_, rfl, rfl⟩
      first | exact bI_t (by omega) | exact bI_f (by omega)
    · skip
      rw [nI_leI (by omega) (by omega)] at c15
      refine r_iconst (nI 1) dX4_goesOn_18 (by decide) ?_
      refine r_goto (tgt := 23) dX4_goesOn_19 (by decide) ?_
      refine r_zret2 dX4_goesOn_23 rfl ⟨Nat.zero_le _, Nat.zero_le _⟩ rfl ?_
      refine ⟨?_, rfl, rfl⟩
      first | exact bI_t (by omega) | exact bI_f (by omega)
set_option maxRecDepth 100000 in
set_option maxHeartbeats 4000000 in
theorem c_X4_fail (B : Nat) (D : DD) (E : EE) (t : TPt) (s : PSt) (hS : TS D t s) (n pl : Nat) (hn : n ≤ 3) (hp : pl ≤ 120) : MR yX4_fail cX4_fail 3 none rX4_fail B [.ref (B + 13), .int (nI n), .int (nI pl)] Z0 D E (Q2 Z0 (pV (fun D' E' => TS D' t (p_fp n pl s) ∧ F13 D D' ∧ E' = E))) := by
  obtain ⟨⟨e1, e2, e3⟩, e4, e5, e6, e7, e8, e9⟩ := id hS
  have ht : ∀ j, j < t.1 → t.2 j ≤ 255 := fun j hj => (e3 j hj).2
  refine r_enter [(0, .ref (B + 13)), (1, .int (nI n)), (2, .int (nI pl))] hv_X4_fail.1.2.2.2.2 (Nat.le_of_ble_eq_true rfl) rfl ?_
  refine r_aload_n dX4_fail_0 rfl ?_
  refine r_getI (ci := 4) (k := 3) wf_X4_19 dX4_fail_1 z_13 k_13 (by decide) (by decide) rfl (fun z1 hz1 => ?_)
  obtain rfl : z1 = nI s.2.1 := hz1.trans e5
  refine r_if_ne (tgt := 17) dX4_fail_4 (by decide) (fun c4 => ?_) (fun c4 => ?_)
  · skip
    rw [nI_z (by omega)] at c4
    refine r_vret2 dX4_fail_17 rfl ⟨Nat.zero_le _, Nat.zero_le _⟩ ?_
    unfold p_fp
    first
      | (rw [if_pos c4]; exact ⟨TS_fl hS hn hp hd1 hd2, by rw [hd2, hd1]; exact F13.rf.up.up, rfl⟩)
      | (rw [if_neg c4]; exact ⟨hS, F13.rf, rfl⟩)
  · skip
    rw [nI_z (by omega)] at c4
    refine r_aload_n dX4_fail_7 rfl ?_
    refine r_iload_n dX4_fail_8 rfl ?_
    refine r_putI (ci := 4) (k := 3) wf_X4_19 dX4_fail_9 z_13 k_13 (by decide) (by decide) rfl rfl (fun D2 hD2 => ?_)
    have hd1 := hD2
    refine r_aload_n dX4_fail_12 rfl ?_
    refine r_iload_n dX4_fail_13 rfl ?_
    refine r_putI (ci := 4) (k := 4) wf_X4_25 dX4_fail_14 z_13 k_13 (by decide) (by decide) rfl rfl (fun D3 hD3 => ?_)
    have hd2 := hD3
    refine r_vret2 dX4_fail_17 rfl ⟨Nat.zero_le _, Nat.zero_le _⟩ ?_
    unfold p_fp
    first
      | (rw [if_pos c4]; exact ⟨TS_fl hS hn hp hd1 hd2, by rw [hd2, hd1]; exact F13.rf.up.up, rfl⟩)
      | (rw [if_neg c4]; exact ⟨hS, F13.rf, rfl⟩)
set_option maxRecDepth 100000 in
set_option maxHeartbeats 4000000 in
theorem c_X4_begin (B : Nat) (D : DD) (E : EE) (t : TPt) (hT : TP D t) : MR yX4_begin cX4_begin 1 none rX4_begin B [.ref (B + 13)] Z0 D E (Q2 Z0 (pV (fun D' E' => TS D' t (0, 0, 0) ∧ F13 D D' ∧ E' = E))) := by
  refine r_enter [(0, .ref (B + 13))] hv_X4_begin.1.2.2.2.2 (Nat.le_of_ble_eq_true rfl) rfl ?_
  refine r_aload_n dX4_begin_0 rfl ?_
  refine r_iconst (nI 0) dX4_begin_1 (by decide) ?_
  refine r_putI (ci := 4) (k := 2) wf_X4_15 dX4_begin_2 z_13 k_13 (by decide) (by decide) rfl rfl (fun D1 hD1 => ?_)
  have hd1 := hD1
  refine r_aload_n dX4_begin_5 rfl ?_
  refine r_iconst (nI 0) dX4_begin_6 (by decide) ?_
  refine r_putI (ci := 4) (k := 3) wf_X4_19 dX4_begin_7 z_13 k_13 (by decide) (by decide) rfl rfl (fun D2 hD2 => ?_)
  have hd2 := hD2
  refine r_vret2 dX4_begin_10 rfl ⟨Nat.zero_le _, Nat.zero_le _⟩ ?_
  have h9 := TS_0 hT hd1 hd2
  exact ⟨h9.1, h9.2, rfl⟩
set_option maxRecDepth 100000 in
set_option maxHeartbeats 4000000 in
theorem c_X4_expect (B : Nat) (D : DD) (E : EE) (t : TPt) (s : PSt) (hS : TS D t s) (c : Nat) (hc : c ≤ 255) : MR yX4_expect cX4_expect 2 none rX4_expect B [.ref (B + 13), .int (nI c)] Z0 D E (Q2 Z0 (pV (fun D' E' => TS D' t (p_ex t c s) ∧ F13 D D' ∧ E' = E))) := by
  obtain ⟨⟨e1, e2, e3⟩, e4, e5, e6, e7, e8, e9⟩ := id hS
  have ht : ∀ j, j < t.1 → t.2 j ≤ 255 := fun j hj => (e3 j hj).2
  refine r_enter [(0, .ref (B + 13)), (1, .int (nI c))] hv_X4_expect.1.2.2.2.2 (Nat.le_of_ble_eq_true rfl) rfl ?_
  refine r_aload_n dX4_expect_0 rfl ?_
  refine r_getI (ci := 4) (k := 3) wf_X4_19 dX4_expect_1 z_13 k_13 (by decide) (by decide) rfl (fun z1 hz1 => ?_)
  obtain rfl : z1 = nI s.2.1 := hz1.trans e5
  refine r_if_eq (tgt := 8) dX4_expect_4 (by decide) (fun c4 => ?_) (fun c4 => ?_)
  · skip
    rw [nI_z (by omega)] at c4
    refine r_aload_n dX4_expect_8 rfl ?_
    refine r_callVI (As := []) (o := 13) (c_X4_next B D E t s hS) hv_X4_next wm_X4_36 dX4_expect_9 rfl rfl z_13 k_13 (by decide) rfl (Nat.le_of_ble_eq_true rfl) ⟨Nat.le_of_ble_eq_true rfl, Nat.le_of_ble_eq_true rfl, Nat.zero_le _, Nat.zero_le _⟩ ⟨rfl, rfl⟩ (fun z2 D3 E4 hz2 => ?_)
    obtain ⟨hqV, hqD, hqE⟩ := hz2
    obtain rfl : z2 = byI t s.1 := hqV
    obtain rfl := hqD.symm
    obtain rfl := hqE.symm
    refine r_iload_n dX4_expect_12 rfl ?_
    refine r_icmp_ne (tgt := 29) dX4_expect_13 (by decide) (fun c13 => ?_) (fun c13 => ?_)
    · skip
      rw [byI_eq ht hc] at c13
      have hp : p_ex t c s = (s.1, 1, s.1) := (if_pos c4).trans (if_neg c13)
      refine r_aload_n dX4_expect_29 rfl ?_
      refine r_iconst (nI 1) dX4_expect_30 (by decide) ?_
      refine r_aload_n dX4_expect_31 rfl ?_
      refine r_getI (ci := 4) (k := 2) wf_X4_15 dX4_expect_32 z_13 k_13 (by decide) (by decide) rfl (fun z5 hz5 => ?_)
      obtain rfl : z5 = nI s.1 := hz5.trans e4
      refine r_callVV (As := [.int (nI 1), .int (nI s.1)]) (o := 13) (c_X4_fail B D E t s hS 1 s.1 (by decide) (by omega)) hv_X4_fail wm_X4_40 dX4_expect_35 rfl rfl z_13 k_13 (by decide) rfl (Nat.le_of_ble_eq_true rfl) ⟨Nat.le_of_ble_eq_true rfl, Nat.le_of_ble_eq_true rfl, Nat.zero_le _, Nat.zero_le _⟩ ⟨rfl, rfl⟩ (fun D7 E8 hz6 => ?_)
      obtain ⟨hq1, hq2, hqE⟩ := hz6
      obtain rfl := hqE.symm
      refine r_vret2 dX4_expect_38 rfl ⟨Nat.zero_le _, Nat.zero_le _⟩ ?_
      first
        | (have h9 := TS_at hS (show s.1 + 1 ≤ t.1 by omega) hd1
           rw [hp]
           rw [c4] at h9
           exact ⟨h9, by rw [hd1]; exact F13.rf.up, rfl⟩)
        | (unfold p_fp at hq1
           rw [if_pos c4] at hq1
           rw [hp]
           exact ⟨hq1, hq2, rfl⟩)
    · skip
      rw [byI_eq ht hc] at c13
      have hp : p_ex t c s = (s.1 + 1, 0, s.2.2) := (if_pos c4).trans (if_pos c13)
      have hl := by_lt hc c13
      refine r_aload_n dX4_expect_16 rfl ?_
      refine r_dup dX4_expect_17 rfl ?_
      refine r_getI (ci := 4) (k := 2) wf_X4_15 dX4_expect_18 z_13 k_13 (by decide) (by decide) rfl (fun z9 hz9 => ?_)
      obtain rfl : z9 = nI s.1 := hz9.trans e4
      refine r_iconst (nI 1) dX4_expect_21 (by decide) ?_
      refine r_iadd dX4_expect_22 (fun z10 hz10 => ?_)
      obtain rfl : z10 = nI (s.1 + 1) := (hz10.trans (nI_add _ _))
      refine r_putI (ci := 4) (k := 2) wf_X4_15 dX4_expect_23 z_13 k_13 (by decide) (by decide) rfl rfl (fun D11 hD11 => ?_)
      have hd1 := hD11
      refine r_goto (tgt := 38) dX4_expect_26 (by decide) ?_
      refine r_vret2 dX4_expect_38 rfl ⟨Nat.zero_le _, Nat.zero_le _⟩ ?_
      first
        | (have h9 := TS_at hS (show s.1 + 1 ≤ t.1 by omega) hd1
           rw [hp]
           rw [c4] at h9
           exact ⟨h9, by rw [hd1]; exact F13.rf.up, rfl⟩)
        | (unfold p_fp at hq1
           rw [if_pos c4] at hq1
           rw [hp]
           exact ⟨hq1, hq2, rfl⟩)
  · skip
    rw [nI_z (by omega)] at c4
    refine r_vret2 dX4_expect_7 rfl ⟨Nat.zero_le _, Nat.zero_le _⟩ ?_
    rw [ex_f c4]
    exact ⟨hS, F13.rf, rfl⟩
set_option maxRecDepth 100000 in
set_option maxHeartbeats 4000000 in
theorem c_X4_number (B : Nat) (D : DD) (E : EE) (t : TPt) (s : PSt) (hS : TS D t s) (lo hi : Int32) (l h : Nat) (hlh : s.2.1 = 0 → lo = nI l ∧ hi = nI h) (hl : l ≤ 2000) (hh : h ≤ 2000) : MR yX4_number cX4_number 5 (some .int) rX4_number B [.ref (B + 13), .int lo, .int hi] Z0 D E (Q2 Z0 (pI (fun v D' E' => v = (if (p_nm t l h s).2.1 = 0 then nI (p_vl t s) else nI 0) ∧ TS D' t (p_nm t l h s) ∧ F13 D D' ∧ E' = E))) := by
  obtain ⟨⟨e1, e2, e3⟩, e4, e5, e6, e7, e8, e9⟩ := id hS
  have ht : ∀ j, j < t.1 → t.2 j ≤ 255 := fun j hj => (e3 j hj).2
  refine r_enter [(0, .ref (B + 13)), (1, .int lo), (2, .int hi)] hv_X4_number.1.2.2.2.2 (Nat.le_of_ble_eq_true rfl) rfl ?_
  refine r_aload_n dX4_number_0 rfl ?_
  refine r_getI (ci := 4) (k := 3) wf_X4_19 dX4_number_1 z_13 k_13 (by decide) (by decide) rfl (fun z1 hz1 => ?_)
  obtain rfl : z1 = nI s.2.1 := hz1.trans e5
  refine r_if_eq (tgt := 9) dX4_number_4 (by decide) (fun c4 => ?_) (fun c4 => ?_)
  · skip
    rw [nI_z (by omega)] at c4
    obtain ⟨rfl, rfl⟩ := hlh c4
    refine r_iconst (nI 0) dX4_number_9 (by decide) ?_
    refine r_istore_n [(3, .int (nI 0)), (0, .ref (B + 13)), (1, .int (nI l)), (2, .int (nI h))] dX4_number_10 (by decide) rfl ?_
    refine r_iconst (nI 0) dX4_number_11 (by decide) ?_
    refine r_istore [(4, .int (nI 0)), (3, .int (nI 0)), (0, .ref (B + 13)), (1, .int (nI l)), (2, .int (nI h))] dX4_number_12 (by decide) rfl ?_
    refine r_lv [(4, .int (nI (s_v t s.1 0))), (3, .int (nI 0)), (0, .ref (B + 13)), (1, .int (nI l)), (2, .int (nI h))] (List.forall_mem_cons.mpr ⟨congrArg (fun x => some (Value.int x)) rfl, List.forall_mem_cons.mpr ⟨rfl, List.forall_mem_cons.mpr ⟨rfl, List.forall_mem_cons.mpr ⟨rfl, List.forall_mem_cons.mpr ⟨rfl, fun _ h => absurd h List.not_mem_nil⟩⟩⟩⟩⟩) ?_
    have L : ∀ fu k : Nat, k ≤ 3 → 3 - k < fu → (∀ i, i < k → s_fg t (s.1 + i)) → RW yX4_number cX4_number 5 (some .int) rX4_number B (Q2 Z0 (pI (fun v D' E' => v = (if (p_nm t l h s).2.1 = 0 then nI (p_vl t s) else nI 0) ∧ TS D' t (p_nm t l h s) ∧ F13 D D' ∧ E' = E))) Z0 D E 0 0 14 [(4, .int (nI (s_v t s.1 k))), (3, .int (nI k)), (0, .ref (B + 13)), (1, .int (nI l)), (2, .int (nI h))] [] := by
      intro fu
      induction fu with
      | zero => intro k hku hfu; omega
      | succ fu ih =>
        intro k hku hfu hJ
        refine r_iload_n dX4_number_14 rfl ?_
        refine r_iconst (nI 3) dX4_number_15 (by decide) ?_
        refine r_icmp_ge (tgt := 59) dX4_number_16 (by decide) (fun c16 => ?_) (fun c16 => ?_)
        · skip
          rw [nI_leI (by omega) (by omega)] at c16
          have hln : s_ln t s.1 = k := ln_of hJ (by first | exact Or.inl (by omega) | exact Or.inr ⟨by omega, fun q => c29 (s_fgB_iff.mpr q)⟩)
          have h999 := v_999 (k := k) (by omega) hJ
          have hvl : p_vl t s = s_v t s.1 k := by unfold p_vl; rw [hln]
          refine r_iload_n dX4_number_59 rfl ?_
          refine r_if_eq (tgt := 68) dX4_number_60 (by decide) (fun c60 => ?_) (fun c60 => ?_)
          · skip
            rw [nI_z (by omega)] at c60
            refine r_aload_n dX4_number_68 rfl ?_
            refine r_iconst (nI 1) dX4_number_69 (by decide) ?_
            refine r_aload_n dX4_number_70 rfl ?_
            refine r_getI (ci := 4) (k := 2) wf_X4_15 dX4_number_71 z_13 k_13 (by decide) (by decide) rfl (fun z2 hz2 => ?_)
            obtain rfl : z2 = nI s.1 := hz2.trans e4
            refine r_callVV (As := [.int (nI 1), .int (nI s.1)]) (o := 13) (c_X4_fail B D E t s hS 1 s.1 (by decide) (by omega)) hv_X4_fail wm_X4_40 dX4_number_74 rfl rfl z_13 k_13 (by decide) rfl (Nat.le_of_ble_eq_true rfl) ⟨Nat.le_of_ble_eq_true rfl, Nat.le_of_ble_eq_true rfl, Nat.zero_le _, Nat.zero_le _⟩ ⟨rfl, rfl⟩ (fun D4 E5 hz3 => ?_)
            obtain ⟨hq1, hq2, hqE⟩ := hz3
            obtain rfl := hqE.symm
            refine r_iconst (nI 0) dX4_number_77 (by decide) ?_
            refine r_iret2 dX4_number_78 rfl ⟨Nat.zero_le _, Nat.zero_le _⟩ ?_
            have hp : p_nm t l h s = (s.1, 1, s.1) := (if_pos c4).trans (if_pos (by omega))
            unfold p_fp at hq1
            rw [if_pos c4] at hq1
            rw [hp]
            exact ⟨rfl, hq1, hq2, rfl⟩
          · skip
            rw [nI_z (by omega)] at c60
            refine r_iload_n dX4_number_63 rfl ?_
            refine r_iconst (nI 2) dX4_number_64 (by decide) ?_
            refine r_icmp_le (tgt := 79) dX4_number_65 (by decide) (fun c65 => ?_) (fun c65 => ?_)
            · skip
              rw [nI_leI (by omega) (by omega)] at c65
              refine r_iload dX4_number_79 rfl ?_
              refine r_iload_n dX4_number_81 rfl ?_
              refine r_iload_n dX4_number_82 rfl ?_
              refine r_callSNI (As := [.int (nI (s_v t s.1 k)), .int (nI l), .int (nI h)]) (c_X5_within B D E (nI (s_v t s.1 k)) (nI l) (nI h)) hs_X5_within (by decide) dX4_number_83 rfl rfl (Nat.le_of_ble_eq_true rfl) ⟨Nat.le_of_ble_eq_true rfl, Nat.le_of_ble_eq_true rfl, Nat.zero_le _, Nat.zero_le _⟩ ⟨rfl, rfl⟩ (fun z6 D7 E8 hz6 => ?_)
              obtain ⟨hqV, hqD, hqE⟩ := hz6
              obtain rfl : z6 = bI (nI l ≤ nI (s_v t s.1 k) ∧ nI (s_v t s.1 k) ≤ nI h) := hqV
              obtain rfl := hqD.symm
              obtain rfl := hqE.symm
              refine r_if_ne (tgt := 100) dX4_number_86 (by decide) (fun c86 => ?_) (fun c86 => ?_)
              · skip
                rw [bI_n0] at c86
                rw [nI_leI (by omega) (by omega), nI_leI (by omega) (by omega)] at c86
                have hp : p_nm t l h s = (s.1 + k, 0, s.2.2) := by
                  refine (if_pos c4).trans ((if_neg (by omega)).trans ?_)
                  rw [hln]
                  exact if_pos c86
                refine r_aload_n dX4_number_100 rfl ?_
                refine r_dup dX4_number_101 rfl ?_
                refine r_getI (ci := 4) (k := 2) wf_X4_15 dX4_number_102 z_13 k_13 (by decide) (by decide) rfl (fun z9 hz9 => ?_)
                obtain rfl : z9 = nI s.1 := hz9.trans e4
                refine r_iload_n dX4_number_105 rfl ?_
                refine r_iadd dX4_number_106 (fun z10 hz10 => ?_)
                obtain rfl : z10 = nI (s.1 + k) := (hz10.trans (nI_add _ _))
                refine r_putI (ci := 4) (k := 2) wf_X4_15 dX4_number_107 z_13 k_13 (by decide) (by decide) rfl rfl (fun D11 hD11 => ?_)
                have hd1 := hD11
                refine r_iload dX4_number_110 rfl ?_
                refine r_iret2 dX4_number_112 rfl ⟨Nat.zero_le _, Nat.zero_le _⟩ ?_
                have hle := ln_le e7
                have h9 := TS_at hS (show s.1 + k ≤ t.1 by omega) hd1
                rw [hp, hvl]
                rw [c4] at h9
                exact ⟨rfl, h9, by rw [hd1]; exact F13.rf.up, rfl⟩
              · skip
                rw [bI_0] at c86
                rw [nI_leI (by omega) (by omega), nI_leI (by omega) (by omega)] at c86
                have hp : p_nm t l h s = (s.1, 2, s.1) := by
                  refine (if_pos c4).trans ((if_neg (by omega)).trans ?_)
                  rw [hln]
                  exact if_neg c86
                refine r_aload_n dX4_number_89 rfl ?_
                refine r_iconst (nI 2) dX4_number_90 (by decide) ?_
                refine r_aload_n dX4_number_91 rfl ?_
                refine r_getI (ci := 4) (k := 2) wf_X4_15 dX4_number_92 z_13 k_13 (by decide) (by decide) rfl (fun z12 hz12 => ?_)
                obtain rfl : z12 = nI s.1 := hz12.trans e4
                refine r_callVV (As := [.int (nI 2), .int (nI s.1)]) (o := 13) (c_X4_fail B D E t s hS 2 s.1 (by decide) (by omega)) hv_X4_fail wm_X4_40 dX4_number_95 rfl rfl z_13 k_13 (by decide) rfl (Nat.le_of_ble_eq_true rfl) ⟨Nat.le_of_ble_eq_true rfl, Nat.le_of_ble_eq_true rfl, Nat.zero_le _, Nat.zero_le _⟩ ⟨rfl, rfl⟩ (fun D14 E15 hz13 => ?_)
                obtain ⟨hq1, hq2, hqE⟩ := hz13
                obtain rfl := hqE.symm
                refine r_iconst (nI 0) dX4_number_98 (by decide) ?_
                refine r_iret2 dX4_number_99 rfl ⟨Nat.zero_le _, Nat.zero_le _⟩ ?_
                unfold p_fp at hq1
                rw [if_pos c4] at hq1
                rw [hp]
                exact ⟨rfl, hq1, hq2, rfl⟩
            · skip
              rw [nI_leI (by omega) (by omega)] at c65
              refine r_aload_n dX4_number_68 rfl ?_
              refine r_iconst (nI 1) dX4_number_69 (by decide) ?_
              refine r_aload_n dX4_number_70 rfl ?_
              refine r_getI (ci := 4) (k := 2) wf_X4_15 dX4_number_71 z_13 k_13 (by decide) (by decide) rfl (fun z16 hz16 => ?_)
              obtain rfl : z16 = nI s.1 := hz16.trans e4
              refine r_callVV (As := [.int (nI 1), .int (nI s.1)]) (o := 13) (c_X4_fail B D E t s hS 1 s.1 (by decide) (by omega)) hv_X4_fail wm_X4_40 dX4_number_74 rfl rfl z_13 k_13 (by decide) rfl (Nat.le_of_ble_eq_true rfl) ⟨Nat.le_of_ble_eq_true rfl, Nat.le_of_ble_eq_true rfl, Nat.zero_le _, Nat.zero_le _⟩ ⟨rfl, rfl⟩ (fun D18 E19 hz17 => ?_)
              obtain ⟨hq1, hq2, hqE⟩ := hz17
              obtain rfl := hqE.symm
              refine r_iconst (nI 0) dX4_number_77 (by decide) ?_
              refine r_iret2 dX4_number_78 rfl ⟨Nat.zero_le _, Nat.zero_le _⟩ ?_
              have hp : p_nm t l h s = (s.1, 1, s.1) := (if_pos c4).trans (if_pos (by omega))
              unfold p_fp at hq1
              rw [if_pos c4] at hq1
              rw [hp]
              exact ⟨rfl, hq1, hq2, rfl⟩
        · skip
          rw [nI_leI (by omega) (by omega)] at c16
          refine r_aload_n dX4_number_19 rfl ?_
          refine r_aload_n dX4_number_20 rfl ?_
          refine r_getI (ci := 4) (k := 2) wf_X4_15 dX4_number_21 z_13 k_13 (by decide) (by decide) rfl (fun z20 hz20 => ?_)
          obtain rfl : z20 = nI s.1 := hz20.trans e4
          refine r_iload_n dX4_number_24 rfl ?_
          refine r_iadd dX4_number_25 (fun z21 hz21 => ?_)
          obtain rfl : z21 = nI (s.1 + k) := (hz21.trans (nI_add _ _))
          refine r_callVI (As := [.int (nI (s.1 + k))]) (o := 13) (c_X4_isFigure B D E t hS.1 (s.1 + k) (by omega)) hv_X4_isFigure wm_X4_44 dX4_number_26 rfl rfl z_13 k_13 (by decide) rfl (Nat.le_of_ble_eq_true rfl) ⟨Nat.le_of_ble_eq_true rfl, Nat.le_of_ble_eq_true rfl, Nat.zero_le _, Nat.zero_le _⟩ ⟨rfl, rfl⟩ (fun z22 D23 E24 hz22 => ?_)
          obtain ⟨hqV, hqD, hqE⟩ := hz22
          obtain rfl : z22 = bI (s_fgB t (s.1 + k) = true) := hqV
          obtain rfl := hqD.symm
          obtain rfl := hqE.symm
          refine r_if_eq (tgt := 59) dX4_number_29 (by decide) (fun c29 => ?_) (fun c29 => ?_)
          · skip
            rw [bI_0] at c29
            have hln : s_ln t s.1 = k := ln_of hJ (by first | exact Or.inl (by omega) | exact Or.inr ⟨by omega, fun q => c29 (s_fgB_iff.mpr q)⟩)
            have h999 := v_999 (k := k) (by omega) hJ
            have hvl : p_vl t s = s_v t s.1 k := by unfold p_vl; rw [hln]
            refine r_iload_n dX4_number_59 rfl ?_
            refine r_if_eq (tgt := 68) dX4_number_60 (by decide) (fun c60 => ?_) (fun c60 => ?_)
            · skip
              rw [nI_z (by omega)] at c60
              refine r_aload_n dX4_number_68 rfl ?_
              refine r_iconst (nI 1) dX4_number_69 (by decide) ?_
              refine r_aload_n dX4_number_70 rfl ?_
              refine r_getI (ci := 4) (k := 2) wf_X4_15 dX4_number_71 z_13 k_13 (by decide) (by decide) rfl (fun z25 hz25 => ?_)
              obtain rfl : z25 = nI s.1 := hz25.trans e4
              refine r_callVV (As := [.int (nI 1), .int (nI s.1)]) (o := 13) (c_X4_fail B D E t s hS 1 s.1 (by decide) (by omega)) hv_X4_fail wm_X4_40 dX4_number_74 rfl rfl z_13 k_13 (by decide) rfl (Nat.le_of_ble_eq_true rfl) ⟨Nat.le_of_ble_eq_true rfl, Nat.le_of_ble_eq_true rfl, Nat.zero_le _, Nat.zero_le _⟩ ⟨rfl, rfl⟩ (fun D27 E28 hz26 => ?_)
              obtain ⟨hq1, hq2, hqE⟩ := hz26
              obtain rfl := hqE.symm
              refine r_iconst (nI 0) dX4_number_77 (by decide) ?_
              refine r_iret2 dX4_number_78 rfl ⟨Nat.zero_le _, Nat.zero_le _⟩ ?_
              have hp : p_nm t l h s = (s.1, 1, s.1) := (if_pos c4).trans (if_pos (by omega))
              unfold p_fp at hq1
              rw [if_pos c4] at hq1
              rw [hp]
              exact ⟨rfl, hq1, hq2, rfl⟩
            · skip
              rw [nI_z (by omega)] at c60
              refine r_iload_n dX4_number_63 rfl ?_
              refine r_iconst (nI 2) dX4_number_64 (by decide) ?_
              refine r_icmp_le (tgt := 79) dX4_number_65 (by decide) (fun c65 => ?_) (fun c65 => ?_)
              · skip
                rw [nI_leI (by omega) (by omega)] at c65
                refine r_iload dX4_number_79 rfl ?_
                refine r_iload_n dX4_number_81 rfl ?_
                refine r_iload_n dX4_number_82 rfl ?_
                refine r_callSNI (As := [.int (nI (s_v t s.1 k)), .int (nI l), .int (nI h)]) (c_X5_within B D E (nI (s_v t s.1 k)) (nI l) (nI h)) hs_X5_within (by decide) dX4_number_83 rfl rfl (Nat.le_of_ble_eq_true rfl) ⟨Nat.le_of_ble_eq_true rfl, Nat.le_of_ble_eq_true rfl, Nat.zero_le _, Nat.zero_le _⟩ ⟨rfl, rfl⟩ (fun z29 D30 E31 hz29 => ?_)
                obtain ⟨hqV, hqD, hqE⟩ := hz29
                obtain rfl : z29 = bI (nI l ≤ nI (s_v t s.1 k) ∧ nI (s_v t s.1 k) ≤ nI h) := hqV
                obtain rfl := hqD.symm
                obtain rfl := hqE.symm
                refine r_if_ne (tgt := 100) dX4_number_86 (by decide) (fun c86 => ?_) (fun c86 => ?_)
                · skip
                  rw [bI_n0] at c86
                  rw [nI_leI (by omega) (by omega), nI_leI (by omega) (by omega)] at c86
                  have hp : p_nm t l h s = (s.1 + k, 0, s.2.2) := by
                    refine (if_pos c4).trans ((if_neg (by omega)).trans ?_)
                    rw [hln]
                    exact if_pos c86
                  refine r_aload_n dX4_number_100 rfl ?_
                  refine r_dup dX4_number_101 rfl ?_
                  refine r_getI (ci := 4) (k := 2) wf_X4_15 dX4_number_102 z_13 k_13 (by decide) (by decide) rfl (fun z32 hz32 => ?_)
                  obtain rfl : z32 = nI s.1 := hz32.trans e4
                  refine r_iload_n dX4_number_105 rfl ?_
                  refine r_iadd dX4_number_106 (fun z33 hz33 => ?_)
                  obtain rfl : z33 = nI (s.1 + k) := (hz33.trans (nI_add _ _))
                  refine r_putI (ci := 4) (k := 2) wf_X4_15 dX4_number_107 z_13 k_13 (by decide) (by decide) rfl rfl (fun D34 hD34 => ?_)
                  have hd1 := hD34
                  refine r_iload dX4_number_110 rfl ?_
                  refine r_iret2 dX4_number_112 rfl ⟨Nat.zero_le _, Nat.zero_le _⟩ ?_
                  have hle := ln_le e7
                  have h9 := TS_at hS (show s.1 + k ≤ t.1 by omega) hd1
                  rw [hp, hvl]
                  rw [c4] at h9
                  exact ⟨rfl, h9, by rw [hd1]; exact F13.rf.up, rfl⟩
                · skip
                  rw [bI_0] at c86
                  rw [nI_leI (by omega) (by omega), nI_leI (by omega) (by omega)] at c86
                  have hp : p_nm t l h s = (s.1, 2, s.1) := by
                    refine (if_pos c4).trans ((if_neg (by omega)).trans ?_)
                    rw [hln]
                    exact if_neg c86
                  refine r_aload_n dX4_number_89 rfl ?_
                  refine r_iconst (nI 2) dX4_number_90 (by decide) ?_
                  refine r_aload_n dX4_number_91 rfl ?_
                  refine r_getI (ci := 4) (k := 2) wf_X4_15 dX4_number_92 z_13 k_13 (by decide) (by decide) rfl (fun z35 hz35 => ?_)
                  obtain rfl : z35 = nI s.1 := hz35.trans e4
                  refine r_callVV (As := [.int (nI 2), .int (nI s.1)]) (o := 13) (c_X4_fail B D E t s hS 2 s.1 (by decide) (by omega)) hv_X4_fail wm_X4_40 dX4_number_95 rfl rfl z_13 k_13 (by decide) rfl (Nat.le_of_ble_eq_true rfl) ⟨Nat.le_of_ble_eq_true rfl, Nat.le_of_ble_eq_true rfl, Nat.zero_le _, Nat.zero_le _⟩ ⟨rfl, rfl⟩ (fun D37 E38 hz36 => ?_)
                  obtain ⟨hq1, hq2, hqE⟩ := hz36
                  obtain rfl := hqE.symm
                  refine r_iconst (nI 0) dX4_number_98 (by decide) ?_
                  refine r_iret2 dX4_number_99 rfl ⟨Nat.zero_le _, Nat.zero_le _⟩ ?_
                  unfold p_fp at hq1
                  rw [if_pos c4] at hq1
                  rw [hp]
                  exact ⟨rfl, hq1, hq2, rfl⟩
              · skip
                rw [nI_leI (by omega) (by omega)] at c65
                refine r_aload_n dX4_number_68 rfl ?_
                refine r_iconst (nI 1) dX4_number_69 (by decide) ?_
                refine r_aload_n dX4_number_70 rfl ?_
                refine r_getI (ci := 4) (k := 2) wf_X4_15 dX4_number_71 z_13 k_13 (by decide) (by decide) rfl (fun z39 hz39 => ?_)
                obtain rfl : z39 = nI s.1 := hz39.trans e4
                refine r_callVV (As := [.int (nI 1), .int (nI s.1)]) (o := 13) (c_X4_fail B D E t s hS 1 s.1 (by decide) (by omega)) hv_X4_fail wm_X4_40 dX4_number_74 rfl rfl z_13 k_13 (by decide) rfl (Nat.le_of_ble_eq_true rfl) ⟨Nat.le_of_ble_eq_true rfl, Nat.le_of_ble_eq_true rfl, Nat.zero_le _, Nat.zero_le _⟩ ⟨rfl, rfl⟩ (fun D41 E42 hz40 => ?_)
                obtain ⟨hq1, hq2, hqE⟩ := hz40
                obtain rfl := hqE.symm
                refine r_iconst (nI 0) dX4_number_77 (by decide) ?_
                refine r_iret2 dX4_number_78 rfl ⟨Nat.zero_le _, Nat.zero_le _⟩ ?_
                have hp : p_nm t l h s = (s.1, 1, s.1) := (if_pos c4).trans (if_pos (by omega))
                unfold p_fp at hq1
                rw [if_pos c4] at hq1
                rw [hp]
                exact ⟨rfl, hq1, hq2, rfl⟩
          · skip
            rw [bI_n0] at c29
            have hf9 := s_fgB_iff.mp c29
            have hf8 := hf9.1
            have hf7 := hf9.2
            have h999 := v_999 (k := k) (by omega) hJ
            refine r_bipush (nI 10) dX4_number_32 (by decide) ?_
            refine r_iload dX4_number_34 rfl ?_
            refine r_imul dX4_number_36 (fun z43 hz43 => ?_)
            obtain rfl : z43 = nI (10 * (s_v t s.1 k)) := (hz43.trans (pk_mul _ _))
            refine r_aload_n dX4_number_37 rfl ?_
            refine r_aload_n dX4_number_38 rfl ?_
            refine r_getI (ci := 4) (k := 2) wf_X4_15 dX4_number_39 z_13 k_13 (by decide) (by decide) rfl (fun z44 hz44 => ?_)
            obtain rfl : z44 = nI s.1 := hz44.trans e4
            refine r_iload_n dX4_number_42 rfl ?_
            refine r_iadd dX4_number_43 (fun z45 hz45 => ?_)
            obtain rfl : z45 = nI (s.1 + k) := (hz45.trans (nI_add _ _))
            refine r_callVI (As := [.int (nI (s.1 + k))]) (o := 13) (c_X4_byteAt B D E t hS.1 (s.1 + k) (by omega)) hv_X4_byteAt wm_X4_28 dX4_number_44 rfl rfl z_13 k_13 (by decide) rfl (Nat.le_of_ble_eq_true rfl) ⟨Nat.le_of_ble_eq_true rfl, Nat.le_of_ble_eq_true rfl, Nat.zero_le _, Nat.zero_le _⟩ ⟨rfl, rfl⟩ (fun z46 D47 E48 hz46 => ?_)
            obtain ⟨hq1, hqD, hqE⟩ := hz46
            obtain rfl := hqD.symm
            obtain rfl := hqE.symm
            obtain rfl : z46 = nI (s_by t (s.1 + k)) := hq1.trans (byI_v ht hf9)
            refine r_iadd dX4_number_47 (fun z49 hz49 => ?_)
            obtain rfl : z49 = nI ((10 * (s_v t s.1 k)) + (s_by t (s.1 + k))) := (hz49.trans (nI_add _ _))
            refine r_bipush (nI 48) dX4_number_48 (by decide) ?_
            refine r_isub dX4_number_50 (fun z50 hz50 => ?_)
            obtain rfl : z50 = nI (s_v t s.1 (k + 1)) := hz50.trans ((nI_sub (by omega)).trans (congrArg nI (by show _ = 10 * s_v t s.1 k + (s_by t (s.1 + k) - 48); omega)))
            refine r_istore [(4, .int (nI (s_v t s.1 (k + 1)))), (3, .int (nI k)), (0, .ref (B + 13)), (1, .int (nI l)), (2, .int (nI h))] dX4_number_51 (by decide) rfl ?_
            refine r_iinc (nI (k + 1)) [(3, .int (nI (k + 1))), (4, .int (nI (s_v t s.1 (k + 1)))), (0, .ref (B + 13)), (1, .int (nI l)), (2, .int (nI h))] dX4_number_53 rfl (nI_1 _) (by decide) rfl ?_
            refine r_goto (tgt := 14) dX4_number_56 (by decide) ?_
            exact r_lv [(4, .int (nI (s_v t s.1 (k + 1)))), (3, .int (nI (k + 1))), (0, .ref (B + 13)), (1, .int (nI l)), (2, .int (nI h))] (List.forall_mem_cons.mpr ⟨rfl, List.forall_mem_cons.mpr ⟨rfl, List.forall_mem_cons.mpr ⟨rfl, List.forall_mem_cons.mpr ⟨rfl, List.forall_mem_cons.mpr ⟨rfl, fun _ h => absurd h List.not_mem_nil⟩⟩⟩⟩⟩) (ih (k + 1) (by omega) (by omega) (fun i hi => (Nat.lt_succ_iff_lt_or_eq.mp hi).elim (fun h => hJ i h) (fun h => h ▸ hf9)))
    exact r_lv [(4, .int (nI (s_v t s.1 0))), (3, .int (nI 0)), (0, .ref (B + 13)), (1, .int (nI l)), (2, .int (nI h))] (List.forall_mem_cons.mpr ⟨rfl, List.forall_mem_cons.mpr ⟨rfl, List.forall_mem_cons.mpr ⟨rfl, List.forall_mem_cons.mpr ⟨rfl, List.forall_mem_cons.mpr ⟨rfl, fun _ h => absurd h List.not_mem_nil⟩⟩⟩⟩⟩) (L (3 + 1) 0 (by omega) (by omega) (fun i hi => absurd hi (Nat.not_lt_zero i)))
  · skip
    rw [nI_z (by omega)] at c4
    refine r_iconst (nI 0) dX4_number_7 (by decide) ?_
    refine r_iret2 dX4_number_8 rfl ⟨Nat.zero_le _, Nat.zero_le _⟩ ?_
    rw [nm_f c4]
    exact ⟨(if_neg c4).symm, hS, F13.rf, rfl⟩
