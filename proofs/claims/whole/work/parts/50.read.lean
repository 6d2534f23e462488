set_option maxRecDepth 100000 in
set_option maxHeartbeats 4000000 in
theorem c_X1_clear (B : Nat) (D : DD) (E : EE)  : MR yX1_clear cX1_clear 2 none rX1_clear B [.ref (B + 179)] Z0 D E (Q2 Z0 (pV (fun D' E' => (D' 179 3 = nI 0 ∧ D' 179 4 = nI 0 ∧ (∀ j, j < 6 → D' 180 j = nI 0) ∧ ∀ q, q ≠ 179 → q ≠ 180 → D' q = D q) ∧ E' = E))) := by
  refine r_enter [(0, .ref (B + 179))] hv_X1_clear.1.2.2.2.2 (Nat.le_of_ble_eq_true rfl) rfl ?_
  refine r_aload_n dX1_clear_0 rfl ?_
  refine r_iconst (nI 0) dX1_clear_1 (by decide) ?_
  refine r_putI (ci := 1) (k := 3) wf_X1_27 dX1_clear_2 z_179 k_179 (by decide) (by decide) rfl rfl (fun D1 hD1 => ?_)
  have hd1 := hD1
  refine r_aload_n dX1_clear_5 rfl ?_
  refine r_iconst (nI 0) dX1_clear_6 (by decide) ?_
  refine r_putI (ci := 1) (k := 4) wf_X1_31 dX1_clear_7 z_179 k_179 (by decide) (by decide) rfl rfl (fun D2 hD2 => ?_)
  have hd2 := hD2
  refine r_iconst (nI 0) dX1_clear_10 (by decide) ?_
  refine r_istore_n [(1, .int (nI 0)), (0, .ref (B + 179))] dX1_clear_11 (by decide) rfl ?_
  have L : ∀ (fu k : Nat) (Dk : DD), k ≤ 6 → 6 - k < fu → (Dk 179 3 = nI 0 ∧ Dk 179 4 = nI 0 ∧ (∀ j, j < k → Dk 180 j = nI 0) ∧ ∀ q, q ≠ 179 → q ≠ 180 → Dk q = D q) → RW yX1_clear cX1_clear 2 none rX1_clear B (Q2 Z0 (pV (fun D' E' => (D' 179 3 = nI 0 ∧ D' 179 4 = nI 0 ∧ (∀ j, j < 6 → D' 180 j = nI 0) ∧ ∀ q, q ≠ 179 → q ≠ 180 → D' q = D q) ∧ E' = E))) Z0 Dk E 0 0 12 [(1, .int (nI k)), (0, .ref (B + 179))] [] := by
    intro fu
    induction fu with
    | zero => intro k Dk hku hfu _; omega
    | succ fu ih =>
      intro k Dk hku hfu hI
      refine r_iload_n dX1_clear_12 rfl ?_
      refine r_bipush (nI 6) dX1_clear_13 (by decide) ?_
      refine r_icmp_ge (tgt := 31) dX1_clear_15 (by decide) (fun c15 => ?_) (fun c15 => ?_)
      · skip
        rw [nI_leI (by omega) (by omega)] at c15
        refine r_vret2 dX1_clear_31 rfl ⟨Nat.zero_le _, Nat.zero_le _⟩ ?_
        obtain rfl : k = 6 := by omega
        exact ⟨hI, rfl⟩
      · skip
        rw [nI_leI (by omega) (by omega)] at c15
        refine r_aload_n dX1_clear_18 rfl ?_
        refine r_getR (ci := 1) (k := 5) wf_X1_9 dX1_clear_19 z_179 k_179 (by decide) (by decide) (fun _ _ => rfl) f_179_5 ?_
        refine r_iload_n dX1_clear_22 rfl ?_
        refine r_iconst (nI 0) dX1_clear_23 (by decide) ?_
        refine r_iast dX1_clear_24 z_180 k_180 (vp_in_nI (by omega) (by decide)) (fun D3 hD3 => ?_)
        rw [nI_clamp (by omega)] at hD3
        have hN9 : D3 179 3 = nI 0 ∧ D3 179 4 = nI 0 ∧ (∀ j, j < k + 1 → D3 180 j = nI 0) ∧ ∀ q, q ≠ 179 → q ≠ 180 → D3 q = D q := by
          rw [hD3]
          refine ⟨(congrFun (up2_o (by decide)) 3).trans hI.1, (congrFun (up2_o (by decide)) 4).trans hI.2.1, fun j hj => ?_, fun q q1 q2 => (up2_o q2).trans (hI.2.2.2 q q1 q2)⟩
          by_cases e : j = k
          · subst e; exact up2_s
          · exact (up2_n (fun q => e q.2)).trans (hI.2.2.1 j (by omega))
        refine r_iinc (nI (k + 1)) [(1, .int (nI (k + 1))), (0, .ref (B + 179))] dX1_clear_25 rfl (nI_1 _) (by decide) rfl ?_
        refine r_goto (tgt := 12) dX1_clear_28 (by decide) ?_
        exact r_lv [(1, .int (nI (k + 1))), (0, .ref (B + 179))] (List.forall_mem_cons.mpr ⟨rfl, List.forall_mem_cons.mpr ⟨rfl, fun _ h => absurd h List.not_mem_nil⟩⟩) (ih (k + 1) D3 (by omega) (by omega) hN9)
  exact r_lv [(1, .int (nI 0)), (0, .ref (B + 179))] (List.forall_mem_cons.mpr ⟨rfl, List.forall_mem_cons.mpr ⟨rfl, fun _ h => absurd h List.not_mem_nil⟩⟩) (L (6 + 1) 0 D2 (by omega) (by omega) (⟨by rw [hd2, hd1]; exact (up2_n (by decide)).trans up2_s, by rw [hd2]; exact up2_s, fun j hj => absurd hj (Nat.not_lt_zero j), fun q q1 _ => by rw [hd2, hd1]; exact (up2_o q1).trans (up2_o q1)⟩))
set_option maxRecDepth 100000 in
set_option maxHeartbeats 4000000 in
theorem c_X1_joins (B : Nat) (D : DD) (E : EE) (r : Row) (a b : Nat) (ha : a < 6) (hb : b < 6) (hr : ∀ j, j < 6 → D 180 j = nI (r (10 + j)) ∧ r (10 + j) < 64) (h4 : D 179 3 = nI (r 4)) : MR yX1_joins cX1_joins 3 (some .boolean) rX1_joins B [.ref (B + 179), .int (nI a), .int (nI b)] Z0 D E (Q2 Z0 (pI (fun v D' E' => v = bI (¬ (a = b ∨ r (10 + a) / 2 ^ b % 2 = 1)) ∧ (∀ q, q ≠ 179 → q ≠ 180 → D' q = D q) ∧ ((a = b ∨ r (10 + a) / 2 ^ b % 2 = 1) → D' = D) ∧ (¬ (a = b ∨ r (10 + a) / 2 ^ b % 2 = 1) → JN D D' r a b) ∧ E' = E))) := by
  have ra := (hr a ha).2
  have rb := (hr b hb).2
  have pa := pw_lt64 ha
  have pb := pw_lt64 hb
  refine r_enter [(0, .ref (B + 179)), (1, .int (nI a)), (2, .int (nI b))] hv_X1_joins.1.2.2.2.2 (Nat.le_of_ble_eq_true rfl) rfl ?_
  refine r_iload_n dX1_joins_0 rfl ?_
  refine r_iload_n dX1_joins_1 rfl ?_
  refine r_icmp_eq (tgt := 19) dX1_joins_2 (by decide) (fun c2 => ?_) (fun c2 => ?_)
  · skip
    rw [nI_eq (by omega) (by omega)] at c2
    refine r_iconst (nI 0) dX1_joins_19 (by decide) ?_
    refine r_zret2 dX1_joins_20 rfl ⟨Nat.zero_le _, Nat.zero_le _⟩ rfl ?_
    refine ⟨bI_f (fun q => q (by omega)), fun _ _ _ => rfl, fun _ => rfl, fun q => absurd (by omega) q, rfl⟩
  · skip
    rw [nI_eq (by omega) (by omega)] at c2
    refine r_aload_n dX1_joins_5 rfl ?_
    refine r_getR (ci := 1) (k := 5) wf_X1_9 dX1_joins_6 z_179 k_179 (by decide) (by decide) (fun _ _ => rfl) f_179_5 ?_
    refine r_iload_n dX1_joins_9 rfl ?_
    refine r_iald dX1_joins_10 z_180 k_180 (vp_in_nI (by omega) (by decide)) (fun z1 hz1 => ?_)
    rw [nI_clamp (by omega)] at hz1
    obtain rfl : z1 = nI (r (10 + a)) := hz1.trans (hr a (by omega)).1
    refine r_iload_n dX1_joins_11 rfl ?_
    refine r_callSNI (As := [.int (nI (r (10 + a))), .int (nI b)]) (c_X5_bit B D E (nI (r (10 + a))) (nI b)) hs_X5_bit (by decide) dX1_joins_12 rfl rfl (Nat.le_of_ble_eq_true rfl) ⟨Nat.le_of_ble_eq_true rfl, Nat.le_of_ble_eq_true rfl, Nat.zero_le _, Nat.zero_le _⟩ ⟨rfl, rfl⟩ (fun z2 D3 E4 hz2 => ?_)
    obtain ⟨hq1, hqD, hqE⟩ := hz2
    obtain rfl := hqD.symm
    obtain rfl := hqE.symm
    obtain rfl : z2 = nI (r (10 + a) / 2 ^ b % 2) := hq1.trans (bit_n (by omega) (by omega))
    refine r_iconst (nI 1) dX1_joins_15 (by decide) ?_
    refine r_icmp_ne (tgt := 21) dX1_joins_16 (by decide) (fun c16 => ?_) (fun c16 => ?_)
    · skip
      rw [nI_eq (by omega) (by omega)] at c16
      refine r_aload_n dX1_joins_21 rfl ?_
      refine r_getR (ci := 1) (k := 5) wf_X1_9 dX1_joins_22 z_179 k_179 (by decide) (by decide) (fun _ _ => rfl) f_179_5 ?_
      refine r_iload_n dX1_joins_25 rfl ?_
      refine r_dup2 dX1_joins_26 rfl rfl ?_
      refine r_iald dX1_joins_27 z_180 k_180 (vp_in_nI (by omega) (by decide)) (fun z5 hz5 => ?_)
      rw [nI_clamp (by omega)] at hz5
      obtain rfl : z5 = nI (r (10 + a)) := hz5.trans (hr a (by omega)).1
      refine r_iconst (nI 1) dX1_joins_28 (by decide) ?_
      refine r_iload_n dX1_joins_29 rfl ?_
      refine r_ishl dX1_joins_30 (fun z6 hz6 => ?_)
      obtain rfl : z6 = nI (2 ^ b) := hz6.trans (shl_1 (by omega))
      refine r_ior dX1_joins_31 (fun z7 hz7 => ?_)
      obtain rfl : z7 = nI (r (10 + a) ||| 2 ^ b) := hz7.trans (nI_or _ _)
      refine r_iast dX1_joins_32 z_180 k_180 (vp_in_nI (by omega) (by decide)) (fun D8 hD8 => ?_)
      rw [nI_clamp (by omega)] at hD8
      obtain rfl : D8 = upo D 180 (upd (D 180) a (nI (r (10 + a) ||| 2 ^ b))) := hD8.trans up2_eq
      refine r_aload_n dX1_joins_33 rfl ?_
      refine r_getR (ci := 1) (k := 5) wf_X1_9 dX1_joins_34 z_179 k_179 (by decide) (by decide) (fun _ _ => rfl) f_179_5 ?_
      refine r_iload_n dX1_joins_37 rfl ?_
      refine r_dup2 dX1_joins_38 rfl rfl ?_
      refine r_iald dX1_joins_39 z_180 k_180 (vp_in_nI (by omega) (by decide)) (fun z9 hz9 => ?_)
      rw [nI_clamp (by omega)] at hz9
      obtain rfl : z9 = nI (r (10 + b)) := (hz9.trans ((congrFun (upo_s) _).trans (pk_un (by omega)))).trans (hr b (by omega)).1
      refine r_iconst (nI 1) dX1_joins_40 (by decide) ?_
      refine r_iload_n dX1_joins_41 rfl ?_
      refine r_ishl dX1_joins_42 (fun z10 hz10 => ?_)
      obtain rfl : z10 = nI (2 ^ a) := hz10.trans (shl_1 (by omega))
      refine r_ior dX1_joins_43 (fun z11 hz11 => ?_)
      obtain rfl : z11 = nI (r (10 + b) ||| 2 ^ a) := hz11.trans (nI_or _ _)
      refine r_iast dX1_joins_44 z_180 k_180 (vp_in_nI (by omega) (by decide)) (fun D12 hD12 => ?_)
      rw [nI_clamp (by omega)] at hD12
      obtain rfl : D12 = upo D 180 (upd (upd (D 180) a (nI (r (10 + a) ||| 2 ^ b))) b (nI (r (10 + b) ||| 2 ^ a))) := hD12.trans up2_upo
      refine r_aload_n dX1_joins_45 rfl ?_
      refine r_dup dX1_joins_46 rfl ?_
      refine r_getI (ci := 1) (k := 3) wf_X1_27 dX1_joins_47 z_179 k_179 (by decide) (by decide) rfl (fun z13 hz13 => ?_)
      obtain rfl : z13 = nI (r 4) := (hz13.trans (congrFun (upo_n (by decide)) _)).trans h4
      refine r_iconst (nI 1) dX1_joins_50 (by decide) ?_
      refine r_iadd dX1_joins_51 (fun z14 hz14 => ?_)
      obtain rfl : z14 = nI ((r 4) + 1) := (hz14.trans (nI_add _ _))
      refine r_putI (ci := 1) (k := 3) wf_X1_27 dX1_joins_52 z_179 k_179 (by decide) (by decide) rfl rfl (fun D15 hD15 => ?_)
      obtain rfl : D15 = upo (upo D 180 (upd (upd (D 180) a (nI (r (10 + a) ||| 2 ^ b))) b (nI (r (10 + b) ||| 2 ^ a)))) 179 (upd (D 179) 3 (nI ((r 4) + 1))) := hD15.trans (up2_eq.trans (congrArg (fun g9 => upo (upo D 180 (upd (upd (D 180) a (nI (r (10 + a) ||| 2 ^ b))) b (nI (r (10 + b) ||| 2 ^ a)))) 179 (upd g9 3 (nI ((r 4) + 1)))) (upo_n (by decide))))
      refine r_iconst (nI 1) dX1_joins_55 (by decide) ?_
      refine r_zret2 dX1_joins_56 rfl ⟨Nat.zero_le _, Nat.zero_le _⟩ rfl ?_
      refine ⟨bI_t (by omega), fun q q1 q2 => (upo_n q1).trans (upo_n q2), fun q => absurd q (by omega), fun _ => ⟨fun j hj => ?_, (congrFun upo_s 3).trans pk_us, fun k hk => (congrFun upo_s k).trans (pk_un hk)⟩, rfl⟩
      rw [road_at ha hb c2, upo_n (by decide), upo_s]
      unfold upd
      by_cases q : j = b
      · rw [if_pos q, if_pos q]
      · rw [if_neg q, if_neg q]
        by_cases u : j = a
        · rw [if_pos u, if_pos u]
        · rw [if_neg u, if_neg u]; exact (hr j hj).1
    · skip
      rw [nI_eq (by omega) (by omega)] at c16
      refine r_iconst (nI 0) dX1_joins_19 (by decide) ?_
      refine r_zret2 dX1_joins_20 rfl ⟨Nat.zero_le _, Nat.zero_le _⟩ rfl ?_
      refine ⟨bI_f (fun q => q (by omega)), fun _ _ _ => rfl, fun _ => rfl, fun q => absurd (by omega) q, rfl⟩
set_option maxRecDepth 100000 in
set_option maxHeartbeats 4000000 in
theorem c_X5_sortOf (B : Nat) (D : DD) (E : EE) (c : Nat) (hc : c ≤ 255) : MR yX5_sortOf cX5_sortOf 1 (some .int) rX5_sortOf B [.int (nI c)] Z0 D E (Q2 Z0 (pI (fun v D' E' => v = (nI (s_kb c)) ∧ D' = D ∧ E' = E))) := by
  refine r_enter [(0, .int (nI c))] hs_X5_sortOf.1.2.2.2.2 (Nat.le_of_ble_eq_true rfl) rfl ?_
  refine r_iload_n dX5_sortOf_0 rfl ?_
  rcases (show c = 97 ∨ c = 98 ∨ c = 107 ∨ c = 116 ∨ c = 119 ∨ (c ≠ 97 ∧ c ≠ 98 ∧ c ≠ 107 ∧ c ≠ 116 ∧ c ≠ 119) by omega) with rfl | rfl | rfl | rfl | rfl | hn
  · refine r_lookup (off := 51) (tgt := 52) dX5_sortOf_1 (by decide) (by decide) (by decide) ?_
    refine r_iconst (nI 1) dX5_sortOf_52 (by decide) ?_
    refine r_iret2 dX5_sortOf_53 rfl ⟨Nat.zero_le _, Nat.zero_le _⟩ ?_
    refine ⟨?_, rfl, rfl⟩
    first
      | rfl
      | (unfold s_kb; rw [if_neg hn.1, if_neg hn.2.2.2.2, if_neg hn.2.2.2.1, if_neg hn.2.2.1, if_neg hn.2.1])
  · refine r_lookup (off := 59) (tgt := 60) dX5_sortOf_1 (by decide) (by decide) (by decide) ?_
    refine r_iconst (nI 5) dX5_sortOf_60 (by decide) ?_
    refine r_iret2 dX5_sortOf_61 rfl ⟨Nat.zero_le _, Nat.zero_le _⟩ ?_
    refine ⟨?_, rfl, rfl⟩
    first
      | rfl
      | (unfold s_kb; rw [if_neg hn.1, if_neg hn.2.2.2.2, if_neg hn.2.2.2.1, if_neg hn.2.2.1, if_neg hn.2.1])
  · refine r_lookup (off := 57) (tgt := 58) dX5_sortOf_1 (by decide) (by decide) (by decide) ?_
    refine r_iconst (nI 4) dX5_sortOf_58 (by decide) ?_
    refine r_iret2 dX5_sortOf_59 rfl ⟨Nat.zero_le _, Nat.zero_le _⟩ ?_
    refine ⟨?_, rfl, rfl⟩
    first
      | rfl
      | (unfold s_kb; rw [if_neg hn.1, if_neg hn.2.2.2.2, if_neg hn.2.2.2.1, if_neg hn.2.2.1, if_neg hn.2.1])
  · refine r_lookup (off := 55) (tgt := 56) dX5_sortOf_1 (by decide) (by decide) (by decide) ?_
    refine r_iconst (nI 3) dX5_sortOf_56 (by decide) ?_
    refine r_iret2 dX5_sortOf_57 rfl ⟨Nat.zero_le _, Nat.zero_le _⟩ ?_
    refine ⟨?_, rfl, rfl⟩
    first
      | rfl
      | (unfold s_kb; rw [if_neg hn.1, if_neg hn.2.2.2.2, if_neg hn.2.2.2.1, if_neg hn.2.2.1, if_neg hn.2.1])
  · refine r_lookup (off := 53) (tgt := 54) dX5_sortOf_1 (by decide) (by decide) (by decide) ?_
    refine r_iconst (nI 2) dX5_sortOf_54 (by decide) ?_
    refine r_iret2 dX5_sortOf_55 rfl ⟨Nat.zero_le _, Nat.zero_le _⟩ ?_
    refine ⟨?_, rfl, rfl⟩
    first
      | rfl
      | (unfold s_kb; rw [if_neg hn.1, if_neg hn.2.2.2.2, if_neg hn.2.2.2.1, if_neg hn.2.2.1, if_neg hn.2.1])
  · refine r_lookup (off := 61) (tgt := 62) dX5_sortOf_1 (by decide) (by rw [nI_toInt (by omega)]; show Op.lookupswitch.offset [(97, 51), (98, 59), (107, 57), (116, 55), (119, 53)] 61 (c : Int) = 61; simp only [Op.lookupswitch.offset]; rw [if_neg (by omega), if_neg (by omega), if_neg (by omega), if_neg (by omega), if_neg (by omega)]) (by decide) ?_
    refine r_iconst (nI 0) dX5_sortOf_62 (by decide) ?_
    refine r_iret2 dX5_sortOf_63 rfl ⟨Nat.zero_le _, Nat.zero_le _⟩ ?_
    refine ⟨?_, rfl, rfl⟩
    first
      | rfl
      | (unfold s_kb; rw [if_neg hn.1, if_neg hn.2.2.2.2, if_neg hn.2.2.2.1, if_neg hn.2.2.1, if_neg hn.2.1])
set_option maxRecDepth 100000 in
set_option maxHeartbeats 4000000 in
theorem c_X5_readLaw (B : Nat) (D : DD) (E : EE) (hDB : DB D) (t : TPt) (hS0 : TS D t (0, 0, 0)) (h3 : D 179 3 = nI 0) (h4 : D 179 4 = nI 0) (hr : ∀ j, j < 6 → D 180 j = nI 0) : MR yX5_readLaw cX5_readLaw 1 none rX5_readLaw B [.ref (B + 0)] Z0 D E (Q2 Z0 (pV (fun D' E' => CS D' t (p_lawS t, p_lawR t) ∧ FRD D D' ∧ E' = E))) := by
  obtain ⟨v00, hB_D⟩ := hDB
  have hS_D := hS0
  have hf_D : FRD D D := FRD.rf
  have ha_D : D 179 = D 179 := rfl
  have hb_D : D 180 = D 180 := rfl
  have hl1 := vl_999 (t := t) (s := l_1 t)
  refine r_enter [(0, .ref (B + 0))] hv_X5_readLaw.1.2.2.2.2 (Nat.le_of_ble_eq_true rfl) rfl ?_
  refine r_aload_n dX5_readLaw_0 rfl ?_
  refine r_getR (ci := 5) (k := 1) wf_X5_19 dX5_readLaw_1 z_0 k_0 (by decide) (by decide) (fun _ _ => rfl) f_0_1 ?_
  refine r_bipush (nI 99) dX5_readLaw_4 (by decide) ?_
  refine r_callVV (As := [.int (nI 99)]) (o := 13) (c_X4_expect B D E t ((0, 0, 0)) hS_D 99 (by decide)) hv_X4_expect wm_X5_347 dX5_readLaw_6 rfl rfl z_13 k_13 (by decide) rfl (Nat.le_of_ble_eq_true rfl) ⟨Nat.le_of_ble_eq_true rfl, Nat.le_of_ble_eq_true rfl, Nat.zero_le _, Nat.zero_le _⟩ ⟨rfl, rfl⟩ (fun D2 E3 hz1 => ?_)
  obtain ⟨hq1, hq2, hqE⟩ := hz1
  obtain rfl := hqE.symm
  have hS_D2 : TS D2 t (l_1 t) := hq1
  have hf_D2 := hf_D.f hq2
  have ha_D2 : D2 179 = D 179 := (hq2 179 (by decide)).trans ha_D
  have hb_D2 : D2 180 = D 180 := (hq2 180 (by decide)).trans hb_D
  have hB_D2 := BG_f hB_D (hq2 185 (by decide)) (hq2 189 (by decide))
  refine r_aload_n dX5_readLaw_9 rfl ?_
  refine r_getR (ci := 5) (k := 6) wf_X5_47 dX5_readLaw_10 z_0 k_0 (by decide) (by decide) (fun _ _ => rfl) f_0_6 ?_
  refine r_aload_n dX5_readLaw_13 rfl ?_
  refine r_getR (ci := 5) (k := 1) wf_X5_19 dX5_readLaw_14 z_0 k_0 (by decide) (by decide) (fun _ _ => rfl) f_0_1 ?_
  refine r_iconst (nI 2) dX5_readLaw_17 (by decide) ?_
  refine r_bipush (nI 6) dX5_readLaw_18 (by decide) ?_
  refine r_callVI (As := [.int (nI 2), .int (nI 6)]) (o := 13) (c_X4_number B D2 E t (l_1 t) hS_D2 (nI 2) (nI 6) (2) (6) (fun _ => ⟨rfl, rfl⟩) (by omega) (by omega)) hv_X4_number wm_X5_350 dX5_readLaw_20 rfl rfl z_13 k_13 (by decide) rfl (Nat.le_of_ble_eq_true rfl) ⟨Nat.le_of_ble_eq_true rfl, Nat.le_of_ble_eq_true rfl, Nat.zero_le _, Nat.zero_le _⟩ ⟨rfl, rfl⟩ (fun z4 D5 E6 hz4 => ?_)
  obtain ⟨hq1, hq2, hq3, hqE⟩ := hz4
  obtain rfl := hqE.symm
  obtain rfl := hq1.symm
  have hS_D5 : TS D5 t (p_nm t 2 6 (l_1 t)) := hq2
  have hf_D5 := hf_D2.f hq3
  have ha_D5 : D5 179 = D 179 := (hq3 179 (by decide)).trans ha_D2
  have hb_D5 : D5 180 = D 180 := (hq3 180 (by decide)).trans hb_D2
  have hB_D5 := BG_f hB_D2 (hq3 185 (by decide)) (hq3 189 (by decide))
  refine r_putI (ci := 1) (k := 0) wf_X5_244 dX5_readLaw_23 z_179 k_179 (by decide) (by decide) rfl rfl (fun D7 hD7 => ?_)
  have hS_D7 := TS_eq (D' := D7) hS_D5 (by rw [hD7, up2_o (by decide)]) (by rw [hD7, up2_o (by decide)])
  have hf_D7 := hf_D5.up (by decide) hD7
  have ha_D7 : D7 179 = upd (D 179) 0 (if (p_nm t 2 6 (l_1 t)).2.1 = 0 then nI (p_vl t (l_1 t)) else nI 0) := by rw [hD7, up2_eq, upo_s, ha_D5]
  have hb_D7 : D7 180 = D 180 := by rw [hD7, up2_o (by decide)]; exact hb_D5
  have hB_D7 := BG_f (D' := D7) hB_D5 (by rw [hD7, up2_o (by decide)]) (by rw [hD7, up2_o (by decide)])
  refine r_aload_n dX5_readLaw_26 rfl ?_
  refine r_getR (ci := 5) (k := 1) wf_X5_19 dX5_readLaw_27 z_0 k_0 (by decide) (by decide) (fun _ _ => rfl) f_0_1 ?_
  refine r_bipush (nI 44) dX5_readLaw_30 (by decide) ?_
  refine r_callVV (As := [.int (nI 44)]) (o := 13) (c_X4_expect B D7 E t (p_nm t 2 6 (l_1 t)) hS_D7 44 (by decide)) hv_X4_expect wm_X5_347 dX5_readLaw_32 rfl rfl z_13 k_13 (by decide) rfl (Nat.le_of_ble_eq_true rfl) ⟨Nat.le_of_ble_eq_true rfl, Nat.le_of_ble_eq_true rfl, Nat.zero_le _, Nat.zero_le _⟩ ⟨rfl, rfl⟩ (fun D9 E10 hz8 => ?_)
  obtain ⟨hq1, hq2, hqE⟩ := hz8
  obtain rfl := hqE.symm
  have hS_D9 : TS D9 t (l_2 t) := hq1
  have hf_D9 := hf_D7.f hq2
  have ha_D9 : D9 179 = upd (D 179) 0 (if (p_nm t 2 6 (l_1 t)).2.1 = 0 then nI (p_vl t (l_1 t)) else nI 0) := (hq2 179 (by decide)).trans ha_D7
  have hb_D9 : D9 180 = D 180 := (hq2 180 (by decide)).trans hb_D7
  have hB_D9 := BG_f hB_D7 (hq2 185 (by decide)) (hq2 189 (by decide))
  refine r_aload_n dX5_readLaw_35 rfl ?_
  refine r_getR (ci := 5) (k := 7) wf_X5_50 dX5_readLaw_36 z_0 k_0 (by decide) (by decide) (fun _ _ => rfl) f_0_7 ?_
  refine r_aload_n dX5_readLaw_39 rfl ?_
  refine r_getR (ci := 5) (k := 1) wf_X5_19 dX5_readLaw_40 z_0 k_0 (by decide) (by decide) (fun _ _ => rfl) f_0_1 ?_
  refine r_iconst (nI 0) dX5_readLaw_43 (by decide) ?_
  refine r_aload_n dX5_readLaw_44 rfl ?_
  refine r_getR (ci := 5) (k := 6) wf_X5_47 dX5_readLaw_45 z_0 k_0 (by decide) (by decide) (fun _ _ => rfl) f_0_6 ?_
  refine r_getI (ci := 1) (k := 0) wf_X5_244 dX5_readLaw_48 z_179 k_179 (by decide) (by decide) rfl (fun z11 hz11 => ?_)
  obtain rfl : z11 = (if (p_nm t 2 6 (l_1 t)).2.1 = 0 then nI (p_vl t (l_1 t)) else nI 0) := hz11.trans ((congrFun ha_D9 0).trans rfl)
  refine r_iconst (nI 1) dX5_readLaw_51 (by decide) ?_
  refine r_isub dX5_readLaw_52 (fun z12 hz12 => ?_)
  subst hz12
  have hV0 : (l_2 t).2.1 = 0 → nI 0 = nI 0 ∧ (if (p_nm t 2 6 (l_1 t)).2.1 = 0 then nI (p_vl t (l_1 t)) else nI 0) - nI 1 = nI (p_vl t (l_1 t) - 1) := fun q => by
    obtain ⟨g1, -, -⟩ := ex_ok' (show l_2 t = p_ex t 44 (p_nm t 2 6 (l_1 t)) from rfl) q
    obtain ⟨-, g2, -⟩ := nm_ok g1
    exact ⟨rfl, by rw [if_pos g1]; exact nI_sub (by omega)⟩
  refine r_callVI (As := [.int (nI 0), .int (((if (p_nm t 2 6 (l_1 t)).2.1 = 0 then nI (p_vl t (l_1 t)) else nI 0)) - (nI 1))]) (o := 13) (c_X4_number B D9 E t (l_2 t) hS_D9 (nI 0) ((if (p_nm t 2 6 (l_1 t)).2.1 = 0 then nI (p_vl t (l_1 t)) else nI 0) - nI 1) (0) (p_vl t (l_1 t) - 1) hV0 (by omega) (by omega)) hv_X4_number wm_X5_350 dX5_readLaw_53 rfl rfl z_13 k_13 (by decide) rfl (Nat.le_of_ble_eq_true rfl) ⟨Nat.le_of_ble_eq_true rfl, Nat.le_of_ble_eq_true rfl, Nat.zero_le _, Nat.zero_le _⟩ ⟨rfl, rfl⟩ (fun z13 D14 E15 hz13 => ?_)
  obtain ⟨hq1, hq2, hq3, hqE⟩ := hz13
  obtain rfl := hqE.symm
  obtain rfl := hq1.symm
  have hS_D14 : TS D14 t (p_nm t 0 (p_vl t (l_1 t) - 1) (l_2 t)) := hq2
  have hf_D14 := hf_D9.f hq3
  have ha_D14 : D14 179 = upd (D 179) 0 (if (p_nm t 2 6 (l_1 t)).2.1 = 0 then nI (p_vl t (l_1 t)) else nI 0) := (hq3 179 (by decide)).trans ha_D9
  have hb_D14 : D14 180 = D 180 := (hq3 180 (by decide)).trans hb_D9
  have hB_D14 := BG_f hB_D9 (hq3 185 (by decide)) (hq3 189 (by decide))
  refine r_putI (ci := 0) (k := 1) wf_X5_169 dX5_readLaw_56 z_185 k_185 (by decide) (by decide) rfl rfl (fun D16 hD16 => ?_)
  have hS_D16 := TS_eq (D' := D16) hS_D14 (by rw [hD16, up2_o (by decide)]) (by rw [hD16, up2_o (by decide)])
  have hf_D16 := hf_D14.up (by decide) hD16
  have ha_D16 : D16 179 = upd (D 179) 0 (if (p_nm t 2 6 (l_1 t)).2.1 = 0 then nI (p_vl t (l_1 t)) else nI 0) := by rw [hD16, up2_o (by decide)]; exact ha_D14
  have hb_D16 : D16 180 = D 180 := by rw [hD16, up2_o (by decide)]; exact hb_D14
  have hB_D16 := BG_up hB_D14 hD16
  refine r_aload_n dX5_readLaw_59 rfl ?_
  refine r_getR (ci := 5) (k := 1) wf_X5_19 dX5_readLaw_60 z_0 k_0 (by decide) (by decide) (fun _ _ => rfl) f_0_1 ?_
  refine r_bipush (nI 44) dX5_readLaw_63 (by decide) ?_
  refine r_callVV (As := [.int (nI 44)]) (o := 13) (c_X4_expect B D16 E t (p_nm t 0 (p_vl t (l_1 t) - 1) (l_2 t)) hS_D16 44 (by decide)) hv_X4_expect wm_X5_347 dX5_readLaw_65 rfl rfl z_13 k_13 (by decide) rfl (Nat.le_of_ble_eq_true rfl) ⟨Nat.le_of_ble_eq_true rfl, Nat.le_of_ble_eq_true rfl, Nat.zero_le _, Nat.zero_le _⟩ ⟨rfl, rfl⟩ (fun D18 E19 hz17 => ?_)
  obtain ⟨hq1, hq2, hqE⟩ := hz17
  obtain rfl := hqE.symm
  have hS_D18 : TS D18 t (l_3 t) := hq1
  have hf_D18 := hf_D16.f hq2
  have ha_D18 : D18 179 = upd (D 179) 0 (if (p_nm t 2 6 (l_1 t)).2.1 = 0 then nI (p_vl t (l_1 t)) else nI 0) := (hq2 179 (by decide)).trans ha_D16
  have hb_D18 : D18 180 = D 180 := (hq2 180 (by decide)).trans hb_D16
  have hB_D18 := BG_f hB_D16 (hq2 185 (by decide)) (hq2 189 (by decide))
  refine r_aload_n dX5_readLaw_68 rfl ?_
  refine r_getR (ci := 5) (k := 6) wf_X5_47 dX5_readLaw_69 z_0 k_0 (by decide) (by decide) (fun _ _ => rfl) f_0_6 ?_
  refine r_aload_n dX5_readLaw_72 rfl ?_
  refine r_getR (ci := 5) (k := 1) wf_X5_19 dX5_readLaw_73 z_0 k_0 (by decide) (by decide) (fun _ _ => rfl) f_0_1 ?_
  refine r_iconst (nI 0) dX5_readLaw_76 (by decide) ?_
  refine r_bipush (nI 20) dX5_readLaw_77 (by decide) ?_
  refine r_callVI (As := [.int (nI 0), .int (nI 20)]) (o := 13) (c_X4_number B D18 E t (l_3 t) hS_D18 (nI 0) (nI 20) (0) (20) (fun _ => ⟨rfl, rfl⟩) (by omega) (by omega)) hv_X4_number wm_X5_350 dX5_readLaw_79 rfl rfl z_13 k_13 (by decide) rfl (Nat.le_of_ble_eq_true rfl) ⟨Nat.le_of_ble_eq_true rfl, Nat.le_of_ble_eq_true rfl, Nat.zero_le _, Nat.zero_le _⟩ ⟨rfl, rfl⟩ (fun z20 D21 E22 hz20 => ?_)
  obtain ⟨hq1, hq2, hq3, hqE⟩ := hz20
  obtain rfl := hqE.symm
  obtain rfl := hq1.symm
  have hS_D21 : TS D21 t (p_nm t 0 20 (l_3 t)) := hq2
  have hf_D21 := hf_D18.f hq3
  have ha_D21 : D21 179 = upd (D 179) 0 (if (p_nm t 2 6 (l_1 t)).2.1 = 0 then nI (p_vl t (l_1 t)) else nI 0) := (hq3 179 (by decide)).trans ha_D18
  have hb_D21 : D21 180 = D 180 := (hq3 180 (by decide)).trans hb_D18
  have hB_D21 := BG_f hB_D18 (hq3 185 (by decide)) (hq3 189 (by decide))
  refine r_putI (ci := 1) (k := 1) wf_X5_353 dX5_readLaw_82 z_179 k_179 (by decide) (by decide) rfl rfl (fun D23 hD23 => ?_)
  have hS_D23 := TS_eq (D' := D23) hS_D21 (by rw [hD23, up2_o (by decide)]) (by rw [hD23, up2_o (by decide)])
  have hf_D23 := hf_D21.up (by decide) hD23
  have ha_D23 : D23 179 = upd (upd (D 179) 0 (if (p_nm t 2 6 (l_1 t)).2.1 = 0 then nI (p_vl t (l_1 t)) else nI 0)) 1 (if (p_nm t 0 20 (l_3 t)).2.1 = 0 then nI (p_vl t (l_3 t)) else nI 0) := by rw [hD23, up2_eq, upo_s, ha_D21]
  have hb_D23 : D23 180 = D 180 := by rw [hD23, up2_o (by decide)]; exact hb_D21
  have hB_D23 := BG_f (D' := D23) hB_D21 (by rw [hD23, up2_o (by decide)]) (by rw [hD23, up2_o (by decide)])
  refine r_aload_n dX5_readLaw_85 rfl ?_
  refine r_getR (ci := 5) (k := 1) wf_X5_19 dX5_readLaw_86 z_0 k_0 (by decide) (by decide) (fun _ _ => rfl) f_0_1 ?_
  refine r_bipush (nI 44) dX5_readLaw_89 (by decide) ?_
  refine r_callVV (As := [.int (nI 44)]) (o := 13) (c_X4_expect B D23 E t (p_nm t 0 20 (l_3 t)) hS_D23 44 (by decide)) hv_X4_expect wm_X5_347 dX5_readLaw_91 rfl rfl z_13 k_13 (by decide) rfl (Nat.le_of_ble_eq_true rfl) ⟨Nat.le_of_ble_eq_true rfl, Nat.le_of_ble_eq_true rfl, Nat.zero_le _, Nat.zero_le _⟩ ⟨rfl, rfl⟩ (fun D25 E26 hz24 => ?_)
  obtain ⟨hq1, hq2, hqE⟩ := hz24
  obtain rfl := hqE.symm
  have hS_D25 : TS D25 t (l_4 t) := hq1
  have hf_D25 := hf_D23.f hq2
  have ha_D25 : D25 179 = upd (upd (D 179) 0 (if (p_nm t 2 6 (l_1 t)).2.1 = 0 then nI (p_vl t (l_1 t)) else nI 0)) 1 (if (p_nm t 0 20 (l_3 t)).2.1 = 0 then nI (p_vl t (l_3 t)) else nI 0) := (hq2 179 (by decide)).trans ha_D23
  have hb_D25 : D25 180 = D 180 := (hq2 180 (by decide)).trans hb_D23
  have hB_D25 := BG_f hB_D23 (hq2 185 (by decide)) (hq2 189 (by decide))
  refine r_aload_n dX5_readLaw_94 rfl ?_
  refine r_getR (ci := 5) (k := 6) wf_X5_47 dX5_readLaw_95 z_0 k_0 (by decide) (by decide) (fun _ _ => rfl) f_0_6 ?_
  refine r_aload_n dX5_readLaw_98 rfl ?_
  refine r_getR (ci := 5) (k := 1) wf_X5_19 dX5_readLaw_99 z_0 k_0 (by decide) (by decide) (fun _ _ => rfl) f_0_1 ?_
  refine r_iconst (nI 0) dX5_readLaw_102 (by decide) ?_
  refine r_iconst (nI 5) dX5_readLaw_103 (by decide) ?_
  refine r_callVI (As := [.int (nI 0), .int (nI 5)]) (o := 13) (c_X4_number B D25 E t (l_4 t) hS_D25 (nI 0) (nI 5) (0) (5) (fun _ => ⟨rfl, rfl⟩) (by omega) (by omega)) hv_X4_number wm_X5_350 dX5_readLaw_104 rfl rfl z_13 k_13 (by decide) rfl (Nat.le_of_ble_eq_true rfl) ⟨Nat.le_of_ble_eq_true rfl, Nat.le_of_ble_eq_true rfl, Nat.zero_le _, Nat.zero_le _⟩ ⟨rfl, rfl⟩ (fun z27 D28 E29 hz27 => ?_)
  obtain ⟨hq1, hq2, hq3, hqE⟩ := hz27
  obtain rfl := hqE.symm
  obtain rfl := hq1.symm
  have hS_D28 : TS D28 t (p_nm t 0 5 (l_4 t)) := hq2
  have hf_D28 := hf_D25.f hq3
  have ha_D28 : D28 179 = upd (upd (D 179) 0 (if (p_nm t 2 6 (l_1 t)).2.1 = 0 then nI (p_vl t (l_1 t)) else nI 0)) 1 (if (p_nm t 0 20 (l_3 t)).2.1 = 0 then nI (p_vl t (l_3 t)) else nI 0) := (hq3 179 (by decide)).trans ha_D25
  have hb_D28 : D28 180 = D 180 := (hq3 180 (by decide)).trans hb_D25
  have hB_D28 := BG_f hB_D25 (hq3 185 (by decide)) (hq3 189 (by decide))
  refine r_putI (ci := 1) (k := 2) wf_X5_356 dX5_readLaw_107 z_179 k_179 (by decide) (by decide) rfl rfl (fun D30 hD30 => ?_)
  have hS_D30 := TS_eq (D' := D30) hS_D28 (by rw [hD30, up2_o (by decide)]) (by rw [hD30, up2_o (by decide)])
  have hf_D30 := hf_D28.up (by decide) hD30
  have ha_D30 : D30 179 = upd (upd (upd (D 179) 0 (if (p_nm t 2 6 (l_1 t)).2.1 = 0 then nI (p_vl t (l_1 t)) else nI 0)) 1 (if (p_nm t 0 20 (l_3 t)).2.1 = 0 then nI (p_vl t (l_3 t)) else nI 0)) 2 (if (p_nm t 0 5 (l_4 t)).2.1 = 0 then nI (p_vl t (l_4 t)) else nI 0) := by rw [hD30, up2_eq, upo_s, ha_D28]
  have hb_D30 : D30 180 = D 180 := by rw [hD30, up2_o (by decide)]; exact hb_D28
  have hB_D30 := BG_f (D' := D30) hB_D28 (by rw [hD30, up2_o (by decide)]) (by rw [hD30, up2_o (by decide)])
  refine r_aload_n dX5_readLaw_110 rfl ?_
  refine r_getR (ci := 5) (k := 1) wf_X5_19 dX5_readLaw_111 z_0 k_0 (by decide) (by decide) (fun _ _ => rfl) f_0_1 ?_
  refine r_bipush (nI 59) dX5_readLaw_114 (by decide) ?_
  refine r_callVV (As := [.int (nI 59)]) (o := 13) (c_X4_expect B D30 E t (p_nm t 0 5 (l_4 t)) hS_D30 59 (by decide)) hv_X4_expect wm_X5_347 dX5_readLaw_116 rfl rfl z_13 k_13 (by decide) rfl (Nat.le_of_ble_eq_true rfl) ⟨Nat.le_of_ble_eq_true rfl, Nat.le_of_ble_eq_true rfl, Nat.zero_le _, Nat.zero_le _⟩ ⟨rfl, rfl⟩ (fun D32 E33 hz31 => ?_)
  obtain ⟨hq1, hq2, hqE⟩ := hz31
  obtain rfl := hqE.symm
  have hS_D32 : TS D32 t (p_lawS t) := hq1
  have hf_D32 := hf_D30.f hq2
  have ha_D32 : D32 179 = upd (upd (upd (D 179) 0 (if (p_nm t 2 6 (l_1 t)).2.1 = 0 then nI (p_vl t (l_1 t)) else nI 0)) 1 (if (p_nm t 0 20 (l_3 t)).2.1 = 0 then nI (p_vl t (l_3 t)) else nI 0)) 2 (if (p_nm t 0 5 (l_4 t)).2.1 = 0 then nI (p_vl t (l_4 t)) else nI 0) := (hq2 179 (by decide)).trans ha_D30
  have hb_D32 : D32 180 = D 180 := (hq2 180 (by decide)).trans hb_D30
  have hB_D32 := BG_f hB_D30 (hq2 185 (by decide)) (hq2 189 (by decide))
  refine r_vret2 dX5_readLaw_119 rfl ⟨Nat.zero_le _, Nat.zero_le _⟩ ?_
  refine ⟨law_end hS_D32 ha_D32 h3 h4 (fun j hj => by rw [hb_D32]; exact hr j hj) hB_D32 (fun q => ?_), hf_D32, rfl⟩
  obtain ⟨h9, -, -⟩ := ex_ok' (show p_lawS t = p_ex t 59 (p_nm t 0 5 (l_4 t)) from rfl) q
  obtain ⟨h8, -, -⟩ := nm_ok h9
  obtain ⟨h7, -, -⟩ := ex_ok' (show l_4 t = p_ex t 44 (p_nm t 0 20 (l_3 t)) from rfl) h8
  obtain ⟨h6, -, -⟩ := nm_ok h7
  obtain ⟨h5, -, -⟩ := ex_ok' (show l_3 t = p_ex t 44 (p_nm t 0 (p_vl t (l_1 t) - 1) (l_2 t)) from rfl) h6
  obtain ⟨h4, -, -⟩ := nm_ok h5
  obtain ⟨h3, -, -⟩ := ex_ok' (show l_2 t = p_ex t 44 (p_nm t 2 6 (l_1 t)) from rfl) h4
  exact ⟨if_pos h3, if_pos h5, if_pos h7, if_pos h9⟩
