set_option maxRecDepth 100000 in
set_option maxHeartbeats 4000000 in
theorem c_X6_isRow (B : Nat) (D : DD) (E : EE) (x : Int32) : MR yX6_isRow cX6_isRow 1 (some .boolean) rX6_isRow B [.int x] Z0 D E (Q2 Z0 (pI (fun v D' E' => v = (bI (nI 0 ≤ x ∧ x ≤ nI 7)) ∧ D' = D ∧ E' = E))) := by
  refine r_enter [(0, .int x)] hs_X6_isRow.1.2.2.2.2 (Nat.le_of_ble_eq_true rfl) rfl ?_
  refine r_iload_n dX6_isRow_0 rfl ?_
  refine r_i2l dX6_isRow_1 (fun z1 hz1 => ?_)
  subst hz1
  refine r_lconst ((nI 0).toInt64) dX6_isRow_2 (by decide) ?_
  refine r_ldc2v ((nI 7).toInt64) wg_X6_62 dX6_isRow_3 (by decide) ?_
  refine r_callSI (As := [.long x.toInt64, .long ((nI 0).toInt64), .long ((nI 7).toInt64)]) (c_X6_in B D E x (nI 0) (nI 7)) hs_X6_in wm_X6_64 rfl dX6_isRow_6 rfl rfl (Nat.le_of_ble_eq_true rfl) ⟨Nat.le_of_ble_eq_true rfl, Nat.le_of_ble_eq_true rfl, Nat.zero_le _, Nat.zero_le _⟩ ⟨rfl, rfl⟩ (fun z2 D3 E4 hz2 => ?_)
  obtain ⟨hqV, hqD, hqE⟩ := hz2
  obtain rfl : z2 = bI (nI 0 ≤ x ∧ x ≤ nI 7) := hqV
  obtain rfl := hqD.symm
  obtain rfl := hqE.symm
  refine r_zret2 dX6_isRow_9 rfl ⟨Nat.zero_le _, Nat.zero_le _⟩ (narrow_bI _) ?_
  exact ⟨rfl, rfl, rfl⟩
set_option maxRecDepth 100000 in
set_option maxHeartbeats 4000000 in
theorem c_X6_layThen (B : Nat) (D : DD) (E : EE) (r : Row) (hM : MA D 223 r) : MR yX6_layThen cX6_layThen 2 none rX6_layThen B [.ref (B + 219)] Z0 D E (Q2 Z0 (pV (fun D' E' => (∀ q, q ≠ 225 → D' q = D q) ∧ MA D' 225 r ∧ E' = E))) := by
  refine r_enter [(0, .ref (B + 219))] hv_X6_layThen.1.2.2.2.2 (Nat.le_of_ble_eq_true rfl) rfl ?_
  refine r_iconst (nI 0) dX6_layThen_0 (by decide) ?_
  refine r_istore_n [(1, .int (nI 0)), (0, .ref (B + 219))] dX6_layThen_1 (by decide) rfl ?_
  have L : ∀ (fu k : Nat) (Dk : DD), k ≤ 64 → 64 - k < fu → ((∀ q, q ≠ 225 → Dk q = D q) ∧ ∀ j, j < k → Dk 225 j = nI (r j)) → RW yX6_layThen cX6_layThen 2 none rX6_layThen B (Q2 Z0 (pV (fun D' E' => (∀ q, q ≠ 225 → D' q = D q) ∧ MA D' 225 r ∧ E' = E))) Z0 Dk E 0 0 2 [(1, .int (nI k)), (0, .ref (B + 219))] [] := by
    intro fu
    induction fu with
    | zero => intro k Dk hku hfu _; omega
    | succ fu ih =>
      intro k Dk hku hfu hI
      refine r_iload_n dX6_layThen_2 rfl ?_
      refine r_bipush (nI 64) dX6_layThen_3 (by decide) ?_
      refine r_icmp_ge (tgt := 26) dX6_layThen_5 (by decide) (fun c5 => ?_) (fun c5 => ?_)
      · skip
        rw [nI_leI (by omega) (by omega)] at c5
        refine r_vret2 dX6_layThen_26 rfl ⟨Nat.zero_le _, Nat.zero_le _⟩ ?_
        obtain rfl : k = 64 := by omega
        exact ⟨hI.1, hI.2, rfl⟩
      · skip
        rw [nI_leI (by omega) (by omega)] at c5
        refine r_aload_n dX6_layThen_8 rfl ?_
        refine r_getR (ci := 6) (k := 7) wf_X6_25 dX6_layThen_9 z_219 k_219 (by decide) (by decide) (fun _ _ => rfl) f_219_7 ?_
        refine r_iload_n dX6_layThen_12 rfl ?_
        refine r_aload_n dX6_layThen_13 rfl ?_
        refine r_getR (ci := 6) (k := 5) wf_X6_19 dX6_layThen_14 z_219 k_219 (by decide) (by decide) (fun _ _ => rfl) f_219_5 ?_
        refine r_iload_n dX6_layThen_17 rfl ?_
        refine r_iald dX6_layThen_18 z_223 k_223 (vp_in_nI (by omega) (by decide)) (fun z1 hz1 => ?_)
        rw [nI_clamp (by omega)] at hz1
        obtain rfl : z1 = nI (r k) := hz1.trans ((congrFun (hI.1 223 (by decide)) _).trans (hM k (by omega)))
        refine r_iast dX6_layThen_19 z_225 k_225 (vp_in_nI (by omega) (by decide)) (fun D2 hD2 => ?_)
        rw [nI_clamp (by omega)] at hD2
        have hN1 : ∀ q, q ≠ 225 → D2 q = D q := fun q hq => by rw [hD2]; exact (up2_o hq).trans (hI.1 q hq)
        have hN2 : ∀ j, j < k + 1 → D2 225 j = nI (r j) := fun j hj => by
          rw [hD2]
          by_cases e : j = k
          · subst e; exact up2_s
          · exact (up2_n (fun q => e q.2)).trans (hI.2 j (by omega))
        refine r_iinc (nI (k + 1)) [(1, .int (nI (k + 1))), (0, .ref (B + 219))] dX6_layThen_20 rfl (nI_1 _) (by decide) rfl ?_
        refine r_goto (tgt := 2) dX6_layThen_23 (by decide) ?_
        exact r_lv [(1, .int (nI (k + 1))), (0, .ref (B + 219))] (List.forall_mem_cons.mpr ⟨rfl, List.forall_mem_cons.mpr ⟨rfl, fun _ h => absurd h List.not_mem_nil⟩⟩) (ih (k + 1) D2 (by omega) (by omega) (⟨hN1, hN2⟩))
  exact r_lv [(1, .int (nI 0)), (0, .ref (B + 219))] (List.forall_mem_cons.mpr ⟨rfl, List.forall_mem_cons.mpr ⟨rfl, fun _ h => absurd h List.not_mem_nil⟩⟩) (L (64 + 1) 0 D (by omega) (by omega) (⟨fun _ _ => rfl, fun j hj => absurd hj (Nat.not_lt_zero j)⟩))
set_option maxRecDepth 100000 in
set_option maxHeartbeats 4000000 in
theorem c_X6_hoursOf (B : Nat) (D : DD) (E : EE) (r : Row) (wy : Nat → Nat) (hW : WF r) (hT : T2 r) (b n : Nat) (hH : HB r b) (hb : b + n < 2 ^ 20) (hM : MA D 225 r) (hY : WY wy r) (hwy : ∀ j, j < 6 * r 0 → D 228 j = nI (wy j)) : MR yX6_hoursOf cX6_hoursOf 4 none rX6_hoursOf B [.ref (B + 219), .ref (B + 225), .int (nI n)] Z0 D E (Q2 Z0 (pV (fun D' E' => (∀ q, q ≠ 225 → q ≠ 229 → D' q = D q) ∧ MA D' 225 (s_hours wy n r) ∧ E' = E))) := by
  refine r_enter [(0, .ref (B + 219)), (1, .ref (B + 225)), (2, .int (nI n))] hv_X6_hoursOf.1.2.2.2.2 (Nat.le_of_ble_eq_true rfl) rfl ?_
  refine r_iconst (nI 0) dX6_hoursOf_0 (by decide) ?_
  refine r_istore_n [(3, .int (nI 0)), (0, .ref (B + 219)), (1, .ref (B + 225)), (2, .int (nI n))] dX6_hoursOf_1 (by decide) rfl ?_
  have L : ∀ (fu k : Nat) (Dk : DD), k ≤ n → n - k < fu → ((∀ q, q ≠ 225 → q ≠ 229 → Dk q = D q) ∧ MA Dk 225 (s_hours wy k r)) → RW yX6_hoursOf cX6_hoursOf 4 none rX6_hoursOf B (Q2 Z0 (pV (fun D' E' => (∀ q, q ≠ 225 → q ≠ 229 → D' q = D q) ∧ MA D' 225 (s_hours wy n r) ∧ E' = E))) Z0 Dk E 0 0 2 [(3, .int (nI k)), (0, .ref (B + 219)), (1, .ref (B + 225)), (2, .int (nI n))] [] := by
    intro fu
    induction fu with
    | zero => intro k Dk hku hfu _; omega
    | succ fu ih =>
      intro k Dk hku hfu hI
      refine r_iload_n dX6_hoursOf_2 rfl ?_
      refine r_iload_n dX6_hoursOf_3 rfl ?_
      refine r_icmp_ge (tgt := 20) dX6_hoursOf_4 (by decide) (fun c4 => ?_) (fun c4 => ?_)
      · skip
        rw [nI_leI (by omega) (by omega)] at c4
        refine r_vret2 dX6_hoursOf_20 rfl ⟨Nat.zero_le _, Nat.zero_le _⟩ ?_
        obtain rfl : k = n := by omega
        exact ⟨hI.1, hI.2, rfl⟩
      · skip
        rw [nI_leI (by omega) (by omega)] at c4
        obtain ⟨t1, t2, t3, t4⟩ := s_hours_k hW hT hH hY k
        have hwk : ∀ j, j < 6 * s_hours wy k r 0 → Dk 228 j = nI (wy j) := fun j hj => (congrFun (hI.1 228 (by decide) (by decide)) j).trans (hwy j (by rw [s_hours_0] at hj; exact hj))
        refine r_aload_n dX6_hoursOf_7 rfl ?_
        refine r_aload_n dX6_hoursOf_8 rfl ?_
        refine r_iconst (nI 0) dX6_hoursOf_9 (by decide) ?_
        refine r_iconst (nI 0) dX6_hoursOf_10 (by decide) ?_
        refine r_callVV (As := [.ref (B + 225), .int (nI 0), .int (nI 0)]) (o := 219) (c_X6_hour B Dk E 225 (Or.inr rfl) (s_hours wy k r) wy t1 (b + k) t3 (by omega) hI.2 t4 hwk) hv_X6_hour wm_X6_185 dX6_hoursOf_11 rfl rfl z_219 k_219 (by decide) rfl (Nat.le_of_ble_eq_true rfl) ⟨Nat.le_of_ble_eq_true rfl, Nat.le_of_ble_eq_true rfl, Nat.zero_le _, Nat.zero_le _⟩ ⟨rfl, rfl⟩ (fun D2 E3 hz1 => ?_)
        obtain ⟨hF9, hC9, hqE⟩ := hz1
        obtain rfl := hqE.symm
        refine r_iinc (nI (k + 1)) [(3, .int (nI (k + 1))), (0, .ref (B + 219)), (1, .ref (B + 225)), (2, .int (nI n))] dX6_hoursOf_14 rfl (nI_1 _) (by decide) rfl ?_
        refine r_goto (tgt := 2) dX6_hoursOf_17 (by decide) ?_
        exact r_lv [(3, .int (nI (k + 1))), (0, .ref (B + 219)), (1, .ref (B + 225)), (2, .int (nI n))] (List.forall_mem_cons.mpr ⟨rfl, List.forall_mem_cons.mpr ⟨rfl, List.forall_mem_cons.mpr ⟨rfl, List.forall_mem_cons.mpr ⟨rfl, fun _ h => absurd h List.not_mem_nil⟩⟩⟩⟩) (ih (k + 1) D2 (by omega) (by omega) (⟨fun q h1 h2 => (hF9 q h1 h2).trans (hI.1 q h1 h2), hC9⟩))
  exact r_lv [(3, .int (nI 0)), (0, .ref (B + 219)), (1, .ref (B + 225)), (2, .int (nI n))] (List.forall_mem_cons.mpr ⟨rfl, List.forall_mem_cons.mpr ⟨rfl, List.forall_mem_cons.mpr ⟨rfl, List.forall_mem_cons.mpr ⟨rfl, fun _ h => absurd h List.not_mem_nil⟩⟩⟩⟩) (L (n + 1) 0 D (by omega) (by omega) (⟨fun _ _ _ => rfl, hM⟩))
set_option maxRecDepth 100000 in
set_option maxHeartbeats 4000000 in
theorem c_X6_atBehind (B : Nat) (D : DD) (E : EE) (r : Row) (wy : Nat → Nat) (hW : WF r) (hT : T2 r) (b n : Nat) (hH : HB r b) (hb : b + n < 2 ^ 20) (hM : MA D 225 r) (hY : WY wy r) (hwy : ∀ j, j < 6 * r 0 → D 228 j = nI (wy j)) : MR yX6_atBehind cX6_atBehind 2 (some .int) rX6_atBehind B [.ref (B + 219), .int (nI n)] Z0 D E (Q2 Z0 (pI (fun v D' E' => v = nI (s_hours wy n r 1) ∧ (∀ q, q ≠ 225 → q ≠ 229 → D' q = D q) ∧ MA D' 225 (s_hours wy n r) ∧ E' = E))) := by
  refine r_enter [(0, .ref (B + 219)), (1, .int (nI n))] hv_X6_atBehind.1.2.2.2.2 (Nat.le_of_ble_eq_true rfl) rfl ?_
  refine r_aload_n dX6_atBehind_0 rfl ?_
  refine r_aload_n dX6_atBehind_1 rfl ?_
  refine r_getR (ci := 6) (k := 7) wf_X6_25 dX6_atBehind_2 z_219 k_219 (by decide) (by decide) (fun _ _ => rfl) f_219_7 ?_
  refine r_iload_n dX6_atBehind_5 rfl ?_
  refine r_callVV (As := [.ref (B + 225), .int (nI n)]) (o := 219) (c_X6_hoursOf B D E r wy hW hT b n hH hb hM hY hwy) hv_X6_hoursOf wm_X6_189 dX6_atBehind_6 rfl rfl z_219 k_219 (by decide) rfl (Nat.le_of_ble_eq_true rfl) ⟨Nat.le_of_ble_eq_true rfl, Nat.le_of_ble_eq_true rfl, Nat.zero_le _, Nat.zero_le _⟩ ⟨rfl, rfl⟩ (fun D2 E3 hz1 => ?_)
  obtain ⟨hF9, hC9, hqE⟩ := hz1
  obtain rfl := hqE.symm
  refine r_aload_n dX6_atBehind_9 rfl ?_
  refine r_getR (ci := 6) (k := 7) wf_X6_25 dX6_atBehind_10 z_219 k_219 (by decide) (by decide) (fun _ _ => rfl) f_219_7 ?_
  refine r_iconst (nI 1) dX6_atBehind_13 (by decide) ?_
  refine r_iald dX6_atBehind_14 z_225 k_225 (vp_in_nI (by decide) (by decide)) (fun z4 hz4 => ?_)
  rw [nI_clamp (by omega)] at hz4
  obtain rfl : z4 = nI (s_hours wy n r 1) := hz4.trans (hC9 1 (by decide))
  refine r_iret2 dX6_atBehind_15 rfl ⟨Nat.zero_le _, Nat.zero_le _⟩ ?_
  exact ⟨rfl, hF9, hC9, rfl⟩
set_option maxRecDepth 100000 in
set_option maxHeartbeats 4000000 in
theorem c_X6_ahead (B : Nat) (D : DD) (E : EE) (wy : Nat → Nat) (r : Row) (hX0 : XM D wy r) (x what : Int32) : MR yX6_ahead cX6_ahead 4 (some .int) rX6_ahead B [.ref (B + 219), .int x, .int what] Z0 D E (Q2 Z0 (pI (fun v D' E' => v = (if 0 < r 0 then g_ahead wy r x what else -1000002) ∧ MX D D' ∧ E' = E))) := by
  have hX := hX0.th
  obtain ⟨hO, hM, hwy, hYY⟩ := id hX
  obtain ⟨l0, l5, l4, l6, l7, l8, l1⟩ := hO.le
  refine r_enter [(0, .ref (B + 219)), (1, .int x), (2, .int what)] hv_X6_ahead.1.2.2.2.2 (Nat.le_of_ble_eq_true rfl) rfl ?_
  refine r_aload_n dX6_ahead_0 rfl ?_
  refine r_iconst (nI 0) dX6_ahead_1 (by decide) ?_
  refine r_putI (ci := 6) (k := 0) wf_X6_54 dX6_ahead_2 z_219 k_219 (by decide) (by decide) rfl rfl (fun D1 hD1 => ?_)
  obtain rfl : D1 = thD D := hD1.trans up2_eq
  refine r_aload_n dX6_ahead_5 rfl ?_
  refine r_callVI (As := []) (o := 219) (c_X6_isThere B (thD D) E (r 0) (hM 0 (by decide)) l0) hv_X6_isThere wm_X6_193 dX6_ahead_6 rfl rfl z_219 k_219 (by decide) rfl (Nat.le_of_ble_eq_true rfl) ⟨Nat.le_of_ble_eq_true rfl, Nat.le_of_ble_eq_true rfl, Nat.zero_le _, Nat.zero_le _⟩ ⟨rfl, rfl⟩ (fun z2 D3 E4 hz2 => ?_)
  obtain ⟨hqV, hqD, hqE⟩ := hz2
  obtain rfl : z2 = bI (0 < r 0) := hqV
  obtain rfl := hqD.symm
  obtain rfl := hqE.symm
  refine r_if_ne (tgt := 15) dX6_ahead_9 (by decide) (fun c9 => ?_) (fun c9 => ?_)
  · skip
    rw [bI_n0] at c9
    obtain ⟨hW, hT, hH⟩ := hO.p c9
    have hY := hYY hW
    obtain ⟨b1, b2, b3, b4, b5, b6, b7, b8⟩ := hW.1
    refine r_iload_n dX6_ahead_15 rfl ?_
    refine r_i2l dX6_ahead_16 (fun z5 hz5 => ?_)
    subst hz5
    refine r_lconst ((nI 0).toInt64) dX6_ahead_17 (by decide) ?_
    refine r_ldc2v ((nI 60).toInt64) wg_X6_210 dX6_ahead_18 (by decide) ?_
    refine r_callSI (As := [.long x.toInt64, .long ((nI 0).toInt64), .long ((nI 60).toInt64)]) (c_X6_in B (thD D) E x (nI 0) (nI 60)) hs_X6_in wm_X6_64 rfl dX6_ahead_21 rfl rfl (Nat.le_of_ble_eq_true rfl) ⟨Nat.le_of_ble_eq_true rfl, Nat.le_of_ble_eq_true rfl, Nat.zero_le _, Nat.zero_le _⟩ ⟨rfl, rfl⟩ (fun z6 D7 E8 hz6 => ?_)
    obtain ⟨hqV, hqD, hqE⟩ := hz6
    obtain rfl : z6 = bI (nI 0 ≤ x ∧ x ≤ nI 60) := hqV
    obtain rfl := hqD.symm
    obtain rfl := hqE.symm
    refine r_if_eq (tgt := 37) dX6_ahead_24 (by decide) (fun c24 => ?_) (fun c24 => ?_)
    · skip
      rw [bI_0] at c24
      refine r_ldc wc_X6_74 dX6_ahead_37 ?_
      refine r_iret2 dX6_ahead_39 rfl ⟨Nat.zero_le _, Nat.zero_le _⟩ ?_
      refine ⟨?_, MX.th, rfl⟩
      unfold g_ahead
      rw [if_pos c9]
      first | rw [if_neg c24] | rw [if_pos c24, if_neg c34]
    · skip
      rw [bI_n0] at c24
      obtain ⟨n, hn1, hn2, rfl⟩ := rg (by decide) (by decide) c24
      refine r_iload_n dX6_ahead_27 rfl ?_
      refine r_i2l dX6_ahead_28 (fun z9 hz9 => ?_)
      subst hz9
      refine r_lconst ((nI 0).toInt64) dX6_ahead_29 (by decide) ?_
      refine r_lconst ((nI 1).toInt64) dX6_ahead_30 (by decide) ?_
      refine r_callSI (As := [.long what.toInt64, .long ((nI 0).toInt64), .long ((nI 1).toInt64)]) (c_X6_in B (thD D) E what (nI 0) (nI 1)) hs_X6_in wm_X6_64 rfl dX6_ahead_31 rfl rfl (Nat.le_of_ble_eq_true rfl) ⟨Nat.le_of_ble_eq_true rfl, Nat.le_of_ble_eq_true rfl, Nat.zero_le _, Nat.zero_le _⟩ ⟨rfl, rfl⟩ (fun z10 D11 E12 hz10 => ?_)
      obtain ⟨hqV, hqD, hqE⟩ := hz10
      obtain rfl : z10 = bI (nI 0 ≤ what ∧ what ≤ nI 1) := hqV
      obtain rfl := hqD.symm
      obtain rfl := hqE.symm
      refine r_if_ne (tgt := 40) dX6_ahead_34 (by decide) (fun c34 => ?_) (fun c34 => ?_)
      · skip
        rw [bI_n0] at c34
        obtain ⟨wh, hw1, hw2, rfl⟩ := rg (by decide) (by decide) c34
        refine r_aload_n dX6_ahead_40 rfl ?_
        refine r_callVV (As := []) (o := 219) (c_X6_layThen B (thD D) E r hM) hv_X6_layThen wm_X6_212 dX6_ahead_41 rfl rfl z_219 k_219 (by decide) rfl (Nat.le_of_ble_eq_true rfl) ⟨Nat.le_of_ble_eq_true rfl, Nat.le_of_ble_eq_true rfl, Nat.zero_le _, Nat.zero_le _⟩ ⟨rfl, rfl⟩ (fun D14 E15 hz13 => ?_)
        obtain ⟨hL1, hL2, hqE⟩ := hz13
        obtain rfl := hqE.symm
        have hXt : MX D D14 := MX.th.trans (MX.of (fun q a _ => hL1 q a))
        have hwt : ∀ j, j < 6 * r 0 → D14 228 j = nI (wy j) := fun j hj => (congrFun (hL1 228 (by decide)) j).trans (hwy j hj)
        refine r_aload_n dX6_ahead_44 rfl ?_
        refine r_iload_n dX6_ahead_45 rfl ?_
        refine r_callVI (As := [.int (nI n)]) (o := 219) (c_X6_atBehind B D14 E r wy hW hT 999 n hH (by omega) hL2 hY hwt) hv_X6_atBehind wm_X6_215 dX6_ahead_46 rfl rfl z_219 k_219 (by decide) rfl (Nat.le_of_ble_eq_true rfl) ⟨Nat.le_of_ble_eq_true rfl, Nat.le_of_ble_eq_true rfl, Nat.zero_le _, Nat.zero_le _⟩ ⟨rfl, rfl⟩ (fun z16 D17 E18 hz16 => ?_)
        obtain ⟨hq1, hF9, hC9, hqE⟩ := hz16
        obtain rfl := hqE.symm
        obtain rfl := hq1.symm
        refine r_istore_n [(3, .int (nI (s_hours wy n r 1))), (0, .ref (B + 219)), (1, .int (nI n)), (2, .int (nI wh))] dX6_ahead_49 (by decide) rfl ?_
        refine r_iload_n dX6_ahead_50 rfl ?_
        refine r_if_ne (tgt := 58) dX6_ahead_51 (by decide) (fun c51 => ?_) (fun c51 => ?_)
        · skip
          rw [nI_z (by omega)] at c51
          refine r_aload_n dX6_ahead_58 rfl ?_
          refine r_getR (ci := 6) (k := 7) wf_X6_25 dX6_ahead_59 z_219 k_219 (by decide) (by decide) (fun _ _ => rfl) f_219_7 ?_
          refine r_bipush (nI 7) dX6_ahead_62 (by decide) ?_
          refine r_iald dX6_ahead_64 z_225 k_225 (vp_in_nI (by decide) (by decide)) (fun z19 hz19 => ?_)
          rw [nI_clamp (by omega)] at hz19
          obtain rfl : z19 = nI (s_hours wy n r 7) := hz19.trans (hC9 7 (by decide))
          refine r_iret2 dX6_ahead_65 rfl ⟨Nat.zero_le _, Nat.zero_le _⟩ ?_
          refine ⟨?_, hXt.trans (MX.of hF9), rfl⟩
          unfold g_ahead
          rw [if_pos c9, if_pos c24, if_pos c34, nI_clamp (by omega)]
          first
            | rw [if_pos ((nI_z (by omega)).mpr c51)]
            | rw [if_neg (fun q => c51 ((nI_z (by omega)).mp q))]
        · skip
          rw [nI_z (by omega)] at c51
          refine r_iload_n dX6_ahead_54 rfl ?_
          refine r_goto (tgt := 65) dX6_ahead_55 (by decide) ?_
          refine r_iret2 dX6_ahead_65 rfl ⟨Nat.zero_le _, Nat.zero_le _⟩ ?_
          refine ⟨?_, hXt.trans (MX.of hF9), rfl⟩
          unfold g_ahead
          rw [if_pos c9, if_pos c24, if_pos c34, nI_clamp (by omega)]
          first
            | rw [if_pos ((nI_z (by omega)).mpr c51)]
            | rw [if_neg (fun q => c51 ((nI_z (by omega)).mp q))]
      · skip
        rw [bI_0] at c34
        refine r_ldc wc_X6_74 dX6_ahead_37 ?_
        refine r_iret2 dX6_ahead_39 rfl ⟨Nat.zero_le _, Nat.zero_le _⟩ ?_
        refine ⟨?_, MX.th, rfl⟩
        unfold g_ahead
        rw [if_pos c9]
        first | rw [if_neg c24] | rw [if_pos c24, if_neg c34]
  · skip
    rw [bI_0] at c9
    refine r_ldc wc_X6_196 dX6_ahead_12 ?_
    refine r_iret2 dX6_ahead_14 rfl ⟨Nat.zero_le _, Nat.zero_le _⟩ ?_
    refine ⟨?_, MX.th, rfl⟩
    rw [if_neg c9]
set_option maxRecDepth 100000 in
set_option maxHeartbeats 4000000 in
theorem c_X6_comes (B : Nat) (D : DD) (E : EE) (wy : Nat → Nat) (r : Row) (hX0 : XM D wy r) (pl x : Int32) : MR yX6_comes cX6_comes 4 (some .int) rX6_comes B [.ref (B + 219), .int pl, .int x] Z0 D E (Q2 Z0 (pI (fun v D' E' => v = (if 0 < r 0 then g_comes wy r pl x else -1000002) ∧ MX D D' ∧ E' = E))) := by
  have hX := hX0.th
  obtain ⟨hO, hM, hwy, hYY⟩ := id hX
  obtain ⟨l0, l5, l4, l6, l7, l8, l1⟩ := hO.le
  have hwy0 := hX0.2.2.1
  refine r_enter [(0, .ref (B + 219)), (1, .int pl), (2, .int x)] hv_X6_comes.1.2.2.2.2 (Nat.le_of_ble_eq_true rfl) rfl ?_
  refine r_aload_n dX6_comes_0 rfl ?_
  refine r_iconst (nI 0) dX6_comes_1 (by decide) ?_
  refine r_putI (ci := 6) (k := 0) wf_X6_54 dX6_comes_2 z_219 k_219 (by decide) (by decide) rfl rfl (fun D1 hD1 => ?_)
  obtain rfl : D1 = thD D := hD1.trans up2_eq
  refine r_aload_n dX6_comes_5 rfl ?_
  refine r_callVI (As := []) (o := 219) (c_X6_isThere B (thD D) E (r 0) (hM 0 (by decide)) l0) hv_X6_isThere wm_X6_193 dX6_comes_6 rfl rfl z_219 k_219 (by decide) rfl (Nat.le_of_ble_eq_true rfl) ⟨Nat.le_of_ble_eq_true rfl, Nat.le_of_ble_eq_true rfl, Nat.zero_le _, Nat.zero_le _⟩ ⟨rfl, rfl⟩ (fun z2 D3 E4 hz2 => ?_)
  obtain ⟨hqV, hqD, hqE⟩ := hz2
  obtain rfl : z2 = bI (0 < r 0) := hqV
  obtain rfl := hqD.symm
  obtain rfl := hqE.symm
  refine r_if_ne (tgt := 15) dX6_comes_9 (by decide) (fun c9 => ?_) (fun c9 => ?_)
  · skip
    rw [bI_n0] at c9
    obtain ⟨hW, hT, hH⟩ := hO.p c9
    have hY := hYY hW
    obtain ⟨b1, b2, b3, b4, b5, b6, b7, b8⟩ := hW.1
    refine r_aload_n dX6_comes_15 rfl ?_
    refine r_iload_n dX6_comes_16 rfl ?_
    refine r_callVI (As := [.int pl]) (o := 219) (c_X6_isPlace B (thD D) E pl (r 0) (hM 0 (by decide))) hv_X6_isPlace wm_X6_205 dX6_comes_17 rfl rfl z_219 k_219 (by decide) rfl (Nat.le_of_ble_eq_true rfl) ⟨Nat.le_of_ble_eq_true rfl, Nat.le_of_ble_eq_true rfl, Nat.zero_le _, Nat.zero_le _⟩ ⟨rfl, rfl⟩ (fun z5 D6 E7 hz5 => ?_)
    obtain ⟨hqV, hqD, hqE⟩ := hz5
    obtain rfl : z5 = bI (nI 0 ≤ pl ∧ pl ≤ nI (r 0) - nI 1) := hqV
    obtain rfl := hqD.symm
    obtain rfl := hqE.symm
    refine r_if_eq (tgt := 35) dX6_comes_20 (by decide) (fun c20 => ?_) (fun c20 => ?_)
    · skip
      rw [bI_0] at c20
      refine r_ldc wc_X6_74 dX6_comes_35 ?_
      refine r_iret2 dX6_comes_37 rfl ⟨Nat.zero_le _, Nat.zero_le _⟩ ?_
      refine ⟨?_, MX.th, rfl⟩
      unfold g_comes
      rw [if_pos c9]
      first | rw [if_neg c20] | rw [if_pos c20, if_neg c32]
    · skip
      rw [bI_n0] at c20
      refine r_iload_n dX6_comes_23 rfl ?_
      refine r_i2l dX6_comes_24 (fun z8 hz8 => ?_)
      subst hz8
      refine r_lconst ((nI 1).toInt64) dX6_comes_25 (by decide) ?_
      refine r_ldc2v ((nI 60).toInt64) wg_X6_210 dX6_comes_26 (by decide) ?_
      refine r_callSI (As := [.long x.toInt64, .long ((nI 1).toInt64), .long ((nI 60).toInt64)]) (c_X6_in B (thD D) E x (nI 1) (nI 60)) hs_X6_in wm_X6_64 rfl dX6_comes_29 rfl rfl (Nat.le_of_ble_eq_true rfl) ⟨Nat.le_of_ble_eq_true rfl, Nat.le_of_ble_eq_true rfl, Nat.zero_le _, Nat.zero_le _⟩ ⟨rfl, rfl⟩ (fun z9 D10 E11 hz9 => ?_)
      obtain ⟨hqV, hqD, hqE⟩ := hz9
      obtain rfl : z9 = bI (nI 1 ≤ x ∧ x ≤ nI 60) := hqV
      obtain rfl := hqD.symm
      obtain rfl := hqE.symm
      refine r_if_ne (tgt := 38) dX6_comes_32 (by decide) (fun c32 => ?_) (fun c32 => ?_)
      · skip
        rw [bI_n0] at c32
        obtain ⟨n, hn1, hn2, rfl⟩ := rg (by decide) (by decide) c32
        refine r_aload_n dX6_comes_38 rfl ?_
        refine r_callVV (As := []) (o := 219) (c_X6_layThen B (thD D) E r hM) hv_X6_layThen wm_X6_212 dX6_comes_39 rfl rfl z_219 k_219 (by decide) rfl (Nat.le_of_ble_eq_true rfl) ⟨Nat.le_of_ble_eq_true rfl, Nat.le_of_ble_eq_true rfl, Nat.zero_le _, Nat.zero_le _⟩ ⟨rfl, rfl⟩ (fun D13 E14 hz12 => ?_)
        obtain ⟨hL1, hL2, hqE⟩ := hz12
        obtain rfl := hqE.symm
        have hXt : MX D D13 := MX.th.trans (MX.of (fun q a _ => hL1 q a))
        have hwt : ∀ j, j < 6 * r 0 → D13 228 j = nI (wy j) := fun j hj => (congrFun (hL1 228 (by decide)) j).trans (hwy j hj)
        refine r_iconst (nI 0) dX6_comes_42 (by decide) ?_
        refine r_istore_n [(3, .int (nI 0)), (0, .ref (B + 219)), (1, .int pl), (2, .int (nI n))] dX6_comes_43 (by decide) rfl ?_
        have L : ∀ (fu k : Nat) (Dk : DD), k ≤ n + 1 → n + 1 - k < fu → (MX D Dk ∧ MA Dk 225 (s_hours wy k r) ∧ ∀ j, j < k → (nI (s_hours wy j r 1) == pl) = false) → RW yX6_comes cX6_comes 4 (some .int) rX6_comes B (Q2 Z0 (pI (fun v D' E' => v = (if 0 < r 0 then g_comes wy r pl (nI n) else -1000002) ∧ MX D D' ∧ E' = E))) Z0 Dk E 0 0 44 [(3, .int (nI k)), (0, .ref (B + 219)), (1, .int pl), (2, .int (nI n))] [] := by
          intro fu
          induction fu with
          | zero => intro k Dk hku hfu _; omega
          | succ fu ih =>
            intro k Dk hku hfu hI
            refine r_iload_n dX6_comes_44 rfl ?_
            refine r_iload_n dX6_comes_45 rfl ?_
            refine r_icmp_gt (tgt := 77) dX6_comes_46 (by decide) (fun c46 => ?_) (fun c46 => ?_)
            · skip
              rw [nI_ltI (by omega) (by omega)] at c46
              refine r_ldc wc_X6_97 dX6_comes_77 ?_
              refine r_iret2 dX6_comes_79 rfl ⟨Nat.zero_le _, Nat.zero_le _⟩ ?_
              obtain rfl : k = n + 1 := by omega
              refine ⟨?_, hI.1, rfl⟩
              unfold g_comes
              rw [if_pos c9, if_pos c20, if_pos c32, nI_clamp (by omega), s_find_n (P := fun k => nI (s_hours wy k r 1) == pl) _ (fun j hj => hI.2.2 j hj)]
              rfl
            · skip
              rw [nI_ltI (by omega) (by omega)] at c46
              obtain ⟨t1, t2, t3, t4⟩ := s_hours_k hW hT hH hY k
              obtain ⟨u1, u2, u3, u4⟩ := s_hours_k hW hT hH hY (k + 1)
              obtain ⟨v1, v2, v3, -⟩ := t1.1
              obtain ⟨w1, w2, w3, -⟩ := u1.1
              refine r_aload_n dX6_comes_49 rfl ?_
              refine r_getR (ci := 6) (k := 7) wf_X6_25 dX6_comes_50 z_219 k_219 (by decide) (by decide) (fun _ _ => rfl) f_219_7 ?_
              refine r_iconst (nI 1) dX6_comes_53 (by decide) ?_
              refine r_iald dX6_comes_54 z_225 k_225 (vp_in_nI (by decide) (by decide)) (fun z15 hz15 => ?_)
              rw [nI_clamp (by omega)] at hz15
              obtain rfl : z15 = nI (s_hours wy k r 1) := hz15.trans (hI.2.1 1 (by decide))
              refine r_iload_n dX6_comes_55 rfl ?_
              refine r_icmp_ne (tgt := 61) dX6_comes_56 (by decide) (fun c56 => ?_) (fun c56 => ?_)
              · skip
                refine r_aload_n dX6_comes_61 rfl ?_
                refine r_aload_n dX6_comes_62 rfl ?_
                refine r_getR (ci := 6) (k := 7) wf_X6_25 dX6_comes_63 z_219 k_219 (by decide) (by decide) (fun _ _ => rfl) f_219_7 ?_
                refine r_iconst (nI 0) dX6_comes_66 (by decide) ?_
                refine r_iconst (nI 0) dX6_comes_67 (by decide) ?_
                refine r_callVV (As := [.ref (B + 225), .int (nI 0), .int (nI 0)]) (o := 219) (c_X6_hour B Dk E 225 (Or.inr rfl) (s_hours wy k r) wy t1 (999 + k) t3 (by omega) hI.2.1 t4 (fun j hj => (hI.1).wy hwy0 j (by rw [s_hours_0] at hj; exact hj))) hv_X6_hour wm_X6_185 dX6_comes_68 rfl rfl z_219 k_219 (by decide) rfl (Nat.le_of_ble_eq_true rfl) ⟨Nat.le_of_ble_eq_true rfl, Nat.le_of_ble_eq_true rfl, Nat.zero_le _, Nat.zero_le _⟩ ⟨rfl, rfl⟩ (fun D17 E18 hz16 => ?_)
                obtain ⟨hF9, hC9, hqE⟩ := hz16
                obtain rfl := hqE.symm
                have hX9 : MX D D17 := (hI.1).trans (MX.of hF9)
                refine r_iinc (nI (k + 1)) [(3, .int (nI (k + 1))), (0, .ref (B + 219)), (1, .int pl), (2, .int (nI n))] dX6_comes_71 rfl (nI_1 _) (by decide) rfl ?_
                refine r_goto (tgt := 44) dX6_comes_74 (by decide) ?_
                exact r_lv [(3, .int (nI (k + 1))), (0, .ref (B + 219)), (1, .int pl), (2, .int (nI n))] (List.forall_mem_cons.mpr ⟨rfl, List.forall_mem_cons.mpr ⟨rfl, List.forall_mem_cons.mpr ⟨rfl, List.forall_mem_cons.mpr ⟨rfl, fun _ h => absurd h List.not_mem_nil⟩⟩⟩⟩) (ih (k + 1) D17 (by omega) (by omega) (⟨hX9, hC9, fun j hj => (Nat.lt_succ_iff_lt_or_eq.mp hj).elim (fun h => hI.2.2 j h) (fun h => h ▸ beq_eq_false_iff_ne.mpr c56)⟩))
              · skip
                refine r_iload_n dX6_comes_59 rfl ?_
                refine r_iret2 dX6_comes_60 rfl ⟨Nat.zero_le _, Nat.zero_le _⟩ ?_
                refine ⟨?_, hI.1, rfl⟩
                unfold g_comes
                rw [if_pos c9, if_pos c20, if_pos c32, nI_clamp (by omega), s_find_s (P := fun k => nI (s_hours wy k r 1) == pl) (k := k) (beq_iff_eq.mpr c56) hI.2.2 _ (by omega)]
                rfl
        exact r_lv [(3, .int (nI 0)), (0, .ref (B + 219)), (1, .int pl), (2, .int (nI n))] (List.forall_mem_cons.mpr ⟨rfl, List.forall_mem_cons.mpr ⟨rfl, List.forall_mem_cons.mpr ⟨rfl, List.forall_mem_cons.mpr ⟨rfl, fun _ h => absurd h List.not_mem_nil⟩⟩⟩⟩) (L (n + 1 + 1) 0 D13 (by omega) (by omega) (⟨hXt, hL2, fun j hj => absurd hj (Nat.not_lt_zero j)⟩))
      · skip
        rw [bI_0] at c32
        refine r_ldc wc_X6_74 dX6_comes_35 ?_
        refine r_iret2 dX6_comes_37 rfl ⟨Nat.zero_le _, Nat.zero_le _⟩ ?_
        refine ⟨?_, MX.th, rfl⟩
        unfold g_comes
        rw [if_pos c9]
        first | rw [if_neg c20] | rw [if_pos c20, if_neg c32]
  · skip
    rw [bI_0] at c9
    refine r_ldc wc_X6_196 dX6_comes_12 ?_
    refine r_iret2 dX6_comes_14 rfl ⟨Nat.zero_le _, Nat.zero_le _⟩ ?_
    refine ⟨?_, MX.th, rfl⟩
    rw [if_neg c9]
set_option maxRecDepth 100000 in
set_option maxHeartbeats 4000000 in
theorem c_X6_visits (B : Nat) (D : DD) (E : EE) (wy : Nat → Nat) (r : Row) (hX0 : XM D wy r) (x : Int32) : MR yX6_visits cX6_visits 4 (some .int) rX6_visits B [.ref (B + 219), .int x] Z0 D E (Q2 Z0 (pI (fun v D' E' => v = (if 0 < r 0 then g_visits wy r x else -1000002) ∧ MX D D' ∧ E' = E))) := by
  have hX := hX0.th
  obtain ⟨hO, hM, hwy, hYY⟩ := id hX
  obtain ⟨l0, l5, l4, l6, l7, l8, l1⟩ := hO.le
  have hwy0 := hX0.2.2.1
  refine r_enter [(0, .ref (B + 219)), (1, .int x)] hv_X6_visits.1.2.2.2.2 (Nat.le_of_ble_eq_true rfl) rfl ?_
  refine r_aload_n dX6_visits_0 rfl ?_
  refine r_iconst (nI 0) dX6_visits_1 (by decide) ?_
  refine r_putI (ci := 6) (k := 0) wf_X6_54 dX6_visits_2 z_219 k_219 (by decide) (by decide) rfl rfl (fun D1 hD1 => ?_)
  obtain rfl : D1 = thD D := hD1.trans up2_eq
  refine r_aload_n dX6_visits_5 rfl ?_
  refine r_callVI (As := []) (o := 219) (c_X6_isThere B (thD D) E (r 0) (hM 0 (by decide)) l0) hv_X6_isThere wm_X6_193 dX6_visits_6 rfl rfl z_219 k_219 (by decide) rfl (Nat.le_of_ble_eq_true rfl) ⟨Nat.le_of_ble_eq_true rfl, Nat.le_of_ble_eq_true rfl, Nat.zero_le _, Nat.zero_le _⟩ ⟨rfl, rfl⟩ (fun z2 D3 E4 hz2 => ?_)
  obtain ⟨hqV, hqD, hqE⟩ := hz2
  obtain rfl : z2 = bI (0 < r 0) := hqV
  obtain rfl := hqD.symm
  obtain rfl := hqE.symm
  refine r_if_ne (tgt := 15) dX6_visits_9 (by decide) (fun c9 => ?_) (fun c9 => ?_)
  · skip
    rw [bI_n0] at c9
    obtain ⟨hW, hT, hH⟩ := hO.p c9
    have hY := hYY hW
    obtain ⟨b1, b2, b3, b4, b5, b6, b7, b8⟩ := hW.1
    refine r_iload_n dX6_visits_15 rfl ?_
    refine r_i2l dX6_visits_16 (fun z5 hz5 => ?_)
    subst hz5
    refine r_lconst ((nI 0).toInt64) dX6_visits_17 (by decide) ?_
    refine r_ldc2v ((nI 60).toInt64) wg_X6_210 dX6_visits_18 (by decide) ?_
    refine r_callSI (As := [.long x.toInt64, .long ((nI 0).toInt64), .long ((nI 60).toInt64)]) (c_X6_in B (thD D) E x (nI 0) (nI 60)) hs_X6_in wm_X6_64 rfl dX6_visits_21 rfl rfl (Nat.le_of_ble_eq_true rfl) ⟨Nat.le_of_ble_eq_true rfl, Nat.le_of_ble_eq_true rfl, Nat.zero_le _, Nat.zero_le _⟩ ⟨rfl, rfl⟩ (fun z6 D7 E8 hz6 => ?_)
    obtain ⟨hqV, hqD, hqE⟩ := hz6
    obtain rfl : z6 = bI (nI 0 ≤ x ∧ x ≤ nI 60) := hqV
    obtain rfl := hqD.symm
    obtain rfl := hqE.symm
    refine r_if_ne (tgt := 30) dX6_visits_24 (by decide) (fun c24 => ?_) (fun c24 => ?_)
    · skip
      rw [bI_n0] at c24
      obtain ⟨n, hn1, hn2, rfl⟩ := rg (by decide) (by decide) c24
      refine r_aload_n dX6_visits_30 rfl ?_
      refine r_callVV (As := []) (o := 219) (c_X6_layThen B (thD D) E r hM) hv_X6_layThen wm_X6_212 dX6_visits_31 rfl rfl z_219 k_219 (by decide) rfl (Nat.le_of_ble_eq_true rfl) ⟨Nat.le_of_ble_eq_true rfl, Nat.le_of_ble_eq_true rfl, Nat.zero_le _, Nat.zero_le _⟩ ⟨rfl, rfl⟩ (fun D10 E11 hz9 => ?_)
      obtain ⟨hL1, hL2, hqE⟩ := hz9
      obtain rfl := hqE.symm
      have hXt : MX D D10 := MX.th.trans (MX.of (fun q a _ => hL1 q a))
      have hwt : ∀ j, j < 6 * r 0 → D10 228 j = nI (wy j) := fun j hj => (congrFun (hL1 228 (by decide)) j).trans (hwy j hj)
      refine r_iconst (nI 1) dX6_visits_34 (by decide) ?_
      refine r_aload_n dX6_visits_35 rfl ?_
      refine r_getR (ci := 6) (k := 7) wf_X6_25 dX6_visits_36 z_219 k_219 (by decide) (by decide) (fun _ _ => rfl) f_219_7 ?_
      refine r_iconst (nI 1) dX6_visits_39 (by decide) ?_
      refine r_iald dX6_visits_40 z_225 k_225 (vp_in_nI (by decide) (by decide)) (fun z12 hz12 => ?_)
      rw [nI_clamp (by omega)] at hz12
      obtain rfl : z12 = nI (r 1) := hz12.trans (hL2 1 (by decide))
      refine r_ishl dX6_visits_41 (fun z13 hz13 => ?_)
      obtain rfl : z13 = nI (s_vis wy r 0) := hz13.trans (shl_1 (by omega))
      refine r_istore_n [(2, .int (nI (s_vis wy r 0))), (0, .ref (B + 219)), (1, .int (nI n))] dX6_visits_42 (by decide) rfl ?_
      refine r_iconst (nI 0) dX6_visits_43 (by decide) ?_
      refine r_istore_n [(3, .int (nI 0)), (2, .int (nI (s_vis wy r 0))), (0, .ref (B + 219)), (1, .int (nI n))] dX6_visits_44 (by decide) rfl ?_
      have L : ∀ (fu k : Nat) (Dk : DD), k ≤ n → n - k < fu → (MX D Dk ∧ MA Dk 225 (s_hours wy k r)) → RW yX6_visits cX6_visits 4 (some .int) rX6_visits B (Q2 Z0 (pI (fun v D' E' => v = (if 0 < r 0 then g_visits wy r (nI n) else -1000002) ∧ MX D D' ∧ E' = E))) Z0 Dk E 0 0 45 [(3, .int (nI k)), (2, .int (nI (s_vis wy r k))), (0, .ref (B + 219)), (1, .int (nI n))] [] := by
        intro fu
        induction fu with
        | zero => intro k Dk hku hfu _; omega
        | succ fu ih =>
          intro k Dk hku hfu hI
          refine r_iload_n dX6_visits_45 rfl ?_
          refine r_iload_n dX6_visits_46 rfl ?_
          refine r_icmp_ge (tgt := 77) dX6_visits_47 (by decide) (fun c47 => ?_) (fun c47 => ?_)
          · skip
            rw [nI_leI (by omega) (by omega)] at c47
            refine r_iload_n dX6_visits_77 rfl ?_
            refine r_iret2 dX6_visits_78 rfl ⟨Nat.zero_le _, Nat.zero_le _⟩ ?_
            obtain rfl : k = n := by omega
            refine ⟨?_, hI.1, rfl⟩
            unfold g_visits
            rw [if_pos c9, if_pos c24, nI_clamp (by omega)]
          · skip
            rw [nI_leI (by omega) (by omega)] at c47
            obtain ⟨t1, t2, t3, t4⟩ := s_hours_k hW hT hH hY k
            obtain ⟨u1, u2, u3, u4⟩ := s_hours_k hW hT hH hY (k + 1)
            obtain ⟨v1, v2, v3, -⟩ := t1.1
            obtain ⟨w1, w2, w3, -⟩ := u1.1
            refine r_aload_n dX6_visits_50 rfl ?_
            refine r_aload_n dX6_visits_51 rfl ?_
            refine r_getR (ci := 6) (k := 7) wf_X6_25 dX6_visits_52 z_219 k_219 (by decide) (by decide) (fun _ _ => rfl) f_219_7 ?_
            refine r_iconst (nI 0) dX6_visits_55 (by decide) ?_
            refine r_iconst (nI 0) dX6_visits_56 (by decide) ?_
            refine r_callVV (As := [.ref (B + 225), .int (nI 0), .int (nI 0)]) (o := 219) (c_X6_hour B Dk E 225 (Or.inr rfl) (s_hours wy k r) wy t1 (999 + k) t3 (by omega) hI.2 t4 (fun j hj => (hI.1).wy hwy0 j (by rw [s_hours_0] at hj; exact hj))) hv_X6_hour wm_X6_185 dX6_visits_57 rfl rfl z_219 k_219 (by decide) rfl (Nat.le_of_ble_eq_true rfl) ⟨Nat.le_of_ble_eq_true rfl, Nat.le_of_ble_eq_true rfl, Nat.zero_le _, Nat.zero_le _⟩ ⟨rfl, rfl⟩ (fun D15 E16 hz14 => ?_)
            obtain ⟨hF9, hC9, hqE⟩ := hz14
            obtain rfl := hqE.symm
            have hX9 : MX D D15 := (hI.1).trans (MX.of hF9)
            refine r_iload_n dX6_visits_60 rfl ?_
            refine r_iconst (nI 1) dX6_visits_61 (by decide) ?_
            refine r_aload_n dX6_visits_62 rfl ?_
            refine r_getR (ci := 6) (k := 7) wf_X6_25 dX6_visits_63 z_219 k_219 (by decide) (by decide) (fun _ _ => rfl) f_219_7 ?_
            refine r_iconst (nI 1) dX6_visits_66 (by decide) ?_
            refine r_iald dX6_visits_67 z_225 k_225 (vp_in_nI (by decide) (by decide)) (fun z17 hz17 => ?_)
            rw [nI_clamp (by omega)] at hz17
            obtain rfl : z17 = nI (s_hours wy (k + 1) r 1) := hz17.trans (hC9 1 (by decide))
            refine r_ishl dX6_visits_68 (fun z18 hz18 => ?_)
            obtain rfl : z18 = nI (2 ^ s_hours wy (k + 1) r 1) := hz18.trans (shl_1 (by omega))
            refine r_ior dX6_visits_69 (fun z19 hz19 => ?_)
            obtain rfl : z19 = nI (s_vis wy r (k + 1)) := hz19.trans (nI_or _ _)
            refine r_istore_n [(2, .int (nI (s_vis wy r (k + 1)))), (3, .int (nI k)), (0, .ref (B + 219)), (1, .int (nI n))] dX6_visits_70 (by decide) rfl ?_
            refine r_iinc (nI (k + 1)) [(3, .int (nI (k + 1))), (2, .int (nI (s_vis wy r (k + 1)))), (0, .ref (B + 219)), (1, .int (nI n))] dX6_visits_71 rfl (nI_1 _) (by decide) rfl ?_
            refine r_goto (tgt := 45) dX6_visits_74 (by decide) ?_
            exact r_lv [(3, .int (nI (k + 1))), (2, .int (nI (s_vis wy r (k + 1)))), (0, .ref (B + 219)), (1, .int (nI n))] (List.forall_mem_cons.mpr ⟨rfl, List.forall_mem_cons.mpr ⟨rfl, List.forall_mem_cons.mpr ⟨rfl, List.forall_mem_cons.mpr ⟨rfl, fun _ h => absurd h List.not_mem_nil⟩⟩⟩⟩) (ih (k + 1) D15 (by omega) (by omega) (⟨hX9, hC9⟩))
      exact r_lv [(3, .int (nI 0)), (2, .int (nI (s_vis wy r 0))), (0, .ref (B + 219)), (1, .int (nI n))] (List.forall_mem_cons.mpr ⟨rfl, List.forall_mem_cons.mpr ⟨rfl, List.forall_mem_cons.mpr ⟨rfl, List.forall_mem_cons.mpr ⟨rfl, fun _ h => absurd h List.not_mem_nil⟩⟩⟩⟩) (L (n + 1) 0 D10 (by omega) (by omega) (⟨hXt, hL2⟩))
    · skip
      rw [bI_0] at c24
      refine r_ldc wc_X6_74 dX6_visits_27 ?_
      refine r_iret2 dX6_visits_29 rfl ⟨Nat.zero_le _, Nat.zero_le _⟩ ?_
      refine ⟨?_, MX.th, rfl⟩
      unfold g_visits
      rw [if_pos c9, if_neg c24]
  · skip
    rw [bI_0] at c9
    refine r_ldc wc_X6_196 dX6_visits_12 ?_
    refine r_iret2 dX6_visits_14 rfl ⟨Nat.zero_le _, Nat.zero_le _⟩ ?_
    refine ⟨?_, MX.th, rfl⟩
    rw [if_neg c9]
