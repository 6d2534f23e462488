set_option maxRecDepth 100000 in
set_option maxHeartbeats 4000000 in
theorem c_X5_power (B : Nat) (D : DD) (E : EE) (b n : Nat) (hb : b ≤ 10) (hn : n ≤ 6) : MR yX5_power cX5_power 5 (some .long) rX5_power B [.int (nI b), .int (nI n)] Z0 D E (Q2 Z0 (pL (fun v D' E' => v = (nG (b ^ n)) ∧ D' = D ∧ E' = E))) := by
  refine r_enter [(0, .int (nI b)), (1, .int (nI n))] hs_X5_power.1.2.2.2.2 (Nat.le_of_ble_eq_true rfl) rfl ?_
  refine r_lconst (nG 1) dX5_power_0 (by decide) ?_
  refine r_lstore_n [(2, .long (nG 1)), (0, .int (nI b)), (1, .int (nI n))] dX5_power_1 (by decide) rfl ?_
  refine r_iconst (nI 0) dX5_power_2 (by decide) ?_
  refine r_istore [(4, .int (nI 0)), (2, .long (nG 1)), (0, .int (nI b)), (1, .int (nI n))] dX5_power_3 (by decide) rfl ?_
  have L : ∀ fu k : Nat, k ≤ n → n - k < fu → RW yX5_power cX5_power 5 (some .long) rX5_power B (Q2 Z0 (pL (fun v D' E' => v = (nG (b ^ n)) ∧ D' = D ∧ E' = E))) Z0 D E 0 0 5 [(4, .int (nI k)), (2, .long (nG (b ^ k))), (0, .int (nI b)), (1, .int (nI n))] [] := by
    intro fu
    induction fu with
    | zero => intro k hku hfu; omega
    | succ fu ih =>
      intro k hku hfu 
      refine r_iload dX5_power_5 rfl ?_
      refine r_iload_n dX5_power_7 rfl ?_
      refine r_icmp_ge (tgt := 22) dX5_power_8 (by decide) (fun c8 => ?_) (fun c8 => ?_)
      · skip
        rw [nI_leI (by omega) (by omega)] at c8
        refine r_lload_n dX5_power_22 rfl ?_
        refine r_lret2 dX5_power_23 rfl ⟨Nat.zero_le _, Nat.zero_le _⟩ ?_
        obtain rfl : k = n := by omega
        exact ⟨rfl, rfl, rfl⟩
      · skip
        rw [nI_leI (by omega) (by omega)] at c8
        refine r_lload_n dX5_power_11 rfl ?_
        refine r_iload_n dX5_power_12 rfl ?_
        refine r_i2l dX5_power_13 (fun z1 hz1 => ?_)
        obtain rfl : z1 = nG b := hz1.trans (nI_G (by omega))
        refine r_lmul dX5_power_14 (fun z2 hz2 => ?_)
        obtain rfl : z2 = nG (b ^ (k + 1)) := hz2.trans (nG_mul _ _)
        refine r_lstore_n [(2, .long (nG (b ^ (k + 1)))), (4, .int (nI k)), (0, .int (nI b)), (1, .int (nI n))] dX5_power_15 (by decide) rfl ?_
        refine r_iinc (nI (k + 1)) [(4, .int (nI (k + 1))), (2, .long (nG (b ^ (k + 1)))), (0, .int (nI b)), (1, .int (nI n))] dX5_power_16 rfl (nI_1 _) (by decide) rfl ?_
        refine r_goto (tgt := 5) dX5_power_19 (by decide) ?_
        exact r_lv [(4, .int (nI (k + 1))), (2, .long (nG (b ^ (k + 1)))), (0, .int (nI b)), (1, .int (nI n))] (List.forall_mem_cons.mpr ⟨rfl, List.forall_mem_cons.mpr ⟨rfl, List.forall_mem_cons.mpr ⟨rfl, List.forall_mem_cons.mpr ⟨rfl, fun _ h => absurd h List.not_mem_nil⟩⟩⟩⟩) (ih (k + 1) (by omega) (by omega))
  exact r_lv [(4, .int (nI 0)), (2, .long (nG (b ^ 0))), (0, .int (nI b)), (1, .int (nI n))] (List.forall_mem_cons.mpr ⟨rfl, List.forall_mem_cons.mpr ⟨rfl, List.forall_mem_cons.mpr ⟨rfl, List.forall_mem_cons.mpr ⟨rfl, fun _ h => absurd h List.not_mem_nil⟩⟩⟩⟩) (L (n + 1) 0 (by omega) (by omega))
set_option maxRecDepth 100000 in
set_option maxHeartbeats 4000000 in
theorem c_X5_commonDivisor (B : Nat) (D : DD) (E : EE) (a b : Nat) (ha : a < 2 ^ 30) (hb : b < 2 ^ 30) : MR yX5_commonDivisor cX5_commonDivisor 7 (some .long) rX5_commonDivisor B [.long (nG a), .long (nG b)] Z0 D E (Q2 Z0 (pL (fun v D' E' => v = (nG (Nat.gcd a b)) ∧ D' = D ∧ E' = E))) := by
  have hE0 : EU (Nat.gcd a b) 0 a b := ⟨rfl, ha, by show b * 1 < _; omega, fun h => absurd h (by decide)⟩
  refine r_enter [(0, .long (nG a)), (2, .long (nG b))] hs_X5_commonDivisor.1.2.2.2.2 (Nat.le_of_ble_eq_true rfl) rfl ?_
  refine r_iconst (nI 0) dX5_commonDivisor_0 (by decide) ?_
  refine r_istore [(4, .int (nI 0)), (0, .long (nG a)), (2, .long (nG b))] dX5_commonDivisor_1 (by decide) rfl ?_
  have L : ∀ (fu k : Nat) (x y : Nat), k ≤ 100 → 100 - k < fu → (EU (Nat.gcd a b) k x y) → RW yX5_commonDivisor cX5_commonDivisor 7 (some .long) rX5_commonDivisor B (Q2 Z0 (pL (fun v D' E' => v = (nG (Nat.gcd a b)) ∧ D' = D ∧ E' = E))) Z0 D E 0 0 3 [(4, .int (nI k)), (0, .long (nG x)), (2, .long (nG y))] [] := by
    intro fu
    induction fu with
    | zero => intro k x y hku hfu _; omega
    | succ fu ih =>
      intro k x y hku hfu hI
      have hx := hI.2.1
      have hy := EU_b hI
      refine r_iload dX5_commonDivisor_3 rfl ?_
      refine r_bipush (nI 100) dX5_commonDivisor_5 (by decide) ?_
      refine r_icmp_ge (tgt := 32) dX5_commonDivisor_7 (by decide) (fun c7 => ?_) (fun c7 => ?_)
      · skip
        rw [nI_leI (by omega) (by omega)] at c7
        refine r_lload_n dX5_commonDivisor_32 rfl ?_
        refine r_lret2 dX5_commonDivisor_33 rfl ⟨Nat.zero_le _, Nat.zero_le _⟩ ?_
        first
          | (subst c13; exact ⟨congrArg nG (EU_g hI), rfl, rfl⟩)
          | (obtain rfl : k = 100 := by omega
             have hy0 := EU_e hI
             subst hy0
             exact ⟨congrArg nG (EU_g hI), rfl, rfl⟩)
      · skip
        rw [nI_leI (by omega) (by omega)] at c7
        refine r_lload_n dX5_commonDivisor_10 rfl ?_
        refine r_lconst (nG 0) dX5_commonDivisor_11 (by decide) ?_
        refine r_lcmp dX5_commonDivisor_12 (fun z1 hz1 => ?_)
        subst hz1
        refine r_if_eq (tgt := 32) dX5_commonDivisor_13 (by decide) (fun c13 => ?_) (fun c13 => ?_)
        · skip
          rw [gc_eq (by omega) (by decide)] at c13
          skip
          refine r_lload_n dX5_commonDivisor_32 rfl ?_
          refine r_lret2 dX5_commonDivisor_33 rfl ⟨Nat.zero_le _, Nat.zero_le _⟩ ?_
          first
            | (subst c13; exact ⟨congrArg nG (EU_g hI), rfl, rfl⟩)
            | (obtain rfl : k = 100 := by omega
               have hy0 := EU_e hI
               subst hy0
               exact ⟨congrArg nG (EU_g hI), rfl, rfl⟩)
        · skip
          rw [gc_eq (by omega) (by decide)] at c13
          skip
          refine r_lload_n dX5_commonDivisor_16 rfl ?_
          refine r_lload_n dX5_commonDivisor_17 rfl ?_
          refine r_lrem dX5_commonDivisor_18 (fun q => c13 ((nG_z (by omega)).mp q)) (fun z2 hz2 => ?_)
          obtain rfl : z2 = nG (x % y) := hz2.trans (nG_rem (by omega) (by omega))
          refine r_lstore [(5, .long (nG (x % y))), (4, .int (nI k)), (0, .long (nG x)), (2, .long (nG y))] dX5_commonDivisor_19 (by decide) rfl ?_
          refine r_lload_n dX5_commonDivisor_21 rfl ?_
          refine r_lstore_n [(0, .long (nG y)), (5, .long (nG (x % y))), (4, .int (nI k)), (2, .long (nG y))] dX5_commonDivisor_22 (by decide) rfl ?_
          refine r_lload dX5_commonDivisor_23 rfl ?_
          refine r_lstore_n [(2, .long (nG (x % y))), (0, .long (nG y)), (5, .long (nG (x % y))), (4, .int (nI k))] dX5_commonDivisor_25 (by decide) rfl ?_
          refine r_iinc (nI (k + 1)) [(4, .int (nI (k + 1))), (2, .long (nG (x % y))), (0, .long (nG y)), (5, .long (nG (x % y)))] dX5_commonDivisor_26 rfl (nI_1 _) (by decide) rfl ?_
          refine r_goto (tgt := 3) dX5_commonDivisor_29 (by decide) ?_
          exact r_lv [(4, .int (nI (k + 1))), (0, .long (nG y)), (2, .long (nG (x % y)))] (List.forall_mem_cons.mpr ⟨rfl, List.forall_mem_cons.mpr ⟨rfl, List.forall_mem_cons.mpr ⟨rfl, fun _ h => absurd h List.not_mem_nil⟩⟩⟩) (ih (k + 1) y (x % y) (by omega) (by omega) (EU_s hI c13))
  exact r_lv [(4, .int (nI 0)), (0, .long (nG a)), (2, .long (nG b))] (List.forall_mem_cons.mpr ⟨rfl, List.forall_mem_cons.mpr ⟨rfl, List.forall_mem_cons.mpr ⟨rfl, fun _ h => absurd h List.not_mem_nil⟩⟩⟩) (L (100 + 1) 0 a b (by omega) (by omega) hE0)
set_option maxRecDepth 100000 in
set_option maxHeartbeats 4000000 in
theorem c_X5_goesBy (B : Nat) (D : DD) (E : EE) (wy : Nat → Nat) (r : Row) (hW : WF r) (hT : T2 r) (hH : HB r 999) (hY : WY wy r) (c : Nat) (hc : c < 64) (hs : c &&& (63 ^^^ s_wg r (r 5)) = 0) (f : Nat → Int32) (hC : CA (upo D 173 f) 173 r) (hf : ∀ j, j ≠ 5 → D 173 j = f j) (hLl : LA D 15 wy r) : MR yX5_goesBy cX5_goesBy 2 (some .boolean) rX5_goesBy B [.ref (B + 0), .int (nI c)] Z0 D E (Q2 Z0 (pI (fun v D' E' => v = bI (s_gb wy r c = true) ∧ (∃ g5 g, D' = upo (upo D 173 (upd (D 173) 5 g5)) 178 g) ∧ E' = E))) := by
  obtain ⟨b1, b2, b3, b4, b5, b6, b7, b8⟩ := id hW.1
  have l5 := b7
  have hp2 := pw2_le b7
  have ht9 := s_to_ok (f := s_pull wy r c 0 (nI 0)) b3
  refine r_enter [(0, .ref (B + 0)), (1, .int (nI c))] hv_X5_goesBy.1.2.2.2.2 (Nat.le_of_ble_eq_true rfl) rfl ?_
  refine r_aload_n dX5_goesBy_0 rfl ?_
  refine r_getR (ci := 5) (k := 5) wf_X5_44 dX5_goesBy_1 z_0 k_0 (by decide) (by decide) (fun _ _ => rfl) f_0_5 ?_
  refine r_aload_n dX5_goesBy_4 rfl ?_
  refine r_getR (ci := 5) (k := 2) wf_X5_26 dX5_goesBy_5 z_0 k_0 (by decide) (by decide) (fun _ _ => rfl) f_0_2 ?_
  refine r_callVI (As := []) (o := 15) (c_X1_everyone B D E 15 (r 5) isL_l hLl.1.2.2.2.2 b7) hv_X1_everyone wm_X5_233 dX5_goesBy_8 rfl rfl z_15 k_15 (by decide) rfl (Nat.le_of_ble_eq_true rfl) ⟨Nat.le_of_ble_eq_true rfl, Nat.le_of_ble_eq_true rfl, Nat.zero_le _, Nat.zero_le _⟩ ⟨rfl, rfl⟩ (fun z1 D2 E3 hz1 => ?_)
  obtain ⟨hqV, hqD, hqE⟩ := hz1
  obtain rfl : z1 = nI (2 ^ r 5 - 1) := hqV
  obtain rfl := hqD.symm
  obtain rfl := hqE.symm
  refine r_iload_n dX5_goesBy_11 rfl ?_
  refine r_iconst ((-1)) dX5_goesBy_12 (by decide) ?_
  refine r_ixor dX5_goesBy_13 (fun z4 hz4 => ?_)
  subst hz4
  refine r_iand dX5_goesBy_14 (fun z5 hz5 => ?_)
  obtain rfl : z5 = nI ((2 ^ r 5 - 1) &&& (63 ^^^ c)) := hz5.trans (mask_n c hc _ (by omega))
  refine r_putI (ci := 0) (k := 5) wf_X5_184 dX5_goesBy_15 z_173 k_173 (by decide) (by decide) rfl rfl (fun D6 hD6 => ?_)
  obtain rfl : D6 = upo D 173 (upd (D 173) 5 (nI ((2 ^ r 5 - 1) &&& (63 ^^^ c)))) := hD6.trans up2_eq
  have hC2 : CA (upo D 173 (upd (D 173) 5 (nI ((2 ^ r 5 - 1) &&& (63 ^^^ c))))) 173 (s_rest r c) := by
    have h9 := CA_rest (c := c) hW hc hC
    rw [upo_s, upo_upo, ← awk_mask hW hc hs] at h9
    have e9 : upd f 5 (nI ((2 ^ r 5 - 1) &&& (63 ^^^ c))) = upd (D 173) 5 (nI ((2 ^ r 5 - 1) &&& (63 ^^^ c))) := by
      funext j
      unfold upd
      by_cases q : j = 5
      · rw [if_pos q, if_pos q]
      · rw [if_neg q, if_neg q, hf j q]
    rw [e9] at h9
    exact h9
  have hL2 : LA (upo D 173 (upd (D 173) 5 (nI ((2 ^ r 5 - 1) &&& (63 ^^^ c))))) 15 wy (s_rest r c) := LA_rest (LA_upo hLl (fun j hj => by omega))
  refine r_aload_n dX5_goesBy_18 rfl ?_
  refine r_getR (ci := 5) (k := 5) wf_X5_44 dX5_goesBy_19 z_0 k_0 (by decide) (by decide) (fun _ _ => rfl) f_0_5 ?_
  refine r_aload_n dX5_goesBy_22 rfl ?_
  refine r_getR (ci := 5) (k := 2) wf_X5_26 dX5_goesBy_23 z_0 k_0 (by decide) (by decide) (fun _ _ => rfl) f_0_2 ?_
  refine r_callVV (As := [.ref (B + 15)]) (o := 173) (c_X0_weigh B (upo D 173 (upd (D 173) 5 (nI ((2 ^ r 5 - 1) &&& (63 ^^^ c))))) E 173 15 isC_p isL_l (dj15 (Or.inr rfl)) (s_rest r c) wy (WF_rest hW) 999 (HB_rest hH) (by decide) hC2 hL2 (WY_rest hY) (T2_rest hT)) hv_X0_weigh wm_X5_210 dX5_goesBy_26 rfl rfl z_173 k_173 (by decide) rfl (Nat.le_of_ble_eq_true rfl) ⟨Nat.le_of_ble_eq_true rfl, Nat.le_of_ble_eq_true rfl, Nat.zero_le _, Nat.zero_le _⟩ ⟨rfl, rfl⟩ (fun D8 E9 hz7 => ?_)
  obtain ⟨⟨g, hgD, hg⟩, hqE⟩ := hz7
  obtain rfl := hqE.symm
  subst hgD
  rw [pull_rest b7, s_rest_o (k := 0) (by omega)] at hg
  refine r_aload_n dX5_goesBy_29 rfl ?_
  refine r_getR (ci := 5) (k := 5) wf_X5_44 dX5_goesBy_30 z_0 k_0 (by decide) (by decide) (fun _ _ => rfl) f_0_5 ?_
  refine r_aload_n dX5_goesBy_33 rfl ?_
  refine r_getR (ci := 5) (k := 2) wf_X5_26 dX5_goesBy_34 z_0 k_0 (by decide) (by decide) (fun _ _ => rfl) f_0_2 ?_
  refine r_callVI (As := [.ref (B + 15)]) (o := 173) (c_X0_goesTo B (upo (upo D 173 (upd (D 173) 5 (nI ((2 ^ r 5 - 1) &&& (63 ^^^ c))))) 178 g) E 173 15 isC_p isL_l (dj15 (Or.inr rfl)) (s_rest r c) wy (WF_rest hW) 999 (HB_rest hH) (by decide) (CA_upo hC2 (fun j hj => by omega)) (LA_upo hL2 (fun j hj => by omega)) (WY_rest hY) (s_pull wy r c 0 (nI 0)) (fun q hq => (congrFun upo_s q).trans (hg q (by rw [s_rest_o (k := 0) (by omega)] at hq; exact hq)))) hv_X0_goesTo wm_X5_240 dX5_goesBy_37 rfl rfl z_173 k_173 (by decide) rfl (Nat.le_of_ble_eq_true rfl) ⟨Nat.le_of_ble_eq_true rfl, Nat.le_of_ble_eq_true rfl, Nat.zero_le _, Nat.zero_le _⟩ ⟨rfl, rfl⟩ (fun z10 D11 E12 hz10 => ?_)
  obtain ⟨hq1, hqD, hqE⟩ := hz10
  obtain rfl := hqD.symm
  obtain rfl := hqE.symm
  rw [s_rest_o (k := 0) (by omega), s_rest_o (k := 1) (by omega)] at hq1
  subst hq1
  refine r_aload_n dX5_goesBy_40 rfl ?_
  refine r_getR (ci := 5) (k := 5) wf_X5_44 dX5_goesBy_41 z_0 k_0 (by decide) (by decide) (fun _ _ => rfl) f_0_5 ?_
  refine r_getI (ci := 0) (k := 1) wf_X5_169 dX5_goesBy_44 z_173 k_173 (by decide) (by decide) rfl (fun z13 hz13 => ?_)
  obtain rfl : z13 = nI (r 1) := hz13.trans ((CA_upo hC2 (fun j hj => by omega)).1.2.1.trans (congrArg nI (s_rest_o (by omega))))
  refine r_icmp_eq (tgt := 54) dX5_goesBy_47 (by decide) (fun c47 => ?_) (fun c47 => ?_)
  · skip
    rw [nI_eq (by split <;> omega) (by omega)] at c47
    refine r_iconst (nI 0) dX5_goesBy_54 (by decide) ?_
    refine r_zret2 dX5_goesBy_55 rfl ⟨Nat.zero_le _, Nat.zero_le _⟩ rfl ?_
    refine ⟨?_, ⟨_, _, rfl⟩, rfl⟩
    unfold s_gb
    by_cases q9 : s_to (s_pull wy r c 0 (nI 0)) (r 1) (r 0) = 9
    · rw [if_pos q9] at c47
      first
        | exact absurd rfl c47
        | (refine bI_f ?_; simp [q9])
    · rw [if_neg q9] at c47
      first
        | (refine bI_t ?_; simp [q9, c47]; done)
        | (refine bI_f ?_; simp [c47]; done)
  · skip
    rw [nI_eq (by split <;> omega) (by omega)] at c47
    refine r_iconst (nI 1) dX5_goesBy_50 (by decide) ?_
    refine r_goto (tgt := 55) dX5_goesBy_51 (by decide) ?_
    refine r_zret2 dX5_goesBy_55 rfl ⟨Nat.zero_le _, Nat.zero_le _⟩ rfl ?_
    refine ⟨?_, ⟨_, _, rfl⟩, rfl⟩
    unfold s_gb
    by_cases q9 : s_to (s_pull wy r c 0 (nI 0)) (r 1) (r 0) = 9
    · rw [if_pos q9] at c47
      first
        | exact absurd rfl c47
        | (refine bI_f ?_; simp [q9])
    · rw [if_neg q9] at c47
      first
        | (refine bI_t ?_; simp [q9, c47]; done)
        | (refine bI_f ?_; simp [c47]; done)
