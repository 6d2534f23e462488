set_option maxRecDepth 100000 in
set_option maxHeartbeats 4000000 in
theorem c_X0_code (B : Nat) (D : DD) (E : EE) (o : Nat) (ho : isC o) (r : Row) (hW : WF r) (b : Nat) (hH : HB r b) (hb : b < 2 ^ 20) (hC : CA D o r) : MR yX0_code cX0_code 4 (some .long) rX0_code B [.ref (B + o)] Z0 D E (Q2 Z0 (pL (fun v D' E' => v = (nG (s_cd r 6)) ∧ D' = D ∧ E' = E))) := by
  obtain ⟨b1, b2, b3, -⟩ := id hW.1
  obtain ⟨g1, -, -⟩ := id hH
  refine r_enter [(0, .ref (B + o))] hv_X0_code.1.2.2.2.2 (Nat.le_of_ble_eq_true rfl) rfl ?_
  refine r_bipush (nI 6) dX0_code_0 (by decide) ?_
  refine r_aload_n dX0_code_2 rfl ?_
  refine r_getI (ci := 0) (k := 1) wf_X0_31 dX0_code_3 ho.1.1 ho.2.1.1 (by decide) (by decide) rfl (fun z1 hz1 => ?_)
  obtain rfl : z1 = nI (r 1) := hz1.trans hC.1.2.1
  refine r_imul dX0_code_6 (fun z2 hz2 => ?_)
  obtain rfl : z2 = nI (6 * (r 1)) := (hz2.trans (pk_mul _ _))
  refine r_aload_n dX0_code_7 rfl ?_
  refine r_getI (ci := 0) (k := 0) wf_X0_27 dX0_code_8 ho.1.1 ho.2.1.1 (by decide) (by decide) rfl (fun z3 hz3 => ?_)
  obtain rfl : z3 = nI (r 6) := hz3.trans hC.1.1
  refine r_bipush (nI 6) dX0_code_11 (by decide) ?_
  refine r_irem dX0_code_13 (by decide) (fun z4 hz4 => ?_)
  obtain rfl : z4 = nI (r 6 % 6) := hz4.trans (nI_mod (by omega) (by decide) (by decide))
  refine r_iadd dX0_code_14 (fun z5 hz5 => ?_)
  obtain rfl : z5 = nI ((6 * (r 1)) + (r 6 % 6)) := (hz5.trans (nI_add _ _))
  have hm6 := Nat.mod_lt (r 6) (show 0 < 6 by decide)
  refine r_i2l dX0_code_15 (fun z6 hz6 => ?_)
  obtain rfl : z6 = nG (s_cd r 0) := hz6.trans (nI_G (by omega))
  refine r_lstore_n [(1, .long (nG (s_cd r 0))), (0, .ref (B + o))] dX0_code_16 (by decide) rfl ?_
  refine r_iconst (nI 0) dX0_code_17 (by decide) ?_
  refine r_istore_n [(3, .int (nI 0)), (1, .long (nG (s_cd r 0))), (0, .ref (B + o))] dX0_code_18 (by decide) rfl ?_
  have L : ∀ fu k : Nat, k ≤ 6 → 6 - k < fu → RW yX0_code cX0_code 4 (some .long) rX0_code B (Q2 Z0 (pL (fun v D' E' => v = (nG (s_cd r 6)) ∧ D' = D ∧ E' = E))) Z0 D E 0 0 19 [(3, .int (nI k)), (1, .long (nG (s_cd r k))), (0, .ref (B + o))] [] := by
    intro fu
    induction fu with
    | zero => intro k hku hfu; omega
    | succ fu ih =>
      intro k hku hfu 
      refine r_iload_n dX0_code_19 rfl ?_
      refine r_bipush (nI 6) dX0_code_20 (by decide) ?_
      refine r_icmp_ge (tgt := 45) dX0_code_22 (by decide) (fun c22 => ?_) (fun c22 => ?_)
      · skip
        rw [nI_leI (by omega) (by omega)] at c22
        refine r_lload_n dX0_code_45 rfl ?_
        refine r_lret2 dX0_code_46 rfl ⟨Nat.zero_le _, Nat.zero_le _⟩ ?_
        have h6 : k = 6 := by omega
        exact ⟨by rw [h6], rfl, rfl⟩
      · skip
        rw [nI_leI (by omega) (by omega)] at c22
        refine r_lload_n dX0_code_25 rfl ?_
        refine r_ldc2v (nG 21) wg_X0_112 dX0_code_26 (by decide) ?_
        refine r_lmul dX0_code_29 (fun z7 hz7 => ?_)
        obtain rfl : z7 = nG ((s_cd r k) * 21) := hz7.trans (nG_mul _ _)
        refine r_aload_n dX0_code_30 rfl ?_
        refine r_getR (ci := 0) (k := 9) wf_X0_21 dX0_code_31 ho.1.1 ho.2.1.1 (by decide) (by decide) (fun _ _ => rfl) ho.2.2.2.2.2.1 ?_
        refine r_iload_n dX0_code_34 rfl ?_
        refine r_iald dX0_code_35 ho.1.2.2.2.2.1 ho.2.1.2.2.2.2.1 (vp_in_nI (by omega) (by decide)) (fun z8 hz8 => ?_)
        rw [nI_clamp (by omega)] at hz8
        obtain rfl : z8 = nI (r (22 + 8 * k)) := hz8.trans (CA_t hW hC (by omega))
        have ht := cd_t hW k
        refine r_i2l dX0_code_36 (fun z9 hz9 => ?_)
        obtain rfl : z9 = nG (r (22 + 8 * k)) := hz9.trans (nI_G (by omega))
        refine r_ladd dX0_code_37 (fun z10 hz10 => ?_)
        obtain rfl : z10 = nG (s_cd r (k + 1)) := hz10.trans (nG_add _ _)
        refine r_lstore_n [(1, .long (nG (s_cd r (k + 1)))), (3, .int (nI k)), (0, .ref (B + o))] dX0_code_38 (by decide) rfl ?_
        refine r_iinc (nI (k + 1)) [(3, .int (nI (k + 1))), (1, .long (nG (s_cd r (k + 1)))), (0, .ref (B + o))] dX0_code_39 rfl (nI_1 _) (by decide) rfl ?_
        refine r_goto (tgt := 19) dX0_code_42 (by decide) ?_
        exact r_lv [(3, .int (nI (k + 1))), (1, .long (nG (s_cd r (k + 1)))), (0, .ref (B + o))] (List.forall_mem_cons.mpr ⟨rfl, List.forall_mem_cons.mpr ⟨rfl, List.forall_mem_cons.mpr ⟨rfl, fun _ h => absurd h List.not_mem_nil⟩⟩⟩) (ih (k + 1) (by omega) (by omega))
  exact r_lv [(3, .int (nI 0)), (1, .long (nG (s_cd r 0))), (0, .ref (B + o))] (List.forall_mem_cons.mpr ⟨rfl, List.forall_mem_cons.mpr ⟨rfl, List.forall_mem_cons.mpr ⟨rfl, fun _ h => absurd h List.not_mem_nil⟩⟩⟩) (L (6 + 1) 0 (by omega) (by omega))
set_option maxRecDepth 100000 in
set_option maxHeartbeats 4000000 in
theorem c_X5_round (B : Nat) (D : DD) (E : EE) (wy : Nat → Nat) (r : Row) (hX : XL D wy r) (x : Int32) : MR yX5_round cX5_round 4 (some .int) rX5_round B [.ref (B + 0), .int x] Z0 D E (Q2 Z0 (pI (fun v D' E' => v = (if 0 < r 0 then g_round wy r x else -1000002) ∧ SX D D' ∧ EX 193 E E'))) := by
  obtain ⟨hO, hCn, hLl, hYY⟩ := id hX
  obtain ⟨l0, l5, l4, l6, l7, l8, l1⟩ := hO.le
  refine r_enter [(0, .ref (B + 0)), (1, .int x)] hv_X5_round.1.2.2.2.2 (Nat.le_of_ble_eq_true rfl) rfl ?_
  refine r_aload_n dX5_round_0 rfl ?_
  refine r_callVI (As := []) (o := 0) (c_X5_hasLand B D E (r 0) hLl.1.1 l0) hv_X5_hasLand wm_X5_156 dX5_round_1 rfl rfl z_0 k_0 (by decide) rfl (Nat.le_of_ble_eq_true rfl) ⟨Nat.le_of_ble_eq_true rfl, Nat.le_of_ble_eq_true rfl, Nat.zero_le _, Nat.zero_le _⟩ ⟨rfl, rfl⟩ (fun z1 D2 E3 hz1 => ?_)
  obtain ⟨hqV, hqD, hqE⟩ := hz1
  obtain rfl : z1 = bI (0 < r 0) := hqV
  obtain rfl := hqD.symm
  obtain rfl := hqE.symm
  refine r_if_ne (tgt := 10) dX5_round_4 (by decide) (fun c4 => ?_) (fun c4 => ?_)
  · skip
    rw [bI_n0] at c4
    obtain ⟨hW, hT, hH⟩ := hO.p c4
    have hY := hYY hW
    obtain ⟨b1, b2, b3, b4, b5, b6, b7, b8⟩ := hW.1
    refine r_iload_n dX5_round_10 rfl ?_
    refine r_iconst (nI 0) dX5_round_11 (by decide) ?_
    refine r_iconst (nI 1) dX5_round_12 (by decide) ?_
    refine r_callSI (As := [.int x, .int (nI 0), .int (nI 1)]) (c_X5_within B D E x (nI 0) (nI 1)) hs_X5_within wm_X5_73 rfl dX5_round_13 rfl rfl (Nat.le_of_ble_eq_true rfl) ⟨Nat.le_of_ble_eq_true rfl, Nat.le_of_ble_eq_true rfl, Nat.zero_le _, Nat.zero_le _⟩ ⟨rfl, rfl⟩ (fun z4 D5 E6 hz4 => ?_)
    obtain ⟨hqV, hqD, hqE⟩ := hz4
    obtain rfl : z4 = bI (nI 0 ≤ x ∧ x ≤ nI 1) := hqV
    obtain rfl := hqD.symm
    obtain rfl := hqE.symm
    refine r_if_ne (tgt := 22) dX5_round_16 (by decide) (fun c16 => ?_) (fun c16 => ?_)
    · skip
      rw [bI_n0] at c16
      obtain ⟨wh, hw1, hw2, rfl⟩ := rg (by decide) (by decide) c16
      refine r_aload_n dX5_round_22 rfl ?_
      refine r_getR (ci := 5) (k := 5) wf_X5_44 dX5_round_23 z_0 k_0 (by decide) (by decide) (fun _ _ => rfl) f_0_5 ?_
      refine r_aload_n dX5_round_26 rfl ?_
      refine r_getR (ci := 5) (k := 3) wf_X5_33 dX5_round_27 z_0 k_0 (by decide) (by decide) (fun _ _ => rfl) f_0_3 ?_
      refine r_callVV (As := [.ref (B + 21)]) (o := 173) (c_X0_take B D E 173 21 isC_p isC_n dj_pn) hv_X0_take wm_X5_140 dX5_round_30 rfl rfl z_173 k_173 (by decide) rfl (Nat.le_of_ble_eq_true rfl) ⟨Nat.le_of_ble_eq_true rfl, Nat.le_of_ble_eq_true rfl, Nat.zero_le _, Nat.zero_le _⟩ ⟨rfl, rfl⟩ (fun D8 E9 hz7 => ?_)
      obtain ⟨hqD, hqE⟩ := hz7
      obtain rfl := hqE.symm
      have hP : XP D D8 r := by rw [hqD]; exact XP.take l5 hCn
      refine r_aload_n dX5_round_33 rfl ?_
      refine r_getR (ci := 5) (k := 11) wf_X5_61 dX5_round_34 z_0 k_0 (by decide) (by decide) (fun _ _ => rfl) f_0_11 ?_
      refine r_iconst (nI 0) dX5_round_37 (by decide) ?_
      refine r_aload_n dX5_round_38 rfl ?_
      refine r_getR (ci := 5) (k := 5) wf_X5_44 dX5_round_39 z_0 k_0 (by decide) (by decide) (fun _ _ => rfl) f_0_5 ?_
      refine r_callVL (As := []) (o := 173) (c_X0_code B D8 E 173 isC_p r hW 999 hH (by decide) hP.1) hv_X0_code wm_X5_254 dX5_round_42 rfl rfl z_173 k_173 (by decide) rfl (Nat.le_of_ble_eq_true rfl) ⟨Nat.le_of_ble_eq_true rfl, Nat.le_of_ble_eq_true rfl, Nat.zero_le _, Nat.zero_le _⟩ ⟨rfl, rfl⟩ (fun z10 D11 E12 hz10 => ?_)
      obtain ⟨hqV, hqD, hqE⟩ := hz10
      obtain rfl : z10 = nG (s_cd r 6) := hqV
      obtain rfl := hqD.symm
      obtain rfl := hqE.symm
      refine r_last dX5_round_45 z_193 k_193 (vp_in_nI (by decide) (by decide)) (fun E13 hE13 => ?_)
      rw [nI_clamp (by omega)] at hE13
      have hX0 : EX 193 E E13 := by rw [hE13]; exact EX.rf.up
      have hE0 : ∀ j, j ≤ 0 → E13 193 j = nG (s_cd (s_hours wy j r) 6) := fun j hj => by
        obtain rfl : j = 0 := by omega
        rw [hE13]; exact up2_s
      refine r_iconst (nI 1) dX5_round_46 (by decide) ?_
      refine r_istore_n [(2, .int (nI 1)), (0, .ref (B + 0)), (1, .int (nI wh))] dX5_round_47 (by decide) rfl ?_
      refine r_lv [(2, .int (nI (0 + 1))), (0, .ref (B + 0)), (1, .int (nI wh))] (List.forall_mem_cons.mpr ⟨congrArg (fun x => some (Value.int x)) rfl, List.forall_mem_cons.mpr ⟨rfl, List.forall_mem_cons.mpr ⟨rfl, fun _ h => absurd h List.not_mem_nil⟩⟩⟩) ?_
      have L : ∀ (fu k : Nat) (Dk : DD) (Ek : EE), k ≤ 100 → 100 - k < fu → (XP D Dk (s_hours wy k r) ∧ EX 193 E Ek ∧ (∀ j, j ≤ k → Ek 193 j = nG (s_cd (s_hours wy j r) 6)) ∧ s_rd wy r (k + 1) = none) → RW yX5_round cX5_round 4 (some .int) rX5_round B (Q2 Z0 (pI (fun v D' E' => v = (if 0 < r 0 then g_round wy r (nI wh) else -1000002) ∧ SX D D' ∧ EX 193 E E'))) Z0 Dk Ek 0 0 48 [(2, .int (nI (k + 1))), (0, .ref (B + 0)), (1, .int (nI wh))] [] := by
        intro fu
        induction fu with
        | zero => intro k Dk Ek hku hfu _; omega
        | succ fu ih =>
          intro k Dk Ek hku hfu hI
          refine r_iload_n dX5_round_48 rfl ?_
          refine r_bipush (nI 100) dX5_round_49 (by decide) ?_
          refine r_icmp_gt (tgt := 123) dX5_round_51 (by decide) (fun c51 => ?_) (fun c51 => ?_)
          · skip
            rw [nI_ltI (by omega) (by omega)] at c51
            skip
            refine r_ldc wc_X5_232 dX5_round_123 ?_
            refine r_iret2 dX5_round_125 rfl ⟨Nat.zero_le _, Nat.zero_le _⟩ ?_
            obtain rfl : k = 100 := by omega
            refine ⟨?_, hI.1.2, hI.2.1⟩
            unfold g_round
            rw [if_pos c4, if_pos c16, hI.2.2.2]
          · skip
            rw [nI_ltI (by omega) (by omega)] at c51
            have hk := s_hours_k hW hT hH hY k
            obtain ⟨kb1, kb2, kb3, kb4, kb5, kb6, kb7, kb8⟩ := hk.1.1
            have hk2 := s_hours_k hW hT hH hY (k + 1)
            refine r_aload_n dX5_round_54 rfl ?_
            refine r_getR (ci := 5) (k := 5) wf_X5_44 dX5_round_55 z_0 k_0 (by decide) (by decide) (fun _ _ => rfl) f_0_5 ?_
            refine r_aload_n dX5_round_58 rfl ?_
            refine r_getR (ci := 5) (k := 2) wf_X5_26 dX5_round_59 z_0 k_0 (by decide) (by decide) (fun _ _ => rfl) f_0_2 ?_
            refine r_callVV (As := [.ref (B + 15)]) (o := 173) (c_X0_pass B Dk Ek 173 15 isC_p isL_l (dj15 (Or.inr rfl)) (s_hours wy k r) wy hk.1 (999 + k) hk.2.2.1 (by omega) hI.1.1 (hI.1.2.LA (LA_hours hLl k)) hk.2.2.2 hk.2.1) hv_X0_pass wm_X5_166 dX5_round_62 rfl rfl z_173 k_173 (by decide) rfl (Nat.le_of_ble_eq_true rfl) ⟨Nat.le_of_ble_eq_true rfl, Nat.le_of_ble_eq_true rfl, Nat.zero_le _, Nat.zero_le _⟩ ⟨rfl, rfl⟩ (fun D15 E16 hz14 => ?_)
            obtain ⟨hF9, hC9, hqE⟩ := hz14
            obtain rfl := hqE.symm
            have hP2 : XP D D15 (s_hours wy (k + 1) r) := hI.1.step hF9 hC9
            refine r_aload_n dX5_round_65 rfl ?_
            refine r_getR (ci := 5) (k := 11) wf_X5_61 dX5_round_66 z_0 k_0 (by decide) (by decide) (fun _ _ => rfl) f_0_11 ?_
            refine r_iload_n dX5_round_69 rfl ?_
            refine r_aload_n dX5_round_70 rfl ?_
            refine r_getR (ci := 5) (k := 5) wf_X5_44 dX5_round_71 z_0 k_0 (by decide) (by decide) (fun _ _ => rfl) f_0_5 ?_
            refine r_callVL (As := []) (o := 173) (c_X0_code B D15 Ek 173 isC_p (s_hours wy (k + 1) r) hk2.1 (999 + (k + 1)) hk2.2.2.1 (by omega) hP2.1) hv_X0_code wm_X5_254 dX5_round_74 rfl rfl z_173 k_173 (by decide) rfl (Nat.le_of_ble_eq_true rfl) ⟨Nat.le_of_ble_eq_true rfl, Nat.le_of_ble_eq_true rfl, Nat.zero_le _, Nat.zero_le _⟩ ⟨rfl, rfl⟩ (fun z17 D18 E19 hz17 => ?_)
            obtain ⟨hqV, hqD, hqE⟩ := hz17
            obtain rfl : z17 = nG (s_cd (s_hours wy (k + 1) r) 6) := hqV
            obtain rfl := hqD.symm
            obtain rfl := hqE.symm
            refine r_last dX5_round_77 z_193 k_193 (vp_in_nI (by omega) (by decide)) (fun E20 hE20 => ?_)
            rw [nI_clamp (by omega)] at hE20
            have hX9 : EX 193 E E20 := by rw [hE20]; exact hI.2.1.up
            have hE4 : ∀ j, j ≤ k + 1 → E20 193 j = nG (s_cd (s_hours wy j r) 6) := fun j hj => by
              by_cases e : j = k + 1
              · subst e; rw [hE20]; exact up2_s
              · rw [hE20, up2_n (fun q => e q.2)]; exact hI.2.2.1 j (by omega)
            refine r_iconst (nI 0) dX5_round_78 (by decide) ?_
            refine r_istore_n [(3, .int (nI 0)), (2, .int (nI (k + 1))), (0, .ref (B + 0)), (1, .int (nI wh))] dX5_round_79 (by decide) rfl ?_
            have L2 : ∀ fu j : Nat, j ≤ k + 1 → k + 1 - j < fu → (∀ i, i < j → s_same wy r (k + 1) i = false) → RW yX5_round cX5_round 4 (some .int) rX5_round B (Q2 Z0 (pI (fun v D' E' => v = (if 0 < r 0 then g_round wy r (nI wh) else -1000002) ∧ SX D D' ∧ EX 193 E E'))) Z0 D15 E20 0 0 80 [(3, .int (nI j)), (2, .int (nI (k + 1))), (0, .ref (B + 0)), (1, .int (nI wh))] [] := by
              intro fu
              induction fu with
              | zero => intro j hku hfu; omega
              | succ fu ihL2 =>
                intro j hku hfu hJ
                refine r_iload_n dX5_round_80 rfl ?_
                refine r_iload_n dX5_round_81 rfl ?_
                refine r_icmp_ge (tgt := 117) dX5_round_82 (by decide) (fun c82 => ?_) (fun c82 => ?_)
                · skip
                  rw [nI_leI (by omega) (by omega)] at c82
                  refine r_iinc (nI ((k + 1) + 1)) [(2, .int (nI ((k + 1) + 1))), (3, .int (nI j)), (0, .ref (B + 0)), (1, .int (nI wh))] dX5_round_117 rfl (nI_1 _) (by decide) rfl ?_
                  refine r_goto (tgt := 48) dX5_round_120 (by decide) ?_
                  exact r_lv [(2, .int (nI ((k + 1) + 1))), (0, .ref (B + 0)), (1, .int (nI wh))] (List.forall_mem_cons.mpr ⟨rfl, List.forall_mem_cons.mpr ⟨rfl, List.forall_mem_cons.mpr ⟨rfl, fun _ h => absurd h List.not_mem_nil⟩⟩⟩) (ih (k + 1) D15 E20 (by omega) (by omega) (⟨hP2, hX9, hE4, s_rd_n hI.2.2.2 (fun i hi => hJ i (by omega))⟩))
                · skip
                  rw [nI_leI (by omega) (by omega)] at c82
                  refine r_aload_n dX5_round_85 rfl ?_
                  refine r_getR (ci := 5) (k := 11) wf_X5_61 dX5_round_86 z_0 k_0 (by decide) (by decide) (fun _ _ => rfl) f_0_11 ?_
                  refine r_iload_n dX5_round_89 rfl ?_
                  refine r_lald dX5_round_90 z_193 k_193 (vp_in_nI (by omega) (by decide)) (fun z21 hz21 => ?_)
                  rw [nI_clamp (by omega)] at hz21
                  obtain rfl : z21 = nG (s_cd (s_hours wy j r) 6) := hz21.trans (hE4 j (by omega))
                  refine r_aload_n dX5_round_91 rfl ?_
                  refine r_getR (ci := 5) (k := 11) wf_X5_61 dX5_round_92 z_0 k_0 (by decide) (by decide) (fun _ _ => rfl) f_0_11 ?_
                  refine r_iload_n dX5_round_95 rfl ?_
                  refine r_lald dX5_round_96 z_193 k_193 (vp_in_nI (by omega) (by decide)) (fun z22 hz22 => ?_)
                  rw [nI_clamp (by omega)] at hz22
                  obtain rfl : z22 = nG (s_cd (s_hours wy (k + 1) r) 6) := hz22.trans (hE4 (k + 1) (by omega))
                  refine r_lcmp dX5_round_97 (fun z23 hz23 => ?_)
                  subst hz23
                  refine r_if_ne (tgt := 111) dX5_round_98 (by decide) (fun c98 => ?_) (fun c98 => ?_)
                  · skip
                    rw [gc_eq (Nat.lt_trans (cd_b (s_hours_k hW hT hH hY j).1 (by decide)) (by decide)) (Nat.lt_trans (cd_b hk2.1 (by decide)) (by decide))] at c98
                    have hs98 : s_same wy r (k + 1) j = false := by rw [s_same_6 hW hT hH hY]; exact decide_eq_false c98
                    refine r_iinc (nI (j + 1)) [(3, .int (nI (j + 1))), (2, .int (nI (k + 1))), (0, .ref (B + 0)), (1, .int (nI wh))] dX5_round_111 rfl (nI_1 _) (by decide) rfl ?_
                    refine r_goto (tgt := 80) dX5_round_114 (by decide) ?_
                    exact r_lv [(3, .int (nI (j + 1))), (2, .int (nI (k + 1))), (0, .ref (B + 0)), (1, .int (nI wh))] (List.forall_mem_cons.mpr ⟨rfl, List.forall_mem_cons.mpr ⟨rfl, List.forall_mem_cons.mpr ⟨rfl, List.forall_mem_cons.mpr ⟨rfl, fun _ h => absurd h List.not_mem_nil⟩⟩⟩⟩) (ihL2 (j + 1) (by omega) (by omega) (fun i hi => (Nat.lt_succ_iff_lt_or_eq.mp hi).elim (fun h => hJ i h) (fun h => h ▸ hs98)))
                  · skip
                    rw [gc_eq (Nat.lt_trans (cd_b (s_hours_k hW hT hH hY j).1 (by decide)) (by decide)) (Nat.lt_trans (cd_b hk2.1 (by decide)) (by decide))] at c98
                    have hs98 : s_same wy r (k + 1) j = true := by rw [s_same_6 hW hT hH hY]; exact decide_eq_true c98
                    refine r_iload_n dX5_round_101 rfl ?_
                    refine r_if_ne (tgt := 109) dX5_round_102 (by decide) (fun c102 => ?_) (fun c102 => ?_)
                    · skip
                      rw [nI_z (by omega)] at c102
                      refine r_iload_n dX5_round_109 rfl ?_
                      refine r_iret2 dX5_round_110 rfl ⟨Nat.zero_le _, Nat.zero_le _⟩ ?_
                      refine ⟨?_, hP2.2, hX9⟩
                      unfold g_round
                      rw [if_pos c4, if_pos c16, s_rd_s hI.2.2.2 (show j < k + 1 by omega) hs98 hJ 101 (by omega)]
                      first
                        | exact (if_pos ((nI_z (by omega)).mpr c102)).symm
                        | exact (if_neg (fun q => c102 ((nI_z (by omega)).mp q))).symm
                    · skip
                      rw [nI_z (by omega)] at c102
                      refine r_iload_n dX5_round_105 rfl ?_
                      refine r_goto (tgt := 110) dX5_round_106 (by decide) ?_
                      refine r_iret2 dX5_round_110 rfl ⟨Nat.zero_le _, Nat.zero_le _⟩ ?_
                      refine ⟨?_, hP2.2, hX9⟩
                      unfold g_round
                      rw [if_pos c4, if_pos c16, s_rd_s hI.2.2.2 (show j < k + 1 by omega) hs98 hJ 101 (by omega)]
                      first
                        | exact (if_pos ((nI_z (by omega)).mpr c102)).symm
                        | exact (if_neg (fun q => c102 ((nI_z (by omega)).mp q))).symm
            exact r_lv [(3, .int (nI 0)), (2, .int (nI (k + 1))), (0, .ref (B + 0)), (1, .int (nI wh))] (List.forall_mem_cons.mpr ⟨rfl, List.forall_mem_cons.mpr ⟨rfl, List.forall_mem_cons.mpr ⟨rfl, List.forall_mem_cons.mpr ⟨rfl, fun _ h => absurd h List.not_mem_nil⟩⟩⟩⟩) (L2 (k + 1 + 1) 0 (by omega) (by omega) (fun i hi => absurd hi (Nat.not_lt_zero i)))
      exact r_lv [(2, .int (nI (0 + 1))), (0, .ref (B + 0)), (1, .int (nI wh))] (List.forall_mem_cons.mpr ⟨rfl, List.forall_mem_cons.mpr ⟨rfl, List.forall_mem_cons.mpr ⟨rfl, fun _ h => absurd h List.not_mem_nil⟩⟩⟩) (L (100 + 1) 0 D8 E13 (by omega) (by omega) (⟨hP, hX0, hE0, rfl⟩))
    · skip
      rw [bI_0] at c16
      refine r_ldc wc_X5_77 dX5_round_19 ?_
      refine r_iret2 dX5_round_21 rfl ⟨Nat.zero_le _, Nat.zero_le _⟩ ?_
      refine ⟨?_, SX.rf, EX.rf⟩
      unfold g_round
      rw [if_pos c4, if_neg c16]
  · skip
    rw [bI_0] at c4
    refine r_ldc wc_X5_152 dX5_round_7 ?_
    refine r_iret2 dX5_round_9 rfl ⟨Nat.zero_le _, Nat.zero_le _⟩ ?_
    refine ⟨?_, SX.rf, EX.rf⟩
    rw [if_neg c4]
