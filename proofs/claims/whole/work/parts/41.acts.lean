set_option maxRecDepth 100000 in
set_option maxHeartbeats 4000000 in
theorem c_X6_keep (B : Nat) (D : DD) (E : EE) (kp : Nat) (A : Nat → Row) (r : Row) (hK : KM D kp A) (hM : MA D 223 r) : MR yX6_keep cX6_keep 2 none rX6_keep B [.ref (B + 219)] Z0 D E (Q2 Z0 (pV (fun D' E' => KM D' (min 24 (kp + 1)) (s_push kp A r) ∧ KX D D' ∧ E' = E))) := by
  obtain ⟨hk1, hk2, hk3⟩ := id hK
  refine r_enter [(0, .ref (B + 219))] hv_X6_keep.1.2.2.2.2 (Nat.le_of_ble_eq_true rfl) rfl ?_
  refine r_aload_n dX6_keep_0 rfl ?_
  refine r_getI (ci := 6) (k := 9) wf_X6_153 dX6_keep_1 z_219 k_219 (by decide) (by decide) rfl (fun z1 hz1 => ?_)
  obtain rfl : z1 = nI kp := hz1.trans hk1
  refine r_bipush (nI 24) dX6_keep_4 (by decide) ?_
  refine r_icmp_ne (tgt := 49) dX6_keep_6 (by decide) (fun c6 => ?_) (fun c6 => ?_)
  · skip
    rw [nI_eq (by omega) (by omega)] at c6
    obtain ⟨a, ha, ha2, hA, hM1, hB, hKX, hpr⟩ : ∃ a, a ≤ 23 ∧ a + 1 = min 24 (kp + 1) ∧ D 219 9 = nI a ∧ MA D 223 r ∧ (∀ i, i < a → ∀ j, j < 64 → D 226 (64 * i + j) = nI (s_push kp A r i j)) ∧ KX D D ∧ s_push kp A r a = r := ⟨kp, by omega, by omega, hk1, hM, fun i hi j hj => by
      unfold s_push
      rw [if_neg c6, if_neg (by omega)]
      exact hk3 i hi j hj, KX.rf, by unfold s_push; rw [if_neg c6, if_pos rfl]⟩
    refine r_iconst (nI 0) dX6_keep_49 (by decide) ?_
    refine r_istore_n [(1, .int (nI 0)), (0, .ref (B + 219))] dX6_keep_50 (by decide) rfl ?_
    have L2 : ∀ (fu j : Nat) (Dj : DD), j ≤ 64 → 64 - j < fu → (SV D Dj a j r) → RW yX6_keep cX6_keep 2 none rX6_keep B (Q2 Z0 (pV (fun D' E' => KM D' (min 24 (kp + 1)) (s_push kp A r) ∧ KX D D' ∧ E' = E))) Z0 Dj E 0 0 51 [(1, .int (nI j)), (0, .ref (B + 219))] [] := by
      intro fu
      induction fu with
      | zero => intro j Dj hku hfu _; omega
      | succ fu ihL2 =>
        intro j Dj hku hfu hI
        have hJ := hI
        refine r_iload_n dX6_keep_51 rfl ?_
        refine r_bipush (nI 64) dX6_keep_52 (by decide) ?_
        refine r_icmp_ge (tgt := 83) dX6_keep_54 (by decide) (fun c54 => ?_) (fun c54 => ?_)
        · skip
          rw [nI_leI (by omega) (by omega)] at c54
          refine r_aload_n dX6_keep_83 rfl ?_
          refine r_dup dX6_keep_84 rfl ?_
          refine r_getI (ci := 6) (k := 9) wf_X6_153 dX6_keep_85 z_219 k_219 (by decide) (by decide) rfl (fun z2 hz2 => ?_)
          obtain rfl : z2 = nI a := hz2.trans ((congrFun (hJ.1 219 (by decide)) 9).trans hA)
          refine r_iconst (nI 1) dX6_keep_88 (by decide) ?_
          refine r_iadd dX6_keep_89 (fun z3 hz3 => ?_)
          obtain rfl : z3 = nI (a + 1) := (hz3.trans (nI_add _ _))
          refine r_putI (ci := 6) (k := 9) wf_X6_153 dX6_keep_90 z_219 k_219 (by decide) (by decide) rfl rfl (fun D4 hD4 => ?_)
          obtain rfl : j = 64 := by omega
          have hEE := keepM_end hJ hB hKX ha2 hpr
          rw [← hD4] at hEE
          refine r_vret2 dX6_keep_93 rfl ⟨Nat.zero_le _, Nat.zero_le _⟩ ?_
          exact ⟨hEE.1, hEE.2, rfl⟩
        · skip
          rw [nI_leI (by omega) (by omega)] at c54
          refine r_aload_n dX6_keep_57 rfl ?_
          refine r_getR (ci := 6) (k := 8) wf_X6_28 dX6_keep_58 z_219 k_219 (by decide) (by decide) (fun _ _ => rfl) f_219_8 ?_
          refine r_bipush (nI 64) dX6_keep_61 (by decide) ?_
          refine r_aload_n dX6_keep_63 rfl ?_
          refine r_getI (ci := 6) (k := 9) wf_X6_153 dX6_keep_64 z_219 k_219 (by decide) (by decide) rfl (fun z5 hz5 => ?_)
          obtain rfl : z5 = nI a := hz5.trans ((congrFun (hJ.1 219 (by decide)) 9).trans hA)
          refine r_imul dX6_keep_67 (fun z6 hz6 => ?_)
          obtain rfl : z6 = nI (64 * a) := (hz6.trans (pk_mul _ _))
          refine r_iload_n dX6_keep_68 rfl ?_
          refine r_iadd dX6_keep_69 (fun z7 hz7 => ?_)
          obtain rfl : z7 = nI ((64 * a) + j) := (hz7.trans (nI_add _ _))
          refine r_aload_n dX6_keep_70 rfl ?_
          refine r_getR (ci := 6) (k := 5) wf_X6_19 dX6_keep_71 z_219 k_219 (by decide) (by decide) (fun _ _ => rfl) f_219_5 ?_
          refine r_iload_n dX6_keep_74 rfl ?_
          refine r_iald dX6_keep_75 z_223 k_223 (vp_in_nI (by omega) (by decide)) (fun z8 hz8 => ?_)
          rw [nI_clamp (by omega)] at hz8
          obtain rfl : z8 = nI (r j) := hz8.trans ((congrFun (hJ.1 223 (by decide)) j).trans (hM1 j (by omega)))
          refine r_iast dX6_keep_76 z_226 k_226 (vp_in_nI (by omega) (by decide)) (fun D9 hD9 => ?_)
          rw [nI_clamp (by omega)] at hD9
          have hS8 := SV_s hJ
          rw [← hD9] at hS8
          refine r_iinc (nI (j + 1)) [(1, .int (nI (j + 1))), (0, .ref (B + 219))] dX6_keep_77 rfl (nI_1 _) (by decide) rfl ?_
          refine r_goto (tgt := 51) dX6_keep_80 (by decide) ?_
          exact r_lv [(1, .int (nI (j + 1))), (0, .ref (B + 219))] (List.forall_mem_cons.mpr ⟨rfl, List.forall_mem_cons.mpr ⟨rfl, fun _ h => absurd h List.not_mem_nil⟩⟩) (ihL2 (j + 1) D9 (by omega) (by omega) hS8)
    exact r_lv [(1, .int (nI 0)), (0, .ref (B + 219))] (List.forall_mem_cons.mpr ⟨rfl, List.forall_mem_cons.mpr ⟨rfl, fun _ h => absurd h List.not_mem_nil⟩⟩) (L2 (64 + 1) 0 D (by omega) (by omega) SV_0)
  · skip
    rw [nI_eq (by omega) (by omega)] at c6
    skip
    refine r_iconst (nI 0) dX6_keep_9 (by decide) ?_
    refine r_istore_n [(1, .int (nI 0)), (0, .ref (B + 219))] dX6_keep_10 (by decide) rfl ?_
    have L : ∀ (fu k : Nat) (Dk : DD), k ≤ 1472 → 1472 - k < fu → (SH D Dk k) → RW yX6_keep cX6_keep 2 none rX6_keep B (Q2 Z0 (pV (fun D' E' => KM D' (min 24 (kp + 1)) (s_push kp A r) ∧ KX D D' ∧ E' = E))) Z0 Dk E 0 0 11 [(1, .int (nI k)), (0, .ref (B + 219))] [] := by
      intro fu
      induction fu with
      | zero => intro k Dk hku hfu _; omega
      | succ fu ih =>
        intro k Dk hku hfu hI
        refine r_iload_n dX6_keep_11 rfl ?_
        refine r_sipush (nI 1472) dX6_keep_12 (by decide) ?_
        refine r_icmp_ge (tgt := 39) dX6_keep_15 (by decide) (fun c15 => ?_) (fun c15 => ?_)
        · skip
          rw [nI_leI (by omega) (by omega)] at c15
          refine r_aload_n dX6_keep_39 rfl ?_
          refine r_dup dX6_keep_40 rfl ?_
          refine r_getI (ci := 6) (k := 9) wf_X6_153 dX6_keep_41 z_219 k_219 (by decide) (by decide) rfl (fun z10 hz10 => ?_)
          obtain rfl : z10 = nI kp := hz10.trans ((congrFun (hI.1 219 (by decide)) 9).trans hk1)
          refine r_iconst (nI 1) dX6_keep_44 (by decide) ?_
          refine r_isub dX6_keep_45 (fun z11 hz11 => ?_)
          obtain rfl : z11 = nI 23 := hz11.trans (by rw [c6]; decide)
          refine r_putI (ci := 6) (k := 9) wf_X6_153 dX6_keep_46 z_219 k_219 (by decide) (by decide) rfl rfl (fun D12 hD12 => ?_)
          obtain rfl : k = 1472 := by omega
          have hSS := keepM_sh (r := r) c6 hK hI
          rw [← hD12] at hSS
          obtain ⟨a, ha, ha2, hA, hM1, hB, hKX, hpr⟩ : ∃ a, a ≤ 23 ∧ a + 1 = min 24 (kp + 1) ∧ D12 219 9 = nI a ∧ MA D12 223 r ∧ (∀ i, i < a → ∀ j, j < 64 → D12 226 (64 * i + j) = nI (s_push kp A r i j)) ∧ KX D D12 ∧ s_push kp A r a = r := ⟨23, by decide, by omega, by rw [hD12]; exact up2_s, fun j hj => (congrFun (hSS.2.1 223 (by decide) (by decide)) j).trans (hM j hj), hSS.1, hSS.2, by rw [c6]; rfl⟩
          refine r_iconst (nI 0) dX6_keep_49 (by decide) ?_
          refine r_istore_n [(1, .int (nI 0)), (0, .ref (B + 219))] dX6_keep_50 (by decide) rfl ?_
          have L2 : ∀ (fu j : Nat) (Dj : DD), j ≤ 64 → 64 - j < fu → (SV D12 Dj a j r) → RW yX6_keep cX6_keep 2 none rX6_keep B (Q2 Z0 (pV (fun D' E' => KM D' (min 24 (kp + 1)) (s_push kp A r) ∧ KX D D' ∧ E' = E))) Z0 Dj E 0 0 51 [(1, .int (nI j)), (0, .ref (B + 219))] [] := by
            intro fu
            induction fu with
            | zero => intro j Dj hku hfu _; omega
            | succ fu ihL2 =>
              intro j Dj hku hfu hI
              have hJ := hI
              refine r_iload_n dX6_keep_51 rfl ?_
              refine r_bipush (nI 64) dX6_keep_52 (by decide) ?_
              refine r_icmp_ge (tgt := 83) dX6_keep_54 (by decide) (fun c54 => ?_) (fun c54 => ?_)
              · skip
                rw [nI_leI (by omega) (by omega)] at c54
                refine r_aload_n dX6_keep_83 rfl ?_
                refine r_dup dX6_keep_84 rfl ?_
                refine r_getI (ci := 6) (k := 9) wf_X6_153 dX6_keep_85 z_219 k_219 (by decide) (by decide) rfl (fun z13 hz13 => ?_)
                obtain rfl : z13 = nI a := hz13.trans ((congrFun (hJ.1 219 (by decide)) 9).trans hA)
                refine r_iconst (nI 1) dX6_keep_88 (by decide) ?_
                refine r_iadd dX6_keep_89 (fun z14 hz14 => ?_)
                obtain rfl : z14 = nI (a + 1) := (hz14.trans (nI_add _ _))
                refine r_putI (ci := 6) (k := 9) wf_X6_153 dX6_keep_90 z_219 k_219 (by decide) (by decide) rfl rfl (fun D15 hD15 => ?_)
                obtain rfl : j = 64 := by omega
                have hEE := keepM_end hJ hB hKX ha2 hpr
                rw [← hD15] at hEE
                refine r_vret2 dX6_keep_93 rfl ⟨Nat.zero_le _, Nat.zero_le _⟩ ?_
                exact ⟨hEE.1, hEE.2, rfl⟩
              · skip
                rw [nI_leI (by omega) (by omega)] at c54
                refine r_aload_n dX6_keep_57 rfl ?_
                refine r_getR (ci := 6) (k := 8) wf_X6_28 dX6_keep_58 z_219 k_219 (by decide) (by decide) (fun _ _ => rfl) f_219_8 ?_
                refine r_bipush (nI 64) dX6_keep_61 (by decide) ?_
                refine r_aload_n dX6_keep_63 rfl ?_
                refine r_getI (ci := 6) (k := 9) wf_X6_153 dX6_keep_64 z_219 k_219 (by decide) (by decide) rfl (fun z16 hz16 => ?_)
                obtain rfl : z16 = nI a := hz16.trans ((congrFun (hJ.1 219 (by decide)) 9).trans hA)
                refine r_imul dX6_keep_67 (fun z17 hz17 => ?_)
                obtain rfl : z17 = nI (64 * a) := (hz17.trans (pk_mul _ _))
                refine r_iload_n dX6_keep_68 rfl ?_
                refine r_iadd dX6_keep_69 (fun z18 hz18 => ?_)
                obtain rfl : z18 = nI ((64 * a) + j) := (hz18.trans (nI_add _ _))
                refine r_aload_n dX6_keep_70 rfl ?_
                refine r_getR (ci := 6) (k := 5) wf_X6_19 dX6_keep_71 z_219 k_219 (by decide) (by decide) (fun _ _ => rfl) f_219_5 ?_
                refine r_iload_n dX6_keep_74 rfl ?_
                refine r_iald dX6_keep_75 z_223 k_223 (vp_in_nI (by omega) (by decide)) (fun z19 hz19 => ?_)
                rw [nI_clamp (by omega)] at hz19
                obtain rfl : z19 = nI (r j) := hz19.trans ((congrFun (hJ.1 223 (by decide)) j).trans (hM1 j (by omega)))
                refine r_iast dX6_keep_76 z_226 k_226 (vp_in_nI (by omega) (by decide)) (fun D20 hD20 => ?_)
                rw [nI_clamp (by omega)] at hD20
                have hS8 := SV_s hJ
                rw [← hD20] at hS8
                refine r_iinc (nI (j + 1)) [(1, .int (nI (j + 1))), (0, .ref (B + 219))] dX6_keep_77 rfl (nI_1 _) (by decide) rfl ?_
                refine r_goto (tgt := 51) dX6_keep_80 (by decide) ?_
                exact r_lv [(1, .int (nI (j + 1))), (0, .ref (B + 219))] (List.forall_mem_cons.mpr ⟨rfl, List.forall_mem_cons.mpr ⟨rfl, fun _ h => absurd h List.not_mem_nil⟩⟩) (ihL2 (j + 1) D20 (by omega) (by omega) hS8)
          exact r_lv [(1, .int (nI 0)), (0, .ref (B + 219))] (List.forall_mem_cons.mpr ⟨rfl, List.forall_mem_cons.mpr ⟨rfl, fun _ h => absurd h List.not_mem_nil⟩⟩) (L2 (64 + 1) 0 D12 (by omega) (by omega) SV_0)
        · skip
          rw [nI_leI (by omega) (by omega)] at c15
          refine r_aload_n dX6_keep_18 rfl ?_
          refine r_getR (ci := 6) (k := 8) wf_X6_28 dX6_keep_19 z_219 k_219 (by decide) (by decide) (fun _ _ => rfl) f_219_8 ?_
          refine r_iload_n dX6_keep_22 rfl ?_
          refine r_aload_n dX6_keep_23 rfl ?_
          refine r_getR (ci := 6) (k := 8) wf_X6_28 dX6_keep_24 z_219 k_219 (by decide) (by decide) (fun _ _ => rfl) f_219_8 ?_
          refine r_iload_n dX6_keep_27 rfl ?_
          refine r_bipush (nI 64) dX6_keep_28 (by decide) ?_
          refine r_iadd dX6_keep_30 (fun z21 hz21 => ?_)
          obtain rfl : z21 = nI (k + 64) := (hz21.trans (nI_add _ _))
          refine r_iald dX6_keep_31 z_226 k_226 (vp_in_nI (by omega) (by decide)) (fun z22 hz22 => ?_)
          rw [nI_clamp (by omega)] at hz22
          obtain rfl : z22 = Dk 226 (k + 64) := hz22
          refine r_iast dX6_keep_32 z_226 k_226 (vp_in_nI (by omega) (by decide)) (fun D23 hD23 => ?_)
          rw [nI_clamp (by omega)] at hD23
          have hS9 : SH D D23 (k + 1) := by rw [hD23]; exact SH_s hI rfl
          refine r_iinc (nI (k + 1)) [(1, .int (nI (k + 1))), (0, .ref (B + 219))] dX6_keep_33 rfl (nI_1 _) (by decide) rfl ?_
          refine r_goto (tgt := 11) dX6_keep_36 (by decide) ?_
          exact r_lv [(1, .int (nI (k + 1))), (0, .ref (B + 219))] (List.forall_mem_cons.mpr ⟨rfl, List.forall_mem_cons.mpr ⟨rfl, fun _ h => absurd h List.not_mem_nil⟩⟩) (ih (k + 1) D23 (by omega) (by omega) hS9)
    exact r_lv [(1, .int (nI 0)), (0, .ref (B + 219))] (List.forall_mem_cons.mpr ⟨rfl, List.forall_mem_cons.mpr ⟨rfl, fun _ h => absurd h List.not_mem_nil⟩⟩) (L (1472 + 1) 0 D (by omega) (by omega) SH_0)
