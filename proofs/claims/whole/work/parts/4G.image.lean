set_option maxRecDepth 100000 in
set_option maxHeartbeats 4000000 in
theorem c_X6_image (B : Nat) (D : DD) (E : EE) (wy : Nat → Nat) (r : Row) (hX0 : XM D wy r) (im : IMS) (hI0 : KI D im) (x : Int32) : MR yX6_image cX6_image 3 (some .int) rX6_image B [.ref (B + 219), .int x] Z0 D E (Q2 Z0 (pI (fun v D' E' => v = (g_image r wy im x).1 ∧ KI D' (g_image r wy im x).2 ∧ ((∀ q, q ≠ 219 → q ≠ 231 → q ≠ 232 → D' q = D q) ∧ ∀ f, f ≠ 0 → D' 219 f = D 219 f) ∧ E' = E))) := by
  have hX := hX0.th
  obtain ⟨hO, hM, hwy, hYY⟩ := id hX
  obtain ⟨l0, l5, l4, l6, l7, l8, l1⟩ := hO.le
  have hwy0 := hX0.2.2.1
  have hM0 := hX0.2.1
  have hK0 : KI (thD D) im := fun k hk => KI1_eq (hI0 k hk) (congrFun (MX.th.1 231 (by decide) (by decide) (by decide)) k) (fun j _ => congrFun (MX.th.1 232 (by decide) (by decide) (by decide)) _)
  refine r_enter [(0, .ref (B + 219)), (1, .int x)] hv_X6_image.1.2.2.2.2 (Nat.le_of_ble_eq_true rfl) rfl ?_
  refine r_aload_n dX6_image_0 rfl ?_
  refine r_iconst (nI 0) dX6_image_1 (by decide) ?_
  refine r_putI (ci := 6) (k := 0) wf_X6_54 dX6_image_2 z_219 k_219 (by decide) (by decide) rfl rfl (fun D1 hD1 => ?_)
  obtain rfl : D1 = thD D := hD1.trans up2_eq
  refine r_iload_n dX6_image_5 rfl ?_
  refine r_i2l dX6_image_6 (fun z2 hz2 => ?_)
  subst hz2
  refine r_lconst ((nI 0).toInt64) dX6_image_7 (by decide) ?_
  refine r_lconst ((nI 1).toInt64) dX6_image_8 (by decide) ?_
  refine r_callSI (As := [.long x.toInt64, .long ((nI 0).toInt64), .long ((nI 1).toInt64)]) (c_X6_in B (thD D) E x (nI 0) (nI 1)) hs_X6_in wm_X6_64 rfl dX6_image_9 rfl rfl (Nat.le_of_ble_eq_true rfl) ⟨Nat.le_of_ble_eq_true rfl, Nat.le_of_ble_eq_true rfl, Nat.zero_le _, Nat.zero_le _⟩ ⟨rfl, rfl⟩ (fun z3 D4 E5 hz3 => ?_)
  obtain ⟨hqV, hqD, hqE⟩ := hz3
  obtain rfl : z3 = bI (nI 0 ≤ x ∧ x ≤ nI 1) := hqV
  obtain rfl := hqD.symm
  obtain rfl := hqE.symm
  refine r_if_ne (tgt := 18) dX6_image_12 (by decide) (fun c12 => ?_) (fun c12 => ?_)
  · skip
    rw [bI_n0] at c12
    obtain ⟨a, ha1, ha2, rfl⟩ := rg (by decide) (by decide) c12
    refine r_aload_n dX6_image_18 rfl ?_
    refine r_callVI (As := []) (o := 219) (c_X6_isThere B (thD D) E (r 0) (hM 0 (by decide)) l0) hv_X6_isThere wm_X6_193 dX6_image_19 rfl rfl z_219 k_219 (by decide) rfl (Nat.le_of_ble_eq_true rfl) ⟨Nat.le_of_ble_eq_true rfl, Nat.le_of_ble_eq_true rfl, Nat.zero_le _, Nat.zero_le _⟩ ⟨rfl, rfl⟩ (fun z6 D7 E8 hz6 => ?_)
    obtain ⟨hqV, hqD, hqE⟩ := hz6
    obtain rfl : z6 = bI (0 < r 0) := hqV
    obtain rfl := hqD.symm
    obtain rfl := hqE.symm
    refine r_if_ne (tgt := 28) dX6_image_22 (by decide) (fun c22 => ?_) (fun c22 => ?_)
    · skip
      rw [bI_n0] at c22
      refine r_iconst (nI 0) dX6_image_28 (by decide) ?_
      refine r_istore_n [(2, .int (nI 0)), (0, .ref (B + 219)), (1, .int (nI a))] dX6_image_29 (by decide) rfl ?_
      have L : ∀ (fu k : Nat) (Dk : DD), k ≤ 64 → 64 - k < fu → (CI (thD D) Dk a k r) → RW yX6_image cX6_image 3 (some .int) rX6_image B (Q2 Z0 (pI (fun v D' E' => v = (g_image r wy im (nI a)).1 ∧ KI D' (g_image r wy im (nI a)).2 ∧ ((∀ q, q ≠ 219 → q ≠ 231 → q ≠ 232 → D' q = D q) ∧ ∀ f, f ≠ 0 → D' 219 f = D 219 f) ∧ E' = E))) Z0 Dk E 0 0 30 [(2, .int (nI k)), (0, .ref (B + 219)), (1, .int (nI a))] [] := by
        intro fu
        induction fu with
        | zero => intro k Dk hku hfu _; omega
        | succ fu ih =>
          intro k Dk hku hfu hI
          refine r_iload_n dX6_image_30 rfl ?_
          refine r_bipush (nI 64) dX6_image_31 (by decide) ?_
          refine r_icmp_ge (tgt := 59) dX6_image_33 (by decide) (fun c33 => ?_) (fun c33 => ?_)
          · skip
            rw [nI_leI (by omega) (by omega)] at c33
            refine r_aload_n dX6_image_59 rfl ?_
            refine r_getR (ci := 6) (k := 22) wf_X6_44 dX6_image_60 z_219 k_219 (by decide) (by decide) (fun _ _ => rfl) f_219_22 ?_
            refine r_iload_n dX6_image_63 rfl ?_
            refine r_iconst (nI 1) dX6_image_64 (by decide) ?_
            refine r_zast dX6_image_65 z_231 k_231 (vp_in_nI (by omega) (by decide)) (fun D9 hD9 => ?_)
            rw [nI_clamp (by omega)] at hD9
            obtain rfl : k = 64 := by omega
            have hEE := img_end (wy := wy) hK0 hI hD9
            refine r_iconst (nI 1) dX6_image_66 (by decide) ?_
            refine r_iret2 dX6_image_67 rfl ⟨Nat.zero_le _, Nat.zero_le _⟩ ?_
            unfold g_image
            rw [if_pos c12, if_pos c22, nI_clamp (by omega)]
            exact ⟨rfl, hEE.1, ⟨fun q q1 q2 q3 => (hEE.2 q q2 q3).trans (upo_n q1), fun f a => (congrFun (hEE.2 219 (by decide) (by decide)) f).trans (MX.th.2 f a)⟩, rfl⟩
          · skip
            rw [nI_leI (by omega) (by omega)] at c33
            refine r_aload_n dX6_image_36 rfl ?_
            refine r_getR (ci := 6) (k := 23) wf_X6_48 dX6_image_37 z_219 k_219 (by decide) (by decide) (fun _ _ => rfl) f_219_23 ?_
            refine r_bipush (nI 64) dX6_image_40 (by decide) ?_
            refine r_iload_n dX6_image_42 rfl ?_
            refine r_imul dX6_image_43 (fun z10 hz10 => ?_)
            obtain rfl : z10 = nI (64 * a) := (hz10.trans (pk_mul _ _))
            refine r_iload_n dX6_image_44 rfl ?_
            refine r_iadd dX6_image_45 (fun z11 hz11 => ?_)
            obtain rfl : z11 = nI ((64 * a) + k) := (hz11.trans (nI_add _ _))
            refine r_aload_n dX6_image_46 rfl ?_
            refine r_getR (ci := 6) (k := 5) wf_X6_19 dX6_image_47 z_219 k_219 (by decide) (by decide) (fun _ _ => rfl) f_219_5 ?_
            refine r_iload_n dX6_image_50 rfl ?_
            refine r_iald dX6_image_51 z_223 k_223 (vp_in_nI (by omega) (by decide)) (fun z12 hz12 => ?_)
            rw [nI_clamp (by omega)] at hz12
            obtain rfl : z12 = nI (r k) := hz12.trans ((congrFun (hI.1 223 (by decide)) _).trans (hM k (by omega)))
            refine r_iast dX6_image_52 z_232 k_232 (vp_in_nI (by omega) (by decide)) (fun D13 hD13 => ?_)
            rw [nI_clamp (by omega)] at hD13
            have hS9 := CI_s (by omega) hI hD13
            refine r_iinc (nI (k + 1)) [(2, .int (nI (k + 1))), (0, .ref (B + 219)), (1, .int (nI a))] dX6_image_53 rfl (nI_1 _) (by decide) rfl ?_
            refine r_goto (tgt := 30) dX6_image_56 (by decide) ?_
            exact r_lv [(2, .int (nI (k + 1))), (0, .ref (B + 219)), (1, .int (nI a))] (List.forall_mem_cons.mpr ⟨rfl, List.forall_mem_cons.mpr ⟨rfl, List.forall_mem_cons.mpr ⟨rfl, fun _ h => absurd h List.not_mem_nil⟩⟩⟩) (ih (k + 1) D13 (by omega) (by omega) hS9)
      exact r_lv [(2, .int (nI 0)), (0, .ref (B + 219)), (1, .int (nI a))] (List.forall_mem_cons.mpr ⟨rfl, List.forall_mem_cons.mpr ⟨rfl, List.forall_mem_cons.mpr ⟨rfl, fun _ h => absurd h List.not_mem_nil⟩⟩⟩) (L (64 + 1) 0 (thD D) (by omega) (by omega) CI_0)
    · skip
      rw [bI_0] at c22
      refine r_ldc wc_X6_196 dX6_image_25 ?_
      refine r_iret2 dX6_image_27 rfl ⟨Nat.zero_le _, Nat.zero_le _⟩ ?_
      unfold g_image
      rw [if_pos c12, if_neg c22]
      exact ⟨rfl, hK0, ⟨fun q a _ _ => upo_n a, fun f a => MX.th.2 f a⟩, rfl⟩
  · skip
    rw [bI_0] at c12
    refine r_ldc wc_X6_74 dX6_image_15 ?_
    refine r_iret2 dX6_image_17 rfl ⟨Nat.zero_le _, Nat.zero_le _⟩ ?_
    unfold g_image
    rw [if_neg c12]
    exact ⟨rfl, hK0, ⟨fun q a _ _ => upo_n a, fun f a => MX.th.2 f a⟩, rfl⟩
