set_option maxRecDepth 100000 in
set_option maxHeartbeats 4000000 in
theorem c_X5_hours (B : Nat) (D : DD) (E : EE) (wy : Nat → Nat) (r : Row) (kp : Nat) (A : Nat → Row) (hX : XLK D wy r kp A) (x : Int32) : MR yX5_hours cX5_hours 3 (some .int) rX5_hours B [.ref (B + 0), .int x] Z0 D E (Q2 Z0 (pI (AP wy D E (a_hours wy r kp A x)))) := by
  obtain ⟨hO2, hCn, hLl, hYY, nx, hK⟩ := id hX
  have hO := hO2.lok
  obtain ⟨l0, l5, l4, l6, l7, l8, l1⟩ := hO.le
  obtain ⟨hk1, hk2, hk3, hk4, hk5⟩ := id hK
  refine r_enter [(0, .ref (B + 0)), (1, .int x)] hv_X5_hours.1.2.2.2.2 (Nat.le_of_ble_eq_true rfl) rfl ?_
  refine r_aload_n dX5_hours_0 rfl ?_
  refine r_callVI (As := []) (o := 0) (c_X5_hasLand B D E (r 0) hLl.1.1 l0) hv_X5_hasLand wm_X5_156 dX5_hours_1 rfl rfl z_0 k_0 (by decide) rfl (Nat.le_of_ble_eq_true rfl) ⟨Nat.le_of_ble_eq_true rfl, Nat.le_of_ble_eq_true rfl, Nat.zero_le _, Nat.zero_le _⟩ ⟨rfl, rfl⟩ (fun z1 D2 E3 hz1 => ?_)
  obtain ⟨hqV, hqD, hqE⟩ := hz1
  obtain rfl : z1 = bI (0 < r 0) := hqV
  obtain rfl := hqD.symm
  obtain rfl := hqE.symm
  refine r_if_ne (tgt := 10) dX5_hours_4 (by decide) (fun c4 => ?_) (fun c4 => ?_)
  · skip
    rw [bI_n0] at c4
    have hLK := hO2.p c4
    obtain ⟨hW, hT, hS⟩ := id hLK
    have hH := hS.hb
    have hY := hYY hW
    obtain ⟨b1, b2, b3, b4, b5, b6, b7, b8⟩ := hW.1
    refine r_iload_n dX5_hours_10 rfl ?_
    refine r_iconst (nI 1) dX5_hours_11 (by decide) ?_
    refine r_bipush (nI 24) dX5_hours_12 (by decide) ?_
    refine r_callSI (As := [.int x, .int (nI 1), .int (nI 24)]) (c_X5_within B D E x (nI 1) (nI 24)) hs_X5_within wm_X5_73 rfl dX5_hours_14 rfl rfl (Nat.le_of_ble_eq_true rfl) ⟨Nat.le_of_ble_eq_true rfl, Nat.le_of_ble_eq_true rfl, Nat.zero_le _, Nat.zero_le _⟩ ⟨rfl, rfl⟩ (fun z4 D5 E6 hz4 => ?_)
    obtain ⟨hqV, hqD, hqE⟩ := hz4
    obtain rfl : z4 = bI (nI 1 ≤ x ∧ x ≤ nI 24) := hqV
    obtain rfl := hqD.symm
    obtain rfl := hqE.symm
    refine r_if_ne (tgt := 23) dX5_hours_17 (by decide) (fun c17 => ?_) (fun c17 => ?_)
    · skip
      rw [bI_n0] at c17
      obtain ⟨n, hn1, hn2, rfl⟩ := rg (by decide) (by decide) c17
      refine r_aload_n dX5_hours_23 rfl ?_
      refine r_getR (ci := 5) (k := 3) wf_X5_33 dX5_hours_24 z_0 k_0 (by decide) (by decide) (fun _ _ => rfl) f_0_3 ?_
      refine r_getI (ci := 0) (k := 0) wf_X5_160 dX5_hours_27 z_21 k_21 (by decide) (by decide) rfl (fun z7 hz7 => ?_)
      obtain rfl : z7 = nI (r 6) := hz7.trans hCn.1.1
      refine r_iload_n dX5_hours_30 rfl ?_
      refine r_iadd dX5_hours_31 (fun z8 hz8 => ?_)
      obtain rfl : z8 = nI ((r 6) + n) := (hz8.trans (nI_add _ _))
      refine r_sipush (nI 999) dX5_hours_32 (by decide) ?_
      refine r_icmp_le (tgt := 41) dX5_hours_35 (by decide) (fun c35 => ?_) (fun c35 => ?_)
      · skip
        rw [nI_leI (by omega) (by omega)] at c35
        refine r_iconst (nI 0) dX5_hours_41 (by decide) ?_
        refine r_istore_n [(2, .int (nI 0)), (0, .ref (B + 0)), (1, .int (nI n))] dX5_hours_42 (by decide) rfl ?_
        have L : ∀ (fu k : Nat) (Dk : DD), k ≤ n → n - k < fu → (CA Dk 21 (s_hours wy k r) ∧ LA Dk 15 wy r ∧ (∃ nx, KA Dk wy nx (s_ak wy r kp A k).1 (s_ak wy r kp A k).2) ∧ HX D Dk) → RW yX5_hours cX5_hours 3 (some .int) rX5_hours B (Q2 Z0 (pI (AP wy D E (a_hours wy r kp A (nI n))))) Z0 Dk E 0 0 43 [(2, .int (nI k)), (0, .ref (B + 0)), (1, .int (nI n))] [] := by
          intro fu
          induction fu with
          | zero => intro k Dk hku hfu _; omega
          | succ fu ih =>
            intro k Dk hku hfu hI
            refine r_iload_n dX5_hours_43 rfl ?_
            refine r_iload_n dX5_hours_44 rfl ?_
            refine r_icmp_ge (tgt := 76) dX5_hours_45 (by decide) (fun c45 => ?_) (fun c45 => ?_)
            · skip
              rw [nI_leI (by omega) (by omega)] at c45
              refine r_aload_n dX5_hours_76 rfl ?_
              refine r_getR (ci := 5) (k := 3) wf_X5_33 dX5_hours_77 z_0 k_0 (by decide) (by decide) (fun _ _ => rfl) f_0_3 ?_
              refine r_getI (ci := 0) (k := 1) wf_X5_169 dX5_hours_80 z_21 k_21 (by decide) (by decide) rfl (fun z9 hz9 => ?_)
              obtain rfl : z9 = nI (s_hours wy k r 1) := hz9.trans hI.1.1.2.1
              refine r_iret2 dX5_hours_83 rfl ⟨Nat.zero_le _, Nat.zero_le _⟩ ?_
              obtain rfl : k = n := by omega
              obtain ⟨iC, iL, ⟨nx2, iK⟩, iH⟩ := id hI
              obtain ⟨t1, t2, t3, t4⟩ := s_hours_k hW hT hH hY k
              obtain ⟨t5, t6⟩ := HS_hours (wy := wy) hS k (by omega)
              unfold a_hours
              rw [if_pos c4, if_pos c17, nI_clamp (by omega), if_pos c35]
              exact ⟨rfl, ⟨Or.inr ⟨t1, t2, t5⟩, iC, LA_hours iL k, fun _ => t4, nx2, iK⟩, iH, rfl⟩
            · skip
              rw [nI_leI (by omega) (by omega)] at c45
              obtain ⟨iC, iL, ⟨nx2, iK⟩, iH⟩ := id hI
              obtain ⟨ik1, ik2, ik3, ik4, -⟩ := id iK
              obtain ⟨t1, t2, t3, t4⟩ := s_hours_k hW hT hH hY k
              obtain ⟨t5, t6⟩ := HS_hours (wy := wy) hS k (by omega)
              have hLKk : LK (s_hours wy k r) := ⟨t1, t2, t5⟩
              refine r_aload_n dX5_hours_48 rfl ?_
              refine r_getR (ci := 5) (k := 4) wf_X5_40 dX5_hours_49 z_0 k_0 (by decide) (by decide) (fun _ _ => rfl) f_0_4 ?_
              refine r_aload_n dX5_hours_52 rfl ?_
              refine r_getR (ci := 5) (k := 3) wf_X5_33 dX5_hours_53 z_0 k_0 (by decide) (by decide) (fun _ _ => rfl) f_0_3 ?_
              refine r_callVV (As := [.ref (B + 21)]) (o := 27) (c_X2_keep B Dk E nx2 (s_ak wy r kp A k).1 ik1 ik2 ik3 ik4) hv_X2_keep wm_X5_163 dX5_hours_56 rfl rfl z_27 k_27 (by decide) rfl (Nat.le_of_ble_eq_true rfl) ⟨Nat.le_of_ble_eq_true rfl, Nat.le_of_ble_eq_true rfl, Nat.zero_le _, Nat.zero_le _⟩ ⟨rfl, rfl⟩ (fun D11 E12 hz10 => ?_)
              obtain ⟨hqD, hqE⟩ := hz10
              obtain rfl := hqE.symm
              have hKD : D11 = keepD Dk nx2 (s_ak wy r kp A k).1 := hqD
              subst hKD
              have hKK := KA_keep iK hLKk t4 iC (LA_hours iL k)
              refine r_aload_n dX5_hours_59 rfl ?_
              refine r_getR (ci := 5) (k := 3) wf_X5_33 dX5_hours_60 z_0 k_0 (by decide) (by decide) (fun _ _ => rfl) f_0_3 ?_
              refine r_aload_n dX5_hours_63 rfl ?_
              refine r_getR (ci := 5) (k := 2) wf_X5_26 dX5_hours_64 z_0 k_0 (by decide) (by decide) (fun _ _ => rfl) f_0_2 ?_
              refine r_callVV (As := [.ref (B + 15)]) (o := 21) (c_X0_pass B (keepD Dk nx2 (s_ak wy r kp A k).1) E 21 15 isC_n isL_l (dj15 (Or.inl rfl)) (s_hours wy k r) wy t1 (999 + k) t3 (by omega) (keep_now ik3 iC) (LA_eq (LA_hours iL k) (fun j hj => keep_fr ik3 (by omega))) t4 t2) hv_X0_pass wm_X5_166 dX5_hours_67 rfl rfl z_21 k_21 (by decide) rfl (Nat.le_of_ble_eq_true rfl) ⟨Nat.le_of_ble_eq_true rfl, Nat.le_of_ble_eq_true rfl, Nat.zero_le _, Nat.zero_le _⟩ ⟨rfl, rfl⟩ (fun D14 E15 hz13 => ?_)
              obtain ⟨hF9, hC9, hqE⟩ := hz13
              obtain rfl := hqE.symm
              refine r_iinc (nI (k + 1)) [(2, .int (nI (k + 1))), (0, .ref (B + 0)), (1, .int (nI n))] dX5_hours_70 rfl (nI_1 _) (by decide) rfl ?_
              refine r_goto (tgt := 43) dX5_hours_73 (by decide) ?_
              exact r_lv [(2, .int (nI (k + 1))), (0, .ref (B + 0)), (1, .int (nI n))] (List.forall_mem_cons.mpr ⟨rfl, List.forall_mem_cons.mpr ⟨rfl, List.forall_mem_cons.mpr ⟨rfl, fun _ h => absurd h List.not_mem_nil⟩⟩⟩) (ih (k + 1) D14 (by omega) (by omega) (⟨hC9, LA_eq iL (fun j hj => (hF9 _ (by omega) (by omega) (by omega)).trans (keep_fr ik3 (by omega))), ⟨_, KA_eq hKK (fun q hq => hF9 q (by omega) (by omega) (by omega))⟩, fun q hq => (hF9 q (by omega) (by omega) (by omega)).trans ((keep_HX ik3 q hq).trans (iH q hq))⟩))
        exact r_lv [(2, .int (nI 0)), (0, .ref (B + 0)), (1, .int (nI n))] (List.forall_mem_cons.mpr ⟨rfl, List.forall_mem_cons.mpr ⟨rfl, List.forall_mem_cons.mpr ⟨rfl, fun _ h => absurd h List.not_mem_nil⟩⟩⟩) (L (n + 1) 0 D (by omega) (by omega) (⟨hCn, hLl, ⟨nx, hK⟩, HX.rf⟩))
      · skip
        rw [nI_leI (by omega) (by omega)] at c35
        refine r_ldc wc_X5_119 dX5_hours_38 ?_
        refine r_iret2 dX5_hours_40 rfl ⟨Nat.zero_le _, Nat.zero_le _⟩ ?_
        unfold a_hours
        rw [if_pos c4, if_pos c17, nI_clamp (by omega), if_neg c35]
        exact ⟨rfl, hX, HX.rf, rfl⟩
    · skip
      rw [bI_0] at c17
      refine r_ldc wc_X5_77 dX5_hours_20 ?_
      refine r_iret2 dX5_hours_22 rfl ⟨Nat.zero_le _, Nat.zero_le _⟩ ?_
      unfold a_hours
      rw [if_pos c4, if_neg c17]
      exact ⟨rfl, hX, HX.rf, rfl⟩
  · skip
    rw [bI_0] at c4
    refine r_ldc wc_X5_152 dX5_hours_7 ?_
    refine r_iret2 dX5_hours_9 rfl ⟨Nat.zero_le _, Nat.zero_le _⟩ ?_
    unfold a_hours
    rw [if_neg c4]
    exact ⟨rfl, hX, HX.rf, rfl⟩
set_option maxRecDepth 100000 in
set_option maxHeartbeats 4000000 in
theorem c_X5_image (B : Nat) (D : DD) (E : EE) (wy : Nat → Nat) (r : Row) (kp : Nat) (A : Nat → Row) (hX : XLK D wy r kp A) (im : IMS) (hI : XI D im) (x : Int32) : MR yX5_image cX5_image 2 (some .int) rX5_image B [.ref (B + 0), .int x] Z0 D E (Q2 Z0 (pI (fun v D' E' => v = (g_image r wy im x).1 ∧ XI D' (g_image r wy im x).2 ∧ ((∀ q, q ≠ 0 → q < 195 ∨ 218 < q → D' q = D q) ∧ ∀ f, f ≠ 10 → D' 0 f = D 0 f) ∧ E' = E))) := by
  obtain ⟨hO2, hCn, hLl, hYY, nx, hK⟩ := id hX
  have hO := hO2.lok
  obtain ⟨l0, l5, l4, l6, l7, l8, l1⟩ := hO.le
  obtain ⟨hk1, hk2, hk3, hk4, hk5⟩ := id hK
  refine r_enter [(0, .ref (B + 0)), (1, .int x)] hv_X5_image.1.2.2.2.2 (Nat.le_of_ble_eq_true rfl) rfl ?_
  refine r_iload_n dX5_image_0 rfl ?_
  refine r_iconst (nI 0) dX5_image_1 (by decide) ?_
  refine r_iconst (nI 1) dX5_image_2 (by decide) ?_
  refine r_callSI (As := [.int x, .int (nI 0), .int (nI 1)]) (c_X5_within B D E x (nI 0) (nI 1)) hs_X5_within wm_X5_73 rfl dX5_image_3 rfl rfl (Nat.le_of_ble_eq_true rfl) ⟨Nat.le_of_ble_eq_true rfl, Nat.le_of_ble_eq_true rfl, Nat.zero_le _, Nat.zero_le _⟩ ⟨rfl, rfl⟩ (fun z1 D2 E3 hz1 => ?_)
  obtain ⟨hqV, hqD, hqE⟩ := hz1
  obtain rfl : z1 = bI (nI 0 ≤ x ∧ x ≤ nI 1) := hqV
  obtain rfl := hqD.symm
  obtain rfl := hqE.symm
  refine r_if_ne (tgt := 12) dX5_image_6 (by decide) (fun c6 => ?_) (fun c6 => ?_)
  · skip
    rw [bI_n0] at c6
    obtain ⟨k, hk1, hk2, rfl⟩ := rg (by decide) (by decide) c6
    have hLk := imgL k (by omega)
    have hCk := imgC k (by omega)
    have him := s_im_lt (im := im)
    refine r_aload_n dX5_image_12 rfl ?_
    refine r_callVI (As := []) (o := 0) (c_X5_hasLand B D E (r 0) hLl.1.1 l0) hv_X5_hasLand wm_X5_156 dX5_image_13 rfl rfl z_0 k_0 (by decide) rfl (Nat.le_of_ble_eq_true rfl) ⟨Nat.le_of_ble_eq_true rfl, Nat.le_of_ble_eq_true rfl, Nat.zero_le _, Nat.zero_le _⟩ ⟨rfl, rfl⟩ (fun z4 D5 E6 hz4 => ?_)
    obtain ⟨hqV, hqD, hqE⟩ := hz4
    obtain rfl : z4 = bI (0 < r 0) := hqV
    obtain rfl := hqD.symm
    obtain rfl := hqE.symm
    refine r_if_ne (tgt := 22) dX5_image_16 (by decide) (fun c16 => ?_) (fun c16 => ?_)
    · skip
      rw [bI_n0] at c16
      have hLK := hO2.p c16
      obtain ⟨hW, hT, hS⟩ := id hLK
      have hY := hYY hW
      refine r_aload_n dX5_image_22 rfl ?_
      refine r_getR (ci := 5) (k := 8) wf_X5_53 dX5_image_23 z_0 k_0 (by decide) (by decide) (fun _ _ => rfl) f_0_8 ?_
      refine r_iload_n dX5_image_26 rfl ?_
      refine r_aald (v := 195 + 12 * k) dX5_image_27 z_191 k_191 (by decide) (vp_in_nI (by omega) (by decide)) (imgL_at k (by omega)) ?_
      refine r_aload_n dX5_image_28 rfl ?_
      refine r_getR (ci := 5) (k := 2) wf_X5_26 dX5_image_29 z_0 k_0 (by decide) (by decide) (fun _ _ => rfl) f_0_2 ?_
      refine r_callVV (As := [.ref (B + 15)]) (o := (195 + 12 * k)) (c_X1_take B D E (195 + 12 * k) 15 hLk isL_l dj_iL) hv_X1_take wm_X5_136 dX5_image_32 rfl rfl hLk.1.1 hLk.2.1.1 (by decide) rfl (Nat.le_of_ble_eq_true rfl) ⟨Nat.le_of_ble_eq_true rfl, Nat.le_of_ble_eq_true rfl, Nat.zero_le _, Nat.zero_le _⟩ ⟨rfl, rfl⟩ (fun D8 E9 hz7 => ?_)
      obtain ⟨hqD, hqE⟩ := hz7
      obtain rfl := hqE.symm
      subst hqD
      refine r_aload_n dX5_image_35 rfl ?_
      refine r_getR (ci := 5) (k := 9) wf_X5_57 dX5_image_36 z_0 k_0 (by decide) (by decide) (fun _ _ => rfl) f_0_9 ?_
      refine r_iload_n dX5_image_39 rfl ?_
      refine r_aald (v := 201 + 12 * k) dX5_image_40 z_192 k_192 (by decide) (vp_in_nI (by omega) (by decide)) (imgC_at k (by omega)) ?_
      refine r_aload_n dX5_image_41 rfl ?_
      refine r_getR (ci := 5) (k := 3) wf_X5_33 dX5_image_42 z_0 k_0 (by decide) (by decide) (fun _ _ => rfl) f_0_3 ?_
      refine r_callVV (As := [.ref (B + 21)]) (o := (201 + 12 * k)) (c_X0_take B (takeL D (195 + 12 * k) 15) E (201 + 12 * k) 21 hCk isC_n dj_iC) hv_X0_take wm_X5_140 dX5_image_45 rfl rfl hCk.1.1 hCk.2.1.1 (by decide) rfl (Nat.le_of_ble_eq_true rfl) ⟨Nat.le_of_ble_eq_true rfl, Nat.le_of_ble_eq_true rfl, Nat.zero_le _, Nat.zero_le _⟩ ⟨rfl, rfl⟩ (fun D11 E12 hz10 => ?_)
      obtain ⟨hqD, hqE⟩ := hz10
      obtain rfl := hqE.symm
      subst hqD
      refine r_aload_n dX5_image_48 rfl ?_
      refine r_dup dX5_image_49 rfl ?_
      refine r_getI (ci := 5) (k := 10) wf_X5_284 dX5_image_50 z_0 k_0 (by decide) (by decide) rfl (fun z13 hz13 => ?_)
      obtain rfl : z13 = nI (s_im im) := hz13.trans ((congrFun ((take_fr (fun j hj => by omega)).trans (takeL_fr (fun j hj => by omega))) 10).trans hI.1)
      refine r_iconst (nI 1) dX5_image_53 (by decide) ?_
      refine r_iload_n dX5_image_54 rfl ?_
      refine r_ishl dX5_image_55 (fun z14 hz14 => ?_)
      obtain rfl : z14 = nI (2 ^ k) := hz14.trans (shl_1 (by omega))
      refine r_ior dX5_image_56 (fun z15 hz15 => ?_)
      obtain rfl : z15 = nI (s_im (upo im k (some (r, wy)))) := hz15.trans ((nI_or _ _).trans (congrArg nI (s_im_up (by omega))))
      refine r_putI (ci := 5) (k := 10) wf_X5_284 dX5_image_57 z_0 k_0 (by decide) (by decide) rfl rfl (fun D16 hD16 => ?_)
      obtain rfl : D16 = imD D k (nI (s_im (upo im k (some (r, wy))))) := hD16.trans (up2_eq.trans (congrArg (fun g => upo (takeD (takeL D (195 + 12 * k) 15) (201 + 12 * k) 21) 0 (upd g 10 (nI (s_im (upo im k (some (r, wy))))))) ((take_fr (fun j hj => by omega)).trans (takeL_fr (fun j hj => by omega)))))
      refine r_iconst (nI 1) dX5_image_60 (by decide) ?_
      refine r_iret2 dX5_image_61 rfl ⟨Nat.zero_le _, Nat.zero_le _⟩ ?_
      unfold g_image
      rw [if_pos c6, if_pos c16, nI_clamp (by omega)]
      exact ⟨rfl, XI_img (by omega) hI hLK hY hCn hLl, ⟨fun q h0 hq => imD_fr h0 (by omega), fun f hf => (congrFun upo_s f).trans (pk_un hf)⟩, rfl⟩
    · skip
      rw [bI_0] at c16
      refine r_ldc wc_X5_152 dX5_image_19 ?_
      refine r_iret2 dX5_image_21 rfl ⟨Nat.zero_le _, Nat.zero_le _⟩ ?_
      unfold g_image
      rw [if_pos c6, if_neg c16]
      exact ⟨rfl, hI, ⟨fun _ _ _ => rfl, fun _ _ => rfl⟩, rfl⟩
  · skip
    rw [bI_0] at c6
    refine r_ldc wc_X5_77 dX5_image_9 ?_
    refine r_iret2 dX5_image_11 rfl ⟨Nat.zero_le _, Nat.zero_le _⟩ ?_
    unfold g_image
    rw [if_neg c6]
    exact ⟨rfl, hI, ⟨fun _ _ _ => rfl, fun _ _ => rfl⟩, rfl⟩
set_option maxRecDepth 100000 in
set_option maxHeartbeats 4000000 in
theorem c_X5_restore (B : Nat) (D : DD) (E : EE) (wy : Nat → Nat) (r : Row) (kp : Nat) (A : Nat → Row) (hX : XLK D wy r kp A) (im : IMS) (hI : XI D im) (x : Int32) : MR yX5_restore cX5_restore 2 (some .int) rX5_restore B [.ref (B + 0), .int x] Z0 D E (Q2 Z0 (pI (fun v D' E' => v = (a_restore r kp A wy im x).1 ∧ XLK D' (a_restore r kp A wy im x).2.2 (a_restore r kp A wy im x).2.1.1 (a_restore r kp A wy im x).2.1.2.1 (a_restore r kp A wy im x).2.1.2.2 ∧ (∀ q, q < 15 ∨ 172 < q → D' q = D q) ∧ E' = E))) := by
  obtain ⟨hO2, hCn, hLl, hYY, nx, hK⟩ := id hX
  have hO := hO2.lok
  obtain ⟨l0, l5, l4, l6, l7, l8, l1⟩ := hO.le
  obtain ⟨hk1, hk2, hk3, hk4, hk5⟩ := id hK
  refine r_enter [(0, .ref (B + 0)), (1, .int x)] hv_X5_restore.1.2.2.2.2 (Nat.le_of_ble_eq_true rfl) rfl ?_
  refine r_iload_n dX5_restore_0 rfl ?_
  refine r_iconst (nI 0) dX5_restore_1 (by decide) ?_
  refine r_iconst (nI 1) dX5_restore_2 (by decide) ?_
  refine r_callSI (As := [.int x, .int (nI 0), .int (nI 1)]) (c_X5_within B D E x (nI 0) (nI 1)) hs_X5_within wm_X5_73 rfl dX5_restore_3 rfl rfl (Nat.le_of_ble_eq_true rfl) ⟨Nat.le_of_ble_eq_true rfl, Nat.le_of_ble_eq_true rfl, Nat.zero_le _, Nat.zero_le _⟩ ⟨rfl, rfl⟩ (fun z1 D2 E3 hz1 => ?_)
  obtain ⟨hqV, hqD, hqE⟩ := hz1
  obtain rfl : z1 = bI (nI 0 ≤ x ∧ x ≤ nI 1) := hqV
  obtain rfl := hqD.symm
  obtain rfl := hqE.symm
  refine r_if_ne (tgt := 12) dX5_restore_6 (by decide) (fun c6 => ?_) (fun c6 => ?_)
  · skip
    rw [bI_n0] at c6
    obtain ⟨k, hk1, hk2, rfl⟩ := rg (by decide) (by decide) c6
    have hLk := imgL k (by omega)
    have hCk := imgC k (by omega)
    have him := s_im_lt (im := im)
    have hIk := hI.2 k (by omega)
    have hbk := s_im_bit (im := im) (show k < 2 by omega)
    refine r_aload_n dX5_restore_12 rfl ?_
    refine r_getI (ci := 5) (k := 10) wf_X5_284 dX5_restore_13 z_0 k_0 (by decide) (by decide) rfl (fun z4 hz4 => ?_)
    obtain rfl : z4 = nI (s_im im) := hz4.trans hI.1
    refine r_iload_n dX5_restore_16 rfl ?_
    refine r_callSI (As := [.int (nI (s_im im)), .int (nI k)]) (c_X5_bit B D E (nI (s_im im)) (nI k)) hs_X5_bit wm_X5_187 rfl dX5_restore_17 rfl rfl (Nat.le_of_ble_eq_true rfl) ⟨Nat.le_of_ble_eq_true rfl, Nat.le_of_ble_eq_true rfl, Nat.zero_le _, Nat.zero_le _⟩ ⟨rfl, rfl⟩ (fun z5 D6 E7 hz5 => ?_)
    obtain ⟨hq1, hqD, hqE⟩ := hz5
    obtain rfl := hqD.symm
    obtain rfl := hqE.symm
    obtain rfl : z5 = nI (s_im im / 2 ^ k % 2) := hq1.trans (bit_n (by omega) (by omega))
    refine r_if_ne (tgt := 26) dX5_restore_20 (by decide) (fun c20 => ?_) (fun c20 => ?_)
    · skip
      rw [nI_z (by omega)] at c20
      cases hik : im k with
      | none => exact absurd (hbk.trans (by rw [hik]; rfl)) c20
      | some p =>
      skip
      rw [hik] at hIk
      refine r_aload_n dX5_restore_26 rfl ?_
      refine r_getR (ci := 5) (k := 2) wf_X5_26 dX5_restore_27 z_0 k_0 (by decide) (by decide) (fun _ _ => rfl) f_0_2 ?_
      refine r_aload_n dX5_restore_30 rfl ?_
      refine r_getR (ci := 5) (k := 8) wf_X5_53 dX5_restore_31 z_0 k_0 (by decide) (by decide) (fun _ _ => rfl) f_0_8 ?_
      refine r_iload_n dX5_restore_34 rfl ?_
      refine r_aald (v := 195 + 12 * k) dX5_restore_35 z_191 k_191 (by decide) (vp_in_nI (by omega) (by decide)) (imgL_at k (by omega)) ?_
      refine r_callVV (As := [.ref (B + (195 + 12 * k))]) (o := 15) (c_X1_take B D E 15 (195 + 12 * k) isL_l hLk dj_Li) hv_X1_take wm_X5_136 dX5_restore_36 rfl rfl z_15 k_15 (by decide) rfl (Nat.le_of_ble_eq_true rfl) ⟨Nat.le_of_ble_eq_true rfl, Nat.le_of_ble_eq_true rfl, Nat.zero_le _, Nat.zero_le _⟩ ⟨rfl, rfl⟩ (fun D9 E10 hz8 => ?_)
      obtain ⟨hqD, hqE⟩ := hz8
      obtain rfl := hqE.symm
      subst hqD
      refine r_aload_n dX5_restore_39 rfl ?_
      refine r_getR (ci := 5) (k := 3) wf_X5_33 dX5_restore_40 z_0 k_0 (by decide) (by decide) (fun _ _ => rfl) f_0_3 ?_
      refine r_aload_n dX5_restore_43 rfl ?_
      refine r_getR (ci := 5) (k := 9) wf_X5_57 dX5_restore_44 z_0 k_0 (by decide) (by decide) (fun _ _ => rfl) f_0_9 ?_
      refine r_iload_n dX5_restore_47 rfl ?_
      refine r_aald (v := 201 + 12 * k) dX5_restore_48 z_192 k_192 (by decide) (vp_in_nI (by omega) (by decide)) (imgC_at k (by omega)) ?_
      refine r_callVV (As := [.ref (B + (201 + 12 * k))]) (o := 21) (c_X0_take B (takeL D 15 (195 + 12 * k)) E 21 (201 + 12 * k) isC_n hCk dj_Ci) hv_X0_take wm_X5_140 dX5_restore_49 rfl rfl z_21 k_21 (by decide) rfl (Nat.le_of_ble_eq_true rfl) ⟨Nat.le_of_ble_eq_true rfl, Nat.le_of_ble_eq_true rfl, Nat.zero_le _, Nat.zero_le _⟩ ⟨rfl, rfl⟩ (fun D12 E13 hz11 => ?_)
      obtain ⟨hqD, hqE⟩ := hz11
      obtain rfl := hqE.symm
      subst hqD
      refine r_aload_n dX5_restore_52 rfl ?_
      refine r_getR (ci := 5) (k := 4) wf_X5_40 dX5_restore_53 z_0 k_0 (by decide) (by decide) (fun _ _ => rfl) f_0_4 ?_
      refine r_callVV (As := []) (o := 27) (c_X2_forget B (takeD (takeL D 15 (195 + 12 * k)) 21 (201 + 12 * k)) E) hv_X2_forget wm_X5_143 dX5_restore_56 rfl rfl z_27 k_27 (by decide) rfl (Nat.le_of_ble_eq_true rfl) ⟨Nat.le_of_ble_eq_true rfl, Nat.le_of_ble_eq_true rfl, Nat.zero_le _, Nat.zero_le _⟩ ⟨rfl, rfl⟩ (fun D15 E16 hz14 => ?_)
      obtain ⟨hqD, hqE⟩ := hz14
      obtain rfl := hqE.symm
      have hq2 : D15 = reD D k := by
        rw [hqD]
        unfold reD
        rw [show takeD (takeL D 15 (195 + 12 * k)) 21 (201 + 12 * k) 27 = D 27 from (take_fr (fun j hj => by omega)).trans (takeL_fr (fun j hj => by omega))]
      subst hq2
      refine r_iconst (nI 1) dX5_restore_59 (by decide) ?_
      refine r_iret2 dX5_restore_60 rfl ⟨Nat.zero_le _, Nat.zero_le _⟩ ?_
      unfold a_restore
      rw [if_pos c6, nI_clamp (by omega), hik]
      exact ⟨rfl, XLK_re hIk hK.1 hK.2.2.1, fun q hq => reD_fr (by omega) (by omega), rfl⟩
    · skip
      rw [nI_z (by omega)] at c20
      have hin : im k = none := by
        cases hik : im k with
        | none => rfl
        | some p => rw [hik] at hbk; rw [hbk] at c20; exact absurd c20 (by simp)
      refine r_ldc wc_X5_152 dX5_restore_23 ?_
      refine r_iret2 dX5_restore_25 rfl ⟨Nat.zero_le _, Nat.zero_le _⟩ ?_
      unfold a_restore
      rw [if_pos c6, nI_clamp (by omega), hin]
      exact ⟨rfl, hX, fun _ _ => rfl, rfl⟩
  · skip
    rw [bI_0] at c6
    refine r_ldc wc_X5_77 dX5_restore_9 ?_
    refine r_iret2 dX5_restore_11 rfl ⟨Nat.zero_le _, Nat.zero_le _⟩ ?_
    unfold a_restore
    rw [if_neg c6]
    exact ⟨rfl, hX, fun _ _ => rfl, rfl⟩
