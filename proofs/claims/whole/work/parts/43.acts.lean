set_option maxRecDepth 100000 in
set_option maxHeartbeats 4000000 in
theorem c_X6_undo (B : Nat) (D : DD) (E : EE) (wy : Nat → Nat) (r : Row) (kp : Nat) (A : Nat → Row) (hX0 : XMK D wy r kp A) : MR yX6_undo cX6_undo 2 (some .int) rX6_undo B [.ref (B + 219)] Z0 D E (Q2 Z0 (pI (AQ wy D E (a_undo r kp A)))) := by
  have hXK := hX0.th
  have hX := hXK.xm
  obtain ⟨hO2, hM, hwy, hYY, hK, hAA⟩ := id hXK
  have hO := hO2.lok
  obtain ⟨l0, l5, l4, l6, l7, l8, l1⟩ := hO.le
  obtain ⟨hk1, hk2, hk3⟩ := id hK
  refine r_enter [(0, .ref (B + 219))] hv_X6_undo.1.2.2.2.2 (Nat.le_of_ble_eq_true rfl) rfl ?_
  refine r_aload_n dX6_undo_0 rfl ?_
  refine r_iconst (nI 0) dX6_undo_1 (by decide) ?_
  refine r_putI (ci := 6) (k := 0) wf_X6_54 dX6_undo_2 z_219 k_219 (by decide) (by decide) rfl rfl (fun D1 hD1 => ?_)
  obtain rfl : D1 = thD D := hD1.trans up2_eq
  refine r_aload_n dX6_undo_5 rfl ?_
  refine r_getI (ci := 6) (k := 9) wf_X6_153 dX6_undo_6 z_219 k_219 (by decide) (by decide) rfl (fun z2 hz2 => ?_)
  obtain rfl : z2 = nI kp := hz2.trans hk1
  refine r_if_ne (tgt := 15) dX6_undo_9 (by decide) (fun c9 => ?_) (fun c9 => ?_)
  · skip
    rw [nI_z (by omega)] at c9
    refine r_aload_n dX6_undo_15 rfl ?_
    refine r_dup dX6_undo_16 rfl ?_
    refine r_getI (ci := 6) (k := 9) wf_X6_153 dX6_undo_17 z_219 k_219 (by decide) (by decide) rfl (fun z3 hz3 => ?_)
    obtain rfl : z3 = nI kp := hz3.trans hk1
    refine r_iconst (nI 1) dX6_undo_20 (by decide) ?_
    refine r_isub dX6_undo_21 (fun z4 hz4 => ?_)
    obtain rfl : z4 = nI (kp - 1) := hz4.trans (nI_sub (by omega))
    refine r_putI (ci := 6) (k := 9) wf_X6_153 dX6_undo_22 z_219 k_219 (by decide) (by decide) rfl rfl (fun D5 hD5 => ?_)
    have hA : D5 219 9 = nI (kp - 1) := by rw [hD5]; exact up2_s
    have hN1 : ∀ q, q ≠ 219 → D5 q = thD D q := fun q hq => by rw [hD5]; exact up2_o hq
    have hN2 : ∀ f, f ≠ 9 → D5 219 f = thD D 219 f := fun f hf => by rw [hD5]; exact up2_n (fun q => hf q.2)
    have hW1 : ∀ j, j < 64 → D5 226 (64 * (kp - 1) + j) = nI (A (kp - 1) j) := fun j hj => (congrFun (hN1 226 (by decide)) _).trans (hk3 (kp - 1) (by omega) j hj)
    obtain ⟨g1, g2, g3⟩ := hAA (kp - 1) (by omega)
    refine r_iconst (nI 0) dX6_undo_25 (by decide) ?_
    refine r_istore_n [(1, .int (nI 0)), (0, .ref (B + 219))] dX6_undo_26 (by decide) rfl ?_
    have L : ∀ (fu k : Nat) (Dk : DD), k ≤ 64 → 64 - k < fu → ((∀ q, q ≠ 223 → Dk q = D5 q) ∧ ∀ j, j < k → Dk 223 j = nI (A (kp - 1) j)) → RW yX6_undo cX6_undo 2 (some .int) rX6_undo B (Q2 Z0 (pI (AQ wy D E (a_undo r kp A)))) Z0 Dk E 0 0 27 [(1, .int (nI k)), (0, .ref (B + 219))] [] := by
      intro fu
      induction fu with
      | zero => intro k Dk hku hfu _; omega
      | succ fu ih =>
        intro k Dk hku hfu hI
        refine r_iload_n dX6_undo_27 rfl ?_
        refine r_bipush (nI 64) dX6_undo_28 (by decide) ?_
        refine r_icmp_ge (tgt := 59) dX6_undo_30 (by decide) (fun c30 => ?_) (fun c30 => ?_)
        · skip
          rw [nI_leI (by omega) (by omega)] at c30
          refine r_aload_n dX6_undo_59 rfl ?_
          refine r_getI (ci := 6) (k := 9) wf_X6_153 dX6_undo_60 z_219 k_219 (by decide) (by decide) rfl (fun z6 hz6 => ?_)
          obtain rfl : z6 = nI (kp - 1) := hz6.trans ((congrFun (hI.1 219 (by decide)) 9).trans hA)
          refine r_iret2 dX6_undo_63 rfl ⟨Nat.zero_le _, Nat.zero_le _⟩ ?_
          obtain rfl : k = 64 := by omega
          have hEnd : XMK Dk wy (A (kp - 1)) (kp - 1) A := ⟨Or.inr g1, hI.2, fun j hj => (congrFun (hI.1 228 (by decide)) j).trans ((congrFun (hN1 228 (by decide)) j).trans (hwy j (by rw [← g3]; exact hj))), fun _ => g2, ⟨(congrFun (hI.1 219 (by decide)) 9).trans hA, by omega, fun i hi j hj => (congrFun (hI.1 226 (by decide)) _).trans ((congrFun (hN1 226 (by decide)) _).trans (hk3 i (by omega) j hj))⟩, fun i hi => by rw [g3]; exact hAA i (by omega)⟩
          unfold a_undo
          rw [if_neg c9]
          refine ⟨rfl, hEnd, ⟨fun q q1 q2 q3 q4 q5 => (hI.1 q q2).trans ((hN1 q q1).trans (HM.th.1 q q1 q2 q3 q4 q5)), fun f f1 f2 => (congrFun (hI.1 219 (by decide)) f).trans ((hN2 f f2).trans (HM.th.2 f f1 f2))⟩, rfl⟩
        · skip
          rw [nI_leI (by omega) (by omega)] at c30
          refine r_aload_n dX6_undo_33 rfl ?_
          refine r_getR (ci := 6) (k := 5) wf_X6_19 dX6_undo_34 z_219 k_219 (by decide) (by decide) (fun _ _ => rfl) f_219_5 ?_
          refine r_iload_n dX6_undo_37 rfl ?_
          refine r_aload_n dX6_undo_38 rfl ?_
          refine r_getR (ci := 6) (k := 8) wf_X6_28 dX6_undo_39 z_219 k_219 (by decide) (by decide) (fun _ _ => rfl) f_219_8 ?_
          refine r_bipush (nI 64) dX6_undo_42 (by decide) ?_
          refine r_aload_n dX6_undo_44 rfl ?_
          refine r_getI (ci := 6) (k := 9) wf_X6_153 dX6_undo_45 z_219 k_219 (by decide) (by decide) rfl (fun z7 hz7 => ?_)
          obtain rfl : z7 = nI (kp - 1) := hz7.trans ((congrFun (hI.1 219 (by decide)) 9).trans hA)
          refine r_imul dX6_undo_48 (fun z8 hz8 => ?_)
          obtain rfl : z8 = nI (64 * (kp - 1)) := (hz8.trans (pk_mul _ _))
          refine r_iload_n dX6_undo_49 rfl ?_
          refine r_iadd dX6_undo_50 (fun z9 hz9 => ?_)
          obtain rfl : z9 = nI ((64 * (kp - 1)) + k) := (hz9.trans (nI_add _ _))
          refine r_iald dX6_undo_51 z_226 k_226 (vp_in_nI (by omega) (by decide)) (fun z10 hz10 => ?_)
          rw [nI_clamp (by omega)] at hz10
          obtain rfl : z10 = nI (A (kp - 1) k) := hz10.trans ((congrFun (hI.1 226 (by decide)) _).trans (hW1 k (by omega)))
          refine r_iast dX6_undo_52 z_223 k_223 (vp_in_nI (by omega) (by decide)) (fun D11 hD11 => ?_)
          rw [nI_clamp (by omega)] at hD11
          have hN := cp_s hI
          rw [← hD11] at hN
          refine r_iinc (nI (k + 1)) [(1, .int (nI (k + 1))), (0, .ref (B + 219))] dX6_undo_53 rfl (nI_1 _) (by decide) rfl ?_
          refine r_goto (tgt := 27) dX6_undo_56 (by decide) ?_
          exact r_lv [(1, .int (nI (k + 1))), (0, .ref (B + 219))] (List.forall_mem_cons.mpr ⟨rfl, List.forall_mem_cons.mpr ⟨rfl, fun _ h => absurd h List.not_mem_nil⟩⟩) (ih (k + 1) D11 (by omega) (by omega) hN)
    exact r_lv [(1, .int (nI 0)), (0, .ref (B + 219))] (List.forall_mem_cons.mpr ⟨rfl, List.forall_mem_cons.mpr ⟨rfl, fun _ h => absurd h List.not_mem_nil⟩⟩) (L (64 + 1) 0 D5 (by omega) (by omega) (⟨fun _ _ => rfl, fun j hj => absurd hj (Nat.not_lt_zero j)⟩))
  · skip
    rw [nI_z (by omega)] at c9
    skip
    refine r_ldc wc_X6_196 dX6_undo_12 ?_
    refine r_iret2 dX6_undo_14 rfl ⟨Nat.zero_le _, Nat.zero_le _⟩ ?_
    unfold a_undo
    rw [if_pos c9]
    exact ⟨rfl, hXK, HM.th, rfl⟩
set_option maxRecDepth 100000 in
set_option maxHeartbeats 4000000 in
theorem c_X6_wish (B : Nat) (D : DD) (E : EE) (wy : Nat → Nat) (r : Row) (kp : Nat) (A : Nat → Row) (hX0 : XMK D wy r kp A) (x y z : Int32) : MR yX6_wish cX6_wish 5 (some .int) rX6_wish B [.ref (B + 219), .int x, .int y, .int z] Z0 D E (Q2 Z0 (pI (AQ wy D E (a_wish r kp A x y z)))) := by
  have hXK := hX0.th
  have hX := hXK.xm
  obtain ⟨hO2, hM, hwy, hYY, hK, hAA⟩ := id hXK
  have hO := hO2.lok
  obtain ⟨l0, l5, l4, l6, l7, l8, l1⟩ := hO.le
  obtain ⟨hk1, hk2, hk3⟩ := id hK
  refine r_enter [(0, .ref (B + 219)), (1, .int x), (2, .int y), (3, .int z)] hv_X6_wish.1.2.2.2.2 (Nat.le_of_ble_eq_true rfl) rfl ?_
  refine r_aload_n dX6_wish_0 rfl ?_
  refine r_iconst (nI 0) dX6_wish_1 (by decide) ?_
  refine r_putI (ci := 6) (k := 0) wf_X6_54 dX6_wish_2 z_219 k_219 (by decide) (by decide) rfl rfl (fun D1 hD1 => ?_)
  obtain rfl : D1 = thD D := hD1.trans up2_eq
  refine r_aload_n dX6_wish_5 rfl ?_
  refine r_iload_n dX6_wish_6 rfl ?_
  refine r_callVI (As := [.int x]) (o := 219) (c_X6_isWisher B (thD D) E x (r 5) (hM 5 (by decide))) hv_X6_isWisher wm_X6_202 dX6_wish_7 rfl rfl z_219 k_219 (by decide) rfl (Nat.le_of_ble_eq_true rfl) ⟨Nat.le_of_ble_eq_true rfl, Nat.le_of_ble_eq_true rfl, Nat.zero_le _, Nat.zero_le _⟩ ⟨rfl, rfl⟩ (fun z2 D3 E4 hz2 => ?_)
  obtain ⟨hqV, hqD, hqE⟩ := hz2
  obtain rfl : z2 = bI (nI 0 ≤ x ∧ x ≤ nI (r 5) - nI 1) := hqV
  obtain rfl := hqD.symm
  obtain rfl := hqE.symm
  refine r_if_eq (tgt := 33) dX6_wish_10 (by decide) (fun c10 => ?_) (fun c10 => ?_)
  · skip
    rw [bI_0] at c10
    refine r_ldc wc_X6_74 dX6_wish_33 ?_
    refine r_iret2 dX6_wish_35 rfl ⟨Nat.zero_le _, Nat.zero_le _⟩ ?_
    unfold a_wish
    first
      | (rw [if_neg c10]; exact ⟨rfl, hXK, HM.th, rfl⟩)
      | (rw [if_pos c10, if_neg c18]; exact ⟨rfl, hXK, HM.th, rfl⟩)
      | (rw [if_pos c10, if_pos c18, if_neg c30]; exact ⟨rfl, hXK, HM.th, rfl⟩)
  · skip
    rw [bI_n0] at c10
    obtain ⟨w, hw1, rfl⟩ := gd_n (by omega) c10
    have hLK := hO2.w hw1
    obtain ⟨hW, hT, hS⟩ := id hLK
    have hY := hYY hW
    obtain ⟨b1, b2, b3, b4, b5, b6, b7, b8⟩ := hW.1
    obtain ⟨⟨d1, d2⟩, d3, d4, d5, d6, ⟨d7, d8⟩, d9, d10⟩ := hW.2.2.1 w hw1
    have hrr : ∀ w, w < r 5 → r (23 + 8 * w) ≤ 1 := fun w hw => (hW.2.2.1 w hw).2.2.2.2.2.2.2
    have hr5 := rmask_lt (r 5) hrr
    have hp2 := pw2_le b7
    refine r_aload_n dX6_wish_13 rfl ?_
    refine r_iload_n dX6_wish_14 rfl ?_
    refine r_callVI (As := [.int y]) (o := 219) (c_X6_isPlace B (thD D) E y (r 0) (hM 0 (by decide))) hv_X6_isPlace wm_X6_205 dX6_wish_15 rfl rfl z_219 k_219 (by decide) rfl (Nat.le_of_ble_eq_true rfl) ⟨Nat.le_of_ble_eq_true rfl, Nat.le_of_ble_eq_true rfl, Nat.zero_le _, Nat.zero_le _⟩ ⟨rfl, rfl⟩ (fun z5 D6 E7 hz5 => ?_)
    obtain ⟨hqV, hqD, hqE⟩ := hz5
    obtain rfl : z5 = bI (nI 0 ≤ y ∧ y ≤ nI (r 0) - nI 1) := hqV
    obtain rfl := hqD.symm
    obtain rfl := hqE.symm
    refine r_if_eq (tgt := 33) dX6_wish_18 (by decide) (fun c18 => ?_) (fun c18 => ?_)
    · skip
      rw [bI_0] at c18
      refine r_ldc wc_X6_74 dX6_wish_33 ?_
      refine r_iret2 dX6_wish_35 rfl ⟨Nat.zero_le _, Nat.zero_le _⟩ ?_
      unfold a_wish
      first
        | (rw [if_neg c10]; exact ⟨rfl, hXK, HM.th, rfl⟩)
        | (rw [if_pos c10, if_neg c18]; exact ⟨rfl, hXK, HM.th, rfl⟩)
        | (rw [if_pos c10, if_pos c18, if_neg c30]; exact ⟨rfl, hXK, HM.th, rfl⟩)
    · skip
      rw [bI_n0] at c18
      obtain ⟨p, hp1, rfl⟩ := gd_n (by omega) c18
      refine r_iload_n dX6_wish_21 rfl ?_
      refine r_i2l dX6_wish_22 (fun z8 hz8 => ?_)
      subst hz8
      refine r_lconst ((nI 0).toInt64) dX6_wish_23 (by decide) ?_
      refine r_ldc2v ((nI 40).toInt64) wg_X6_208 dX6_wish_24 (by decide) ?_
      refine r_callSI (As := [.long z.toInt64, .long ((nI 0).toInt64), .long ((nI 40).toInt64)]) (c_X6_in B (thD D) E z (nI 0) (nI 40)) hs_X6_in wm_X6_64 rfl dX6_wish_27 rfl rfl (Nat.le_of_ble_eq_true rfl) ⟨Nat.le_of_ble_eq_true rfl, Nat.le_of_ble_eq_true rfl, Nat.zero_le _, Nat.zero_le _⟩ ⟨rfl, rfl⟩ (fun z9 D10 E11 hz9 => ?_)
      obtain ⟨hqV, hqD, hqE⟩ := hz9
      obtain rfl : z9 = bI (nI 0 ≤ z ∧ z ≤ nI 40) := hqV
      obtain rfl := hqD.symm
      obtain rfl := hqE.symm
      refine r_if_ne (tgt := 36) dX6_wish_30 (by decide) (fun c30 => ?_) (fun c30 => ?_)
      · skip
        rw [bI_n0] at c30
        obtain ⟨s, hs1, hs2, rfl⟩ := rg (by decide) (by decide) c30
        refine r_aload_n dX6_wish_36 rfl ?_
        refine r_callVV (As := []) (o := 219) (c_X6_keep B (thD D) E kp A r hK hM) hv_X6_keep wm_X6_199 dX6_wish_37 rfl rfl z_219 k_219 (by decide) rfl (Nat.le_of_ble_eq_true rfl) ⟨Nat.le_of_ble_eq_true rfl, Nat.le_of_ble_eq_true rfl, Nat.zero_le _, Nat.zero_le _⟩ ⟨rfl, rfl⟩ (fun D13 E14 hz12 => ?_)
        obtain ⟨hKK, hKX, hqE⟩ := hz12
        obtain rfl := hqE.symm
        have hM9 : MA D13 223 r := fun j hj => (congrFun (hKX.1 223 (by decide) (by decide)) j).trans (hM j hj)
        have hw9 : ∀ j, j < 6 * r 0 → D13 228 j = nI (wy j) := fun j hj => (congrFun (hKX.1 228 (by decide) (by decide)) j).trans (hwy j hj)
        have hHM := HM.th.kx hKX
        have hFz := fr_0 (D1 := D13)
        refine r_bipush (nI 100) dX6_wish_40 (by decide) ?_
        refine r_aload_n dX6_wish_42 rfl ?_
        refine r_getR (ci := 6) (k := 5) wf_X6_19 dX6_wish_43 z_219 k_219 (by decide) (by decide) (fun _ _ => rfl) f_219_5 ?_
        refine r_iload_n dX6_wish_46 rfl ?_
        refine r_iconst (nI 2) dX6_wish_47 (by decide) ?_
        refine r_callSI (As := [.ref (B + 223), .int (nI w), .int (nI 2)]) (c_X6_of B D13 E 223 (Or.inl rfl) w 2 (by omega)) hs_X6_of wm_X6_159 rfl dX6_wish_48 rfl rfl (Nat.le_of_ble_eq_true rfl) ⟨Nat.le_of_ble_eq_true rfl, Nat.le_of_ble_eq_true rfl, Nat.zero_le _, Nat.zero_le _⟩ ⟨rfl, rfl⟩ (fun z15 D16 E17 hz15 => ?_)
        obtain ⟨hq1, hqD, hqE⟩ := hz15
        obtain rfl := hqD.symm
        obtain rfl := hqE.symm
        obtain rfl : z15 = nI (r (18 + 8 * w)) := hq1.trans (MA_at hM9 (by omega) (by omega))
        refine r_imul dX6_wish_51 (fun z18 hz18 => ?_)
        obtain rfl : z18 = nI (100 * (r (18 + 8 * w))) := (hz18.trans (pk_mul _ _))
        refine r_aload_n dX6_wish_52 rfl ?_
        refine r_getR (ci := 6) (k := 5) wf_X6_19 dX6_wish_53 z_219 k_219 (by decide) (by decide) (fun _ _ => rfl) f_219_5 ?_
        refine r_iload_n dX6_wish_56 rfl ?_
        refine r_iconst (nI 3) dX6_wish_57 (by decide) ?_
        refine r_callSI (As := [.ref (B + 223), .int (nI w), .int (nI 3)]) (c_X6_of B D13 E 223 (Or.inl rfl) w 3 (by omega)) hs_X6_of wm_X6_159 rfl dX6_wish_58 rfl rfl (Nat.le_of_ble_eq_true rfl) ⟨Nat.le_of_ble_eq_true rfl, Nat.le_of_ble_eq_true rfl, Nat.zero_le _, Nat.zero_le _⟩ ⟨rfl, rfl⟩ (fun z19 D20 E21 hz19 => ?_)
        obtain ⟨hq1, hqD, hqE⟩ := hz19
        obtain rfl := hqD.symm
        obtain rfl := hqE.symm
        obtain rfl : z19 = nI (r (19 + 8 * w)) := hq1.trans (MA_at hM9 (by omega) (by omega))
        refine r_iadd dX6_wish_61 (fun z22 hz22 => ?_)
        obtain rfl : z22 = nI ((100 * (r (18 + 8 * w))) + (r (19 + 8 * w))) := (hz22.trans (nI_add _ _))
        refine r_istore [(4, .int (nI ((100 * (r (18 + 8 * w))) + (r (19 + 8 * w))))), (0, .ref (B + 219)), (1, .int (nI w)), (2, .int (nI p)), (3, .int (nI s))] dX6_wish_62 (by decide) rfl ?_
        refine r_aload_n dX6_wish_64 rfl ?_
        refine r_getR (ci := 6) (k := 5) wf_X6_19 dX6_wish_65 z_219 k_219 (by decide) (by decide) (fun _ _ => rfl) f_219_5 ?_
        refine r_bipush (nI 16) dX6_wish_68 (by decide) ?_
        refine r_bipush (nI 8) dX6_wish_70 (by decide) ?_
        refine r_iload_n dX6_wish_72 rfl ?_
        refine r_imul dX6_wish_73 (fun z23 hz23 => ?_)
        obtain rfl : z23 = nI (8 * w) := (hz23.trans (pk_mul _ _))
        refine r_iadd dX6_wish_74 (fun z24 hz24 => ?_)
        obtain rfl : z24 = nI (16 + (8 * w)) := (hz24.trans (nI_add _ _))
        refine r_iconst (nI 2) dX6_wish_75 (by decide) ?_
        refine r_iadd dX6_wish_76 (fun z25 hz25 => ?_)
        obtain rfl : z25 = nI ((16 + (8 * w)) + 2) := (hz25.trans (nI_add _ _))
        refine r_iload_n dX6_wish_77 rfl ?_
        refine r_iast dX6_wish_78 z_223 k_223 (vp_in_nI (by omega) (by decide)) (fun D26 hD26 => ?_)
        rw [nI_clamp (by omega)] at hD26
        have hMa : MA D26 223 (rset r (18 + 8 * w) p) := by rw [hD26]; exact MA_set hM9 (by omega)
        have hFa := fr_s hFz hD26
        refine r_aload_n dX6_wish_79 rfl ?_
        refine r_getR (ci := 6) (k := 5) wf_X6_19 dX6_wish_80 z_219 k_219 (by decide) (by decide) (fun _ _ => rfl) f_219_5 ?_
        refine r_bipush (nI 16) dX6_wish_83 (by decide) ?_
        refine r_bipush (nI 8) dX6_wish_85 (by decide) ?_
        refine r_iload_n dX6_wish_87 rfl ?_
        refine r_imul dX6_wish_88 (fun z27 hz27 => ?_)
        obtain rfl : z27 = nI (8 * w) := (hz27.trans (pk_mul _ _))
        refine r_iadd dX6_wish_89 (fun z28 hz28 => ?_)
        obtain rfl : z28 = nI (16 + (8 * w)) := (hz28.trans (nI_add _ _))
        refine r_iconst (nI 3) dX6_wish_90 (by decide) ?_
        refine r_iadd dX6_wish_91 (fun z29 hz29 => ?_)
        obtain rfl : z29 = nI ((16 + (8 * w)) + 3) := (hz29.trans (nI_add _ _))
        refine r_iload_n dX6_wish_92 rfl ?_
        refine r_iast dX6_wish_93 z_223 k_223 (vp_in_nI (by omega) (by decide)) (fun D30 hD30 => ?_)
        rw [nI_clamp (by omega)] at hD30
        have hMb : MA D30 223 (rset (rset r (18 + 8 * w) p) (19 + 8 * w) s) := by rw [hD30]; exact MA_set hMa (by omega)
        have hFb := fr_s hFa hD30
        refine r_iload dX6_wish_94 rfl ?_
        refine r_iret2 dX6_wish_96 rfl ⟨Nat.zero_le _, Nat.zero_le _⟩ ?_
        have h00 : (rset (rset r (18 + 8 * w) p) (19 + 8 * w) s) 0 = r 0 := (rset_n (by omega)).trans (rset_n (by omega))
        have hEnd : XMK D30 wy (rset (rset r (18 + 8 * w) p) (19 + 8 * w) s) (min 24 (kp + 1)) (s_push kp A r) := ⟨Or.inr ⟨WF_set (WF_set hW (Or.inr ⟨w, hw1, by omega⟩)) (Or.inr ⟨w, by rw [rset_n (by omega)]; exact hw1, by omega⟩), T2_set (T2_set hT (by omega)) (by omega), HS_set (HS_set hS (by omega)) (by omega)⟩, hMb, fun j hj => (congrFun (hFb 228 (by decide)) j).trans (hw9 j (by rw [h00] at hj; exact hj)), fun _ => WY_set (WY_set hY (by omega)) (by omega), KM_l hKK (fun q a _ => hFb q a), push_ok (r' := rset (rset r (18 + 8 * w) p) (19 + 8 * w) s) (fun i hi => by rw [h00]; exact hAA i hi) hk2 hLK hY h00.symm⟩
        unfold a_wish
        rw [if_pos c10, if_pos c18, if_pos c30, nI_clamp (show w < 2 ^ 31 by omega), nI_clamp (show p < 2 ^ 31 by omega), nI_clamp (show s < 2 ^ 31 by omega)]
        exact ⟨rfl, hEnd, hHM.l (fun q a _ => hFb q a), rfl⟩
      · skip
        rw [bI_0] at c30
        refine r_ldc wc_X6_74 dX6_wish_33 ?_
        refine r_iret2 dX6_wish_35 rfl ⟨Nat.zero_le _, Nat.zero_le _⟩ ?_
        unfold a_wish
        first
          | (rw [if_neg c10]; exact ⟨rfl, hXK, HM.th, rfl⟩)
          | (rw [if_pos c10, if_neg c18]; exact ⟨rfl, hXK, HM.th, rfl⟩)
          | (rw [if_pos c10, if_pos c18, if_neg c30]; exact ⟨rfl, hXK, HM.th, rfl⟩)
set_option maxRecDepth 100000 in
set_option maxHeartbeats 4000000 in
theorem c_X6_rest (B : Nat) (D : DD) (E : EE) (wy : Nat → Nat) (r : Row) (kp : Nat) (A : Nat → Row) (hX0 : XMK D wy r kp A) (x y : Int32) : MR yX6_rest cX6_rest 5 (some .int) rX6_rest B [.ref (B + 219), .int x, .int y] Z0 D E (Q2 Z0 (pI (AQ wy D E (a_rest r kp A x y)))) := by
  have hXK := hX0.th
  have hX := hXK.xm
  obtain ⟨hO2, hM, hwy, hYY, hK, hAA⟩ := id hXK
  have hO := hO2.lok
  obtain ⟨l0, l5, l4, l6, l7, l8, l1⟩ := hO.le
  obtain ⟨hk1, hk2, hk3⟩ := id hK
  refine r_enter [(0, .ref (B + 219)), (1, .int x), (2, .int y)] hv_X6_rest.1.2.2.2.2 (Nat.le_of_ble_eq_true rfl) rfl ?_
  refine r_aload_n dX6_rest_0 rfl ?_
  refine r_iconst (nI 0) dX6_rest_1 (by decide) ?_
  refine r_putI (ci := 6) (k := 0) wf_X6_54 dX6_rest_2 z_219 k_219 (by decide) (by decide) rfl rfl (fun D1 hD1 => ?_)
  obtain rfl : D1 = thD D := hD1.trans up2_eq
  refine r_aload_n dX6_rest_5 rfl ?_
  refine r_iload_n dX6_rest_6 rfl ?_
  refine r_callVI (As := [.int x]) (o := 219) (c_X6_isWisher B (thD D) E x (r 5) (hM 5 (by decide))) hv_X6_isWisher wm_X6_202 dX6_rest_7 rfl rfl z_219 k_219 (by decide) rfl (Nat.le_of_ble_eq_true rfl) ⟨Nat.le_of_ble_eq_true rfl, Nat.le_of_ble_eq_true rfl, Nat.zero_le _, Nat.zero_le _⟩ ⟨rfl, rfl⟩ (fun z2 D3 E4 hz2 => ?_)
  obtain ⟨hqV, hqD, hqE⟩ := hz2
  obtain rfl : z2 = bI (nI 0 ≤ x ∧ x ≤ nI (r 5) - nI 1) := hqV
  obtain rfl := hqD.symm
  obtain rfl := hqE.symm
  refine r_if_eq (tgt := 23) dX6_rest_10 (by decide) (fun c10 => ?_) (fun c10 => ?_)
  · skip
    rw [bI_0] at c10
    refine r_ldc wc_X6_74 dX6_rest_23 ?_
    refine r_iret2 dX6_rest_25 rfl ⟨Nat.zero_le _, Nat.zero_le _⟩ ?_
    unfold a_rest
    first
      | (rw [if_neg c10]; exact ⟨rfl, hXK, HM.th, rfl⟩)
      | (rw [if_pos c10, if_neg c20]; exact ⟨rfl, hXK, HM.th, rfl⟩)
  · skip
    rw [bI_n0] at c10
    obtain ⟨w, hw1, rfl⟩ := gd_n (by omega) c10
    have hLK := hO2.w hw1
    obtain ⟨hW, hT, hS⟩ := id hLK
    have hY := hYY hW
    obtain ⟨b1, b2, b3, b4, b5, b6, b7, b8⟩ := hW.1
    obtain ⟨⟨d1, d2⟩, d3, d4, d5, d6, ⟨d7, d8⟩, d9, d10⟩ := hW.2.2.1 w hw1
    have hrr : ∀ w, w < r 5 → r (23 + 8 * w) ≤ 1 := fun w hw => (hW.2.2.1 w hw).2.2.2.2.2.2.2
    have hr5 := rmask_lt (r 5) hrr
    have hp2 := pw2_le b7
    refine r_iload_n dX6_rest_13 rfl ?_
    refine r_i2l dX6_rest_14 (fun z5 hz5 => ?_)
    subst hz5
    refine r_lconst ((nI 0).toInt64) dX6_rest_15 (by decide) ?_
    refine r_lconst ((nI 1).toInt64) dX6_rest_16 (by decide) ?_
    refine r_callSI (As := [.long y.toInt64, .long ((nI 0).toInt64), .long ((nI 1).toInt64)]) (c_X6_in B (thD D) E y (nI 0) (nI 1)) hs_X6_in wm_X6_64 rfl dX6_rest_17 rfl rfl (Nat.le_of_ble_eq_true rfl) ⟨Nat.le_of_ble_eq_true rfl, Nat.le_of_ble_eq_true rfl, Nat.zero_le _, Nat.zero_le _⟩ ⟨rfl, rfl⟩ (fun z6 D7 E8 hz6 => ?_)
    obtain ⟨hqV, hqD, hqE⟩ := hz6
    obtain rfl : z6 = bI (nI 0 ≤ y ∧ y ≤ nI 1) := hqV
    obtain rfl := hqD.symm
    obtain rfl := hqE.symm
    refine r_if_ne (tgt := 26) dX6_rest_20 (by decide) (fun c20 => ?_) (fun c20 => ?_)
    · skip
      rw [bI_n0] at c20
      obtain ⟨on, ho1, ho2, rfl⟩ := rg (by decide) (by decide) c20
      refine r_aload_n dX6_rest_26 rfl ?_
      refine r_getR (ci := 6) (k := 5) wf_X6_19 dX6_rest_27 z_219 k_219 (by decide) (by decide) (fun _ _ => rfl) f_219_5 ?_
      refine r_iload_n dX6_rest_30 rfl ?_
      refine r_bipush (nI 7) dX6_rest_31 (by decide) ?_
      refine r_callSI (As := [.ref (B + 223), .int (nI w), .int (nI 7)]) (c_X6_of B (thD D) E 223 (Or.inl rfl) w 7 (by omega)) hs_X6_of wm_X6_159 rfl dX6_rest_33 rfl rfl (Nat.le_of_ble_eq_true rfl) ⟨Nat.le_of_ble_eq_true rfl, Nat.le_of_ble_eq_true rfl, Nat.zero_le _, Nat.zero_le _⟩ ⟨rfl, rfl⟩ (fun z9 D10 E11 hz9 => ?_)
      obtain ⟨hq1, hqD, hqE⟩ := hz9
      obtain rfl := hqD.symm
      obtain rfl := hqE.symm
      obtain rfl : z9 = nI (r (23 + 8 * w)) := hq1.trans (MA_at hM (by omega) (by omega))
      refine r_iload_n dX6_rest_36 rfl ?_
      refine r_icmp_ne (tgt := 43) dX6_rest_37 (by decide) (fun c37 => ?_) (fun c37 => ?_)
      · skip
        rw [nI_eq (by omega) (by omega)] at c37
        refine r_aload_n dX6_rest_43 rfl ?_
        refine r_callVV (As := []) (o := 219) (c_X6_keep B (thD D) E kp A r hK hM) hv_X6_keep wm_X6_199 dX6_rest_44 rfl rfl z_219 k_219 (by decide) rfl (Nat.le_of_ble_eq_true rfl) ⟨Nat.le_of_ble_eq_true rfl, Nat.le_of_ble_eq_true rfl, Nat.zero_le _, Nat.zero_le _⟩ ⟨rfl, rfl⟩ (fun D13 E14 hz12 => ?_)
        obtain ⟨hKK, hKX, hqE⟩ := hz12
        obtain rfl := hqE.symm
        have hM9 : MA D13 223 r := fun j hj => (congrFun (hKX.1 223 (by decide) (by decide)) j).trans (hM j hj)
        have hw9 : ∀ j, j < 6 * r 0 → D13 228 j = nI (wy j) := fun j hj => (congrFun (hKX.1 228 (by decide) (by decide)) j).trans (hwy j hj)
        have hHM := HM.th.kx hKX
        have hFz := fr_0 (D1 := D13)
        refine r_aload_n dX6_rest_47 rfl ?_
        refine r_getR (ci := 6) (k := 5) wf_X6_19 dX6_rest_48 z_219 k_219 (by decide) (by decide) (fun _ _ => rfl) f_219_5 ?_
        refine r_bipush (nI 16) dX6_rest_51 (by decide) ?_
        refine r_bipush (nI 8) dX6_rest_53 (by decide) ?_
        refine r_iload_n dX6_rest_55 rfl ?_
        refine r_imul dX6_rest_56 (fun z15 hz15 => ?_)
        obtain rfl : z15 = nI (8 * w) := (hz15.trans (pk_mul _ _))
        refine r_iadd dX6_rest_57 (fun z16 hz16 => ?_)
        obtain rfl : z16 = nI (16 + (8 * w)) := (hz16.trans (nI_add _ _))
        refine r_bipush (nI 7) dX6_rest_58 (by decide) ?_
        refine r_iadd dX6_rest_60 (fun z17 hz17 => ?_)
        obtain rfl : z17 = nI ((16 + (8 * w)) + 7) := (hz17.trans (nI_add _ _))
        refine r_iload_n dX6_rest_61 rfl ?_
        refine r_iast dX6_rest_62 z_223 k_223 (vp_in_nI (by omega) (by decide)) (fun D18 hD18 => ?_)
        rw [nI_clamp (by omega)] at hD18
        have hMa : MA D18 223 (rset r (23 + 8 * w) on) := by rw [hD18]; exact MA_set hM9 (by omega)
        have hFa := fr_s hFz hD18
        have hWr : WF (rset r (23 + 8 * w) on) := WF_set hW (Or.inr ⟨w, hw1, by omega⟩)
        refine r_iconst (nI 0) dX6_rest_63 (by decide) ?_
        refine r_istore_n [(3, .int (nI 0)), (0, .ref (B + 219)), (1, .int (nI w)), (2, .int (nI on))] dX6_rest_64 (by decide) rfl ?_
        refine r_lv [(3, .int (nI (s_rs (rset r (23 + 8 * w) on) 0))), (0, .ref (B + 219)), (1, .int (nI w)), (2, .int (nI on))] (List.forall_mem_cons.mpr ⟨congrArg (fun x => some (Value.int x)) rfl, List.forall_mem_cons.mpr ⟨rfl, List.forall_mem_cons.mpr ⟨rfl, List.forall_mem_cons.mpr ⟨rfl, fun _ h => absurd h List.not_mem_nil⟩⟩⟩⟩) ?_
        refine r_iconst (nI 0) dX6_rest_65 (by decide) ?_
        refine r_istore [(4, .int (nI 0)), (3, .int (nI (s_rs (rset r (23 + 8 * w) on) 0))), (0, .ref (B + 219)), (1, .int (nI w)), (2, .int (nI on))] dX6_rest_66 (by decide) rfl ?_
        have L : ∀ fu k : Nat, k ≤ r 5 → r 5 - k < fu → RW yX6_rest cX6_rest 5 (some .int) rX6_rest B (Q2 Z0 (pI (AQ wy D E (a_rest r kp A (nI w) (nI on))))) Z0 D18 E 0 0 68 [(4, .int (nI k)), (3, .int (nI (s_rs (rset r (23 + 8 * w) on) k))), (0, .ref (B + 219)), (1, .int (nI w)), (2, .int (nI on))] [] := by
          intro fu
          induction fu with
          | zero => intro k hku hfu; omega
          | succ fu ih =>
            intro k hku hfu 
            refine r_iload dX6_rest_68 rfl ?_
            refine r_aload_n dX6_rest_70 rfl ?_
            refine r_getR (ci := 6) (k := 5) wf_X6_19 dX6_rest_71 z_219 k_219 (by decide) (by decide) (fun _ _ => rfl) f_219_5 ?_
            refine r_iconst (nI 5) dX6_rest_74 (by decide) ?_
            refine r_iald dX6_rest_75 z_223 k_223 (vp_in_nI (by decide) (by decide)) (fun z19 hz19 => ?_)
            rw [nI_clamp (by omega)] at hz19
            obtain rfl : z19 = nI (r 5) := hz19.trans ((hMa 5 (by decide)).trans (congrArg nI (rset_n (by omega))))
            refine r_icmp_ge (tgt := 99) dX6_rest_76 (by decide) (fun c76 => ?_) (fun c76 => ?_)
            · skip
              rw [nI_leI (by omega) (by omega)] at c76
              refine r_iload_n dX6_rest_99 rfl ?_
              refine r_iret2 dX6_rest_100 rfl ⟨Nat.zero_le _, Nat.zero_le _⟩ ?_
              obtain rfl : k = r 5 := by omega
              have h00 : (rset r (23 + 8 * w) on) 0 = r 0 := rset_n (by omega)
              have hEnd : XMK D18 wy (rset r (23 + 8 * w) on) (min 24 (kp + 1)) (s_push kp A r) := ⟨Or.inr ⟨hWr, T2_set hT (by omega), HS_set hS (by omega)⟩, hMa, fun j hj => (congrFun (hFa 228 (by decide)) j).trans (hw9 j (by rw [h00] at hj; exact hj)), fun _ => WY_set hY (by omega), KM_l hKK (fun q a _ => hFa q a), push_ok (r' := rset r (23 + 8 * w) on) (fun i hi => by rw [h00]; exact hAA i hi) hk2 hLK hY h00.symm⟩
              unfold a_rest
              rw [if_pos c10, if_pos c20, nI_clamp (show w < 2 ^ 31 by omega), if_neg (fun q => c37 ((nI_eq (by omega) (by omega)).mp q)), nI_clamp (show on < 2 ^ 31 by omega)]
              exact ⟨congrArg nI (rs_bits (fun w' hw' => (hWr.2.2.1 w' (by rw [rset_n (by omega)]; exact hw')).2.2.2.2.2.2.2) b7), hEnd, hHM.l (fun q a _ => hFa q a), rfl⟩
            · skip
              rw [nI_leI (by omega) (by omega)] at c76
              refine r_iload_n dX6_rest_79 rfl ?_
              refine r_aload_n dX6_rest_80 rfl ?_
              refine r_getR (ci := 6) (k := 5) wf_X6_19 dX6_rest_81 z_219 k_219 (by decide) (by decide) (fun _ _ => rfl) f_219_5 ?_
              refine r_iload dX6_rest_84 rfl ?_
              refine r_bipush (nI 7) dX6_rest_86 (by decide) ?_
              refine r_callSI (As := [.ref (B + 223), .int (nI k), .int (nI 7)]) (c_X6_of B D18 E 223 (Or.inl rfl) k 7 (by omega)) hs_X6_of wm_X6_159 rfl dX6_rest_88 rfl rfl (Nat.le_of_ble_eq_true rfl) ⟨Nat.le_of_ble_eq_true rfl, Nat.le_of_ble_eq_true rfl, Nat.zero_le _, Nat.zero_le _⟩ ⟨rfl, rfl⟩ (fun z20 D21 E22 hz20 => ?_)
              obtain ⟨hq1, hqD, hqE⟩ := hz20
              obtain rfl := hqD.symm
              obtain rfl := hqE.symm
              obtain rfl : z20 = nI ((rset r (23 + 8 * w) on) (23 + 8 * k)) := hq1.trans (MA_at hMa (by omega) (by omega))
              refine r_iadd dX6_rest_91 (fun z23 hz23 => ?_)
              obtain rfl : z23 = nI (s_rs (rset r (23 + 8 * w) on) (k + 1)) := hz23.trans (nI_add _ _)
              refine r_istore_n [(3, .int (nI (s_rs (rset r (23 + 8 * w) on) (k + 1)))), (4, .int (nI k)), (0, .ref (B + 219)), (1, .int (nI w)), (2, .int (nI on))] dX6_rest_92 (by decide) rfl ?_
              refine r_iinc (nI (k + 1)) [(4, .int (nI (k + 1))), (3, .int (nI (s_rs (rset r (23 + 8 * w) on) (k + 1)))), (0, .ref (B + 219)), (1, .int (nI w)), (2, .int (nI on))] dX6_rest_93 rfl (nI_1 _) (by decide) rfl ?_
              refine r_goto (tgt := 68) dX6_rest_96 (by decide) ?_
              exact r_lv [(4, .int (nI (k + 1))), (3, .int (nI (s_rs (rset r (23 + 8 * w) on) (k + 1)))), (0, .ref (B + 219)), (1, .int (nI w)), (2, .int (nI on))] (List.forall_mem_cons.mpr ⟨rfl, List.forall_mem_cons.mpr ⟨rfl, List.forall_mem_cons.mpr ⟨rfl, List.forall_mem_cons.mpr ⟨rfl, List.forall_mem_cons.mpr ⟨rfl, fun _ h => absurd h List.not_mem_nil⟩⟩⟩⟩⟩) (ih (k + 1) (by omega) (by omega))
        exact r_lv [(4, .int (nI 0)), (3, .int (nI (s_rs (rset r (23 + 8 * w) on) 0))), (0, .ref (B + 219)), (1, .int (nI w)), (2, .int (nI on))] (List.forall_mem_cons.mpr ⟨rfl, List.forall_mem_cons.mpr ⟨rfl, List.forall_mem_cons.mpr ⟨rfl, List.forall_mem_cons.mpr ⟨rfl, List.forall_mem_cons.mpr ⟨rfl, fun _ h => absurd h List.not_mem_nil⟩⟩⟩⟩⟩) (L (r 5 + 1) 0 (by omega) (by omega))
      · skip
        rw [nI_eq (by omega) (by omega)] at c37
        refine r_ldc wc_X6_196 dX6_rest_40 ?_
        refine r_iret2 dX6_rest_42 rfl ⟨Nat.zero_le _, Nat.zero_le _⟩ ?_
        unfold a_rest
        rw [if_pos c10, if_pos c20, nI_clamp (show w < 2 ^ 31 by omega), if_pos (congrArg nI c37)]
        exact ⟨rfl, hXK, HM.th, rfl⟩
    · skip
      rw [bI_0] at c20
      refine r_ldc wc_X6_74 dX6_rest_23 ?_
      refine r_iret2 dX6_rest_25 rfl ⟨Nat.zero_le _, Nat.zero_le _⟩ ?_
      unfold a_rest
      first
        | (rw [if_neg c10]; exact ⟨rfl, hXK, HM.th, rfl⟩)
        | (rw [if_pos c10, if_neg c20]; exact ⟨rfl, hXK, HM.th, rfl⟩)
set_option maxRecDepth 100000 in
set_option maxHeartbeats 4000000 in
theorem c_X6_hours (B : Nat) (D : DD) (E : EE) (wy : Nat → Nat) (r : Row) (kp : Nat) (A : Nat → Row) (hX0 : XMK D wy r kp A) (x : Int32) : MR yX6_hours cX6_hours 3 (some .int) rX6_hours B [.ref (B + 219), .int x] Z0 D E (Q2 Z0 (pI (AQ wy D E (a_hours wy r kp A x)))) := by
  have hXK := hX0.th
  have hX := hXK.xm
  obtain ⟨hO2, hM, hwy, hYY, hK, hAA⟩ := id hXK
  have hO := hO2.lok
  obtain ⟨l0, l5, l4, l6, l7, l8, l1⟩ := hO.le
  obtain ⟨hk1, hk2, hk3⟩ := id hK
  refine r_enter [(0, .ref (B + 219)), (1, .int x)] hv_X6_hours.1.2.2.2.2 (Nat.le_of_ble_eq_true rfl) rfl ?_
  refine r_aload_n dX6_hours_0 rfl ?_
  refine r_iconst (nI 0) dX6_hours_1 (by decide) ?_
  refine r_putI (ci := 6) (k := 0) wf_X6_54 dX6_hours_2 z_219 k_219 (by decide) (by decide) rfl rfl (fun D1 hD1 => ?_)
  obtain rfl : D1 = thD D := hD1.trans up2_eq
  refine r_aload_n dX6_hours_5 rfl ?_
  refine r_callVI (As := []) (o := 219) (c_X6_isThere B (thD D) E (r 0) (hM 0 (by decide)) l0) hv_X6_isThere wm_X6_193 dX6_hours_6 rfl rfl z_219 k_219 (by decide) rfl (Nat.le_of_ble_eq_true rfl) ⟨Nat.le_of_ble_eq_true rfl, Nat.le_of_ble_eq_true rfl, Nat.zero_le _, Nat.zero_le _⟩ ⟨rfl, rfl⟩ (fun z2 D3 E4 hz2 => ?_)
  obtain ⟨hqV, hqD, hqE⟩ := hz2
  obtain rfl : z2 = bI (0 < r 0) := hqV
  obtain rfl := hqD.symm
  obtain rfl := hqE.symm
  refine r_if_ne (tgt := 15) dX6_hours_9 (by decide) (fun c9 => ?_) (fun c9 => ?_)
  · skip
    rw [bI_n0] at c9
    have hLK := hO2.p c9
    obtain ⟨hW, hT, hS⟩ := id hLK
    have hH := hS.hb
    have hY := hYY hW
    obtain ⟨b1, b2, b3, b4, b5, b6, b7, b8⟩ := hW.1
    refine r_iload_n dX6_hours_15 rfl ?_
    refine r_i2l dX6_hours_16 (fun z5 hz5 => ?_)
    subst hz5
    refine r_lconst ((nI 1).toInt64) dX6_hours_17 (by decide) ?_
    refine r_ldc2v ((nI 24).toInt64) wg_X6_197 dX6_hours_18 (by decide) ?_
    refine r_callSI (As := [.long x.toInt64, .long ((nI 1).toInt64), .long ((nI 24).toInt64)]) (c_X6_in B (thD D) E x (nI 1) (nI 24)) hs_X6_in wm_X6_64 rfl dX6_hours_21 rfl rfl (Nat.le_of_ble_eq_true rfl) ⟨Nat.le_of_ble_eq_true rfl, Nat.le_of_ble_eq_true rfl, Nat.zero_le _, Nat.zero_le _⟩ ⟨rfl, rfl⟩ (fun z6 D7 E8 hz6 => ?_)
    obtain ⟨hqV, hqD, hqE⟩ := hz6
    obtain rfl : z6 = bI (nI 1 ≤ x ∧ x ≤ nI 24) := hqV
    obtain rfl := hqD.symm
    obtain rfl := hqE.symm
    refine r_if_ne (tgt := 30) dX6_hours_24 (by decide) (fun c24 => ?_) (fun c24 => ?_)
    · skip
      rw [bI_n0] at c24
      obtain ⟨n, hn1, hn2, rfl⟩ := rg (by decide) (by decide) c24
      refine r_aload_n dX6_hours_30 rfl ?_
      refine r_getR (ci := 6) (k := 5) wf_X6_19 dX6_hours_31 z_219 k_219 (by decide) (by decide) (fun _ _ => rfl) f_219_5 ?_
      refine r_bipush (nI 6) dX6_hours_34 (by decide) ?_
      refine r_iald dX6_hours_36 z_223 k_223 (vp_in_nI (by decide) (by decide)) (fun z9 hz9 => ?_)
      rw [nI_clamp (by omega)] at hz9
      obtain rfl : z9 = nI (r 6) := hz9.trans (hM 6 (by decide))
      refine r_iload_n dX6_hours_37 rfl ?_
      refine r_iadd dX6_hours_38 (fun z10 hz10 => ?_)
      obtain rfl : z10 = nI ((r 6) + n) := (hz10.trans (nI_add _ _))
      refine r_sipush (nI 999) dX6_hours_39 (by decide) ?_
      refine r_icmp_le (tgt := 48) dX6_hours_42 (by decide) (fun c42 => ?_) (fun c42 => ?_)
      · skip
        rw [nI_leI (by omega) (by omega)] at c42
        refine r_iconst (nI 0) dX6_hours_48 (by decide) ?_
        refine r_istore_n [(2, .int (nI 0)), (0, .ref (B + 219)), (1, .int (nI n))] dX6_hours_49 (by decide) rfl ?_
        have L : ∀ (fu k : Nat) (Dk : DD), k ≤ n → n - k < fu → (MA Dk 223 (s_hours wy k r) ∧ KM Dk (s_ak wy r kp A k).1 (s_ak wy r kp A k).2 ∧ HM D Dk ∧ ∀ i, i < (s_ak wy r kp A k).1 → LK ((s_ak wy r kp A k).2 i) ∧ WY wy ((s_ak wy r kp A k).2 i) ∧ (s_ak wy r kp A k).2 i 0 = r 0) → RW yX6_hours cX6_hours 3 (some .int) rX6_hours B (Q2 Z0 (pI (AQ wy D E (a_hours wy r kp A (nI n))))) Z0 Dk E 0 0 50 [(2, .int (nI k)), (0, .ref (B + 219)), (1, .int (nI n))] [] := by
          intro fu
          induction fu with
          | zero => intro k Dk hku hfu _; omega
          | succ fu ih =>
            intro k Dk hku hfu hI
            refine r_iload_n dX6_hours_50 rfl ?_
            refine r_iload_n dX6_hours_51 rfl ?_
            refine r_icmp_ge (tgt := 75) dX6_hours_52 (by decide) (fun c52 => ?_) (fun c52 => ?_)
            · skip
              rw [nI_leI (by omega) (by omega)] at c52
              refine r_aload_n dX6_hours_75 rfl ?_
              refine r_getR (ci := 6) (k := 5) wf_X6_19 dX6_hours_76 z_219 k_219 (by decide) (by decide) (fun _ _ => rfl) f_219_5 ?_
              refine r_iconst (nI 1) dX6_hours_79 (by decide) ?_
              refine r_iald dX6_hours_80 z_223 k_223 (vp_in_nI (by decide) (by decide)) (fun z11 hz11 => ?_)
              rw [nI_clamp (by omega)] at hz11
              obtain rfl : z11 = nI (s_hours wy k r 1) := hz11.trans (hI.1 1 (by decide))
              refine r_iret2 dX6_hours_81 rfl ⟨Nat.zero_le _, Nat.zero_le _⟩ ?_
              obtain rfl : k = n := by omega
              obtain ⟨iM, iK, iH, iA⟩ := id hI
              obtain ⟨t1, t2, t3, t4⟩ := s_hours_k hW hT hH hY k
              obtain ⟨t5, t6⟩ := HS_hours (wy := wy) hS k (by omega)
              have hLKk : LK (s_hours wy k r) := ⟨t1, t2, t5⟩
              have iW : ∀ j, j < 6 * r 0 → Dk 228 j = nI (wy j) := fun j hj => (congrFun (iH.1 228 (by decide) (by decide) (by decide) (by decide) (by decide)) j).trans (hX0.2.2.1 j hj)
              have hEnd : XMK Dk wy (s_hours wy k r) (s_ak wy r kp A k).1 (s_ak wy r kp A k).2 := ⟨Or.inr hLKk, iM, fun j hj => iW j (by rw [s_hours_0] at hj; exact hj), fun _ => t4, iK, fun i hi => by rw [s_hours_0]; exact iA i hi⟩
              unfold a_hours
              rw [if_pos c9, if_pos c24, nI_clamp (by omega), if_pos c42]
              exact ⟨rfl, hEnd, iH, rfl⟩
            · skip
              rw [nI_leI (by omega) (by omega)] at c52
              obtain ⟨iM, iK, iH, iA⟩ := id hI
              obtain ⟨t1, t2, t3, t4⟩ := s_hours_k hW hT hH hY k
              obtain ⟨t5, t6⟩ := HS_hours (wy := wy) hS k (by omega)
              have hLKk : LK (s_hours wy k r) := ⟨t1, t2, t5⟩
              have iW : ∀ j, j < 6 * r 0 → Dk 228 j = nI (wy j) := fun j hj => (congrFun (iH.1 228 (by decide) (by decide) (by decide) (by decide) (by decide)) j).trans (hX0.2.2.1 j hj)
              refine r_aload_n dX6_hours_55 rfl ?_
              refine r_callVV (As := []) (o := 219) (c_X6_keep B Dk E (s_ak wy r kp A k).1 (s_ak wy r kp A k).2 (s_hours wy k r) iK iM) hv_X6_keep wm_X6_199 dX6_hours_56 rfl rfl z_219 k_219 (by decide) rfl (Nat.le_of_ble_eq_true rfl) ⟨Nat.le_of_ble_eq_true rfl, Nat.le_of_ble_eq_true rfl, Nat.zero_le _, Nat.zero_le _⟩ ⟨rfl, rfl⟩ (fun D13 E14 hz12 => ?_)
              obtain ⟨hKK, hKX, hqE⟩ := hz12
              obtain rfl := hqE.symm
              have hM9 : MA D13 223 (s_hours wy k r) := fun j hj => (congrFun (hKX.1 223 (by decide) (by decide)) j).trans (iM j hj)
              have hw9 : ∀ j, j < 6 * s_hours wy k r 0 → D13 228 j = nI (wy j) := fun j hj => (congrFun (hKX.1 228 (by decide) (by decide)) j).trans (iW j (by rw [s_hours_0] at hj; exact hj))
              refine r_aload_n dX6_hours_59 rfl ?_
              refine r_aload_n dX6_hours_60 rfl ?_
              refine r_getR (ci := 6) (k := 5) wf_X6_19 dX6_hours_61 z_219 k_219 (by decide) (by decide) (fun _ _ => rfl) f_219_5 ?_
              refine r_iconst (nI 0) dX6_hours_64 (by decide) ?_
              refine r_iconst (nI 0) dX6_hours_65 (by decide) ?_
              refine r_callVV (As := [.ref (B + 223), .int (nI 0), .int (nI 0)]) (o := 219) (c_X6_hour B D13 E 223 (Or.inl rfl) (s_hours wy k r) wy t1 (999 + k) t3 (by omega) hM9 t4 hw9) hv_X6_hour wm_X6_185 dX6_hours_66 rfl rfl z_219 k_219 (by decide) rfl (Nat.le_of_ble_eq_true rfl) ⟨Nat.le_of_ble_eq_true rfl, Nat.le_of_ble_eq_true rfl, Nat.zero_le _, Nat.zero_le _⟩ ⟨rfl, rfl⟩ (fun D16 E17 hz15 => ?_)
              obtain ⟨hF9, hC9, hqE⟩ := hz15
              obtain rfl := hqE.symm
              refine r_iinc (nI (k + 1)) [(2, .int (nI (k + 1))), (0, .ref (B + 219)), (1, .int (nI n))] dX6_hours_69 rfl (nI_1 _) (by decide) rfl ?_
              refine r_goto (tgt := 50) dX6_hours_72 (by decide) ?_
              exact r_lv [(2, .int (nI (k + 1))), (0, .ref (B + 219)), (1, .int (nI n))] (List.forall_mem_cons.mpr ⟨rfl, List.forall_mem_cons.mpr ⟨rfl, List.forall_mem_cons.mpr ⟨rfl, fun _ h => absurd h List.not_mem_nil⟩⟩⟩) (ih (k + 1) D16 (by omega) (by omega) (⟨hC9, KM_l hKK (fun q a b => hF9 q a b), (iH.kx hKX).l (fun q a b => hF9 q a b), push_ok iA (s_ak_le hk2 k) hLKk t4 (s_hours_0 k)⟩))
        exact r_lv [(2, .int (nI 0)), (0, .ref (B + 219)), (1, .int (nI n))] (List.forall_mem_cons.mpr ⟨rfl, List.forall_mem_cons.mpr ⟨rfl, List.forall_mem_cons.mpr ⟨rfl, fun _ h => absurd h List.not_mem_nil⟩⟩⟩) (L (n + 1) 0 (thD D) (by omega) (by omega) (⟨hM, hK, HM.th, hAA⟩))
      · skip
        rw [nI_leI (by omega) (by omega)] at c42
        refine r_ldc wc_X6_84 dX6_hours_45 ?_
        refine r_iret2 dX6_hours_47 rfl ⟨Nat.zero_le _, Nat.zero_le _⟩ ?_
        unfold a_hours
        rw [if_pos c9, if_pos c24, nI_clamp (by omega), if_neg c42]
        exact ⟨rfl, hXK, HM.th, rfl⟩
    · skip
      rw [bI_0] at c24
      refine r_ldc wc_X6_74 dX6_hours_27 ?_
      refine r_iret2 dX6_hours_29 rfl ⟨Nat.zero_le _, Nat.zero_le _⟩ ?_
      unfold a_hours
      rw [if_pos c9, if_neg c24]
      exact ⟨rfl, hXK, HM.th, rfl⟩
  · skip
    rw [bI_0] at c9
    refine r_ldc wc_X6_196 dX6_hours_12 ?_
    refine r_iret2 dX6_hours_14 rfl ⟨Nat.zero_le _, Nat.zero_le _⟩ ?_
    unfold a_hours
    rw [if_neg c9]
    exact ⟨rfl, hXK, HM.th, rfl⟩
