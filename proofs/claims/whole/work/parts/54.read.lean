set_option maxRecDepth 100000 in
set_option maxHeartbeats 4000000 in
theorem c_X5_land (B : Nat) (D : DD) (E : EE) (wy : Nat → Nat) (r : Row) (kp : Nat) (A : Nat → Row) (hX : XLK D wy r kp A) (t : TPt) (hT : TP D t) (lf : Int32) (hlf : D 0 14 = lf) (y : PSt × Row) (hy : s_pk t 120 = y) (hDB : DB D) : MR yX5_land cX5_land 1 (some .int) rX5_land B [.ref (B + 0)] Z0 D E (Q2 Z0 (pI (fun v D' E' => (v = (a_land y lf r kp A wy).1 ∧ D' 0 14 = (a_land y lf r kp A wy).2.1 ∧ XLK D' (a_land y lf r kp A wy).2.2.2 (a_land y lf r kp A wy).2.2.1.1 (a_land y lf r kp A wy).2.2.1.2.1 (a_land y lf r kp A wy).2.2.1.2.2 ∧ TP D' (0, t.2) ∧ (∀ q, q ≠ 0 → (q < 13 ∨ 173 ≤ q) → (q < 179 ∨ 190 < q) → D' q = D q) ∧ (∀ f, f ≠ 14 → D' 0 f = D 0 f) ∧ DB D') ∧ E' = E))) := by
  have e2 := hT.2.1
  refine r_enter [(0, .ref (B + 0))] hv_X5_land.1.2.2.2.2 (Nat.le_of_ble_eq_true rfl) rfl ?_
  refine r_aload_n dX5_land_0 rfl ?_
  refine r_callVV (As := []) (o := 0) (c_X5_readText B D E hDB t hT) hv_X5_readText wm_X5_123 dX5_land_1 rfl rfl z_0 k_0 (by decide) rfl (Nat.le_of_ble_eq_true rfl) ⟨Nat.le_of_ble_eq_true rfl, Nat.le_of_ble_eq_true rfl, Nat.zero_le _, Nat.zero_le _⟩ ⟨rfl, rfl⟩ (fun D2 E3 hz1 => ?_)
  obtain ⟨⟨hS1, hL1, hf1, hB1⟩, hqE⟩ := hz1
  obtain rfl := hqE.symm
  have hPI := (PI_pk e2 120).1
  rw [hy] at hS1 hL1 hPI
  refine r_aload_n dX5_land_4 rfl ?_
  refine r_getR (ci := 5) (k := 1) wf_X5_19 dX5_land_5 z_0 k_0 (by decide) (by decide) (fun _ _ => rfl) f_0_1 ?_
  refine r_iconst (nI 0) dX5_land_8 (by decide) ?_
  refine r_putI (ci := 4) (k := 1) wf_X5_115 dX5_land_9 z_13 k_13 (by decide) (by decide) rfl rfl (fun D4 hD4 => ?_)
  have hb3 : y.1.2.1 ≤ 3 := hS1.2.2.2.2.2.1
  have hT0 : TP D4 (0, t.2) := by rw [hD4]; exact ⟨up2_s, Nat.zero_le _, fun j hj => absurd hj (Nat.not_lt_zero j)⟩
  have hf2 : ∀ q, q ≠ 13 → (q < 179 ∨ 190 < q) → D4 q = D q := fun q a b => by rw [hD4]; exact (up2_o a).trans (hf1 q a b)
  have h133 : D4 13 3 = nI y.1.2.1 := by rw [hD4]; exact (up2_n (by decide)).trans hS1.2.2.1
  have h134 : ¬ y.1.2.1 = 0 → D4 13 4 = nI y.1.2.2 := fun q9 => by rw [hD4]; exact (up2_n (by decide)).trans (hS1.2.2.2.1.resolve_left q9)
  have hg9 : ∀ q, 179 ≤ q → q ≤ 190 → D4 q = D2 q := fun q a b => by rw [hD4]; exact up2_o (by omega)
  refine r_aload_n dX5_land_12 rfl ?_
  refine r_getR (ci := 5) (k := 1) wf_X5_19 dX5_land_13 z_0 k_0 (by decide) (by decide) (fun _ _ => rfl) f_0_1 ?_
  refine r_getI (ci := 4) (k := 3) wf_X5_126 dX5_land_16 z_13 k_13 (by decide) (by decide) rfl (fun z5 hz5 => ?_)
  obtain rfl : z5 = nI y.1.2.1 := hz5.trans h133
  refine r_if_eq (tgt := 44) dX5_land_19 (by decide) (fun c19 => ?_) (fun c19 => ?_)
  · skip
    rw [nI_z (by omega)] at c19
    refine r_aload_n dX5_land_44 rfl ?_
    refine r_getR (ci := 5) (k := 2) wf_X5_26 dX5_land_45 z_0 k_0 (by decide) (by decide) (fun _ _ => rfl) f_0_2 ?_
    refine r_aload_n dX5_land_48 rfl ?_
    refine r_getR (ci := 5) (k := 6) wf_X5_47 dX5_land_49 z_0 k_0 (by decide) (by decide) (fun _ _ => rfl) f_0_6 ?_
    refine r_callVV (As := [.ref (B + 179)]) (o := 15) (c_X1_take B D4 E 15 179 (isL_in 15 (by decide)) (isL_in 179 (by decide)) (fun i j hi hj => by omega)) hv_X1_take wm_X5_136 dX5_land_52 rfl rfl z_15 k_15 (by decide) rfl (Nat.le_of_ble_eq_true rfl) ⟨Nat.le_of_ble_eq_true rfl, Nat.le_of_ble_eq_true rfl, Nat.zero_le _, Nat.zero_le _⟩ ⟨rfl, rfl⟩ (fun D7 E8 hz6 => ?_)
    obtain ⟨hqD, hqE⟩ := hz6
    obtain rfl := hqE.symm
    have hk1 : D7 = takeL D4 15 179 := hqD
    refine r_aload_n dX5_land_55 rfl ?_
    refine r_getR (ci := 5) (k := 3) wf_X5_33 dX5_land_56 z_0 k_0 (by decide) (by decide) (fun _ _ => rfl) f_0_3 ?_
    refine r_aload_n dX5_land_59 rfl ?_
    refine r_getR (ci := 5) (k := 7) wf_X5_50 dX5_land_60 z_0 k_0 (by decide) (by decide) (fun _ _ => rfl) f_0_7 ?_
    refine r_callVV (As := [.ref (B + 185)]) (o := 21) (c_X0_take B D7 E 21 185 (isC_in 21 (by decide)) (isC_in 185 (by decide)) (fun i j hi hj => by omega)) hv_X0_take wm_X5_140 dX5_land_63 rfl rfl z_21 k_21 (by decide) rfl (Nat.le_of_ble_eq_true rfl) ⟨Nat.le_of_ble_eq_true rfl, Nat.le_of_ble_eq_true rfl, Nat.zero_le _, Nat.zero_le _⟩ ⟨rfl, rfl⟩ (fun D10 E11 hz9 => ?_)
    obtain ⟨hqD, hqE⟩ := hz9
    obtain rfl := hqE.symm
    have hk2 : D10 = takeD D7 21 185 := hqD
    refine r_aload_n dX5_land_66 rfl ?_
    refine r_getR (ci := 5) (k := 4) wf_X5_40 dX5_land_67 z_0 k_0 (by decide) (by decide) (fun _ _ => rfl) f_0_4 ?_
    refine r_callVV (As := []) (o := 27) (c_X2_forget B D10 E) hv_X2_forget wm_X5_143 dX5_land_70 rfl rfl z_27 k_27 (by decide) rfl (Nat.le_of_ble_eq_true rfl) ⟨Nat.le_of_ble_eq_true rfl, Nat.le_of_ble_eq_true rfl, Nat.zero_le _, Nat.zero_le _⟩ ⟨rfl, rfl⟩ (fun D13 E14 hz12 => ?_)
    obtain ⟨hqD, hqE⟩ := hz12
    obtain rfl := hqE.symm
    have hLC := hL1 c19
    obtain ⟨-, -, -, -, nx, hk01, -, hk03, -⟩ := id hX
    have hO := hPI.2 c19
    have hXL := XLK_ld (A := A) (nx := nx) ((congrFun (hf2 27 (by decide) (by decide)) 1).trans hk01) hk03 hO.1 (far_WY hO.2.1) (CA_eq (D' := D4) hLC.2 (fun j hj => hg9 _ (by omega) (by omega))) (LA_eq (D' := D4) hLC.1 (fun j hj => hg9 _ (by omega) (by omega)))
    have hk3 : D13 = ldD D4 := by
      rw [hqD]
      unfold ldD
      rw [hk2, hk1, take_fr (i := 27) (fun j hj => by omega), takeL_fr (i := 27) (fun j hj => by omega)]
    rw [← hk3] at hXL
    refine r_aload_n dX5_land_73 rfl ?_
    refine r_getR (ci := 5) (k := 2) wf_X5_26 dX5_land_74 z_0 k_0 (by decide) (by decide) (fun _ _ => rfl) f_0_2 ?_
    refine r_getI (ci := 1) (k := 4) wf_X5_146 dX5_land_77 z_15 k_15 (by decide) (by decide) rfl (fun z15 hz15 => ?_)
    obtain rfl : z15 = nI (y.2 5) := hz15.trans hXL.2.2.1.1.2.2.2.2
    refine r_iret2 dX5_land_80 rfl ⟨Nat.zero_le _, Nat.zero_le _⟩ ?_
    have ea : a_land y lf r kp A wy = (nI (y.2 5), lf, (y.2, 0, A), s_far y.2) := if_pos c19
    rw [ea]
    refine ⟨⟨rfl, ?_, hXL, ?_, fun q a b c => ?_, fun f hf => ?_, ?_⟩, rfl⟩
    · rw [hk3, ldD_fr (by decide) (by decide)]
      exact (congrFun (hf2 0 (by decide) (by decide)) 14).trans hlf
    · rw [hk3]
      refine ⟨?_, hT0.2.1, fun j hj => absurd hj (Nat.not_lt_zero j)⟩
      rw [ldD_fr (by decide) (by decide)]
      exact hT0.1
    · rw [hk3, ldD_fr (by omega) (by omega)]
      exact hf2 q (by omega) c
    · rw [hk3, ldD_fr (by decide) (by decide)]
      exact congrFun (hf2 0 (by decide) (by decide)) f
    · rw [hk3]
      exact DB_f hB1 ((ldD_fr (by decide) (by decide)).trans (hg9 185 (by decide) (by decide))) ((ldD_fr (by decide) (by decide)).trans (hg9 189 (by decide) (by decide)))
  · skip
    rw [nI_z (by omega)] at c19
    refine r_aload_n dX5_land_22 rfl ?_
    refine r_aload_n dX5_land_23 rfl ?_
    refine r_getR (ci := 5) (k := 1) wf_X5_19 dX5_land_24 z_0 k_0 (by decide) (by decide) (fun _ _ => rfl) f_0_1 ?_
    refine r_getI (ci := 4) (k := 3) wf_X5_126 dX5_land_27 z_13 k_13 (by decide) (by decide) rfl (fun z16 hz16 => ?_)
    obtain rfl : z16 = nI y.1.2.1 := hz16.trans h133
    refine r_putI (ci := 5) (k := 14) wf_X5_129 dX5_land_30 z_0 k_0 (by decide) (by decide) rfl rfl (fun D17 hD17 => ?_)
    have h14 := hD17
    have h135 : D17 13 4 = nI y.1.2.2 := by rw [hD17]; exact (congrFun (up2_o (by decide)) 4).trans (h134 c19)
    refine r_ldc wc_X5_132 dX5_land_33 ?_
    refine r_aload_n dX5_land_35 rfl ?_
    refine r_getR (ci := 5) (k := 1) wf_X5_19 dX5_land_36 z_0 k_0 (by decide) (by decide) (fun _ _ => rfl) f_0_1 ?_
    refine r_getI (ci := 4) (k := 4) wf_X5_133 dX5_land_39 z_13 k_13 (by decide) (by decide) rfl (fun z18 hz18 => ?_)
    obtain rfl : z18 = nI y.1.2.2 := hz18.trans h135
    refine r_isub dX5_land_42 (fun z19 hz19 => ?_)
    subst hz19
    refine r_iret2 dX5_land_43 rfl ⟨Nat.zero_le _, Nat.zero_le _⟩ ?_
    have ea : a_land y lf r kp A wy = (-1000100 - nI y.1.2.2, nI y.1.2.1, (r, kp, A), wy) := if_neg c19
    rw [ea]
    have hq0 : ∀ q, q ≠ 0 → q ≠ 13 → (q < 179 ∨ 190 < q) → D17 q = D q := fun q a b c => by rw [h14]; exact (up2_o a).trans (hf2 q b c)
    obtain ⟨x1, x2, x3, x4, nx, x5⟩ := hX
    refine ⟨⟨rfl, by rw [h14]; exact up2_s, ⟨x1, CA_eq x2 (fun j hj => hq0 _ (by omega) (by omega) (by omega)), LA_eq x3 (fun j hj => hq0 _ (by omega) (by omega) (by omega)), x4, nx, KA_eq x5 (fun q hq => hq0 q (by omega) (by omega) (by omega))⟩, ?_, fun q a b c => hq0 q a (by omega) c, fun f hf => ?_, DB_f hB1 (by rw [h14]; exact (up2_o (by decide)).trans (hg9 185 (by decide) (by decide))) (by rw [h14]; exact (up2_o (by decide)).trans (hg9 189 (by decide) (by decide)))⟩, rfl⟩
    · rw [h14]
      exact ⟨(congrFun (up2_o (by decide)) 1).trans hT0.1, hT0.2.1, fun j hj => absurd hj (Nat.not_lt_zero j)⟩
    · rw [h14]
      exact (up2_n (fun e => hf e.2)).trans (congrFun (hf2 0 (by decide) (by decide)) f)
