set_option maxRecDepth 100000 in
set_option maxHeartbeats 4000000 in
theorem c_X0_take (B : Nat) (D : DD) (E : EE) (o q : Nat) (ho : isC o) (hq : isC q) (hd : DJ o q) : MR yX0_take cX0_take 2 none rX0_take B [.ref (B + o), .ref (B + q)] Z0 D E (Q2 Z0 (pV (fun D' E' => D' = takeD D o q ∧ E' = E))) := by
  have x00 := hd 0 0 (by decide) (by decide)
  have x01 := hd 0 1 (by decide) (by decide)
  have x02 := hd 0 2 (by decide) (by decide)
  have x03 := hd 0 3 (by decide) (by decide)
  have x04 := hd 0 4 (by decide) (by decide)
  have x10 := hd 1 0 (by decide) (by decide)
  have x11 := hd 1 1 (by decide) (by decide)
  have x12 := hd 1 2 (by decide) (by decide)
  have x13 := hd 1 3 (by decide) (by decide)
  have x14 := hd 1 4 (by decide) (by decide)
  have x20 := hd 2 0 (by decide) (by decide)
  have x21 := hd 2 1 (by decide) (by decide)
  have x22 := hd 2 2 (by decide) (by decide)
  have x23 := hd 2 3 (by decide) (by decide)
  have x24 := hd 2 4 (by decide) (by decide)
  have x30 := hd 3 0 (by decide) (by decide)
  have x31 := hd 3 1 (by decide) (by decide)
  have x32 := hd 3 2 (by decide) (by decide)
  have x33 := hd 3 3 (by decide) (by decide)
  have x34 := hd 3 4 (by decide) (by decide)
  have x40 := hd 4 0 (by decide) (by decide)
  have x41 := hd 4 1 (by decide) (by decide)
  have x42 := hd 4 2 (by decide) (by decide)
  have x43 := hd 4 3 (by decide) (by decide)
  have x44 := hd 4 4 (by decide) (by decide)
  refine r_enter [(0, .ref (B + o)), (1, .ref (B + q))] hv_X0_take.1.2.2.2.2 (Nat.le_of_ble_eq_true rfl) rfl ?_
  refine r_aload_n dX0_take_0 rfl ?_
  refine r_aload_n dX0_take_1 rfl ?_
  refine r_getI (ci := 0) (k := 0) wf_X0_27 dX0_take_2 hq.1.1 hq.2.1.1 (by decide) (by decide) rfl (fun z1 hz1 => ?_)
  obtain rfl : z1 = D q 0 := hz1
  refine r_putI (ci := 0) (k := 0) wf_X0_27 dX0_take_5 ho.1.1 ho.2.1.1 (by decide) (by decide) rfl rfl (fun D2 hD2 => ?_)
  obtain rfl : D2 = upo D o (upd (D o) 0 (D q 0)) := hD2.trans up2_eq
  refine r_aload_n dX0_take_8 rfl ?_
  refine r_aload_n dX0_take_9 rfl ?_
  refine r_getI (ci := 0) (k := 1) wf_X0_31 dX0_take_10 hq.1.1 hq.2.1.1 (by decide) (by decide) rfl (fun z3 hz3 => ?_)
  obtain rfl : z3 = D q 1 := hz3.trans (congrFun (upo_n (by omega)) _)
  refine r_putI (ci := 0) (k := 1) wf_X0_31 dX0_take_13 ho.1.1 ho.2.1.1 (by decide) (by decide) rfl rfl (fun D4 hD4 => ?_)
  obtain rfl : D4 = upo D o (upd (upd (D o) 0 (D q 0)) 1 (D q 1)) := hD4.trans up2_upo
  refine r_aload_n dX0_take_16 rfl ?_
  refine r_aload_n dX0_take_17 rfl ?_
  refine r_getI (ci := 0) (k := 2) wf_X0_34 dX0_take_18 hq.1.1 hq.2.1.1 (by decide) (by decide) rfl (fun z5 hz5 => ?_)
  obtain rfl : z5 = D q 2 := hz5.trans (congrFun (upo_n (by omega)) _)
  refine r_putI (ci := 0) (k := 2) wf_X0_34 dX0_take_21 ho.1.1 ho.2.1.1 (by decide) (by decide) rfl rfl (fun D6 hD6 => ?_)
  obtain rfl : D6 = upo D o (upd (upd (upd (D o) 0 (D q 0)) 1 (D q 1)) 2 (D q 2)) := hD6.trans up2_upo
  refine r_aload_n dX0_take_24 rfl ?_
  refine r_aload_n dX0_take_25 rfl ?_
  refine r_getI (ci := 0) (k := 3) wf_X0_37 dX0_take_26 hq.1.1 hq.2.1.1 (by decide) (by decide) rfl (fun z7 hz7 => ?_)
  obtain rfl : z7 = D q 3 := hz7.trans (congrFun (upo_n (by omega)) _)
  refine r_putI (ci := 0) (k := 3) wf_X0_37 dX0_take_29 ho.1.1 ho.2.1.1 (by decide) (by decide) rfl rfl (fun D8 hD8 => ?_)
  obtain rfl : D8 = upo D o (upd (upd (upd (upd (D o) 0 (D q 0)) 1 (D q 1)) 2 (D q 2)) 3 (D q 3)) := hD8.trans up2_upo
  refine r_aload_n dX0_take_32 rfl ?_
  refine r_aload_n dX0_take_33 rfl ?_
  refine r_getI (ci := 0) (k := 4) wf_X0_40 dX0_take_34 hq.1.1 hq.2.1.1 (by decide) (by decide) rfl (fun z9 hz9 => ?_)
  obtain rfl : z9 = D q 4 := hz9.trans (congrFun (upo_n (by omega)) _)
  refine r_putI (ci := 0) (k := 4) wf_X0_40 dX0_take_37 ho.1.1 ho.2.1.1 (by decide) (by decide) rfl rfl (fun D10 hD10 => ?_)
  obtain rfl : D10 = upo D o (upd (upd (upd (upd (upd (D o) 0 (D q 0)) 1 (D q 1)) 2 (D q 2)) 3 (D q 3)) 4 (D q 4)) := hD10.trans up2_upo
  refine r_aload_n dX0_take_40 rfl ?_
  refine r_aload_n dX0_take_41 rfl ?_
  refine r_getI (ci := 0) (k := 5) wf_X0_43 dX0_take_42 hq.1.1 hq.2.1.1 (by decide) (by decide) rfl (fun z11 hz11 => ?_)
  obtain rfl : z11 = D q 5 := hz11.trans (congrFun (upo_n (by omega)) _)
  refine r_putI (ci := 0) (k := 5) wf_X0_43 dX0_take_45 ho.1.1 ho.2.1.1 (by decide) (by decide) rfl rfl (fun D12 hD12 => ?_)
  obtain rfl : D12 = upo D o (fr6 (D o) (D q)) := hD12.trans up2_upo
  refine r_aload_n dX0_take_48 rfl ?_
  refine r_getR (ci := 0) (k := 6) wf_X0_9 dX0_take_49 hq.1.1 hq.2.1.1 (by decide) (by decide) (fun _ _ => rfl) hq.2.2.1 ?_
  refine r_iconst (nI 0) dX0_take_52 (by decide) ?_
  refine r_aload_n dX0_take_53 rfl ?_
  refine r_getR (ci := 0) (k := 6) wf_X0_9 dX0_take_54 ho.1.1 ho.2.1.1 (by decide) (by decide) (fun _ _ => rfl) ho.2.2.1 ?_
  refine r_iconst (nI 0) dX0_take_57 (by decide) ?_
  refine r_bipush (nI 6) dX0_take_58 (by decide) ?_
  refine r_copyi wm_X0_46 dX0_take_60 hq.1.2.1 hq.2.1.2.1 ho.1.2.1 ho.2.1.2.1 (by decide) (by decide) (by decide) (by decide) (by decide) (Nat.le_of_ble_eq_true rfl) (Nat.le_of_ble_eq_true rfl) (fun D13 hD13 => ?_)
  obtain rfl : D13 = upo (upo D o (fr6 (D o) (D q))) (o + 1) (cpn 6 (D (q + 1)) (D (o + 1))) := hD13.trans (congrArg (upo (upo D o (fr6 (D o) (D q))) (o + 1)) ((cpy_n (by decide)).trans (by rw [show (upo D o (fr6 (D o) (D q))) (q + 1) = D (q + 1) from upo_n (by omega), show (upo D o (fr6 (D o) (D q))) (o + 1) = D (o + 1) from upo_n (by omega)])))
  refine r_aload_n dX0_take_63 rfl ?_
  refine r_getR (ci := 0) (k := 7) wf_X0_15 dX0_take_64 hq.1.1 hq.2.1.1 (by decide) (by decide) (fun _ _ => rfl) hq.2.2.2.1 ?_
  refine r_iconst (nI 0) dX0_take_67 (by decide) ?_
  refine r_aload_n dX0_take_68 rfl ?_
  refine r_getR (ci := 0) (k := 7) wf_X0_15 dX0_take_69 ho.1.1 ho.2.1.1 (by decide) (by decide) (fun _ _ => rfl) ho.2.2.2.1 ?_
  refine r_iconst (nI 0) dX0_take_72 (by decide) ?_
  refine r_bipush (nI 6) dX0_take_73 (by decide) ?_
  refine r_copyi wm_X0_46 dX0_take_75 hq.1.2.2.1 hq.2.1.2.2.1 ho.1.2.2.1 ho.2.1.2.2.1 (by decide) (by decide) (by decide) (by decide) (by decide) (Nat.le_of_ble_eq_true rfl) (Nat.le_of_ble_eq_true rfl) (fun D14 hD14 => ?_)
  obtain rfl : D14 = upo (upo (upo D o (fr6 (D o) (D q))) (o + 1) (cpn 6 (D (q + 1)) (D (o + 1)))) (o + 2) (cpn 6 (D (q + 2)) (D (o + 2))) := hD14.trans (congrArg (upo (upo (upo D o (fr6 (D o) (D q))) (o + 1) (cpn 6 (D (q + 1)) (D (o + 1)))) (o + 2)) ((cpy_n (by decide)).trans (by rw [show (upo (upo D o (fr6 (D o) (D q))) (o + 1) (cpn 6 (D (q + 1)) (D (o + 1)))) (q + 2) = D (q + 2) from (upo_n (by omega)).trans (upo_n (by omega)), show (upo (upo D o (fr6 (D o) (D q))) (o + 1) (cpn 6 (D (q + 1)) (D (o + 1)))) (o + 2) = D (o + 2) from (upo_n (by omega)).trans (upo_n (by omega))])))
  refine r_aload_n dX0_take_78 rfl ?_
  refine r_getR (ci := 0) (k := 8) wf_X0_18 dX0_take_79 hq.1.1 hq.2.1.1 (by decide) (by decide) (fun _ _ => rfl) hq.2.2.2.2.1 ?_
  refine r_iconst (nI 0) dX0_take_82 (by decide) ?_
  refine r_aload_n dX0_take_83 rfl ?_
  refine r_getR (ci := 0) (k := 8) wf_X0_18 dX0_take_84 ho.1.1 ho.2.1.1 (by decide) (by decide) (fun _ _ => rfl) ho.2.2.2.2.1 ?_
  refine r_iconst (nI 0) dX0_take_87 (by decide) ?_
  refine r_bipush (nI 6) dX0_take_88 (by decide) ?_
  refine r_copyi wm_X0_46 dX0_take_90 hq.1.2.2.2.1 hq.2.1.2.2.2.1 ho.1.2.2.2.1 ho.2.1.2.2.2.1 (by decide) (by decide) (by decide) (by decide) (by decide) (Nat.le_of_ble_eq_true rfl) (Nat.le_of_ble_eq_true rfl) (fun D15 hD15 => ?_)
  obtain rfl : D15 = upo (upo (upo (upo D o (fr6 (D o) (D q))) (o + 1) (cpn 6 (D (q + 1)) (D (o + 1)))) (o + 2) (cpn 6 (D (q + 2)) (D (o + 2)))) (o + 3) (cpn 6 (D (q + 3)) (D (o + 3))) := hD15.trans (congrArg (upo (upo (upo (upo D o (fr6 (D o) (D q))) (o + 1) (cpn 6 (D (q + 1)) (D (o + 1)))) (o + 2) (cpn 6 (D (q + 2)) (D (o + 2)))) (o + 3)) ((cpy_n (by decide)).trans (by rw [show (upo (upo (upo D o (fr6 (D o) (D q))) (o + 1) (cpn 6 (D (q + 1)) (D (o + 1)))) (o + 2) (cpn 6 (D (q + 2)) (D (o + 2)))) (q + 3) = D (q + 3) from (upo_n (by omega)).trans ((upo_n (by omega)).trans (upo_n (by omega))), show (upo (upo (upo D o (fr6 (D o) (D q))) (o + 1) (cpn 6 (D (q + 1)) (D (o + 1)))) (o + 2) (cpn 6 (D (q + 2)) (D (o + 2)))) (o + 3) = D (o + 3) from (upo_n (by omega)).trans ((upo_n (by omega)).trans (upo_n (by omega)))])))
  refine r_aload_n dX0_take_93 rfl ?_
  refine r_getR (ci := 0) (k := 9) wf_X0_21 dX0_take_94 hq.1.1 hq.2.1.1 (by decide) (by decide) (fun _ _ => rfl) hq.2.2.2.2.2.1 ?_
  refine r_iconst (nI 0) dX0_take_97 (by decide) ?_
  refine r_aload_n dX0_take_98 rfl ?_
  refine r_getR (ci := 0) (k := 9) wf_X0_21 dX0_take_99 ho.1.1 ho.2.1.1 (by decide) (by decide) (fun _ _ => rfl) ho.2.2.2.2.2.1 ?_
  refine r_iconst (nI 0) dX0_take_102 (by decide) ?_
  refine r_bipush (nI 6) dX0_take_103 (by decide) ?_
  refine r_copyi wm_X0_46 dX0_take_105 hq.1.2.2.2.2.1 hq.2.1.2.2.2.2.1 ho.1.2.2.2.2.1 ho.2.1.2.2.2.2.1 (by decide) (by decide) (by decide) (by decide) (by decide) (Nat.le_of_ble_eq_true rfl) (Nat.le_of_ble_eq_true rfl) (fun D16 hD16 => ?_)
  obtain rfl : D16 = upo (upo (upo (upo (upo D o (fr6 (D o) (D q))) (o + 1) (cpn 6 (D (q + 1)) (D (o + 1)))) (o + 2) (cpn 6 (D (q + 2)) (D (o + 2)))) (o + 3) (cpn 6 (D (q + 3)) (D (o + 3)))) (o + 4) (cpn 6 (D (q + 4)) (D (o + 4))) := hD16.trans (congrArg (upo (upo (upo (upo (upo D o (fr6 (D o) (D q))) (o + 1) (cpn 6 (D (q + 1)) (D (o + 1)))) (o + 2) (cpn 6 (D (q + 2)) (D (o + 2)))) (o + 3) (cpn 6 (D (q + 3)) (D (o + 3)))) (o + 4)) ((cpy_n (by decide)).trans (by rw [show (upo (upo (upo (upo D o (fr6 (D o) (D q))) (o + 1) (cpn 6 (D (q + 1)) (D (o + 1)))) (o + 2) (cpn 6 (D (q + 2)) (D (o + 2)))) (o + 3) (cpn 6 (D (q + 3)) (D (o + 3)))) (q + 4) = D (q + 4) from (upo_n (by omega)).trans ((upo_n (by omega)).trans ((upo_n (by omega)).trans (upo_n (by omega)))), show (upo (upo (upo (upo D o (fr6 (D o) (D q))) (o + 1) (cpn 6 (D (q + 1)) (D (o + 1)))) (o + 2) (cpn 6 (D (q + 2)) (D (o + 2)))) (o + 3) (cpn 6 (D (q + 3)) (D (o + 3)))) (o + 4) = D (o + 4) from (upo_n (by omega)).trans ((upo_n (by omega)).trans ((upo_n (by omega)).trans (upo_n (by omega))))])))
  refine r_vret2 dX0_take_108 rfl ⟨Nat.zero_le _, Nat.zero_le _⟩ ?_
  exact ⟨rfl, rfl⟩
set_option maxRecDepth 100000 in
set_option maxHeartbeats 4000000 in
theorem c_X1_take (B : Nat) (D : DD) (E : EE) (o q : Nat) (ho : isL o) (hq : isL q) (hd : DJ o q) : MR yX1_take cX1_take 2 none rX1_take B [.ref (B + o), .ref (B + q)] Z0 D E (Q2 Z0 (pV (fun D' E' => D' = takeL D o q ∧ E' = E))) := by
  have x00 := hd 0 0 (by decide) (by decide)
  have x01 := hd 0 1 (by decide) (by decide)
  have x02 := hd 0 2 (by decide) (by decide)
  have x03 := hd 0 3 (by decide) (by decide)
  have x04 := hd 0 4 (by decide) (by decide)
  have x05 := hd 0 5 (by decide) (by decide)
  have x10 := hd 1 0 (by decide) (by decide)
  have x11 := hd 1 1 (by decide) (by decide)
  have x12 := hd 1 2 (by decide) (by decide)
  have x13 := hd 1 3 (by decide) (by decide)
  have x14 := hd 1 4 (by decide) (by decide)
  have x15 := hd 1 5 (by decide) (by decide)
  have x20 := hd 2 0 (by decide) (by decide)
  have x21 := hd 2 1 (by decide) (by decide)
  have x22 := hd 2 2 (by decide) (by decide)
  have x23 := hd 2 3 (by decide) (by decide)
  have x24 := hd 2 4 (by decide) (by decide)
  have x25 := hd 2 5 (by decide) (by decide)
  have x30 := hd 3 0 (by decide) (by decide)
  have x31 := hd 3 1 (by decide) (by decide)
  have x32 := hd 3 2 (by decide) (by decide)
  have x33 := hd 3 3 (by decide) (by decide)
  have x34 := hd 3 4 (by decide) (by decide)
  have x35 := hd 3 5 (by decide) (by decide)
  have x40 := hd 4 0 (by decide) (by decide)
  have x41 := hd 4 1 (by decide) (by decide)
  have x42 := hd 4 2 (by decide) (by decide)
  have x43 := hd 4 3 (by decide) (by decide)
  have x44 := hd 4 4 (by decide) (by decide)
  have x45 := hd 4 5 (by decide) (by decide)
  have x50 := hd 5 0 (by decide) (by decide)
  have x51 := hd 5 1 (by decide) (by decide)
  have x52 := hd 5 2 (by decide) (by decide)
  have x53 := hd 5 3 (by decide) (by decide)
  have x54 := hd 5 4 (by decide) (by decide)
  have x55 := hd 5 5 (by decide) (by decide)
  refine r_enter [(0, .ref (B + o)), (1, .ref (B + q))] hv_X1_take.1.2.2.2.2 (Nat.le_of_ble_eq_true rfl) rfl ?_
  refine r_aload_n dX1_take_0 rfl ?_
  refine r_aload_n dX1_take_1 rfl ?_
  refine r_getI (ci := 1) (k := 0) wf_X1_34 dX1_take_2 hq.1.1 hq.2.1.1 (by decide) (by decide) rfl (fun z1 hz1 => ?_)
  obtain rfl : z1 = D q 0 := hz1
  refine r_putI (ci := 1) (k := 0) wf_X1_34 dX1_take_5 ho.1.1 ho.2.1.1 (by decide) (by decide) rfl rfl (fun D2 hD2 => ?_)
  obtain rfl : D2 = upo D o (upd (D o) 0 (D q 0)) := hD2.trans up2_eq
  refine r_aload_n dX1_take_8 rfl ?_
  refine r_aload_n dX1_take_9 rfl ?_
  refine r_getI (ci := 1) (k := 1) wf_X1_37 dX1_take_10 hq.1.1 hq.2.1.1 (by decide) (by decide) rfl (fun z3 hz3 => ?_)
  obtain rfl : z3 = D q 1 := hz3.trans (congrFun (upo_n (by omega)) _)
  refine r_putI (ci := 1) (k := 1) wf_X1_37 dX1_take_13 ho.1.1 ho.2.1.1 (by decide) (by decide) rfl rfl (fun D4 hD4 => ?_)
  obtain rfl : D4 = upo D o (upd (upd (D o) 0 (D q 0)) 1 (D q 1)) := hD4.trans up2_upo
  refine r_aload_n dX1_take_16 rfl ?_
  refine r_aload_n dX1_take_17 rfl ?_
  refine r_getI (ci := 1) (k := 2) wf_X1_40 dX1_take_18 hq.1.1 hq.2.1.1 (by decide) (by decide) rfl (fun z5 hz5 => ?_)
  obtain rfl : z5 = D q 2 := hz5.trans (congrFun (upo_n (by omega)) _)
  refine r_putI (ci := 1) (k := 2) wf_X1_40 dX1_take_21 ho.1.1 ho.2.1.1 (by decide) (by decide) rfl rfl (fun D6 hD6 => ?_)
  obtain rfl : D6 = upo D o (upd (upd (upd (D o) 0 (D q 0)) 1 (D q 1)) 2 (D q 2)) := hD6.trans up2_upo
  refine r_aload_n dX1_take_24 rfl ?_
  refine r_aload_n dX1_take_25 rfl ?_
  refine r_getI (ci := 1) (k := 3) wf_X1_27 dX1_take_26 hq.1.1 hq.2.1.1 (by decide) (by decide) rfl (fun z7 hz7 => ?_)
  obtain rfl : z7 = D q 3 := hz7.trans (congrFun (upo_n (by omega)) _)
  refine r_putI (ci := 1) (k := 3) wf_X1_27 dX1_take_29 ho.1.1 ho.2.1.1 (by decide) (by decide) rfl rfl (fun D8 hD8 => ?_)
  obtain rfl : D8 = upo D o (upd (upd (upd (upd (D o) 0 (D q 0)) 1 (D q 1)) 2 (D q 2)) 3 (D q 3)) := hD8.trans up2_upo
  refine r_aload_n dX1_take_32 rfl ?_
  refine r_aload_n dX1_take_33 rfl ?_
  refine r_getI (ci := 1) (k := 4) wf_X1_31 dX1_take_34 hq.1.1 hq.2.1.1 (by decide) (by decide) rfl (fun z9 hz9 => ?_)
  obtain rfl : z9 = D q 4 := hz9.trans (congrFun (upo_n (by omega)) _)
  refine r_putI (ci := 1) (k := 4) wf_X1_31 dX1_take_37 ho.1.1 ho.2.1.1 (by decide) (by decide) rfl rfl (fun D10 hD10 => ?_)
  obtain rfl : D10 = upo D o (fr5 (D o) (D q)) := hD10.trans up2_upo
  refine r_aload_n dX1_take_40 rfl ?_
  refine r_getR (ci := 1) (k := 5) wf_X1_9 dX1_take_41 hq.1.1 hq.2.1.1 (by decide) (by decide) (fun _ _ => rfl) hq.2.2.1 ?_
  refine r_iconst (nI 0) dX1_take_44 (by decide) ?_
  refine r_aload_n dX1_take_45 rfl ?_
  refine r_getR (ci := 1) (k := 5) wf_X1_9 dX1_take_46 ho.1.1 ho.2.1.1 (by decide) (by decide) (fun _ _ => rfl) ho.2.2.1 ?_
  refine r_iconst (nI 0) dX1_take_49 (by decide) ?_
  refine r_bipush (nI 6) dX1_take_50 (by decide) ?_
  refine r_copyi wm_X1_43 dX1_take_52 hq.1.2.1 hq.2.1.2.1 ho.1.2.1 ho.2.1.2.1 (by decide) (by decide) (by decide) (by decide) (by decide) (Nat.le_of_ble_eq_true rfl) (Nat.le_of_ble_eq_true rfl) (fun D11 hD11 => ?_)
  obtain rfl : D11 = upo (upo D o (fr5 (D o) (D q))) (o + 1) (cpn 6 (D (q + 1)) (D (o + 1))) := hD11.trans (congrArg (upo (upo D o (fr5 (D o) (D q))) (o + 1)) ((cpy_n (by decide)).trans (by rw [show (upo D o (fr5 (D o) (D q))) (q + 1) = D (q + 1) from upo_n (by omega), show (upo D o (fr5 (D o) (D q))) (o + 1) = D (o + 1) from upo_n (by omega)])))
  refine r_aload_n dX1_take_55 rfl ?_
  refine r_getR (ci := 1) (k := 6) wf_X1_15 dX1_take_56 hq.1.1 hq.2.1.1 (by decide) (by decide) (fun _ _ => rfl) hq.2.2.2.1 ?_
  refine r_iconst (nI 0) dX1_take_59 (by decide) ?_
  refine r_aload_n dX1_take_60 rfl ?_
  refine r_getR (ci := 1) (k := 6) wf_X1_15 dX1_take_61 ho.1.1 ho.2.1.1 (by decide) (by decide) (fun _ _ => rfl) ho.2.2.2.1 ?_
  refine r_iconst (nI 0) dX1_take_64 (by decide) ?_
  refine r_bipush (nI 36) dX1_take_65 (by decide) ?_
  refine r_copyi wm_X1_43 dX1_take_67 hq.1.2.2.1 hq.2.1.2.2.1 ho.1.2.2.1 ho.2.1.2.2.1 (by decide) (by decide) (by decide) (by decide) (by decide) (Nat.le_of_ble_eq_true rfl) (Nat.le_of_ble_eq_true rfl) (fun D12 hD12 => ?_)
  obtain rfl : D12 = upo (upo (upo D o (fr5 (D o) (D q))) (o + 1) (cpn 6 (D (q + 1)) (D (o + 1)))) (o + 2) (cpn 36 (D (q + 2)) (D (o + 2))) := hD12.trans (congrArg (upo (upo (upo D o (fr5 (D o) (D q))) (o + 1) (cpn 6 (D (q + 1)) (D (o + 1)))) (o + 2)) ((cpy_n (by decide)).trans (by rw [show (upo (upo D o (fr5 (D o) (D q))) (o + 1) (cpn 6 (D (q + 1)) (D (o + 1)))) (q + 2) = D (q + 2) from (upo_n (by omega)).trans (upo_n (by omega)), show (upo (upo D o (fr5 (D o) (D q))) (o + 1) (cpn 6 (D (q + 1)) (D (o + 1)))) (o + 2) = D (o + 2) from (upo_n (by omega)).trans (upo_n (by omega))])))
  refine r_aload_n dX1_take_70 rfl ?_
  refine r_getR (ci := 1) (k := 7) wf_X1_18 dX1_take_71 hq.1.1 hq.2.1.1 (by decide) (by decide) (fun _ _ => rfl) hq.2.2.2.2.1 ?_
  refine r_iconst (nI 0) dX1_take_74 (by decide) ?_
  refine r_aload_n dX1_take_75 rfl ?_
  refine r_getR (ci := 1) (k := 7) wf_X1_18 dX1_take_76 ho.1.1 ho.2.1.1 (by decide) (by decide) (fun _ _ => rfl) ho.2.2.2.2.1 ?_
  refine r_iconst (nI 0) dX1_take_79 (by decide) ?_
  refine r_bipush (nI 6) dX1_take_80 (by decide) ?_
  refine r_copyi wm_X1_43 dX1_take_82 hq.1.2.2.2.1 hq.2.1.2.2.2.1 ho.1.2.2.2.1 ho.2.1.2.2.2.1 (by decide) (by decide) (by decide) (by decide) (by decide) (Nat.le_of_ble_eq_true rfl) (Nat.le_of_ble_eq_true rfl) (fun D13 hD13 => ?_)
  obtain rfl : D13 = upo (upo (upo (upo D o (fr5 (D o) (D q))) (o + 1) (cpn 6 (D (q + 1)) (D (o + 1)))) (o + 2) (cpn 36 (D (q + 2)) (D (o + 2)))) (o + 3) (cpn 6 (D (q + 3)) (D (o + 3))) := hD13.trans (congrArg (upo (upo (upo (upo D o (fr5 (D o) (D q))) (o + 1) (cpn 6 (D (q + 1)) (D (o + 1)))) (o + 2) (cpn 36 (D (q + 2)) (D (o + 2)))) (o + 3)) ((cpy_n (by decide)).trans (by rw [show (upo (upo (upo D o (fr5 (D o) (D q))) (o + 1) (cpn 6 (D (q + 1)) (D (o + 1)))) (o + 2) (cpn 36 (D (q + 2)) (D (o + 2)))) (q + 3) = D (q + 3) from (upo_n (by omega)).trans ((upo_n (by omega)).trans (upo_n (by omega))), show (upo (upo (upo D o (fr5 (D o) (D q))) (o + 1) (cpn 6 (D (q + 1)) (D (o + 1)))) (o + 2) (cpn 36 (D (q + 2)) (D (o + 2)))) (o + 3) = D (o + 3) from (upo_n (by omega)).trans ((upo_n (by omega)).trans (upo_n (by omega)))])))
  refine r_aload_n dX1_take_85 rfl ?_
  refine r_getR (ci := 1) (k := 8) wf_X1_21 dX1_take_86 hq.1.1 hq.2.1.1 (by decide) (by decide) (fun _ _ => rfl) hq.2.2.2.2.2.1 ?_
  refine r_iconst (nI 0) dX1_take_89 (by decide) ?_
  refine r_aload_n dX1_take_90 rfl ?_
  refine r_getR (ci := 1) (k := 8) wf_X1_21 dX1_take_91 ho.1.1 ho.2.1.1 (by decide) (by decide) (fun _ _ => rfl) ho.2.2.2.2.2.1 ?_
  refine r_iconst (nI 0) dX1_take_94 (by decide) ?_
  refine r_bipush (nI 6) dX1_take_95 (by decide) ?_
  refine r_copyi wm_X1_43 dX1_take_97 hq.1.2.2.2.2.1 hq.2.1.2.2.2.2.1 ho.1.2.2.2.2.1 ho.2.1.2.2.2.2.1 (by decide) (by decide) (by decide) (by decide) (by decide) (Nat.le_of_ble_eq_true rfl) (Nat.le_of_ble_eq_true rfl) (fun D14 hD14 => ?_)
  obtain rfl : D14 = upo (upo (upo (upo (upo D o (fr5 (D o) (D q))) (o + 1) (cpn 6 (D (q + 1)) (D (o + 1)))) (o + 2) (cpn 36 (D (q + 2)) (D (o + 2)))) (o + 3) (cpn 6 (D (q + 3)) (D (o + 3)))) (o + 4) (cpn 6 (D (q + 4)) (D (o + 4))) := hD14.trans (congrArg (upo (upo (upo (upo (upo D o (fr5 (D o) (D q))) (o + 1) (cpn 6 (D (q + 1)) (D (o + 1)))) (o + 2) (cpn 36 (D (q + 2)) (D (o + 2)))) (o + 3) (cpn 6 (D (q + 3)) (D (o + 3)))) (o + 4)) ((cpy_n (by decide)).trans (by rw [show (upo (upo (upo (upo D o (fr5 (D o) (D q))) (o + 1) (cpn 6 (D (q + 1)) (D (o + 1)))) (o + 2) (cpn 36 (D (q + 2)) (D (o + 2)))) (o + 3) (cpn 6 (D (q + 3)) (D (o + 3)))) (q + 4) = D (q + 4) from (upo_n (by omega)).trans ((upo_n (by omega)).trans ((upo_n (by omega)).trans (upo_n (by omega)))), show (upo (upo (upo (upo D o (fr5 (D o) (D q))) (o + 1) (cpn 6 (D (q + 1)) (D (o + 1)))) (o + 2) (cpn 36 (D (q + 2)) (D (o + 2)))) (o + 3) (cpn 6 (D (q + 3)) (D (o + 3)))) (o + 4) = D (o + 4) from (upo_n (by omega)).trans ((upo_n (by omega)).trans ((upo_n (by omega)).trans (upo_n (by omega))))])))
  refine r_aload_n dX1_take_100 rfl ?_
  refine r_getR (ci := 1) (k := 9) wf_X1_24 dX1_take_101 hq.1.1 hq.2.1.1 (by decide) (by decide) (fun _ _ => rfl) hq.2.2.2.2.2.2 ?_
  refine r_iconst (nI 0) dX1_take_104 (by decide) ?_
  refine r_aload_n dX1_take_105 rfl ?_
  refine r_getR (ci := 1) (k := 9) wf_X1_24 dX1_take_106 ho.1.1 ho.2.1.1 (by decide) (by decide) (fun _ _ => rfl) ho.2.2.2.2.2.2 ?_
  refine r_iconst (nI 0) dX1_take_109 (by decide) ?_
  refine r_bipush (nI 6) dX1_take_110 (by decide) ?_
  refine r_copyi wm_X1_43 dX1_take_112 hq.1.2.2.2.2.2 hq.2.1.2.2.2.2.2 ho.1.2.2.2.2.2 ho.2.1.2.2.2.2.2 (by decide) (by decide) (by decide) (by decide) (by decide) (Nat.le_of_ble_eq_true rfl) (Nat.le_of_ble_eq_true rfl) (fun D15 hD15 => ?_)
  obtain rfl : D15 = upo (upo (upo (upo (upo (upo D o (fr5 (D o) (D q))) (o + 1) (cpn 6 (D (q + 1)) (D (o + 1)))) (o + 2) (cpn 36 (D (q + 2)) (D (o + 2)))) (o + 3) (cpn 6 (D (q + 3)) (D (o + 3)))) (o + 4) (cpn 6 (D (q + 4)) (D (o + 4)))) (o + 5) (cpn 6 (D (q + 5)) (D (o + 5))) := hD15.trans (congrArg (upo (upo (upo (upo (upo (upo D o (fr5 (D o) (D q))) (o + 1) (cpn 6 (D (q + 1)) (D (o + 1)))) (o + 2) (cpn 36 (D (q + 2)) (D (o + 2)))) (o + 3) (cpn 6 (D (q + 3)) (D (o + 3)))) (o + 4) (cpn 6 (D (q + 4)) (D (o + 4)))) (o + 5)) ((cpy_n (by decide)).trans (by rw [show (upo (upo (upo (upo (upo D o (fr5 (D o) (D q))) (o + 1) (cpn 6 (D (q + 1)) (D (o + 1)))) (o + 2) (cpn 36 (D (q + 2)) (D (o + 2)))) (o + 3) (cpn 6 (D (q + 3)) (D (o + 3)))) (o + 4) (cpn 6 (D (q + 4)) (D (o + 4)))) (q + 5) = D (q + 5) from (upo_n (by omega)).trans ((upo_n (by omega)).trans ((upo_n (by omega)).trans ((upo_n (by omega)).trans (upo_n (by omega))))), show (upo (upo (upo (upo (upo D o (fr5 (D o) (D q))) (o + 1) (cpn 6 (D (q + 1)) (D (o + 1)))) (o + 2) (cpn 36 (D (q + 2)) (D (o + 2)))) (o + 3) (cpn 6 (D (q + 3)) (D (o + 3)))) (o + 4) (cpn 6 (D (q + 4)) (D (o + 4)))) (o + 5) = D (o + 5) from (upo_n (by omega)).trans ((upo_n (by omega)).trans ((upo_n (by omega)).trans ((upo_n (by omega)).trans (upo_n (by omega)))))])))
  refine r_vret2 dX1_take_115 rfl ⟨Nat.zero_le _, Nat.zero_le _⟩ ?_
  exact ⟨rfl, rfl⟩
set_option maxRecDepth 100000 in
set_option maxHeartbeats 4000000 in
theorem c_X1_everyone (B : Nat) (D : DD) (E : EE) (p n : Nat) (hp : isL p) (hn : D p 4 = nI n) (h6 : n ≤ 6) : MR yX1_everyone cX1_everyone 1 (some .int) rX1_everyone B [.ref (B + p)] Z0 D E (Q2 Z0 (pI (fun v D' E' => v = (nI (2 ^ n - 1)) ∧ D' = D ∧ E' = E))) := by
  have hn2 := pw2_le h6
  refine r_enter [(0, .ref (B + p))] hv_X1_everyone.1.2.2.2.2 (Nat.le_of_ble_eq_true rfl) rfl ?_
  refine r_iconst (nI 1) dX1_everyone_0 (by decide) ?_
  refine r_aload_n dX1_everyone_1 rfl ?_
  refine r_getI (ci := 1) (k := 4) wf_X1_31 dX1_everyone_2 hp.1.1 hp.2.1.1 (by decide) (by decide) rfl (fun z1 hz1 => ?_)
  obtain rfl : z1 = nI n := hz1.trans hn
  refine r_ishl dX1_everyone_5 (fun z2 hz2 => ?_)
  obtain rfl : z2 = nI (2 ^ n) := hz2.trans (shl_1 (by omega))
  refine r_iconst (nI 1) dX1_everyone_6 (by decide) ?_
  refine r_isub dX1_everyone_7 (fun z3 hz3 => ?_)
  obtain rfl : z3 = nI (2 ^ n - 1) := hz3.trans (nI_sub (Nat.one_le_two_pow))
  refine r_iret2 dX1_everyone_8 rfl ⟨Nat.zero_le _, Nat.zero_le _⟩ ?_
  exact ⟨rfl, rfl, rfl⟩
set_option maxRecDepth 100000 in
set_option maxHeartbeats 4000000 in
theorem c_X2_forget (B : Nat) (D : DD) (E : EE)  : MR yX2_forget cX2_forget 1 none rX2_forget B [.ref (B + 27)] Z0 D E (Q2 Z0 (pV (fun D' E' => D' = upo D 27 (upd (D 27) 2 (nI 0)) ∧ E' = E))) := by
  refine r_enter [(0, .ref (B + 27))] hv_X2_forget.1.2.2.2.2 (Nat.le_of_ble_eq_true rfl) rfl ?_
  refine r_aload_n dX2_forget_0 rfl ?_
  refine r_iconst (nI 0) dX2_forget_1 (by decide) ?_
  refine r_putI (ci := 2) (k := 2) wf_X2_18 dX2_forget_2 z_27 k_27 (by decide) (by decide) rfl rfl (fun D1 hD1 => ?_)
  obtain rfl : D1 = upo D 27 (upd (D 27) 2 (nI 0)) := hD1.trans up2_eq
  refine r_vret2 dX2_forget_5 rfl ⟨Nat.zero_le _, Nat.zero_le _⟩ ?_
  exact ⟨rfl, rfl⟩
set_option maxRecDepth 100000 in
set_option maxHeartbeats 4000000 in
theorem c_X2_keep (B : Nat) (D : DD) (E : EE) (nx kp : Nat) (h1 : D 27 1 = nI nx) (h2 : D 27 2 = nI kp) (hnx : nx < 24) (hkp : kp ≤ 24) : MR yX2_keep cX2_keep 2 none rX2_keep B [.ref (B + 27), .ref (B + 21)] Z0 D E (Q2 Z0 (pV (fun D' E' => D' = upo (takeD D (29 + 6 * nx) 21) 27 (upd (upd (D 27) 1 (nI ((nx + 1) % 24))) 2 (nI (min 24 (kp + 1)))) ∧ E' = E))) := by
  have hrg := ring_C nx hnx
  refine r_enter [(0, .ref (B + 27)), (1, .ref (B + 21))] hv_X2_keep.1.2.2.2.2 (Nat.le_of_ble_eq_true rfl) rfl ?_
  refine r_aload_n dX2_keep_0 rfl ?_
  refine r_getR (ci := 2) (k := 0) wf_X2_11 dX2_keep_1 z_27 k_27 (by decide) (by decide) (fun _ _ => rfl) f_27_0 ?_
  refine r_aload_n dX2_keep_4 rfl ?_
  refine r_getI (ci := 2) (k := 1) wf_X2_22 dX2_keep_5 z_27 k_27 (by decide) (by decide) rfl (fun z1 hz1 => ?_)
  obtain rfl : z1 = nI nx := hz1.trans h1
  refine r_aald (v := 29 + 6 * nx) dX2_keep_8 z_28 k_28 (by decide) (vp_in_nI (by omega) (by decide)) (ring_at nx hnx) ?_
  refine r_aload_n dX2_keep_9 rfl ?_
  refine r_callVV (As := [.ref (B + 21)]) (o := (29 + 6 * nx)) (c_X0_take B D E (29 + 6 * nx) 21 hrg (isC_in 21 (by decide)) (fun i j hi hj => by omega)) hv_X0_take wm_X2_25 dX2_keep_10 rfl rfl hrg.1.1 hrg.2.1.1 (by decide) rfl (Nat.le_of_ble_eq_true rfl) ⟨Nat.le_of_ble_eq_true rfl, Nat.le_of_ble_eq_true rfl, Nat.zero_le _, Nat.zero_le _⟩ ⟨rfl, rfl⟩ (fun D3 E4 hz2 => ?_)
  obtain ⟨hqD, hqE⟩ := hz2
  obtain rfl := hqE.symm
  subst hqD
  refine r_aload_n dX2_keep_13 rfl ?_
  refine r_aload_n dX2_keep_14 rfl ?_
  refine r_getI (ci := 2) (k := 1) wf_X2_22 dX2_keep_15 z_27 k_27 (by decide) (by decide) rfl (fun z5 hz5 => ?_)
  obtain rfl : z5 = nI nx := hz5.trans ((congrFun (take_fr (fun j hj => by omega)) _).trans h1)
  refine r_iconst (nI 1) dX2_keep_18 (by decide) ?_
  refine r_iadd dX2_keep_19 (fun z6 hz6 => ?_)
  obtain rfl : z6 = nI (nx + 1) := (hz6.trans (nI_add _ _))
  refine r_bipush (nI 24) dX2_keep_20 (by decide) ?_
  refine r_irem dX2_keep_22 (by decide) (fun z7 hz7 => ?_)
  obtain rfl : z7 = nI ((nx + 1) % 24) := hz7.trans (nI_mod (by omega) (by decide) (by decide))
  refine r_putI (ci := 2) (k := 1) wf_X2_22 dX2_keep_23 z_27 k_27 (by decide) (by decide) rfl rfl (fun D8 hD8 => ?_)
  obtain rfl : D8 = upo (takeD D (29 + 6 * nx) 21) 27 (upd (D 27) 1 (nI ((nx + 1) % 24))) := hD8.trans (up2_eq.trans (by rw [take_fr (fun j hj => by omega)]))
  refine r_aload_n dX2_keep_26 rfl ?_
  refine r_bipush (nI 24) dX2_keep_27 (by decide) ?_
  refine r_aload_n dX2_keep_29 rfl ?_
  refine r_getI (ci := 2) (k := 2) wf_X2_18 dX2_keep_30 z_27 k_27 (by decide) (by decide) rfl (fun z9 hz9 => ?_)
  obtain rfl : z9 = nI kp := hz9.trans ((congrFun upo_s 2).trans ((pk_un (by decide)).trans h2))
  refine r_iconst (nI 1) dX2_keep_33 (by decide) ?_
  refine r_iadd dX2_keep_34 (fun z10 hz10 => ?_)
  obtain rfl : z10 = nI (kp + 1) := (hz10.trans (nI_add _ _))
  refine r_mmin wm_X2_29 dX2_keep_35 (Nat.le_of_ble_eq_true rfl) (Nat.le_of_ble_eq_true rfl) (Nat.zero_le _) (Nat.zero_le _) (fun z11 hz11 => ?_)
  obtain rfl : z11 = nI (min 24 (kp + 1)) := hz11.trans (mn_1 (by omega) (by omega))
  refine r_putI (ci := 2) (k := 2) wf_X2_18 dX2_keep_38 z_27 k_27 (by decide) (by decide) rfl rfl (fun D12 hD12 => ?_)
  obtain rfl : D12 = upo (takeD D (29 + 6 * nx) 21) 27 (upd (upd (D 27) 1 (nI ((nx + 1) % 24))) 2 (nI (min 24 (kp + 1)))) := hD12.trans up2_upo
  refine r_vret2 dX2_keep_41 rfl ⟨Nat.zero_le _, Nat.zero_le _⟩ ?_
  exact ⟨rfl, rfl⟩
set_option maxRecDepth 100000 in
set_option maxHeartbeats 4000000 in
theorem c_X2_goBack (B : Nat) (D : DD) (E : EE) (nx kp : Nat) (h1 : D 27 1 = nI nx) (h2 : D 27 2 = nI kp) (hnx : nx < 24) (hkp : kp ≤ 24) (hk1 : 1 ≤ kp) : MR yX2_goBack cX2_goBack 2 none rX2_goBack B [.ref (B + 27), .ref (B + 21)] Z0 D E (Q2 Z0 (pV (fun D' E' => D' = up2 (takeD (upo D 27 (upd (D 27) 1 (nI ((nx + 23) % 24)))) 21 (29 + 6 * ((nx + 23) % 24))) 27 2 (nI (kp - 1)) ∧ E' = E))) := by
  have hrg := ring_C ((nx + 23) % 24) (Nat.mod_lt _ (by decide))
  refine r_enter [(0, .ref (B + 27)), (1, .ref (B + 21))] hv_X2_goBack.1.2.2.2.2 (Nat.le_of_ble_eq_true rfl) rfl ?_
  refine r_aload_n dX2_goBack_0 rfl ?_
  refine r_aload_n dX2_goBack_1 rfl ?_
  refine r_getI (ci := 2) (k := 1) wf_X2_22 dX2_goBack_2 z_27 k_27 (by decide) (by decide) rfl (fun z1 hz1 => ?_)
  obtain rfl : z1 = nI nx := hz1.trans h1
  refine r_bipush (nI 24) dX2_goBack_5 (by decide) ?_
  refine r_iadd dX2_goBack_7 (fun z2 hz2 => ?_)
  obtain rfl : z2 = nI (nx + 24) := (hz2.trans (nI_add _ _))
  refine r_iconst (nI 1) dX2_goBack_8 (by decide) ?_
  refine r_isub dX2_goBack_9 (fun z3 hz3 => ?_)
  obtain rfl : z3 = nI (nx + 24 - 1) := hz3.trans (nI_sub (by omega))
  refine r_bipush (nI 24) dX2_goBack_10 (by decide) ?_
  refine r_irem dX2_goBack_12 (by decide) (fun z4 hz4 => ?_)
  obtain rfl : z4 = nI (((nx + 23) % 24)) := hz4.trans ((nI_mod (by omega) (by decide) (by decide)).trans (by rw [show nx + 24 - 1 = nx + 23 by omega]))
  refine r_putI (ci := 2) (k := 1) wf_X2_22 dX2_goBack_13 z_27 k_27 (by decide) (by decide) rfl rfl (fun D5 hD5 => ?_)
  obtain rfl : D5 = upo D 27 (upd (D 27) 1 (nI ((nx + 23) % 24))) := hD5.trans up2_eq
  refine r_aload_n dX2_goBack_16 rfl ?_
  refine r_aload_n dX2_goBack_17 rfl ?_
  refine r_getR (ci := 2) (k := 0) wf_X2_11 dX2_goBack_18 z_27 k_27 (by decide) (by decide) (fun _ _ => rfl) f_27_0 ?_
  refine r_aload_n dX2_goBack_21 rfl ?_
  refine r_getI (ci := 2) (k := 1) wf_X2_22 dX2_goBack_22 z_27 k_27 (by decide) (by decide) rfl (fun z6 hz6 => ?_)
  obtain rfl : z6 = nI (((nx + 23) % 24)) := hz6.trans ((congrFun upo_s 1).trans pk_us)
  refine r_aald (v := 29 + 6 * ((nx + 23) % 24)) dX2_goBack_25 z_28 k_28 (by decide) (vp_in_nI (by omega) (by decide)) (ring_at ((nx + 23) % 24) (Nat.mod_lt _ (by decide))) ?_
  refine r_callVV (As := [.ref (B + (29 + 6 * ((nx + 23) % 24)))]) (o := 21) (c_X0_take B (upo D 27 (upd (D 27) 1 (nI ((nx + 23) % 24)))) E 21 (29 + 6 * ((nx + 23) % 24)) (isC_in 21 (by decide)) hrg (fun i j hi hj => by omega)) hv_X0_take wm_X2_25 dX2_goBack_26 rfl rfl z_21 k_21 (by decide) rfl (Nat.le_of_ble_eq_true rfl) ⟨Nat.le_of_ble_eq_true rfl, Nat.le_of_ble_eq_true rfl, Nat.zero_le _, Nat.zero_le _⟩ ⟨rfl, rfl⟩ (fun D8 E9 hz7 => ?_)
  obtain ⟨hqD, hqE⟩ := hz7
  obtain rfl := hqE.symm
  subst hqD
  refine r_aload_n dX2_goBack_29 rfl ?_
  refine r_dup dX2_goBack_30 rfl ?_
  refine r_getI (ci := 2) (k := 2) wf_X2_18 dX2_goBack_31 z_27 k_27 (by decide) (by decide) rfl (fun z10 hz10 => ?_)
  obtain rfl : z10 = nI kp := hz10.trans ((congrFun (take_fr (fun j hj => by omega)) _).trans ((congrFun upo_s 2).trans ((pk_un (by decide)).trans h2)))
  refine r_iconst (nI 1) dX2_goBack_34 (by decide) ?_
  refine r_isub dX2_goBack_35 (fun z11 hz11 => ?_)
  obtain rfl : z11 = nI (kp - 1) := hz11.trans (nI_sub hk1)
  refine r_putI (ci := 2) (k := 2) wf_X2_18 dX2_goBack_36 z_27 k_27 (by decide) (by decide) rfl rfl (fun D12 hD12 => ?_)
  obtain rfl : D12 = up2 (takeD (upo D 27 (upd (D 27) 1 (nI ((nx + 23) % 24)))) 21 (29 + 6 * ((nx + 23) % 24))) 27 2 (nI (kp - 1)) := hD12
  refine r_vret2 dX2_goBack_39 rfl ⟨Nat.zero_le _, Nat.zero_le _⟩ ?_
  exact ⟨rfl, rfl⟩
