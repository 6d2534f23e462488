theorem inv1_mk {D D0 : DD} {t : TPt} {s : PSt} {r : Row} (a : MP D t s) (b : s.2.1 = 0 → MA D 224 r ∧ r 5 = 0) (c : FRF D0 D) : MP D t (s, r).1 ∧ ((s, r).1.2.1 = 0 → MA D 224 (s, r).2 ∧ (s, r).2 5 = 0) ∧ FRF D0 D := ⟨a, b, c⟩
set_option maxRecDepth 100000 in
set_option maxHeartbeats 4000000 in
theorem c_X6_land (B : Nat) (D : DD) (E : EE) (wy : Nat → Nat) (r : Row) (kp : Nat) (A : Nat → Row) (hX0 : XMK D wy r kp A) (t : TPt) (hT0 : TPm D t) (lf : Int32) (hlf : D 219 18 = lf) (y : PSt × Row) (hy : s_pk t 120 = y) : MR yX6_land cX6_land 2 (some .int) rX6_land B [.ref (B + 219)] Z0 D E (Q2 Z0 (pI (fun v D' E' => (v = (a_land y lf r kp A wy).1 ∧ D' 219 18 = (a_land y lf r kp A wy).2.1 ∧ XMK D' (a_land y lf r kp A wy).2.2.2 (a_land y lf r kp A wy).2.2.1.1 (a_land y lf r kp A wy).2.2.1.2.1 (a_land y lf r kp A wy).2.2.1.2.2 ∧ TPm D' (0, t.2) ∧ FRL D D') ∧ E' = E))) := by
  have hX := hX0.th
  have e2 := hT0.2.1
  have hTt : TPm (thD D) t := ⟨(MX.th.2 11 (by decide)).trans hT0.1, hT0.2.1, fun j hj => ⟨(congrFun (MX.th.1 227 (by decide) (by decide) (by decide)) j).trans (hT0.2.2 j hj).1, (hT0.2.2 j hj).2⟩⟩
  have ht : ∀ j, j < t.1 → t.2 j ≤ 255 := fun j hj => (hT0.2.2 j hj).2
  have hv1 := vl_999 (t := t) (s := l_1 t)
  refine r_enter [(0, .ref (B + 219))] hv_X6_land.1.2.2.2.2 (Nat.le_of_ble_eq_true rfl) rfl ?_
  refine r_aload_n dX6_land_0 rfl ?_
  refine r_iconst (nI 0) dX6_land_1 (by decide) ?_
  refine r_putI (ci := 6) (k := 0) wf_X6_54 dX6_land_2 z_219 k_219 (by decide) (by decide) rfl rfl (fun D1 hD1 => ?_)
  obtain rfl : D1 = thD D := hD1.trans up2_eq
  refine r_aload_n dX6_land_5 rfl ?_
  refine r_callVV (As := []) (o := 219) (c_X6_begin B (thD D) E t hTt) hv_X6_begin wm_X6_136 dX6_land_6 rfl rfl z_219 k_219 (by decide) rfl (Nat.le_of_ble_eq_true rfl) ⟨Nat.le_of_ble_eq_true rfl, Nat.le_of_ble_eq_true rfl, Nat.zero_le _, Nat.zero_le _⟩ ⟨rfl, rfl⟩ (fun D3 E4 hz2 => ?_)
  obtain ⟨hq1, hq2, hqE⟩ := hz2
  obtain rfl := hqE.symm
  have hS0 := hq1
  have hp0 := hq2
  refine r_iconst (nI 0) dX6_land_9 (by decide) ?_
  refine r_istore_n [(1, .int (nI 0)), (0, .ref (B + 219))] dX6_land_10 (by decide) rfl ?_
  have L : ∀ (fu k : Nat) (Dk : DD), k ≤ 64 → 64 - k < fu → ((∀ q, q ≠ 224 → Dk q = D3 q) ∧ ∀ j, j < k → Dk 224 j = nI 0) → RW yX6_land cX6_land 2 (some .int) rX6_land B (Q2 Z0 (pI (fun v D' E' => (v = (a_land y lf r kp A wy).1 ∧ D' 219 18 = (a_land y lf r kp A wy).2.1 ∧ XMK D' (a_land y lf r kp A wy).2.2.2 (a_land y lf r kp A wy).2.2.1.1 (a_land y lf r kp A wy).2.2.1.2.1 (a_land y lf r kp A wy).2.2.1.2.2 ∧ TPm D' (0, t.2) ∧ FRL D D') ∧ E' = E))) Z0 Dk E 0 0 11 [(1, .int (nI k)), (0, .ref (B + 219))] [] := by
    intro fu
    induction fu with
    | zero => intro k Dk hku hfu _; omega
    | succ fu ih =>
      intro k Dk hku hfu hI
      refine r_iload_n dX6_land_11 rfl ?_
      refine r_bipush (nI 64) dX6_land_12 (by decide) ?_
      refine r_icmp_ge (tgt := 30) dX6_land_14 (by decide) (fun c14 => ?_) (fun c14 => ?_)
      · skip
        rw [nI_leI (by omega) (by omega)] at c14
        have hk64 : k = 64 := by omega
        rw [hk64] at hI
        have hS_Dk : MP Dk t (0, 0, 0) := MP_eq hS0 (hI.1 219 (by decide)) (hI.1 227 (by decide))
        have hA_Dk : MA Dk 224 (fun _ => 0) := fun j hj => hI.2 j hj
        have hF_Dk : FRF (thD D) Dk := (FRF.of hp0).trans ⟨fun q a b => hI.1 q b, fun f _ => congrFun (hI.1 219 (by decide)) f⟩
        refine r_aload_n dX6_land_30 rfl ?_
        refine r_aload_n dX6_land_31 rfl ?_
        refine r_bipush (nI 99) dX6_land_32 (by decide) ?_
        refine r_callVI (As := [.int (nI 99)]) (o := 219) (c_X6_isLetter_0 B Dk E t ((0, 0, 0) : PSt) hS_Dk rfl 99 (by decide)) hv_X6_isLetter wm_X6_139 dX6_land_34 rfl rfl z_219 k_219 (by decide) rfl (Nat.le_of_ble_eq_true rfl) ⟨Nat.le_of_ble_eq_true rfl, Nat.le_of_ble_eq_true rfl, Nat.zero_le _, Nat.zero_le _⟩ ⟨rfl, rfl⟩ (fun z5 D6 E7 hz5 => ?_)
        obtain ⟨hqV, hqD, hqE⟩ := hz5
        obtain rfl : z5 = bI (s_by t ((0, 0, 0) : PSt).1 = 99) := hqV
        obtain rfl := hqD.symm
        obtain rfl := hqE.symm
        refine r_callVV (As := [.int (bI (s_by t ((0, 0, 0) : PSt).1 = 99))]) (o := 219) (c_X6_must_c B Dk E t ((0, 0, 0) : PSt) hS_Dk rfl 99 (by decide)) hv_X6_must wm_X6_119 dX6_land_37 rfl rfl z_219 k_219 (by decide) rfl (Nat.le_of_ble_eq_true rfl) ⟨Nat.le_of_ble_eq_true rfl, Nat.le_of_ble_eq_true rfl, Nat.zero_le _, Nat.zero_le _⟩ ⟨rfl, rfl⟩ (fun D9 E10 hz8 => ?_)
        obtain ⟨hq1, hq2, hqE⟩ := hz8
        obtain rfl := hqE.symm
        have hS_D9 : MP D9 t (l_1 t) := hq1
        have hA_D9 := fun k hk => (congrFun (hq2.1 224 (by decide)) k).trans (hA_Dk k hk)
        have hF_D9 := hF_Dk.trans (FRF.of hq2)
        refine r_aload_n dX6_land_40 rfl ?_
        refine r_getR (ci := 6) (k := 6) wf_X6_22 dX6_land_41 z_219 k_219 (by decide) (by decide) (fun _ _ => rfl) f_219_6 ?_
        refine r_iconst (nI 0) dX6_land_44 (by decide) ?_
        refine r_aload_n dX6_land_45 rfl ?_
        refine r_iconst (nI 2) dX6_land_46 (by decide) ?_
        refine r_bipush (nI 6) dX6_land_47 (by decide) ?_
        refine r_callVI (As := [.int (nI 2), .int (nI 6)]) (o := 219) (c_X6_number B D9 E t (l_1 t) hS_D9 2 (6) (nI 6) (fun _ => rfl) (by omega) (by omega)) hv_X6_number wm_X6_126 dX6_land_49 rfl rfl z_219 k_219 (by decide) rfl (Nat.le_of_ble_eq_true rfl) ⟨Nat.le_of_ble_eq_true rfl, Nat.le_of_ble_eq_true rfl, Nat.zero_le _, Nat.zero_le _⟩ ⟨rfl, rfl⟩ (fun z11 D12 E13 hz11 => ?_)
        obtain ⟨hq1, hq2, hq3, hqE⟩ := hz11
        obtain rfl := hqE.symm
        obtain ⟨n0, hn0⟩ : ∃ n, n = (if (p_nm t 2 6 (l_1 t)).2.1 = 0 then p_vl t (l_1 t) else 2) := ⟨_, rfl⟩
        obtain rfl : z11 = nI n0 := hq1.trans (ite_nI.trans (congrArg nI hn0.symm))
        have hS_D12 : MP D12 t (p_nm t 2 6 (l_1 t)) := hq2
        have hA_D12 := fun k hk => (congrFun (hq3.1 224 (by decide)) k).trans (hA_D9 k hk)
        have hF_D12 := hF_D9.trans (FRF.of hq3)
        refine r_iast dX6_land_52 z_224 k_224 (vp_in_nI (by decide) (by decide)) (fun D14 hD14 => ?_)
        rw [nI_clamp (by omega)] at hD14
        have hA_D14 := MA_up hA_D12 hD14 rfl
        have hS_D14 := MP_up hS_D12 hD14
        have hF_D14 := hF_D12.up hD14
        refine r_aload_n dX6_land_53 rfl ?_
        refine r_bipush (nI 44) dX6_land_54 (by decide) ?_
        refine r_callVV (As := [.int (nI 44)]) (o := 219) (c_X6_mustSign B D14 E t (p_nm t 2 6 (l_1 t)) hS_D14 44 (by decide)) hv_X6_mustSign wm_X6_130 dX6_land_56 rfl rfl z_219 k_219 (by decide) rfl (Nat.le_of_ble_eq_true rfl) ⟨Nat.le_of_ble_eq_true rfl, Nat.le_of_ble_eq_true rfl, Nat.zero_le _, Nat.zero_le _⟩ ⟨rfl, rfl⟩ (fun D16 E17 hz15 => ?_)
        obtain ⟨hq1, hq2, hqE⟩ := hz15
        obtain rfl := hqE.symm
        have hS_D16 : MP D16 t (l_2 t) := hq1
        have hA_D16 := fun k hk => (congrFun (hq2.1 224 (by decide)) k).trans (hA_D14 k hk)
        have hF_D16 := hF_D14.trans (FRF.of hq2)
        have hn02 : 2 ≤ n0 := by
          rw [hn0]
          split
          · rename_i q; exact (nm_ok q).2.1
          · exact Nat.le_refl 2
        refine r_aload_n dX6_land_59 rfl ?_
        refine r_getR (ci := 6) (k := 6) wf_X6_22 dX6_land_60 z_219 k_219 (by decide) (by decide) (fun _ _ => rfl) f_219_6 ?_
        refine r_iconst (nI 1) dX6_land_63 (by decide) ?_
        refine r_aload_n dX6_land_64 rfl ?_
        refine r_iconst (nI 0) dX6_land_65 (by decide) ?_
        refine r_aload_n dX6_land_66 rfl ?_
        refine r_getR (ci := 6) (k := 6) wf_X6_22 dX6_land_67 z_219 k_219 (by decide) (by decide) (fun _ _ => rfl) f_219_6 ?_
        refine r_iconst (nI 0) dX6_land_70 (by decide) ?_
        refine r_iald dX6_land_71 z_224 k_224 (vp_in_nI (by decide) (by decide)) (fun z18 hz18 => ?_)
        rw [nI_clamp (by omega)] at hz18
        obtain rfl : z18 = nI n0 := hz18.trans ((hA_D16 0 (by decide)).trans (congrArg nI rset_s))
        refine r_iconst (nI 1) dX6_land_72 (by decide) ?_
        refine r_isub dX6_land_73 (fun z19 hz19 => ?_)
        obtain rfl : z19 = nI (n0 - 1) := hz19.trans (nI_sub (by omega))
        refine r_callVI (As := [.int (nI 0), .int (nI (n0 - 1))]) (o := 219) (c_X6_number B D16 E t (l_2 t) hS_D16 0 (p_vl t (l_1 t) - 1) (nI (n0 - 1)) (fun q => by have a0 : n0 = p_vl t (l_1 t) := hn0.trans (if_pos (ex_ok' (show l_2 t = p_ex t 44 (p_nm t 2 6 (l_1 t)) from rfl) q).1); rw [a0]) (by omega) (by omega)) hv_X6_number wm_X6_126 dX6_land_74 rfl rfl z_219 k_219 (by decide) rfl (Nat.le_of_ble_eq_true rfl) ⟨Nat.le_of_ble_eq_true rfl, Nat.le_of_ble_eq_true rfl, Nat.zero_le _, Nat.zero_le _⟩ ⟨rfl, rfl⟩ (fun z20 D21 E22 hz20 => ?_)
        obtain ⟨hq1, hq2, hq3, hqE⟩ := hz20
        obtain rfl := hqE.symm
        obtain ⟨n1, hn1⟩ : ∃ n, n = (if (p_nm t 0 (p_vl t (l_1 t) - 1) (l_2 t)).2.1 = 0 then p_vl t (l_2 t) else 0) := ⟨_, rfl⟩
        obtain rfl : z20 = nI n1 := hq1.trans (ite_nI.trans (congrArg nI hn1.symm))
        have hS_D21 : MP D21 t (p_nm t 0 (p_vl t (l_1 t) - 1) (l_2 t)) := hq2
        have hA_D21 := fun k hk => (congrFun (hq3.1 224 (by decide)) k).trans (hA_D16 k hk)
        have hF_D21 := hF_D16.trans (FRF.of hq3)
        refine r_iast dX6_land_77 z_224 k_224 (vp_in_nI (by decide) (by decide)) (fun D23 hD23 => ?_)
        rw [nI_clamp (by omega)] at hD23
        have hA_D23 := MA_up hA_D21 hD23 rfl
        have hS_D23 := MP_up hS_D21 hD23
        have hF_D23 := hF_D21.up hD23
        refine r_aload_n dX6_land_78 rfl ?_
        refine r_bipush (nI 44) dX6_land_79 (by decide) ?_
        refine r_callVV (As := [.int (nI 44)]) (o := 219) (c_X6_mustSign B D23 E t (p_nm t 0 (p_vl t (l_1 t) - 1) (l_2 t)) hS_D23 44 (by decide)) hv_X6_mustSign wm_X6_130 dX6_land_81 rfl rfl z_219 k_219 (by decide) rfl (Nat.le_of_ble_eq_true rfl) ⟨Nat.le_of_ble_eq_true rfl, Nat.le_of_ble_eq_true rfl, Nat.zero_le _, Nat.zero_le _⟩ ⟨rfl, rfl⟩ (fun D25 E26 hz24 => ?_)
        obtain ⟨hq1, hq2, hqE⟩ := hz24
        obtain rfl := hqE.symm
        have hS_D25 : MP D25 t (l_3 t) := hq1
        have hA_D25 := fun k hk => (congrFun (hq2.1 224 (by decide)) k).trans (hA_D23 k hk)
        have hF_D25 := hF_D23.trans (FRF.of hq2)
        refine r_aload_n dX6_land_84 rfl ?_
        refine r_getR (ci := 6) (k := 6) wf_X6_22 dX6_land_85 z_219 k_219 (by decide) (by decide) (fun _ _ => rfl) f_219_6 ?_
        refine r_iconst (nI 2) dX6_land_88 (by decide) ?_
        refine r_aload_n dX6_land_89 rfl ?_
        refine r_iconst (nI 0) dX6_land_90 (by decide) ?_
        refine r_bipush (nI 20) dX6_land_91 (by decide) ?_
        refine r_callVI (As := [.int (nI 0), .int (nI 20)]) (o := 219) (c_X6_number B D25 E t (l_3 t) hS_D25 0 (20) (nI 20) (fun _ => rfl) (by omega) (by omega)) hv_X6_number wm_X6_126 dX6_land_93 rfl rfl z_219 k_219 (by decide) rfl (Nat.le_of_ble_eq_true rfl) ⟨Nat.le_of_ble_eq_true rfl, Nat.le_of_ble_eq_true rfl, Nat.zero_le _, Nat.zero_le _⟩ ⟨rfl, rfl⟩ (fun z27 D28 E29 hz27 => ?_)
        obtain ⟨hq1, hq2, hq3, hqE⟩ := hz27
        obtain rfl := hqE.symm
        obtain ⟨n2, hn2⟩ : ∃ n, n = (if (p_nm t 0 20 (l_3 t)).2.1 = 0 then p_vl t (l_3 t) else 0) := ⟨_, rfl⟩
        obtain rfl : z27 = nI n2 := hq1.trans (ite_nI.trans (congrArg nI hn2.symm))
        have hS_D28 : MP D28 t (p_nm t 0 20 (l_3 t)) := hq2
        have hA_D28 := fun k hk => (congrFun (hq3.1 224 (by decide)) k).trans (hA_D25 k hk)
        have hF_D28 := hF_D25.trans (FRF.of hq3)
        refine r_iast dX6_land_96 z_224 k_224 (vp_in_nI (by decide) (by decide)) (fun D30 hD30 => ?_)
        rw [nI_clamp (by omega)] at hD30
        have hA_D30 := MA_up hA_D28 hD30 rfl
        have hS_D30 := MP_up hS_D28 hD30
        have hF_D30 := hF_D28.up hD30
        refine r_aload_n dX6_land_97 rfl ?_
        refine r_bipush (nI 44) dX6_land_98 (by decide) ?_
        refine r_callVV (As := [.int (nI 44)]) (o := 219) (c_X6_mustSign B D30 E t (p_nm t 0 20 (l_3 t)) hS_D30 44 (by decide)) hv_X6_mustSign wm_X6_130 dX6_land_100 rfl rfl z_219 k_219 (by decide) rfl (Nat.le_of_ble_eq_true rfl) ⟨Nat.le_of_ble_eq_true rfl, Nat.le_of_ble_eq_true rfl, Nat.zero_le _, Nat.zero_le _⟩ ⟨rfl, rfl⟩ (fun D32 E33 hz31 => ?_)
        obtain ⟨hq1, hq2, hqE⟩ := hz31
        obtain rfl := hqE.symm
        have hS_D32 : MP D32 t (l_4 t) := hq1
        have hA_D32 := fun k hk => (congrFun (hq2.1 224 (by decide)) k).trans (hA_D30 k hk)
        have hF_D32 := hF_D30.trans (FRF.of hq2)
        refine r_aload_n dX6_land_103 rfl ?_
        refine r_getR (ci := 6) (k := 6) wf_X6_22 dX6_land_104 z_219 k_219 (by decide) (by decide) (fun _ _ => rfl) f_219_6 ?_
        refine r_iconst (nI 3) dX6_land_107 (by decide) ?_
        refine r_aload_n dX6_land_108 rfl ?_
        refine r_iconst (nI 0) dX6_land_109 (by decide) ?_
        refine r_iconst (nI 5) dX6_land_110 (by decide) ?_
        refine r_callVI (As := [.int (nI 0), .int (nI 5)]) (o := 219) (c_X6_number B D32 E t (l_4 t) hS_D32 0 (5) (nI 5) (fun _ => rfl) (by omega) (by omega)) hv_X6_number wm_X6_126 dX6_land_111 rfl rfl z_219 k_219 (by decide) rfl (Nat.le_of_ble_eq_true rfl) ⟨Nat.le_of_ble_eq_true rfl, Nat.le_of_ble_eq_true rfl, Nat.zero_le _, Nat.zero_le _⟩ ⟨rfl, rfl⟩ (fun z34 D35 E36 hz34 => ?_)
        obtain ⟨hq1, hq2, hq3, hqE⟩ := hz34
        obtain rfl := hqE.symm
        obtain ⟨n3, hn3⟩ : ∃ n, n = (if (p_nm t 0 5 (l_4 t)).2.1 = 0 then p_vl t (l_4 t) else 0) := ⟨_, rfl⟩
        obtain rfl : z34 = nI n3 := hq1.trans (ite_nI.trans (congrArg nI hn3.symm))
        have hS_D35 : MP D35 t (p_nm t 0 5 (l_4 t)) := hq2
        have hA_D35 := fun k hk => (congrFun (hq3.1 224 (by decide)) k).trans (hA_D32 k hk)
        have hF_D35 := hF_D32.trans (FRF.of hq3)
        refine r_iast dX6_land_114 z_224 k_224 (vp_in_nI (by decide) (by decide)) (fun D37 hD37 => ?_)
        rw [nI_clamp (by omega)] at hD37
        have hA_D37 := MA_up hA_D35 hD37 rfl
        have hS_D37 := MP_up hS_D35 hD37
        have hF_D37 := hF_D35.up hD37
        refine r_aload_n dX6_land_115 rfl ?_
        refine r_bipush (nI 59) dX6_land_116 (by decide) ?_
        refine r_callVV (As := [.int (nI 59)]) (o := 219) (c_X6_mustSign B D37 E t (p_nm t 0 5 (l_4 t)) hS_D37 59 (by decide)) hv_X6_mustSign wm_X6_130 dX6_land_118 rfl rfl z_219 k_219 (by decide) rfl (Nat.le_of_ble_eq_true rfl) ⟨Nat.le_of_ble_eq_true rfl, Nat.le_of_ble_eq_true rfl, Nat.zero_le _, Nat.zero_le _⟩ ⟨rfl, rfl⟩ (fun D39 E40 hz38 => ?_)
        obtain ⟨hq1, hq2, hqE⟩ := hz38
        obtain rfl := hqE.symm
        have hS_D39 : MP D39 t (p_lawS t) := hq1
        have hA_D39 := fun k hk => (congrFun (hq2.1 224 (by decide)) k).trans (hA_D37 k hk)
        have hF_D39 := hF_D37.trans (FRF.of hq2)
        have hR0 : (p_lawS t).2.1 = 0 → RL4 n0 n1 n2 n3 = p_lawR t := fun q => by
          obtain ⟨f1, f2, f3, f4⟩ := lt_flags q
          have a0 : n0 = p_vl t (l_1 t) := hn0.trans (if_pos f1)
          have a1 : n1 = p_vl t (l_2 t) := hn1.trans (if_pos f2)
          have a2 : n2 = p_vl t (l_3 t) := hn2.trans (if_pos f3)
          have a3 : n3 = p_vl t (l_4 t) := hn3.trans (if_pos f4)
          rw [a0, a1, a2, a3]
          exact RL_e
        have hz : s_pk t 0 = (p_lawS t, p_lawR t) := rfl
        have hA4 : MA D39 224 (RL4 n0 n1 n2 n3) := hA_D39
        have hI0 : MP D39 t (s_pk t 0).1 ∧ ((s_pk t 0).1.2.1 = 0 → MA D39 224 (s_pk t 0).2 ∧ (s_pk t 0).2 5 = 0) ∧ FRF (thD D) D39 := by
          rw [hz]
          exact inv1_mk hS_D39 (fun q => ⟨by rw [← hR0 q]; exact hA4, lawR_5⟩) hF_D39
        have L2 : ∀ (fu k : Nat) (Dk : DD), k ≤ 120 → 120 - k < fu → (MP Dk t (s_pk t k).1 ∧ ((s_pk t k).1.2.1 = 0 → MA Dk 224 (s_pk t k).2 ∧ (s_pk t k).2 5 = 0) ∧ FRF (thD D) Dk) → RW yX6_land cX6_land 2 (some .int) rX6_land B (Q2 Z0 (pI (fun v D' E' => (v = (a_land y lf r kp A wy).1 ∧ D' 219 18 = (a_land y lf r kp A wy).2.1 ∧ XMK D' (a_land y lf r kp A wy).2.2.2 (a_land y lf r kp A wy).2.2.1.1 (a_land y lf r kp A wy).2.2.1.2.1 (a_land y lf r kp A wy).2.2.1.2.2 ∧ TPm D' (0, t.2) ∧ FRL D D') ∧ E' = E))) Z0 Dk E 0 0 121 [(0, .ref (B + 219))] [] := by
          intro fu
          induction fu with
          | zero => intro k Dk hku hfu _; omega
          | succ fu ihL2 =>
            intro k Dk hku hfu hI
            have hPk := PI_pk e2 k
            have hP := hPk.1
            refine r_aload_n dX6_land_121 rfl ?_
            refine r_bipush (nI 114) dX6_land_122 (by decide) ?_
            refine r_callVI (As := [.int (nI 114)]) (o := 219) (c_X6_isLetter B Dk E t (s_pk t k).1 hI.1 114 (by decide)) hv_X6_isLetter wm_X6_139 dX6_land_124 rfl rfl z_219 k_219 (by decide) rfl (Nat.le_of_ble_eq_true rfl) ⟨Nat.le_of_ble_eq_true rfl, Nat.le_of_ble_eq_true rfl, Nat.zero_le _, Nat.zero_le _⟩ ⟨rfl, rfl⟩ (fun z41 D42 E43 hz41 => ?_)
            obtain ⟨hqV, hqD, hqE⟩ := hz41
            obtain rfl : z41 = bI ((s_pk t k).1.2.1 = 0 ∧ s_by t (s_pk t k).1.1 = 114) := hqV
            obtain rfl := hqD.symm
            obtain rfl := hqE.symm
            refine r_if_eq (tgt := 137) dX6_land_127 (by decide) (fun c127 => ?_) (fun c127 => ?_)
            · skip
              rw [bI_0] at c127
              have L3 : ∀ (fu m : Nat) (Dm : DD), m ≤ 120 → 120 - m < fu → (MP Dm t (s_pk t m).1 ∧ ((s_pk t m).1.2.1 = 0 → MA Dm 224 (s_pk t m).2 ∧ (s_by t (s_pk t m).1.1 = 114 → ¬ (s_pk t m).2 5 = 0)) ∧ FRF (thD D) Dm) → RW yX6_land cX6_land 2 (some .int) rX6_land B (Q2 Z0 (pI (fun v D' E' => (v = (a_land y lf r kp A wy).1 ∧ D' 219 18 = (a_land y lf r kp A wy).2.1 ∧ XMK D' (a_land y lf r kp A wy).2.2.2 (a_land y lf r kp A wy).2.2.1.1 (a_land y lf r kp A wy).2.2.1.2.1 (a_land y lf r kp A wy).2.2.1.2.2 ∧ TPm D' (0, t.2) ∧ FRL D D') ∧ E' = E))) Z0 Dm E 0 0 137 [(0, .ref (B + 219))] [] := by
                intro fu
                induction fu with
                | zero => intro m Dm hku hfu _; omega
                | succ fu ihL3 =>
                  intro m Dm hku hfu hI
                  have hPm := PI_pk e2 m
                  have hP := hPm.1
                  have hb3 := hI.1.2.1.2.1
                  have htk := s_tk_le (t := t) (c := (s_pk t m).1.1)
                  have hby := by_256 (i := (s_pk t m).1.1) ht
                  refine r_aload_n dX6_land_137 rfl ?_
                  refine r_getI (ci := 6) (k := 16) wf_X6_85 dX6_land_138 z_219 k_219 (by decide) (by decide) rfl (fun z44 hz44 => ?_)
                  obtain rfl : z44 = nI ((s_pk t m).1.2.1) := hz44.trans (MP_f hI.1)
                  refine r_if_ne (tgt := 171) dX6_land_141 (by decide) (fun c141 => ?_) (fun c141 => ?_)
                  · skip
                    rw [nI_z (by omega)] at c141
                    have hfin := fin_end e2 hku (by
                      first
                        | exact Or.inl c141
                        | exact Or.inr ⟨c141, c161, fun u => (hI.2.1 c141).2 u⟩
                        | exact Or.inr ⟨c141, Classical.byContradiction (fun q => c149 ((tk_e (Or.inr trivial)).mpr (kb_ch q))), fun u => (hI.2.1 c141).2 u⟩)
                    rw [hy] at hfin
                    obtain ⟨x, hx⟩ : ∃ x, x = s_pk t m := ⟨_, rfl⟩
                    rw [← hx] at hfin hI hP
                    refine r_aload_n dX6_land_171 rfl ?_
                    refine r_callVI (As := []) (o := 219) (c_X6_failed B Dm E t x.1 hI.1) hv_X6_failed wm_X6_148 dX6_land_172 rfl rfl z_219 k_219 (by decide) rfl (Nat.le_of_ble_eq_true rfl) ⟨Nat.le_of_ble_eq_true rfl, Nat.le_of_ble_eq_true rfl, Nat.zero_le _, Nat.zero_le _⟩ ⟨rfl, rfl⟩ (fun z45 D46 E47 hz45 => ?_)
                    obtain ⟨hq1, ⟨hq2, hq3, hq4, hq5, hq6⟩, hqE⟩ := hz45
                    obtain rfl := hqE.symm
                    rw [hfin.1] at hq1 hq2 hq3
                    obtain rfl := hq1.symm
                    have hg5 : ∀ q, q ≠ 219 → q ≠ 224 → D46 q = thD D q := fun q a b => (hq5 q a).trans (hI.2.2.1 q a b)
                    have hg6 : ∀ f, (f < 11 ∨ 18 < f) → D46 219 f = thD D 219 f := fun f a => (hq6 f a).trans (hI.2.2.2 f (by omega))
                    have h18 := hI.2.2.2 18 (by decide)
                    have hT9 : TPm D46 (0, t.2) := ⟨hq4, Nat.zero_le _, fun j hj => absurd hj (Nat.not_lt_zero j)⟩
                    obtain ⟨DF, hDF⟩ : ∃ X : DD, X = D46 := ⟨_, rfl⟩
                    refine r_if_eq (tgt := 186) dX6_land_175 (by decide) (fun c175 => ?_) (fun c175 => ?_)
                    · skip
                      rw [bI_0] at c175
                      have hy0 := Classical.not_not.mp c175
                      have hyx := hfin.2 (by rw [hfin.1]; exact hy0)
                      rw [← hyx] at hI hP
                      have hAy := (hI.2.1 hy0).1
                      have hOy := hP.2 hy0
                      have hAf : MA D46 224 y.2 := fun k hk => (congrFun (hq5 224 (by decide)) k).trans (hAy k hk)
                      refine r_aload_n dX6_land_186 rfl ?_
                      refine r_iconst (nI 0) dX6_land_187 (by decide) ?_
                      refine r_putI (ci := 6) (k := 9) wf_X6_153 dX6_land_188 z_219 k_219 (by decide) (by decide) rfl rfl (fun D48 hD48 => ?_)
                      have hk9 := hD48
                      have hAf : MA D48 224 y.2 := fun k hk => by rw [hD48]; exact (congrFun (up2_o (by decide)) k).trans (hAf k hk)
                      have hT9 : TPm D48 (0, t.2) := by rw [hD48]; exact ⟨(up2_n (by decide)).trans hT9.1, Nat.zero_le _, fun j hj => absurd hj (Nat.not_lt_zero j)⟩
                      refine r_iconst (nI 0) dX6_land_191 (by decide) ?_
                      refine r_istore_n [(1, .int (nI 0)), (0, .ref (B + 219))] dX6_land_192 (by decide) rfl ?_
                      have L4 : ∀ (fu k : Nat) (Dj : DD), k ≤ 64 → 64 - k < fu → ((∀ q, q ≠ 223 → Dj q = D48 q) ∧ ∀ j, j < k → Dj 223 j = nI (y.2 j)) → RW yX6_land cX6_land 2 (some .int) rX6_land B (Q2 Z0 (pI (fun v D' E' => (v = (a_land y lf r kp A wy).1 ∧ D' 219 18 = (a_land y lf r kp A wy).2.1 ∧ XMK D' (a_land y lf r kp A wy).2.2.2 (a_land y lf r kp A wy).2.2.1.1 (a_land y lf r kp A wy).2.2.1.2.1 (a_land y lf r kp A wy).2.2.1.2.2 ∧ TPm D' (0, t.2) ∧ FRL D D') ∧ E' = E))) Z0 Dj E 0 0 193 [(1, .int (nI k)), (0, .ref (B + 219))] [] := by
                        intro fu
                        induction fu with
                        | zero => intro k Dj hku hfu _; omega
                        | succ fu ihL4 =>
                          intro k Dj hku hfu hI
                          refine r_iload_n dX6_land_193 rfl ?_
                          refine r_bipush (nI 64) dX6_land_194 (by decide) ?_
                          refine r_icmp_ge (tgt := 217) dX6_land_196 (by decide) (fun c196 => ?_) (fun c196 => ?_)
                          · skip
                            rw [nI_leI (by omega) (by omega)] at c196
                            have hk64 : k = 64 := by omega
                            rw [hk64] at hI
                            refine r_aload_n dX6_land_217 rfl ?_
                            refine r_callVV (As := []) (o := 219) (c_X6_layFar B Dj E y.2 hOy.2 (fun j hj => hI.2 j hj)) hv_X6_layFar wm_X6_156 dX6_land_218 rfl rfl z_219 k_219 (by decide) rfl (Nat.le_of_ble_eq_true rfl) ⟨Nat.le_of_ble_eq_true rfl, Nat.le_of_ble_eq_true rfl, Nat.zero_le _, Nat.zero_le _⟩ ⟨rfl, rfl⟩ (fun D50 E51 hz49 => ?_)
                            obtain ⟨hF1, hF2, hqE⟩ := hz49
                            obtain rfl := hqE.symm
                            refine r_aload_n dX6_land_221 rfl ?_
                            refine r_getR (ci := 6) (k := 5) wf_X6_19 dX6_land_222 z_219 k_219 (by decide) (by decide) (fun _ _ => rfl) f_219_5 ?_
                            refine r_iconst (nI 5) dX6_land_225 (by decide) ?_
                            refine r_iald dX6_land_226 z_223 k_223 (vp_in_nI (by decide) (by decide)) (fun z52 hz52 => ?_)
                            rw [nI_clamp (by omega)] at hz52
                            obtain rfl : z52 = nI (y.2 5) := hz52.trans ((congrFun (hF1 223 (by decide)) 5).trans (hI.2 5 (by decide)))
                            refine r_iret2 dX6_land_227 rfl ⟨Nat.zero_le _, Nat.zero_le _⟩ ?_
                            have ea : a_land y lf r kp A wy = (nI (y.2 5), lf, (y.2, 0, A), s_far y.2) := if_pos hy0
                            rw [ea]
                            have hz9 : ∀ q, q ≠ 223 → q ≠ 228 → D50 q = _ := fun q a b => (hF1 q b).trans (hI.1 q a)
                            have hz219 : ∀ f, f ≠ 9 → D50 219 f = DF 219 f := fun f a => (congrFun (hz9 219 (by decide) (by decide)) f).trans (by rw [hk9, hDF]; exact up2_n (fun e => a e.2))
                            refine ⟨⟨rfl, ?_, XMK_ld hOy (fun k hk => (congrFun (hF1 223 (by decide)) k).trans (hI.2 k hk)) hF2 ?_, ?_, fun q a b c d => ?_, fun f a b c => ?_⟩, rfl⟩
                            · refine (hz219 18 (by decide)).trans ?_
                              rw [hDF]
                              exact (hq2.trans ((if_pos hy0).trans (h18.trans ((MX.th.2 18 (by decide)).trans hlf))))
                            · refine (congrFun (hz9 219 (by decide) (by decide)) 9).trans ?_
                              rw [hk9]; exact up2_s
                            · exact ⟨(congrFun (hz9 219 (by decide) (by decide)) 11).trans hT9.1, Nat.zero_le _, fun j hj => absurd hj (Nat.not_lt_zero j)⟩
                            · refine (hz9 q b d).trans ?_
                              rw [hk9]
                              exact (up2_o a).trans ((hg5 q a c).trans (upo_n a))
                            · refine (hz219 f b).trans ?_
                              rw [hDF]
                              exact (hg6 f (by omega)).trans (MX.th.2 f a)
                          · skip
                            rw [nI_leI (by omega) (by omega)] at c196
                            refine r_aload_n dX6_land_199 rfl ?_
                            refine r_getR (ci := 6) (k := 5) wf_X6_19 dX6_land_200 z_219 k_219 (by decide) (by decide) (fun _ _ => rfl) f_219_5 ?_
                            refine r_iload_n dX6_land_203 rfl ?_
                            refine r_aload_n dX6_land_204 rfl ?_
                            refine r_getR (ci := 6) (k := 6) wf_X6_22 dX6_land_205 z_219 k_219 (by decide) (by decide) (fun _ _ => rfl) f_219_6 ?_
                            refine r_iload_n dX6_land_208 rfl ?_
                            refine r_iald dX6_land_209 z_224 k_224 (vp_in_nI (by omega) (by decide)) (fun z53 hz53 => ?_)
                            rw [nI_clamp (by omega)] at hz53
                            obtain rfl : z53 = nI (y.2 k) := hz53.trans ((congrFun (hI.1 224 (by decide)) _).trans (hAf k (by omega)))
                            refine r_iast dX6_land_210 z_223 k_223 (vp_in_nI (by omega) (by decide)) (fun D54 hD54 => ?_)
                            rw [nI_clamp (by omega)] at hD54
                            have hN8 : (∀ q, q ≠ 223 → D54 q = D48 q) ∧ ∀ j, j < k + 1 → D54 223 j = nI (y.2 j) := by
                              rw [hD54]
                              refine ⟨fun q hq => (up2_o hq).trans (hI.1 q hq), fun j hj => ?_⟩
                              by_cases e : j = k
                              · subst e; exact up2_s
                              · exact (up2_n (fun q => e q.2)).trans (hI.2 j (by omega))
                            refine r_iinc (nI (k + 1)) [(1, .int (nI (k + 1))), (0, .ref (B + 219))] dX6_land_211 rfl (nI_1 _) (by decide) rfl ?_
                            refine r_goto (tgt := 193) dX6_land_214 (by decide) ?_
                            exact r_lv [(1, .int (nI (k + 1))), (0, .ref (B + 219))] (List.forall_mem_cons.mpr ⟨rfl, List.forall_mem_cons.mpr ⟨rfl, fun _ h => absurd h List.not_mem_nil⟩⟩) (ihL4 (k + 1) D54 (by omega) (by omega) hN8)
                      exact r_lv [(1, .int (nI 0)), (0, .ref (B + 219))] (List.forall_mem_cons.mpr ⟨rfl, List.forall_mem_cons.mpr ⟨rfl, fun _ h => absurd h List.not_mem_nil⟩⟩) (L4 (64 + 1) 0 D48 (by omega) (by omega) (⟨fun _ _ => rfl, fun j hj => absurd hj (Nat.not_lt_zero j)⟩))
                    · skip
                      rw [bI_n0] at c175
                      refine r_ldc wc_X6_152 dX6_land_178 ?_
                      refine r_aload_n dX6_land_180 rfl ?_
                      refine r_getI (ci := 6) (k := 17) wf_X6_91 dX6_land_181 z_219 k_219 (by decide) (by decide) rfl (fun z55 hz55 => ?_)
                      obtain rfl : z55 = nI y.1.2.2 := hz55.trans (hq3 c175)
                      refine r_isub dX6_land_184 (fun z56 hz56 => ?_)
                      subst hz56
                      refine r_iret2 dX6_land_185 rfl ⟨Nat.zero_le _, Nat.zero_le _⟩ ?_
                      have ea : a_land y lf r kp A wy = (-1000100 - nI y.1.2.2, nI y.1.2.1, (r, kp, A), wy) := if_neg c175
                      rw [ea]
                      exact ⟨⟨rfl, hq2.trans (if_neg c175), XMK_fr hX (hg5 223 (by decide) (by decide)) (hg5 226 (by decide) (by decide)) (hg5 228 (by decide) (by decide)) (hg6 9 (by decide)), hT9, fun q a _ b _ => (hg5 q a b).trans (upo_n a), fun f a b c => (hg6 f (by omega)).trans (MX.th.2 f a)⟩, rfl⟩
                  · skip
                    rw [nI_z (by omega)] at c141
                    refine r_aload_n dX6_land_144 rfl ?_
                    refine r_getI (ci := 6) (k := 14) wf_X6_109 dX6_land_145 z_219 k_219 (by decide) (by decide) rfl (fun z57 hz57 => ?_)
                    obtain rfl : z57 = nI (s_tk t (s_pk t m).1.1) := hz57.trans (MP_1 hI.1 c141).2.2.1
                    refine r_iconst (nI 2) dX6_land_148 (by decide) ?_
                    refine r_icmp_ne (tgt := 171) dX6_land_149 (by decide) (fun c149 => ?_) (fun c149 => ?_)
                    · skip
                      rw [nI_eq (by omega) (by omega)] at c149
                      have hfin := fin_end e2 hku (by
                        first
                          | exact Or.inl c141
                          | exact Or.inr ⟨c141, c161, fun u => (hI.2.1 c141).2 u⟩
                          | exact Or.inr ⟨c141, Classical.byContradiction (fun q => c149 ((tk_e (Or.inr trivial)).mpr (kb_ch q))), fun u => (hI.2.1 c141).2 u⟩)
                      rw [hy] at hfin
                      obtain ⟨x, hx⟩ : ∃ x, x = s_pk t m := ⟨_, rfl⟩
                      rw [← hx] at hfin hI hP
                      refine r_aload_n dX6_land_171 rfl ?_
                      refine r_callVI (As := []) (o := 219) (c_X6_failed B Dm E t x.1 hI.1) hv_X6_failed wm_X6_148 dX6_land_172 rfl rfl z_219 k_219 (by decide) rfl (Nat.le_of_ble_eq_true rfl) ⟨Nat.le_of_ble_eq_true rfl, Nat.le_of_ble_eq_true rfl, Nat.zero_le _, Nat.zero_le _⟩ ⟨rfl, rfl⟩ (fun z58 D59 E60 hz58 => ?_)
                      obtain ⟨hq1, ⟨hq2, hq3, hq4, hq5, hq6⟩, hqE⟩ := hz58
                      obtain rfl := hqE.symm
                      rw [hfin.1] at hq1 hq2 hq3
                      obtain rfl := hq1.symm
                      have hg5 : ∀ q, q ≠ 219 → q ≠ 224 → D59 q = thD D q := fun q a b => (hq5 q a).trans (hI.2.2.1 q a b)
                      have hg6 : ∀ f, (f < 11 ∨ 18 < f) → D59 219 f = thD D 219 f := fun f a => (hq6 f a).trans (hI.2.2.2 f (by omega))
                      have h18 := hI.2.2.2 18 (by decide)
                      have hT9 : TPm D59 (0, t.2) := ⟨hq4, Nat.zero_le _, fun j hj => absurd hj (Nat.not_lt_zero j)⟩
                      obtain ⟨DF, hDF⟩ : ∃ X : DD, X = D59 := ⟨_, rfl⟩
                      refine r_if_eq (tgt := 186) dX6_land_175 (by decide) (fun c175 => ?_) (fun c175 => ?_)
                      · skip
                        rw [bI_0] at c175
                        have hy0 := Classical.not_not.mp c175
                        have hyx := hfin.2 (by rw [hfin.1]; exact hy0)
                        rw [← hyx] at hI hP
                        have hAy := (hI.2.1 hy0).1
                        have hOy := hP.2 hy0
                        have hAf : MA D59 224 y.2 := fun k hk => (congrFun (hq5 224 (by decide)) k).trans (hAy k hk)
                        refine r_aload_n dX6_land_186 rfl ?_
                        refine r_iconst (nI 0) dX6_land_187 (by decide) ?_
                        refine r_putI (ci := 6) (k := 9) wf_X6_153 dX6_land_188 z_219 k_219 (by decide) (by decide) rfl rfl (fun D61 hD61 => ?_)
                        have hk9 := hD61
                        have hAf : MA D61 224 y.2 := fun k hk => by rw [hD61]; exact (congrFun (up2_o (by decide)) k).trans (hAf k hk)
                        have hT9 : TPm D61 (0, t.2) := by rw [hD61]; exact ⟨(up2_n (by decide)).trans hT9.1, Nat.zero_le _, fun j hj => absurd hj (Nat.not_lt_zero j)⟩
                        refine r_iconst (nI 0) dX6_land_191 (by decide) ?_
                        refine r_istore_n [(1, .int (nI 0)), (0, .ref (B + 219))] dX6_land_192 (by decide) rfl ?_
                        have L4 : ∀ (fu k : Nat) (Dj : DD), k ≤ 64 → 64 - k < fu → ((∀ q, q ≠ 223 → Dj q = D61 q) ∧ ∀ j, j < k → Dj 223 j = nI (y.2 j)) → RW yX6_land cX6_land 2 (some .int) rX6_land B (Q2 Z0 (pI (fun v D' E' => (v = (a_land y lf r kp A wy).1 ∧ D' 219 18 = (a_land y lf r kp A wy).2.1 ∧ XMK D' (a_land y lf r kp A wy).2.2.2 (a_land y lf r kp A wy).2.2.1.1 (a_land y lf r kp A wy).2.2.1.2.1 (a_land y lf r kp A wy).2.2.1.2.2 ∧ TPm D' (0, t.2) ∧ FRL D D') ∧ E' = E))) Z0 Dj E 0 0 193 [(1, .int (nI k)), (0, .ref (B + 219))] [] := by
                          intro fu
                          induction fu with
                          | zero => intro k Dj hku hfu _; omega
                          | succ fu ihL4 =>
                            intro k Dj hku hfu hI
                            refine r_iload_n dX6_land_193 rfl ?_
                            refine r_bipush (nI 64) dX6_land_194 (by decide) ?_
                            refine r_icmp_ge (tgt := 217) dX6_land_196 (by decide) (fun c196 => ?_) (fun c196 => ?_)
                            · skip
                              rw [nI_leI (by omega) (by omega)] at c196
                              have hk64 : k = 64 := by omega
                              rw [hk64] at hI
                              refine r_aload_n dX6_land_217 rfl ?_
                              refine r_callVV (As := []) (o := 219) (c_X6_layFar B Dj E y.2 hOy.2 (fun j hj => hI.2 j hj)) hv_X6_layFar wm_X6_156 dX6_land_218 rfl rfl z_219 k_219 (by decide) rfl (Nat.le_of_ble_eq_true rfl) ⟨Nat.le_of_ble_eq_true rfl, Nat.le_of_ble_eq_true rfl, Nat.zero_le _, Nat.zero_le _⟩ ⟨rfl, rfl⟩ (fun D63 E64 hz62 => ?_)
                              obtain ⟨hF1, hF2, hqE⟩ := hz62
                              obtain rfl := hqE.symm
                              refine r_aload_n dX6_land_221 rfl ?_
                              refine r_getR (ci := 6) (k := 5) wf_X6_19 dX6_land_222 z_219 k_219 (by decide) (by decide) (fun _ _ => rfl) f_219_5 ?_
                              refine r_iconst (nI 5) dX6_land_225 (by decide) ?_
                              refine r_iald dX6_land_226 z_223 k_223 (vp_in_nI (by decide) (by decide)) (fun z65 hz65 => ?_)
                              rw [nI_clamp (by omega)] at hz65
                              obtain rfl : z65 = nI (y.2 5) := hz65.trans ((congrFun (hF1 223 (by decide)) 5).trans (hI.2 5 (by decide)))
                              refine r_iret2 dX6_land_227 rfl ⟨Nat.zero_le _, Nat.zero_le _⟩ ?_
                              have ea : a_land y lf r kp A wy = (nI (y.2 5), lf, (y.2, 0, A), s_far y.2) := if_pos hy0
                              rw [ea]
                              have hz9 : ∀ q, q ≠ 223 → q ≠ 228 → D63 q = _ := fun q a b => (hF1 q b).trans (hI.1 q a)
                              have hz219 : ∀ f, f ≠ 9 → D63 219 f = DF 219 f := fun f a => (congrFun (hz9 219 (by decide) (by decide)) f).trans (by rw [hk9, hDF]; exact up2_n (fun e => a e.2))
                              refine ⟨⟨rfl, ?_, XMK_ld hOy (fun k hk => (congrFun (hF1 223 (by decide)) k).trans (hI.2 k hk)) hF2 ?_, ?_, fun q a b c d => ?_, fun f a b c => ?_⟩, rfl⟩
                              · refine (hz219 18 (by decide)).trans ?_
                                rw [hDF]
                                exact (hq2.trans ((if_pos hy0).trans (h18.trans ((MX.th.2 18 (by decide)).trans hlf))))
                              · refine (congrFun (hz9 219 (by decide) (by decide)) 9).trans ?_
                                rw [hk9]; exact up2_s
                              · exact ⟨(congrFun (hz9 219 (by decide) (by decide)) 11).trans hT9.1, Nat.zero_le _, fun j hj => absurd hj (Nat.not_lt_zero j)⟩
                              · refine (hz9 q b d).trans ?_
                                rw [hk9]
                                exact (up2_o a).trans ((hg5 q a c).trans (upo_n a))
                              · refine (hz219 f b).trans ?_
                                rw [hDF]
                                exact (hg6 f (by omega)).trans (MX.th.2 f a)
                            · skip
                              rw [nI_leI (by omega) (by omega)] at c196
                              refine r_aload_n dX6_land_199 rfl ?_
                              refine r_getR (ci := 6) (k := 5) wf_X6_19 dX6_land_200 z_219 k_219 (by decide) (by decide) (fun _ _ => rfl) f_219_5 ?_
                              refine r_iload_n dX6_land_203 rfl ?_
                              refine r_aload_n dX6_land_204 rfl ?_
                              refine r_getR (ci := 6) (k := 6) wf_X6_22 dX6_land_205 z_219 k_219 (by decide) (by decide) (fun _ _ => rfl) f_219_6 ?_
                              refine r_iload_n dX6_land_208 rfl ?_
                              refine r_iald dX6_land_209 z_224 k_224 (vp_in_nI (by omega) (by decide)) (fun z66 hz66 => ?_)
                              rw [nI_clamp (by omega)] at hz66
                              obtain rfl : z66 = nI (y.2 k) := hz66.trans ((congrFun (hI.1 224 (by decide)) _).trans (hAf k (by omega)))
                              refine r_iast dX6_land_210 z_223 k_223 (vp_in_nI (by omega) (by decide)) (fun D67 hD67 => ?_)
                              rw [nI_clamp (by omega)] at hD67
                              have hN8 : (∀ q, q ≠ 223 → D67 q = D61 q) ∧ ∀ j, j < k + 1 → D67 223 j = nI (y.2 j) := by
                                rw [hD67]
                                refine ⟨fun q hq => (up2_o hq).trans (hI.1 q hq), fun j hj => ?_⟩
                                by_cases e : j = k
                                · subst e; exact up2_s
                                · exact (up2_n (fun q => e q.2)).trans (hI.2 j (by omega))
                              refine r_iinc (nI (k + 1)) [(1, .int (nI (k + 1))), (0, .ref (B + 219))] dX6_land_211 rfl (nI_1 _) (by decide) rfl ?_
                              refine r_goto (tgt := 193) dX6_land_214 (by decide) ?_
                              exact r_lv [(1, .int (nI (k + 1))), (0, .ref (B + 219))] (List.forall_mem_cons.mpr ⟨rfl, List.forall_mem_cons.mpr ⟨rfl, fun _ h => absurd h List.not_mem_nil⟩⟩) (ihL4 (k + 1) D67 (by omega) (by omega) hN8)
                        exact r_lv [(1, .int (nI 0)), (0, .ref (B + 219))] (List.forall_mem_cons.mpr ⟨rfl, List.forall_mem_cons.mpr ⟨rfl, fun _ h => absurd h List.not_mem_nil⟩⟩) (L4 (64 + 1) 0 D61 (by omega) (by omega) (⟨fun _ _ => rfl, fun j hj => absurd hj (Nat.not_lt_zero j)⟩))
                      · skip
                        rw [bI_n0] at c175
                        refine r_ldc wc_X6_152 dX6_land_178 ?_
                        refine r_aload_n dX6_land_180 rfl ?_
                        refine r_getI (ci := 6) (k := 17) wf_X6_91 dX6_land_181 z_219 k_219 (by decide) (by decide) rfl (fun z68 hz68 => ?_)
                        obtain rfl : z68 = nI y.1.2.2 := hz68.trans (hq3 c175)
                        refine r_isub dX6_land_184 (fun z69 hz69 => ?_)
                        subst hz69
                        refine r_iret2 dX6_land_185 rfl ⟨Nat.zero_le _, Nat.zero_le _⟩ ?_
                        have ea : a_land y lf r kp A wy = (-1000100 - nI y.1.2.2, nI y.1.2.1, (r, kp, A), wy) := if_neg c175
                        rw [ea]
                        exact ⟨⟨rfl, hq2.trans (if_neg c175), XMK_fr hX (hg5 223 (by decide) (by decide)) (hg5 226 (by decide) (by decide)) (hg5 228 (by decide) (by decide)) (hg6 9 (by decide)), hT9, fun q a _ b _ => (hg5 q a b).trans (upo_n a), fun f a b c => (hg6 f (by omega)).trans (MX.th.2 f a)⟩, rfl⟩
                    · skip
                      rw [nI_eq (by omega) (by omega)] at c149
                      refine r_aload_n dX6_land_152 rfl ?_
                      refine r_getI (ci := 6) (k := 15) wf_X6_98 dX6_land_153 z_219 k_219 (by decide) (by decide) rfl (fun z70 hz70 => ?_)
                      obtain rfl : z70 = nI (s_by t (s_pk t m).1.1) := hz70.trans (((MP_1 hI.1 c141).2.2.2 (by omega)).trans (congrArg nI (nx_1 (by omega) (by omega)).2))
                      refine r_callSI (As := [.int (nI (s_by t (s_pk t m).1.1))]) (c_X6_kindBy B Dm E (s_by t (s_pk t m).1.1) (by omega)) hs_X6_kindBy wm_X6_133 rfl dX6_land_156 rfl rfl (Nat.le_of_ble_eq_true rfl) ⟨Nat.le_of_ble_eq_true rfl, Nat.le_of_ble_eq_true rfl, Nat.zero_le _, Nat.zero_le _⟩ ⟨rfl, rfl⟩ (fun z71 D72 E73 hz71 => ?_)
                      obtain ⟨hqV, hqD, hqE⟩ := hz71
                      obtain rfl : z71 = if s_kb (s_by t (s_pk t m).1.1) = 0 then (-1000000) else nI (s_kb (s_by t (s_pk t m).1.1)) := hqV
                      obtain rfl := hqD.symm
                      obtain rfl := hqE.symm
                      refine r_ldc wc_X6_97 dX6_land_159 ?_
                      refine r_icmp_eq (tgt := 171) dX6_land_161 (by decide) (fun c161 => ?_) (fun c161 => ?_)
                      · skip
                        rw [kb_none s_kb_le] at c161
                        have hfin := fin_end e2 hku (by
                          first
                            | exact Or.inl c141
                            | exact Or.inr ⟨c141, c161, fun u => (hI.2.1 c141).2 u⟩
                            | exact Or.inr ⟨c141, Classical.byContradiction (fun q => c149 ((tk_e (Or.inr trivial)).mpr (kb_ch q))), fun u => (hI.2.1 c141).2 u⟩)
                        rw [hy] at hfin
                        obtain ⟨x, hx⟩ : ∃ x, x = s_pk t m := ⟨_, rfl⟩
                        rw [← hx] at hfin hI hP
                        refine r_aload_n dX6_land_171 rfl ?_
                        refine r_callVI (As := []) (o := 219) (c_X6_failed B Dm E t x.1 hI.1) hv_X6_failed wm_X6_148 dX6_land_172 rfl rfl z_219 k_219 (by decide) rfl (Nat.le_of_ble_eq_true rfl) ⟨Nat.le_of_ble_eq_true rfl, Nat.le_of_ble_eq_true rfl, Nat.zero_le _, Nat.zero_le _⟩ ⟨rfl, rfl⟩ (fun z74 D75 E76 hz74 => ?_)
                        obtain ⟨hq1, ⟨hq2, hq3, hq4, hq5, hq6⟩, hqE⟩ := hz74
                        obtain rfl := hqE.symm
                        rw [hfin.1] at hq1 hq2 hq3
                        obtain rfl := hq1.symm
                        have hg5 : ∀ q, q ≠ 219 → q ≠ 224 → D75 q = thD D q := fun q a b => (hq5 q a).trans (hI.2.2.1 q a b)
                        have hg6 : ∀ f, (f < 11 ∨ 18 < f) → D75 219 f = thD D 219 f := fun f a => (hq6 f a).trans (hI.2.2.2 f (by omega))
                        have h18 := hI.2.2.2 18 (by decide)
                        have hT9 : TPm D75 (0, t.2) := ⟨hq4, Nat.zero_le _, fun j hj => absurd hj (Nat.not_lt_zero j)⟩
                        obtain ⟨DF, hDF⟩ : ∃ X : DD, X = D75 := ⟨_, rfl⟩
                        refine r_if_eq (tgt := 186) dX6_land_175 (by decide) (fun c175 => ?_) (fun c175 => ?_)
                        · skip
                          rw [bI_0] at c175
                          have hy0 := Classical.not_not.mp c175
                          have hyx := hfin.2 (by rw [hfin.1]; exact hy0)
                          rw [← hyx] at hI hP
                          have hAy := (hI.2.1 hy0).1
                          have hOy := hP.2 hy0
                          have hAf : MA D75 224 y.2 := fun k hk => (congrFun (hq5 224 (by decide)) k).trans (hAy k hk)
                          refine r_aload_n dX6_land_186 rfl ?_
                          refine r_iconst (nI 0) dX6_land_187 (by decide) ?_
                          refine r_putI (ci := 6) (k := 9) wf_X6_153 dX6_land_188 z_219 k_219 (by decide) (by decide) rfl rfl (fun D77 hD77 => ?_)
                          have hk9 := hD77
                          have hAf : MA D77 224 y.2 := fun k hk => by rw [hD77]; exact (congrFun (up2_o (by decide)) k).trans (hAf k hk)
                          have hT9 : TPm D77 (0, t.2) := by rw [hD77]; exact ⟨(up2_n (by decide)).trans hT9.1, Nat.zero_le _, fun j hj => absurd hj (Nat.not_lt_zero j)⟩
                          refine r_iconst (nI 0) dX6_land_191 (by decide) ?_
                          refine r_istore_n [(1, .int (nI 0)), (0, .ref (B + 219))] dX6_land_192 (by decide) rfl ?_
                          have L4 : ∀ (fu k : Nat) (Dj : DD), k ≤ 64 → 64 - k < fu → ((∀ q, q ≠ 223 → Dj q = D77 q) ∧ ∀ j, j < k → Dj 223 j = nI (y.2 j)) → RW yX6_land cX6_land 2 (some .int) rX6_land B (Q2 Z0 (pI (fun v D' E' => (v = (a_land y lf r kp A wy).1 ∧ D' 219 18 = (a_land y lf r kp A wy).2.1 ∧ XMK D' (a_land y lf r kp A wy).2.2.2 (a_land y lf r kp A wy).2.2.1.1 (a_land y lf r kp A wy).2.2.1.2.1 (a_land y lf r kp A wy).2.2.1.2.2 ∧ TPm D' (0, t.2) ∧ FRL D D') ∧ E' = E))) Z0 Dj E 0 0 193 [(1, .int (nI k)), (0, .ref (B + 219))] [] := by
                            intro fu
                            induction fu with
                            | zero => intro k Dj hku hfu _; omega
                            | succ fu ihL4 =>
                              intro k Dj hku hfu hI
                              refine r_iload_n dX6_land_193 rfl ?_
                              refine r_bipush (nI 64) dX6_land_194 (by decide) ?_
                              refine r_icmp_ge (tgt := 217) dX6_land_196 (by decide) (fun c196 => ?_) (fun c196 => ?_)
                              · skip
                                rw [nI_leI (by omega) (by omega)] at c196
                                have hk64 : k = 64 := by omega
                                rw [hk64] at hI
                                refine r_aload_n dX6_land_217 rfl ?_
                                refine r_callVV (As := []) (o := 219) (c_X6_layFar B Dj E y.2 hOy.2 (fun j hj => hI.2 j hj)) hv_X6_layFar wm_X6_156 dX6_land_218 rfl rfl z_219 k_219 (by decide) rfl (Nat.le_of_ble_eq_true rfl) ⟨Nat.le_of_ble_eq_true rfl, Nat.le_of_ble_eq_true rfl, Nat.zero_le _, Nat.zero_le _⟩ ⟨rfl, rfl⟩ (fun D79 E80 hz78 => ?_)
                                obtain ⟨hF1, hF2, hqE⟩ := hz78
                                obtain rfl := hqE.symm
                                refine r_aload_n dX6_land_221 rfl ?_
                                refine r_getR (ci := 6) (k := 5) wf_X6_19 dX6_land_222 z_219 k_219 (by decide) (by decide) (fun _ _ => rfl) f_219_5 ?_
                                refine r_iconst (nI 5) dX6_land_225 (by decide) ?_
                                refine r_iald dX6_land_226 z_223 k_223 (vp_in_nI (by decide) (by decide)) (fun z81 hz81 => ?_)
                                rw [nI_clamp (by omega)] at hz81
                                obtain rfl : z81 = nI (y.2 5) := hz81.trans ((congrFun (hF1 223 (by decide)) 5).trans (hI.2 5 (by decide)))
                                refine r_iret2 dX6_land_227 rfl ⟨Nat.zero_le _, Nat.zero_le _⟩ ?_
                                have ea : a_land y lf r kp A wy = (nI (y.2 5), lf, (y.2, 0, A), s_far y.2) := if_pos hy0
                                rw [ea]
                                have hz9 : ∀ q, q ≠ 223 → q ≠ 228 → D79 q = _ := fun q a b => (hF1 q b).trans (hI.1 q a)
                                have hz219 : ∀ f, f ≠ 9 → D79 219 f = DF 219 f := fun f a => (congrFun (hz9 219 (by decide) (by decide)) f).trans (by rw [hk9, hDF]; exact up2_n (fun e => a e.2))
                                refine ⟨⟨rfl, ?_, XMK_ld hOy (fun k hk => (congrFun (hF1 223 (by decide)) k).trans (hI.2 k hk)) hF2 ?_, ?_, fun q a b c d => ?_, fun f a b c => ?_⟩, rfl⟩
                                · refine (hz219 18 (by decide)).trans ?_
                                  rw [hDF]
                                  exact (hq2.trans ((if_pos hy0).trans (h18.trans ((MX.th.2 18 (by decide)).trans hlf))))
                                · refine (congrFun (hz9 219 (by decide) (by decide)) 9).trans ?_
                                  rw [hk9]; exact up2_s
                                · exact ⟨(congrFun (hz9 219 (by decide) (by decide)) 11).trans hT9.1, Nat.zero_le _, fun j hj => absurd hj (Nat.not_lt_zero j)⟩
                                · refine (hz9 q b d).trans ?_
                                  rw [hk9]
                                  exact (up2_o a).trans ((hg5 q a c).trans (upo_n a))
                                · refine (hz219 f b).trans ?_
                                  rw [hDF]
                                  exact (hg6 f (by omega)).trans (MX.th.2 f a)
                              · skip
                                rw [nI_leI (by omega) (by omega)] at c196
                                refine r_aload_n dX6_land_199 rfl ?_
                                refine r_getR (ci := 6) (k := 5) wf_X6_19 dX6_land_200 z_219 k_219 (by decide) (by decide) (fun _ _ => rfl) f_219_5 ?_
                                refine r_iload_n dX6_land_203 rfl ?_
                                refine r_aload_n dX6_land_204 rfl ?_
                                refine r_getR (ci := 6) (k := 6) wf_X6_22 dX6_land_205 z_219 k_219 (by decide) (by decide) (fun _ _ => rfl) f_219_6 ?_
                                refine r_iload_n dX6_land_208 rfl ?_
                                refine r_iald dX6_land_209 z_224 k_224 (vp_in_nI (by omega) (by decide)) (fun z82 hz82 => ?_)
                                rw [nI_clamp (by omega)] at hz82
                                obtain rfl : z82 = nI (y.2 k) := hz82.trans ((congrFun (hI.1 224 (by decide)) _).trans (hAf k (by omega)))
                                refine r_iast dX6_land_210 z_223 k_223 (vp_in_nI (by omega) (by decide)) (fun D83 hD83 => ?_)
                                rw [nI_clamp (by omega)] at hD83
                                have hN8 : (∀ q, q ≠ 223 → D83 q = D77 q) ∧ ∀ j, j < k + 1 → D83 223 j = nI (y.2 j) := by
                                  rw [hD83]
                                  refine ⟨fun q hq => (up2_o hq).trans (hI.1 q hq), fun j hj => ?_⟩
                                  by_cases e : j = k
                                  · subst e; exact up2_s
                                  · exact (up2_n (fun q => e q.2)).trans (hI.2 j (by omega))
                                refine r_iinc (nI (k + 1)) [(1, .int (nI (k + 1))), (0, .ref (B + 219))] dX6_land_211 rfl (nI_1 _) (by decide) rfl ?_
                                refine r_goto (tgt := 193) dX6_land_214 (by decide) ?_
                                exact r_lv [(1, .int (nI (k + 1))), (0, .ref (B + 219))] (List.forall_mem_cons.mpr ⟨rfl, List.forall_mem_cons.mpr ⟨rfl, fun _ h => absurd h List.not_mem_nil⟩⟩) (ihL4 (k + 1) D83 (by omega) (by omega) hN8)
                          exact r_lv [(1, .int (nI 0)), (0, .ref (B + 219))] (List.forall_mem_cons.mpr ⟨rfl, List.forall_mem_cons.mpr ⟨rfl, fun _ h => absurd h List.not_mem_nil⟩⟩) (L4 (64 + 1) 0 D77 (by omega) (by omega) (⟨fun _ _ => rfl, fun j hj => absurd hj (Nat.not_lt_zero j)⟩))
                        · skip
                          rw [bI_n0] at c175
                          refine r_ldc wc_X6_152 dX6_land_178 ?_
                          refine r_aload_n dX6_land_180 rfl ?_
                          refine r_getI (ci := 6) (k := 17) wf_X6_91 dX6_land_181 z_219 k_219 (by decide) (by decide) rfl (fun z84 hz84 => ?_)
                          obtain rfl : z84 = nI y.1.2.2 := hz84.trans (hq3 c175)
                          refine r_isub dX6_land_184 (fun z85 hz85 => ?_)
                          subst hz85
                          refine r_iret2 dX6_land_185 rfl ⟨Nat.zero_le _, Nat.zero_le _⟩ ?_
                          have ea : a_land y lf r kp A wy = (-1000100 - nI y.1.2.2, nI y.1.2.1, (r, kp, A), wy) := if_neg c175
                          rw [ea]
                          exact ⟨⟨rfl, hq2.trans (if_neg c175), XMK_fr hX (hg5 223 (by decide) (by decide)) (hg5 226 (by decide) (by decide)) (hg5 228 (by decide) (by decide)) (hg6 9 (by decide)), hT9, fun q a _ b _ => (hg5 q a b).trans (upo_n a), fun f a b c => (hg6 f (by omega)).trans (MX.th.2 f a)⟩, rfl⟩
                      · skip
                        rw [kb_none s_kb_le] at c161
                        refine r_aload_n dX6_land_164 rfl ?_
                        refine r_callVV (As := []) (o := 219) (c_X6_readWisher B Dm E t (s_pk t m).1 hI.1 c141 (s_pk t m).2 (hI.2.1 c141).1 (hP.2 c141) c161) hv_X6_readWisher wm_X6_145 dX6_land_165 rfl rfl z_219 k_219 (by decide) rfl (Nat.le_of_ble_eq_true rfl) ⟨Nat.le_of_ble_eq_true rfl, Nat.le_of_ble_eq_true rfl, Nat.zero_le _, Nat.zero_le _⟩ ⟨rfl, rfl⟩ (fun D87 E88 hz86 => ?_)
                        obtain ⟨⟨hq1, hq2, hq3⟩, hqE⟩ := hz86
                        obtain rfl := hqE.symm
                        have h97 := (tk_e (t := t) (c := (s_pk t m).1.1) (Or.inr trivial)).mp c149
                        have hl : (s_pk t m).1.1 < t.1 := by_lt (c := s_by t (s_pk t m).1.1) (by omega) rfl
                        have hmn : m < 120 := by have := hPm.2 c141; omega
                        have hst : s_pk t (m + 1) = p_wi2 t (s_kb (s_by t (s_pk t m).1.1)) (s_pk t m).1 (s_pk t m).2 := by
                          rw [pk_s ⟨c141, hl⟩, pt_w (fun q => (hI.2.1 c141).2 q.1 q.2)]
                          rfl
                        have hw := (PI_wi (kd := s_kb (s_by t (s_pk t m).1.1)) e2 hl s_kb_le c141 hP).2
                        rw [show p_wi t (s_kb (s_by t (s_pk t m).1.1)) (s_pk t m) = p_wi2 t (s_kb (s_by t (s_pk t m).1.1)) (s_pk t m).1 (s_pk t m).2 from rfl] at hw
                        have hN : MP D87 t (s_pk t (m + 1)).1 ∧ ((s_pk t (m + 1)).1.2.1 = 0 → MA D87 224 (s_pk t (m + 1)).2 ∧ (s_by t (s_pk t (m + 1)).1.1 = 114 → ¬ (s_pk t (m + 1)).2 5 = 0)) ∧ FRF (thD D) D87 := by
                          rw [hst]
                          exact ⟨hq1, fun q => ⟨hq2, fun _ u => by have := (hw q).2; omega⟩, hI.2.2.trans hq3⟩
                        refine r_goto (tgt := 137) dX6_land_168 (by decide) ?_
                        exact r_lv [(0, .ref (B + 219))] (List.forall_mem_cons.mpr ⟨rfl, fun _ h => absurd h List.not_mem_nil⟩) (ihL3 (m + 1) D87 (by omega) (by omega) hN)
              exact r_lv [(0, .ref (B + 219))] (List.forall_mem_cons.mpr ⟨rfl, fun _ h => absurd h List.not_mem_nil⟩) (L3 (120 + 1) k Dk (by omega) (by omega) (⟨hI.1, fun q => ⟨(hI.2.1 q).1, fun u => absurd ⟨q, u⟩ c127⟩, hI.2.2⟩))
            · skip
              rw [bI_n0] at c127
              refine r_aload_n dX6_land_130 rfl ?_
              refine r_callVV (As := []) (o := 219) (c_X6_readRoad B Dk E t (s_pk t k).1 hI.1 c127.1 (s_pk t k).2 (hI.2.1 c127.1).1 (hP.2 c127.1) c127.2) hv_X6_readRoad wm_X6_142 dX6_land_131 rfl rfl z_219 k_219 (by decide) rfl (Nat.le_of_ble_eq_true rfl) ⟨Nat.le_of_ble_eq_true rfl, Nat.le_of_ble_eq_true rfl, Nat.zero_le _, Nat.zero_le _⟩ ⟨rfl, rfl⟩ (fun D90 E91 hz89 => ?_)
              obtain ⟨⟨hq1, hq2, hq3⟩, hqE⟩ := hz89
              obtain rfl := hqE.symm
              have hl := by_lt (by decide) c127.2
              have hkn : k < 120 := by have := hPk.2 c127.1; omega
              have hst : s_pk t (k + 1) = p_road t (s_pk t k) := by rw [pk_s ⟨c127.1, hl⟩, pt_r ⟨c127.2, (hI.2.1 c127.1).2⟩]
              have hw := (PI_road e2 c127.1 hP).2
              have hN : MP D90 t (s_pk t (k + 1)).1 ∧ ((s_pk t (k + 1)).1.2.1 = 0 → MA D90 224 (s_pk t (k + 1)).2 ∧ (s_pk t (k + 1)).2 5 = 0) ∧ FRF (thD D) D90 := by
                rw [hst]
                exact ⟨hq1, fun q => ⟨hq2, (hw q).2.trans (hI.2.1 c127.1).2⟩, hI.2.2.trans hq3⟩
              refine r_goto (tgt := 121) dX6_land_134 (by decide) ?_
              exact r_lv [(0, .ref (B + 219))] (List.forall_mem_cons.mpr ⟨rfl, fun _ h => absurd h List.not_mem_nil⟩) (ihL2 (k + 1) D90 (by omega) (by omega) hN)
        exact r_lv [(0, .ref (B + 219))] (List.forall_mem_cons.mpr ⟨rfl, fun _ h => absurd h List.not_mem_nil⟩) (L2 (120 + 1) 0 D39 (by omega) (by omega) hI0)
      · skip
        rw [nI_leI (by omega) (by omega)] at c14
        refine r_aload_n dX6_land_17 rfl ?_
        refine r_getR (ci := 6) (k := 6) wf_X6_22 dX6_land_18 z_219 k_219 (by decide) (by decide) (fun _ _ => rfl) f_219_6 ?_
        refine r_iload_n dX6_land_21 rfl ?_
        refine r_iconst (nI 0) dX6_land_22 (by decide) ?_
        refine r_iast dX6_land_23 z_224 k_224 (vp_in_nI (by omega) (by decide)) (fun D92 hD92 => ?_)
        rw [nI_clamp (by omega)] at hD92
        have hN9 : (∀ q, q ≠ 224 → D92 q = D3 q) ∧ ∀ j, j < k + 1 → D92 224 j = nI 0 := by
          rw [hD92]
          refine ⟨fun q hq => (up2_o hq).trans (hI.1 q hq), fun j hj => ?_⟩
          by_cases e : j = k
          · subst e; exact up2_s
          · exact (up2_n (fun q => e q.2)).trans (hI.2 j (by omega))
        refine r_iinc (nI (k + 1)) [(1, .int (nI (k + 1))), (0, .ref (B + 219))] dX6_land_24 rfl (nI_1 _) (by decide) rfl ?_
        refine r_goto (tgt := 11) dX6_land_27 (by decide) ?_
        exact r_lv [(1, .int (nI (k + 1))), (0, .ref (B + 219))] (List.forall_mem_cons.mpr ⟨rfl, List.forall_mem_cons.mpr ⟨rfl, fun _ h => absurd h List.not_mem_nil⟩⟩) (ih (k + 1) D92 (by omega) (by omega) hN9)
  exact r_lv [(1, .int (nI 0)), (0, .ref (B + 219))] (List.forall_mem_cons.mpr ⟨rfl, List.forall_mem_cons.mpr ⟨rfl, fun _ h => absurd h List.not_mem_nil⟩⟩) (L (64 + 1) 0 D3 (by omega) (by omega) (⟨fun _ _ => rfl, fun j hj => absurd hj (Nat.not_lt_zero j)⟩))
