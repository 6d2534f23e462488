set_option maxRecDepth 100000 in
set_option maxHeartbeats 4000000 in
theorem c_X6_readWisher (B : Nat) (D : DD) (E : EE) (t : TPt) (s : PSt) (hM : MP D t s) (h0 : s.2.1 = 0) (r : Row) (hA : MA D 224 r) (hO : OKR r) (hk : ¬ s_kb (s_by t s.1) = 0) : MR yX6_readWisher cX6_readWisher 8 none rX6_readWisher B [.ref (B + 219)] Z0 D E (Q2 Z0 (pV (fun D' E' => (MP D' t (p_wi2 t (s_kb (s_by t s.1)) s r).1 ∧ MA D' 224 (p_wi2 t (s_kb (s_by t s.1)) s r).2 ∧ FRF D D') ∧ E' = E))) := by
  obtain ⟨m1, m2, m3, m4⟩ := MP_1 hM h0
  have ht : ∀ j, j < t.1 → t.2 j ≤ 255 := fun j hj => (hM.1.2.2 j hj).2
  have hvn := vn_999 (c := s.1) ht
  have htk := s_tk_le (t := t) (c := s.1)
  have hpk := hM.2.1
  obtain ⟨p1, p2, p3⟩ := id hpk
  obtain ⟨k1, k2⟩ := lt_f (c := s_by t s.1) (i := s.1) (t := t) (kb_ch hk) rfl
  have k9 := k2
  obtain ⟨b02, b06, b1, b2, b3, b4, b5, b9⟩ := id hO.1.1.1
  have hg_D : PFm D D := PFm.rf
  have hch := kb_ch hk
  refine r_enter [(0, .ref (B + 219))] hv_X6_readWisher.1.2.2.2.2 (Nat.le_of_ble_eq_true rfl) rfl ?_
  refine r_aload_n dX6_readWisher_0 rfl ?_
  refine r_getI (ci := 6) (k := 15) wf_X6_98 dX6_readWisher_1 z_219 k_219 (by decide) (by decide) rfl (fun z1 hz1 => ?_)
  obtain rfl : z1 = nI (s_by t s.1) := hz1.trans ((m4 (by omega)).trans (congrArg nI k9))
  refine r_callSI (As := [.int (nI (s_by t s.1))]) (c_X6_kindBy B D E (s_by t s.1) (by omega)) hs_X6_kindBy wm_X6_133 rfl dX6_readWisher_4 rfl rfl (Nat.le_of_ble_eq_true rfl) ⟨Nat.le_of_ble_eq_true rfl, Nat.le_of_ble_eq_true rfl, Nat.zero_le _, Nat.zero_le _⟩ ⟨rfl, rfl⟩ (fun z2 D3 E4 hz2 => ?_)
  obtain ⟨hq1, hqD, hqE⟩ := hz2
  obtain rfl := hqD.symm
  obtain rfl := hqE.symm
  obtain rfl : z2 = nI (s_kb (s_by t s.1)) := hq1.trans (if_neg hk)
  refine r_istore_n [(1, .int (nI (s_kb (s_by t s.1)))), (0, .ref (B + 219))] dX6_readWisher_7 (by decide) rfl ?_
  refine r_aload_n dX6_readWisher_8 rfl ?_
  refine r_getR (ci := 6) (k := 6) wf_X6_22 dX6_readWisher_9 z_219 k_219 (by decide) (by decide) (fun _ _ => rfl) f_219_6 ?_
  refine r_iconst (nI 5) dX6_readWisher_12 (by decide) ?_
  refine r_iald dX6_readWisher_13 z_224 k_224 (vp_in_nI (by decide) (by decide)) (fun z5 hz5 => ?_)
  rw [nI_clamp (by omega)] at hz5
  obtain rfl : z5 = nI (r 5) := hz5.trans (hA 5 (by decide))
  refine r_bipush (nI 6) dX6_readWisher_14 (by decide) ?_
  refine r_icmp_ne (tgt := 24) dX6_readWisher_16 (by decide) (fun c16 => ?_) (fun c16 => ?_)
  · skip
    rw [nI_eq (by omega) (by omega)] at c16
    refine r_aload_n dX6_readWisher_24 rfl ?_
    refine r_iconst (nI 1) dX6_readWisher_25 (by decide) ?_
    refine r_callVV (As := [.int (nI 1)]) (o := 219) (c_X6_must_1 B D E t s hM h0 (by omega)) hv_X6_must wm_X6_119 dX6_readWisher_26 rfl rfl z_219 k_219 (by decide) rfl (Nat.le_of_ble_eq_true rfl) ⟨Nat.le_of_ble_eq_true rfl, Nat.le_of_ble_eq_true rfl, Nat.zero_le _, Nat.zero_le _⟩ ⟨rfl, rfl⟩ (fun D7 E8 hz6 => ?_)
    obtain ⟨hq1, hq2, hqE⟩ := hz6
    obtain rfl := hqE.symm
    have hS_D7 : MP D7 t (w_1 s) := by
      have e : w_1 s = (s_nx t s.1, 0, s.2.2) := by
        unfold w_1 p_mv
        rw [(nx_1 (t := t) (c := s.1) (by omega) (by omega)).1, h0]
      rw [e]
      exact hq1
    have hg_D7 := hq2
    refine r_aload_n dX6_readWisher_29 rfl ?_
    refine r_iconst (nI 0) dX6_readWisher_30 (by decide) ?_
    refine r_aload_n dX6_readWisher_31 rfl ?_
    refine r_getR (ci := 6) (k := 6) wf_X6_22 dX6_readWisher_32 z_219 k_219 (by decide) (by decide) (fun _ _ => rfl) f_219_6 ?_
    refine r_iconst (nI 0) dX6_readWisher_35 (by decide) ?_
    refine r_iald dX6_readWisher_36 z_224 k_224 (vp_in_nI (by decide) (by decide)) (fun z9 hz9 => ?_)
    rw [nI_clamp (by omega)] at hz9
    obtain rfl : z9 = nI (r 0) := hz9.trans ((congrFun (hg_D7.1 224 (by decide)) _).trans (hA 0 (by decide)))
    refine r_iconst (nI 1) dX6_readWisher_37 (by decide) ?_
    refine r_isub dX6_readWisher_38 (fun z10 hz10 => ?_)
    obtain rfl : z10 = nI (r 0 - 1) := hz10.trans (nI_sub (by omega))
    refine r_callVI (As := [.int (nI 0), .int (nI (r 0 - 1))]) (o := 219) (c_X6_number B D7 E t (w_1 s) hS_D7 0 (r 0 - 1) (nI (r 0 - 1)) (fun _ => rfl) (by omega) (by omega)) hv_X6_number wm_X6_126 dX6_readWisher_39 rfl rfl z_219 k_219 (by decide) rfl (Nat.le_of_ble_eq_true rfl) ⟨Nat.le_of_ble_eq_true rfl, Nat.le_of_ble_eq_true rfl, Nat.zero_le _, Nat.zero_le _⟩ ⟨rfl, rfl⟩ (fun z11 D12 E13 hz11 => ?_)
    obtain ⟨hq1, hq2, hq3, hqE⟩ := hz11
    obtain rfl := hqE.symm
    obtain rfl := hq1.symm
    have hS_D12 : MP D12 t (p_nm t 0 (r 0 - 1) (w_1 s)) := hq2
    have hg_D12 := hg_D7.trans hq3
    refine r_istore_n [(2, .int ((if (p_nm t 0 (r 0 - 1) (w_1 s)).2.1 = 0 then nI (p_vl t (w_1 s)) else nI 0))), (1, .int (nI (s_kb (s_by t s.1)))), (0, .ref (B + 219))] dX6_readWisher_42 (by decide) rfl ?_
    refine r_aload_n dX6_readWisher_43 rfl ?_
    refine r_bipush (nI 44) dX6_readWisher_44 (by decide) ?_
    refine r_callVV (As := [.int (nI 44)]) (o := 219) (c_X6_mustSign B D12 E t (p_nm t 0 (r 0 - 1) (w_1 s)) hS_D12 44 (by decide)) hv_X6_mustSign wm_X6_130 dX6_readWisher_46 rfl rfl z_219 k_219 (by decide) rfl (Nat.le_of_ble_eq_true rfl) ⟨Nat.le_of_ble_eq_true rfl, Nat.le_of_ble_eq_true rfl, Nat.zero_le _, Nat.zero_le _⟩ ⟨rfl, rfl⟩ (fun D15 E16 hz14 => ?_)
    obtain ⟨hq1, hq2, hqE⟩ := hz14
    obtain rfl := hqE.symm
    have hS_D15 : MP D15 t (w_2 t (r 0) s) := hq1
    have hg_D15 := hg_D12.trans hq2
    have hb3 : (w_2 t (r 0) s).2.1 ≤ 3 := hS_D15.2.1.2.1
    refine r_aload_n dX6_readWisher_49 rfl ?_
    refine r_iconst (nI 0) dX6_readWisher_50 (by decide) ?_
    refine r_aload_n dX6_readWisher_51 rfl ?_
    refine r_getR (ci := 6) (k := 6) wf_X6_22 dX6_readWisher_52 z_219 k_219 (by decide) (by decide) (fun _ _ => rfl) f_219_6 ?_
    refine r_iconst (nI 0) dX6_readWisher_55 (by decide) ?_
    refine r_iald dX6_readWisher_56 z_224 k_224 (vp_in_nI (by decide) (by decide)) (fun z17 hz17 => ?_)
    rw [nI_clamp (by omega)] at hz17
    obtain rfl : z17 = nI (r 0) := hz17.trans ((congrFun (hg_D15.1 224 (by decide)) _).trans (hA 0 (by decide)))
    refine r_iconst (nI 1) dX6_readWisher_57 (by decide) ?_
    refine r_isub dX6_readWisher_58 (fun z18 hz18 => ?_)
    obtain rfl : z18 = nI (r 0 - 1) := hz18.trans (nI_sub (by omega))
    refine r_callVI (As := [.int (nI 0), .int (nI (r 0 - 1))]) (o := 219) (c_X6_number B D15 E t (w_2 t (r 0) s) hS_D15 0 (r 0 - 1) (nI (r 0 - 1)) (fun _ => rfl) (by omega) (by omega)) hv_X6_number wm_X6_126 dX6_readWisher_59 rfl rfl z_219 k_219 (by decide) rfl (Nat.le_of_ble_eq_true rfl) ⟨Nat.le_of_ble_eq_true rfl, Nat.le_of_ble_eq_true rfl, Nat.zero_le _, Nat.zero_le _⟩ ⟨rfl, rfl⟩ (fun z19 D20 E21 hz19 => ?_)
    obtain ⟨hq1, hq2, hq3, hqE⟩ := hz19
    obtain rfl := hqE.symm
    obtain rfl := hq1.symm
    have hS_D20 : MP D20 t (p_nm t 0 (r 0 - 1) (w_2 t (r 0) s)) := hq2
    have hg_D20 := hg_D15.trans hq3
    refine r_istore_n [(3, .int ((if (p_nm t 0 (r 0 - 1) (w_2 t (r 0) s)).2.1 = 0 then nI (p_vl t (w_2 t (r 0) s)) else nI 0))), (2, .int ((if (p_nm t 0 (r 0 - 1) (w_1 s)).2.1 = 0 then nI (p_vl t (w_1 s)) else nI 0))), (1, .int (nI (s_kb (s_by t s.1)))), (0, .ref (B + 219))] dX6_readWisher_62 (by decide) rfl ?_
    refine r_aload_n dX6_readWisher_63 rfl ?_
    refine r_bipush (nI 44) dX6_readWisher_64 (by decide) ?_
    refine r_callVV (As := [.int (nI 44)]) (o := 219) (c_X6_mustSign B D20 E t (p_nm t 0 (r 0 - 1) (w_2 t (r 0) s)) hS_D20 44 (by decide)) hv_X6_mustSign wm_X6_130 dX6_readWisher_66 rfl rfl z_219 k_219 (by decide) rfl (Nat.le_of_ble_eq_true rfl) ⟨Nat.le_of_ble_eq_true rfl, Nat.le_of_ble_eq_true rfl, Nat.zero_le _, Nat.zero_le _⟩ ⟨rfl, rfl⟩ (fun D23 E24 hz22 => ?_)
    obtain ⟨hq1, hq2, hqE⟩ := hz22
    obtain rfl := hqE.symm
    have hS_D23 : MP D23 t (w_3 t (r 0) s) := hq1
    have hg_D23 := hg_D20.trans hq2
    have hb3 : (w_3 t (r 0) s).2.1 ≤ 3 := hS_D23.2.1.2.1
    refine r_aload_n dX6_readWisher_69 rfl ?_
    refine r_iconst (nI 0) dX6_readWisher_70 (by decide) ?_
    refine r_bipush (nI 40) dX6_readWisher_71 (by decide) ?_
    refine r_callVI (As := [.int (nI 0), .int (nI 40)]) (o := 219) (c_X6_number B D23 E t (w_3 t (r 0) s) hS_D23 0 (40) (nI 40) (fun _ => rfl) (by omega) (by omega)) hv_X6_number wm_X6_126 dX6_readWisher_73 rfl rfl z_219 k_219 (by decide) rfl (Nat.le_of_ble_eq_true rfl) ⟨Nat.le_of_ble_eq_true rfl, Nat.le_of_ble_eq_true rfl, Nat.zero_le _, Nat.zero_le _⟩ ⟨rfl, rfl⟩ (fun z25 D26 E27 hz25 => ?_)
    obtain ⟨hq1, hq2, hq3, hqE⟩ := hz25
    obtain rfl := hqE.symm
    obtain rfl := hq1.symm
    have hS_D26 : MP D26 t (p_nm t 0 40 (w_3 t (r 0) s)) := hq2
    have hg_D26 := hg_D23.trans hq3
    refine r_istore [(4, .int ((if (p_nm t 0 40 (w_3 t (r 0) s)).2.1 = 0 then nI (p_vl t (w_3 t (r 0) s)) else nI 0))), (3, .int ((if (p_nm t 0 (r 0 - 1) (w_2 t (r 0) s)).2.1 = 0 then nI (p_vl t (w_2 t (r 0) s)) else nI 0))), (2, .int ((if (p_nm t 0 (r 0 - 1) (w_1 s)).2.1 = 0 then nI (p_vl t (w_1 s)) else nI 0))), (1, .int (nI (s_kb (s_by t s.1)))), (0, .ref (B + 219))] dX6_readWisher_76 (by decide) rfl ?_
    refine r_aload_n dX6_readWisher_78 rfl ?_
    refine r_bipush (nI 44) dX6_readWisher_79 (by decide) ?_
    refine r_callVV (As := [.int (nI 44)]) (o := 219) (c_X6_mustSign B D26 E t (p_nm t 0 40 (w_3 t (r 0) s)) hS_D26 44 (by decide)) hv_X6_mustSign wm_X6_130 dX6_readWisher_81 rfl rfl z_219 k_219 (by decide) rfl (Nat.le_of_ble_eq_true rfl) ⟨Nat.le_of_ble_eq_true rfl, Nat.le_of_ble_eq_true rfl, Nat.zero_le _, Nat.zero_le _⟩ ⟨rfl, rfl⟩ (fun D29 E30 hz28 => ?_)
    obtain ⟨hq1, hq2, hqE⟩ := hz28
    obtain rfl := hqE.symm
    have hS_D29 : MP D29 t (w_4 t (r 0) s) := hq1
    have hg_D29 := hg_D26.trans hq2
    have hb3 : (w_4 t (r 0) s).2.1 ≤ 3 := hS_D29.2.1.2.1
    refine r_aload_n dX6_readWisher_84 rfl ?_
    refine r_iconst (nI 0) dX6_readWisher_85 (by decide) ?_
    refine r_iconst (nI 5) dX6_readWisher_86 (by decide) ?_
    refine r_callVI (As := [.int (nI 0), .int (nI 5)]) (o := 219) (c_X6_number B D29 E t (w_4 t (r 0) s) hS_D29 0 (5) (nI 5) (fun _ => rfl) (by omega) (by omega)) hv_X6_number wm_X6_126 dX6_readWisher_87 rfl rfl z_219 k_219 (by decide) rfl (Nat.le_of_ble_eq_true rfl) ⟨Nat.le_of_ble_eq_true rfl, Nat.le_of_ble_eq_true rfl, Nat.zero_le _, Nat.zero_le _⟩ ⟨rfl, rfl⟩ (fun z31 D32 E33 hz31 => ?_)
    obtain ⟨hq1, hq2, hq3, hqE⟩ := hz31
    obtain rfl := hqE.symm
    obtain rfl := hq1.symm
    have hS_D32 : MP D32 t (p_nm t 0 5 (w_4 t (r 0) s)) := hq2
    have hg_D32 := hg_D29.trans hq3
    refine r_istore [(5, .int ((if (p_nm t 0 5 (w_4 t (r 0) s)).2.1 = 0 then nI (p_vl t (w_4 t (r 0) s)) else nI 0))), (4, .int ((if (p_nm t 0 40 (w_3 t (r 0) s)).2.1 = 0 then nI (p_vl t (w_3 t (r 0) s)) else nI 0))), (3, .int ((if (p_nm t 0 (r 0 - 1) (w_2 t (r 0) s)).2.1 = 0 then nI (p_vl t (w_2 t (r 0) s)) else nI 0))), (2, .int ((if (p_nm t 0 (r 0 - 1) (w_1 s)).2.1 = 0 then nI (p_vl t (w_1 s)) else nI 0))), (1, .int (nI (s_kb (s_by t s.1)))), (0, .ref (B + 219))] dX6_readWisher_90 (by decide) rfl ?_
    refine r_aload_n dX6_readWisher_92 rfl ?_
    refine r_bipush (nI 44) dX6_readWisher_93 (by decide) ?_
    refine r_callVV (As := [.int (nI 44)]) (o := 219) (c_X6_mustSign B D32 E t (p_nm t 0 5 (w_4 t (r 0) s)) hS_D32 44 (by decide)) hv_X6_mustSign wm_X6_130 dX6_readWisher_95 rfl rfl z_219 k_219 (by decide) rfl (Nat.le_of_ble_eq_true rfl) ⟨Nat.le_of_ble_eq_true rfl, Nat.le_of_ble_eq_true rfl, Nat.zero_le _, Nat.zero_le _⟩ ⟨rfl, rfl⟩ (fun D35 E36 hz34 => ?_)
    obtain ⟨hq1, hq2, hqE⟩ := hz34
    obtain rfl := hqE.symm
    have hS_D35 : MP D35 t (w_5 t (r 0) s) := hq1
    have hg_D35 := hg_D32.trans hq2
    have hb3 : (w_5 t (r 0) s).2.1 ≤ 3 := hS_D35.2.1.2.1
    refine r_aload_n dX6_readWisher_98 rfl ?_
    refine r_iconst (nI 1) dX6_readWisher_99 (by decide) ?_
    refine r_bipush (nI 6) dX6_readWisher_100 (by decide) ?_
    refine r_callVI (As := [.int (nI 1), .int (nI 6)]) (o := 219) (c_X6_number B D35 E t (w_5 t (r 0) s) hS_D35 1 (6) (nI 6) (fun _ => rfl) (by omega) (by omega)) hv_X6_number wm_X6_126 dX6_readWisher_102 rfl rfl z_219 k_219 (by decide) rfl (Nat.le_of_ble_eq_true rfl) ⟨Nat.le_of_ble_eq_true rfl, Nat.le_of_ble_eq_true rfl, Nat.zero_le _, Nat.zero_le _⟩ ⟨rfl, rfl⟩ (fun z37 D38 E39 hz37 => ?_)
    obtain ⟨hq1, hq2, hq3, hqE⟩ := hz37
    obtain rfl := hqE.symm
    obtain rfl := hq1.symm
    have hS_D38 : MP D38 t (p_nm t 1 6 (w_5 t (r 0) s)) := hq2
    have hg_D38 := hg_D35.trans hq3
    refine r_istore [(6, .int ((if (p_nm t 1 6 (w_5 t (r 0) s)).2.1 = 0 then nI (p_vl t (w_5 t (r 0) s)) else nI 1))), (5, .int ((if (p_nm t 0 5 (w_4 t (r 0) s)).2.1 = 0 then nI (p_vl t (w_4 t (r 0) s)) else nI 0))), (4, .int ((if (p_nm t 0 40 (w_3 t (r 0) s)).2.1 = 0 then nI (p_vl t (w_3 t (r 0) s)) else nI 0))), (3, .int ((if (p_nm t 0 (r 0 - 1) (w_2 t (r 0) s)).2.1 = 0 then nI (p_vl t (w_2 t (r 0) s)) else nI 0))), (2, .int ((if (p_nm t 0 (r 0 - 1) (w_1 s)).2.1 = 0 then nI (p_vl t (w_1 s)) else nI 0))), (1, .int (nI (s_kb (s_by t s.1)))), (0, .ref (B + 219))] dX6_readWisher_105 (by decide) rfl ?_
    refine r_aload_n dX6_readWisher_107 rfl ?_
    refine r_bipush (nI 59) dX6_readWisher_108 (by decide) ?_
    refine r_callVV (As := [.int (nI 59)]) (o := 219) (c_X6_mustSign B D38 E t (p_nm t 1 6 (w_5 t (r 0) s)) hS_D38 59 (by decide)) hv_X6_mustSign wm_X6_130 dX6_readWisher_110 rfl rfl z_219 k_219 (by decide) rfl (Nat.le_of_ble_eq_true rfl) ⟨Nat.le_of_ble_eq_true rfl, Nat.le_of_ble_eq_true rfl, Nat.zero_le _, Nat.zero_le _⟩ ⟨rfl, rfl⟩ (fun D41 E42 hz40 => ?_)
    obtain ⟨hq1, hq2, hqE⟩ := hz40
    obtain rfl := hqE.symm
    have hS_D41 : MP D41 t (w_6 t (r 0) s) := hq1
    have hg_D41 := hg_D38.trans hq2
    have hb3 : (w_6 t (r 0) s).2.1 ≤ 3 := hS_D41.2.1.2.1
    refine r_aload_n dX6_readWisher_113 rfl ?_
    refine r_getI (ci := 6) (k := 16) wf_X6_85 dX6_readWisher_114 z_219 k_219 (by decide) (by decide) rfl (fun z43 hz43 => ?_)
    obtain rfl : z43 = nI ((w_6 t (r 0) s).2.1) := (hz43.trans (by first | exact MP_f hS_D41 | exact MP_f hb1))
    refine r_if_ne (tgt := 205) dX6_readWisher_117 (by decide) (fun c117 => ?_) (fun c117 => ?_)
    · skip
      rw [nI_z (by omega)] at c117
      refine r_vret2 dX6_readWisher_205 rfl ⟨Nat.zero_le _, Nat.zero_le _⟩ ?_
      refine ⟨?_, rfl⟩
      first
        | (rw [wi2_3 hk (show 6 ≤ r 5 by omega)]
           exact R3_mk (by rw [fp_f h0]; exact hb1) (fun k hk => (congrFun (hb2.1 224 (by decide)) k).trans (hA k hk)) (FRF.of hb2))
        | (rw [wi2_t hk (show ¬ 6 ≤ r 5 by omega) c117]
           rw [wis_rs] at hA7
           exact R3_mk hS7 hA7 hF7)
        | (rw [wi2_f hk (show ¬ 6 ≤ r 5 by omega) c117]
           exact R3_mk hS_D41 (fun k hk => (congrFun (hg_D41.1 224 (by decide)) k).trans (hA k hk)) (FRF.of hg_D41))
    · skip
      rw [nI_z (by omega)] at c117
      obtain ⟨h11, -, -⟩ := ex_ok' (show w_6 t (r 0) s = p_ex t 59 (p_nm t 1 6 (w_5 t (r 0) s)) from rfl) c117
      obtain ⟨h10, -, -⟩ := nm_ok h11
      obtain ⟨h9, -, -⟩ := ex_ok' (show w_5 t (r 0) s = p_ex t 44 (p_nm t 0 5 (w_4 t (r 0) s)) from rfl) h10
      obtain ⟨h8, -, -⟩ := nm_ok h9
      obtain ⟨h7, -, -⟩ := ex_ok' (show w_4 t (r 0) s = p_ex t 44 (p_nm t 0 40 (w_3 t (r 0) s)) from rfl) h8
      obtain ⟨h6, -, -⟩ := nm_ok h7
      obtain ⟨h5, -, -⟩ := ex_ok' (show w_3 t (r 0) s = p_ex t 44 (p_nm t 0 (r 0 - 1) (w_2 t (r 0) s)) from rfl) h6
      obtain ⟨h4, -, -⟩ := nm_ok h5
      obtain ⟨h3, -, -⟩ := ex_ok' (show w_2 t (r 0) s = p_ex t 44 (p_nm t 0 (r 0 - 1) (w_1 s)) from rfl) h4
      have hA0 : MA D41 224 r := fun k hk => (congrFun (hg_D41.1 224 (by decide)) k).trans (hA k hk)
      have hF0 := FRF.of hg_D41
      have hS0 := hS_D41
      refine r_lv [(6, .int (nI (p_vl t (w_5 t (r 0) s)))), (5, .int (nI (p_vl t (w_4 t (r 0) s)))), (4, .int (nI (p_vl t (w_3 t (r 0) s)))), (3, .int (nI (p_vl t (w_2 t (r 0) s)))), (2, .int (nI (p_vl t (w_1 s)))), (1, .int (nI (s_kb (s_by t s.1)))), (0, .ref (B + 219))] (List.forall_mem_cons.mpr ⟨congrArg (fun x => some (Value.int x)) (if_pos h11), List.forall_mem_cons.mpr ⟨congrArg (fun x => some (Value.int x)) (if_pos h9), List.forall_mem_cons.mpr ⟨congrArg (fun x => some (Value.int x)) (if_pos h7), List.forall_mem_cons.mpr ⟨congrArg (fun x => some (Value.int x)) (if_pos h5), List.forall_mem_cons.mpr ⟨congrArg (fun x => some (Value.int x)) (if_pos h3), List.forall_mem_cons.mpr ⟨rfl, List.forall_mem_cons.mpr ⟨rfl, fun _ h => absurd h List.not_mem_nil⟩⟩⟩⟩⟩⟩⟩) ?_
      refine r_bipush (nI 16) dX6_readWisher_120 (by decide) ?_
      refine r_bipush (nI 8) dX6_readWisher_122 (by decide) ?_
      refine r_aload_n dX6_readWisher_124 rfl ?_
      refine r_getR (ci := 6) (k := 6) wf_X6_22 dX6_readWisher_125 z_219 k_219 (by decide) (by decide) (fun _ _ => rfl) f_219_6 ?_
      refine r_iconst (nI 5) dX6_readWisher_128 (by decide) ?_
      refine r_iald dX6_readWisher_129 z_224 k_224 (vp_in_nI (by decide) (by decide)) (fun z44 hz44 => ?_)
      rw [nI_clamp (by omega)] at hz44
      obtain rfl : z44 = nI (r 5) := hz44.trans (hA0 5 (by decide))
      refine r_imul dX6_readWisher_130 (fun z45 hz45 => ?_)
      obtain rfl : z45 = nI (8 * (r 5)) := (hz45.trans (pk_mul _ _))
      refine r_iadd dX6_readWisher_131 (fun z46 hz46 => ?_)
      obtain rfl : z46 = nI (16 + (8 * (r 5))) := (hz46.trans (nI_add _ _))
      refine r_istore [(7, .int (nI (16 + (8 * (r 5))))), (6, .int (nI (p_vl t (w_5 t (r 0) s)))), (5, .int (nI (p_vl t (w_4 t (r 0) s)))), (4, .int (nI (p_vl t (w_3 t (r 0) s)))), (3, .int (nI (p_vl t (w_2 t (r 0) s)))), (2, .int (nI (p_vl t (w_1 s)))), (1, .int (nI (s_kb (s_by t s.1)))), (0, .ref (B + 219))] dX6_readWisher_132 (by decide) rfl ?_
      refine r_aload_n dX6_readWisher_134 rfl ?_
      refine r_getR (ci := 6) (k := 6) wf_X6_22 dX6_readWisher_135 z_219 k_219 (by decide) (by decide) (fun _ _ => rfl) f_219_6 ?_
      refine r_iload dX6_readWisher_138 rfl ?_
      refine r_iload_n dX6_readWisher_140 rfl ?_
      refine r_iast dX6_readWisher_141 z_224 k_224 (vp_in_nI (by omega) (by decide)) (fun D47 hD47 => ?_)
      rw [nI_clamp (by omega)] at hD47
      have ht1 := hD47
      have hA1 := MA_up hA0 ht1 (show _ = 16 + 8 * r 5 by omega)
      have hS1 := MP_up hS0 ht1
      have hF1 := hF0.up ht1
      refine r_aload_n dX6_readWisher_142 rfl ?_
      refine r_getR (ci := 6) (k := 6) wf_X6_22 dX6_readWisher_143 z_219 k_219 (by decide) (by decide) (fun _ _ => rfl) f_219_6 ?_
      refine r_iload dX6_readWisher_146 rfl ?_
      refine r_iconst (nI 1) dX6_readWisher_148 (by decide) ?_
      refine r_iadd dX6_readWisher_149 (fun z48 hz48 => ?_)
      obtain rfl : z48 = nI ((16 + (8 * (r 5))) + 1) := (hz48.trans (nI_add _ _))
      refine r_iload_n dX6_readWisher_150 rfl ?_
      refine r_iast dX6_readWisher_151 z_224 k_224 (vp_in_nI (by omega) (by decide)) (fun D49 hD49 => ?_)
      rw [nI_clamp (by omega)] at hD49
      have ht2 := hD49
      have hA2 := MA_up hA1 ht2 (show _ = 17 + 8 * r 5 by omega)
      have hS2 := MP_up hS1 ht2
      have hF2 := hF1.up ht2
      refine r_aload_n dX6_readWisher_152 rfl ?_
      refine r_getR (ci := 6) (k := 6) wf_X6_22 dX6_readWisher_153 z_219 k_219 (by decide) (by decide) (fun _ _ => rfl) f_219_6 ?_
      refine r_iload dX6_readWisher_156 rfl ?_
      refine r_iconst (nI 2) dX6_readWisher_158 (by decide) ?_
      refine r_iadd dX6_readWisher_159 (fun z50 hz50 => ?_)
      obtain rfl : z50 = nI ((16 + (8 * (r 5))) + 2) := (hz50.trans (nI_add _ _))
      refine r_iload_n dX6_readWisher_160 rfl ?_
      refine r_iast dX6_readWisher_161 z_224 k_224 (vp_in_nI (by omega) (by decide)) (fun D51 hD51 => ?_)
      rw [nI_clamp (by omega)] at hD51
      have ht3 := hD51
      have hA3 := MA_up hA2 ht3 (show _ = 18 + 8 * r 5 by omega)
      have hS3 := MP_up hS2 ht3
      have hF3 := hF2.up ht3
      refine r_aload_n dX6_readWisher_162 rfl ?_
      refine r_getR (ci := 6) (k := 6) wf_X6_22 dX6_readWisher_163 z_219 k_219 (by decide) (by decide) (fun _ _ => rfl) f_219_6 ?_
      refine r_iload dX6_readWisher_166 rfl ?_
      refine r_iconst (nI 3) dX6_readWisher_168 (by decide) ?_
      refine r_iadd dX6_readWisher_169 (fun z52 hz52 => ?_)
      obtain rfl : z52 = nI ((16 + (8 * (r 5))) + 3) := (hz52.trans (nI_add _ _))
      refine r_iload dX6_readWisher_170 rfl ?_
      refine r_iast dX6_readWisher_172 z_224 k_224 (vp_in_nI (by omega) (by decide)) (fun D53 hD53 => ?_)
      rw [nI_clamp (by omega)] at hD53
      have ht4 := hD53
      have hA4 := MA_up hA3 ht4 (show _ = 19 + 8 * r 5 by omega)
      have hS4 := MP_up hS3 ht4
      have hF4 := hF3.up ht4
      refine r_aload_n dX6_readWisher_173 rfl ?_
      refine r_getR (ci := 6) (k := 6) wf_X6_22 dX6_readWisher_174 z_219 k_219 (by decide) (by decide) (fun _ _ => rfl) f_219_6 ?_
      refine r_iload dX6_readWisher_177 rfl ?_
      refine r_iconst (nI 4) dX6_readWisher_179 (by decide) ?_
      refine r_iadd dX6_readWisher_180 (fun z54 hz54 => ?_)
      obtain rfl : z54 = nI ((16 + (8 * (r 5))) + 4) := (hz54.trans (nI_add _ _))
      refine r_iload dX6_readWisher_181 rfl ?_
      refine r_iast dX6_readWisher_183 z_224 k_224 (vp_in_nI (by omega) (by decide)) (fun D55 hD55 => ?_)
      rw [nI_clamp (by omega)] at hD55
      have ht5 := hD55
      have hA5 := MA_up hA4 ht5 (show _ = 20 + 8 * r 5 by omega)
      have hS5 := MP_up hS4 ht5
      have hF5 := hF4.up ht5
      refine r_aload_n dX6_readWisher_184 rfl ?_
      refine r_getR (ci := 6) (k := 6) wf_X6_22 dX6_readWisher_185 z_219 k_219 (by decide) (by decide) (fun _ _ => rfl) f_219_6 ?_
      refine r_iload dX6_readWisher_188 rfl ?_
      refine r_iconst (nI 5) dX6_readWisher_190 (by decide) ?_
      refine r_iadd dX6_readWisher_191 (fun z56 hz56 => ?_)
      obtain rfl : z56 = nI ((16 + (8 * (r 5))) + 5) := (hz56.trans (nI_add _ _))
      refine r_iload dX6_readWisher_192 rfl ?_
      refine r_iast dX6_readWisher_194 z_224 k_224 (vp_in_nI (by omega) (by decide)) (fun D57 hD57 => ?_)
      rw [nI_clamp (by omega)] at hD57
      have ht6 := hD57
      have hA6 := MA_up hA5 ht6 (show _ = 21 + 8 * r 5 by omega)
      have hS6 := MP_up hS5 ht6
      have hF6 := hF5.up ht6
      refine r_aload_n dX6_readWisher_195 rfl ?_
      refine r_getR (ci := 6) (k := 6) wf_X6_22 dX6_readWisher_196 z_219 k_219 (by decide) (by decide) (fun _ _ => rfl) f_219_6 ?_
      refine r_iconst (nI 5) dX6_readWisher_199 (by decide) ?_
      refine r_dup2 dX6_readWisher_200 rfl rfl ?_
      refine r_iald dX6_readWisher_201 z_224 k_224 (vp_in_nI (by decide) (by decide)) (fun z58 hz58 => ?_)
      rw [nI_clamp (by omega)] at hz58
      obtain rfl : z58 = nI (r 5) := hz58.trans ((hA6 5 (by decide)).trans (congrArg nI (by rw [rset_n (by omega), rset_n (by omega), rset_n (by omega), rset_n (by omega), rset_n (by omega), rset_n (by omega)])))
      refine r_iconst (nI 1) dX6_readWisher_202 (by decide) ?_
      refine r_iadd dX6_readWisher_203 (fun z59 hz59 => ?_)
      obtain rfl : z59 = nI ((r 5) + 1) := (hz59.trans (nI_add _ _))
      refine r_iast dX6_readWisher_204 z_224 k_224 (vp_in_nI (by decide) (by decide)) (fun D60 hD60 => ?_)
      rw [nI_clamp (by omega)] at hD60
      have ht7 := hD60
      have hA7 := MA_up hA6 ht7 (show _ = 5 by omega)
      have hS7 := MP_up hS6 ht7
      have hF7 := hF6.up ht7
      refine r_vret2 dX6_readWisher_205 rfl ⟨Nat.zero_le _, Nat.zero_le _⟩ ?_
      refine ⟨?_, rfl⟩
      first
        | (rw [wi2_3 hk (show 6 ≤ r 5 by omega)]
           exact R3_mk (by rw [fp_f h0]; exact hb1) (fun k hk => (congrFun (hb2.1 224 (by decide)) k).trans (hA k hk)) (FRF.of hb2))
        | (rw [wi2_t hk (show ¬ 6 ≤ r 5 by omega) c117]
           rw [wis_rs] at hA7
           exact R3_mk hS7 hA7 hF7)
        | (rw [wi2_f hk (show ¬ 6 ≤ r 5 by omega) c117]
           exact R3_mk hS_D60 (fun k hk => (congrFun (hg_D60.1 224 (by decide)) k).trans (hA k hk)) (FRF.of hg_D60))
  · skip
    rw [nI_eq (by omega) (by omega)] at c16
    refine r_aload_n dX6_readWisher_19 rfl ?_
    refine r_iconst (nI 3) dX6_readWisher_20 (by decide) ?_
    refine r_callVV (As := [.int (nI 3)]) (o := 219) (c_X6_bad_0 B D E t s hM h0 3 (by decide)) hv_X6_bad wm_X6_112 dX6_readWisher_21 rfl rfl z_219 k_219 (by decide) rfl (Nat.le_of_ble_eq_true rfl) ⟨Nat.le_of_ble_eq_true rfl, Nat.le_of_ble_eq_true rfl, Nat.zero_le _, Nat.zero_le _⟩ ⟨rfl, rfl⟩ (fun D62 E63 hz61 => ?_)
    obtain ⟨hb1, hb2, hqE⟩ := hz61
    obtain rfl := hqE.symm
    have hg_D62 := hb2
    refine r_aload_n dX6_readWisher_24 rfl ?_
    refine r_iconst (nI 1) dX6_readWisher_25 (by decide) ?_
    refine r_callVV (As := [.int (nI 1)]) (o := 219) (c_X6_must_f B D62 E t _ hb1 (fun q => absurd (show (3 : Nat) = 0 from q) (by decide)) (nI 1)) hv_X6_must wm_X6_119 dX6_readWisher_26 rfl rfl z_219 k_219 (by decide) rfl (Nat.le_of_ble_eq_true rfl) ⟨Nat.le_of_ble_eq_true rfl, Nat.le_of_ble_eq_true rfl, Nat.zero_le _, Nat.zero_le _⟩ ⟨rfl, rfl⟩ (fun D65 E66 hz64 => ?_)
    obtain ⟨hqD, hqE⟩ := hz64
    obtain rfl := hqE.symm
    obtain rfl := hqD.symm
    refine r_aload_n dX6_readWisher_29 rfl ?_
    refine r_iconst (nI 0) dX6_readWisher_30 (by decide) ?_
    refine r_aload_n dX6_readWisher_31 rfl ?_
    refine r_getR (ci := 6) (k := 6) wf_X6_22 dX6_readWisher_32 z_219 k_219 (by decide) (by decide) (fun _ _ => rfl) f_219_6 ?_
    refine r_iconst (nI 0) dX6_readWisher_35 (by decide) ?_
    refine r_iald dX6_readWisher_36 z_224 k_224 (vp_in_nI (by decide) (by decide)) (fun z67 hz67 => ?_)
    rw [nI_clamp (by omega)] at hz67
    obtain rfl : z67 = nI (r 0) := hz67.trans ((congrFun (hg_D62.1 224 (by decide)) _).trans (hA 0 (by decide)))
    refine r_iconst (nI 1) dX6_readWisher_37 (by decide) ?_
    refine r_isub dX6_readWisher_38 (fun z68 hz68 => ?_)
    obtain rfl : z68 = nI (r 0 - 1) := hz68.trans (nI_sub (by omega))
    refine r_callVI (As := [.int (nI 0), .int (nI (r 0 - 1))]) (o := 219) (c_X6_number_f B D62 E t _ hb1 (fun q => absurd (show (3 : Nat) = 0 from q) (by decide)) (nI 0) (nI (r 0 - 1))) hv_X6_number wm_X6_126 dX6_readWisher_39 rfl rfl z_219 k_219 (by decide) rfl (Nat.le_of_ble_eq_true rfl) ⟨Nat.le_of_ble_eq_true rfl, Nat.le_of_ble_eq_true rfl, Nat.zero_le _, Nat.zero_le _⟩ ⟨rfl, rfl⟩ (fun z69 D70 E71 hz69 => ?_)
    obtain ⟨hqV, hqD, hqE⟩ := hz69
    obtain rfl := hqE.symm
    obtain rfl := hqD.symm
    obtain rfl := hqV.symm
    refine r_istore_n [(2, .int (nI 0)), (1, .int (nI (s_kb (s_by t s.1)))), (0, .ref (B + 219))] dX6_readWisher_42 (by decide) rfl ?_
    refine r_aload_n dX6_readWisher_43 rfl ?_
    refine r_bipush (nI 44) dX6_readWisher_44 (by decide) ?_
    refine r_callVV (As := [.int (nI 44)]) (o := 219) (c_X6_mustSign_f B D62 E t _ hb1 (fun q => absurd (show (3 : Nat) = 0 from q) (by decide)) (nI 44)) hv_X6_mustSign wm_X6_130 dX6_readWisher_46 rfl rfl z_219 k_219 (by decide) rfl (Nat.le_of_ble_eq_true rfl) ⟨Nat.le_of_ble_eq_true rfl, Nat.le_of_ble_eq_true rfl, Nat.zero_le _, Nat.zero_le _⟩ ⟨rfl, rfl⟩ (fun D73 E74 hz72 => ?_)
    obtain ⟨hqD, hqE⟩ := hz72
    obtain rfl := hqE.symm
    obtain rfl := hqD.symm
    refine r_aload_n dX6_readWisher_49 rfl ?_
    refine r_iconst (nI 0) dX6_readWisher_50 (by decide) ?_
    refine r_aload_n dX6_readWisher_51 rfl ?_
    refine r_getR (ci := 6) (k := 6) wf_X6_22 dX6_readWisher_52 z_219 k_219 (by decide) (by decide) (fun _ _ => rfl) f_219_6 ?_
    refine r_iconst (nI 0) dX6_readWisher_55 (by decide) ?_
    refine r_iald dX6_readWisher_56 z_224 k_224 (vp_in_nI (by decide) (by decide)) (fun z75 hz75 => ?_)
    rw [nI_clamp (by omega)] at hz75
    obtain rfl : z75 = nI (r 0) := hz75.trans ((congrFun (hg_D62.1 224 (by decide)) _).trans (hA 0 (by decide)))
    refine r_iconst (nI 1) dX6_readWisher_57 (by decide) ?_
    refine r_isub dX6_readWisher_58 (fun z76 hz76 => ?_)
    obtain rfl : z76 = nI (r 0 - 1) := hz76.trans (nI_sub (by omega))
    refine r_callVI (As := [.int (nI 0), .int (nI (r 0 - 1))]) (o := 219) (c_X6_number_f B D62 E t _ hb1 (fun q => absurd (show (3 : Nat) = 0 from q) (by decide)) (nI 0) (nI (r 0 - 1))) hv_X6_number wm_X6_126 dX6_readWisher_59 rfl rfl z_219 k_219 (by decide) rfl (Nat.le_of_ble_eq_true rfl) ⟨Nat.le_of_ble_eq_true rfl, Nat.le_of_ble_eq_true rfl, Nat.zero_le _, Nat.zero_le _⟩ ⟨rfl, rfl⟩ (fun z77 D78 E79 hz77 => ?_)
    obtain ⟨hqV, hqD, hqE⟩ := hz77
    obtain rfl := hqE.symm
    obtain rfl := hqD.symm
    obtain rfl := hqV.symm
    refine r_istore_n [(3, .int (nI 0)), (2, .int (nI 0)), (1, .int (nI (s_kb (s_by t s.1)))), (0, .ref (B + 219))] dX6_readWisher_62 (by decide) rfl ?_
    refine r_aload_n dX6_readWisher_63 rfl ?_
    refine r_bipush (nI 44) dX6_readWisher_64 (by decide) ?_
    refine r_callVV (As := [.int (nI 44)]) (o := 219) (c_X6_mustSign_f B D62 E t _ hb1 (fun q => absurd (show (3 : Nat) = 0 from q) (by decide)) (nI 44)) hv_X6_mustSign wm_X6_130 dX6_readWisher_66 rfl rfl z_219 k_219 (by decide) rfl (Nat.le_of_ble_eq_true rfl) ⟨Nat.le_of_ble_eq_true rfl, Nat.le_of_ble_eq_true rfl, Nat.zero_le _, Nat.zero_le _⟩ ⟨rfl, rfl⟩ (fun D81 E82 hz80 => ?_)
    obtain ⟨hqD, hqE⟩ := hz80
    obtain rfl := hqE.symm
    obtain rfl := hqD.symm
    refine r_aload_n dX6_readWisher_69 rfl ?_
    refine r_iconst (nI 0) dX6_readWisher_70 (by decide) ?_
    refine r_bipush (nI 40) dX6_readWisher_71 (by decide) ?_
    refine r_callVI (As := [.int (nI 0), .int (nI 40)]) (o := 219) (c_X6_number_f B D62 E t _ hb1 (fun q => absurd (show (3 : Nat) = 0 from q) (by decide)) (nI 0) (nI 40)) hv_X6_number wm_X6_126 dX6_readWisher_73 rfl rfl z_219 k_219 (by decide) rfl (Nat.le_of_ble_eq_true rfl) ⟨Nat.le_of_ble_eq_true rfl, Nat.le_of_ble_eq_true rfl, Nat.zero_le _, Nat.zero_le _⟩ ⟨rfl, rfl⟩ (fun z83 D84 E85 hz83 => ?_)
    obtain ⟨hqV, hqD, hqE⟩ := hz83
    obtain rfl := hqE.symm
    obtain rfl := hqD.symm
    obtain rfl := hqV.symm
    refine r_istore [(4, .int (nI 0)), (3, .int (nI 0)), (2, .int (nI 0)), (1, .int (nI (s_kb (s_by t s.1)))), (0, .ref (B + 219))] dX6_readWisher_76 (by decide) rfl ?_
    refine r_aload_n dX6_readWisher_78 rfl ?_
    refine r_bipush (nI 44) dX6_readWisher_79 (by decide) ?_
    refine r_callVV (As := [.int (nI 44)]) (o := 219) (c_X6_mustSign_f B D62 E t _ hb1 (fun q => absurd (show (3 : Nat) = 0 from q) (by decide)) (nI 44)) hv_X6_mustSign wm_X6_130 dX6_readWisher_81 rfl rfl z_219 k_219 (by decide) rfl (Nat.le_of_ble_eq_true rfl) ⟨Nat.le_of_ble_eq_true rfl, Nat.le_of_ble_eq_true rfl, Nat.zero_le _, Nat.zero_le _⟩ ⟨rfl, rfl⟩ (fun D87 E88 hz86 => ?_)
    obtain ⟨hqD, hqE⟩ := hz86
    obtain rfl := hqE.symm
    obtain rfl := hqD.symm
    refine r_aload_n dX6_readWisher_84 rfl ?_
    refine r_iconst (nI 0) dX6_readWisher_85 (by decide) ?_
    refine r_iconst (nI 5) dX6_readWisher_86 (by decide) ?_
    refine r_callVI (As := [.int (nI 0), .int (nI 5)]) (o := 219) (c_X6_number_f B D62 E t _ hb1 (fun q => absurd (show (3 : Nat) = 0 from q) (by decide)) (nI 0) (nI 5)) hv_X6_number wm_X6_126 dX6_readWisher_87 rfl rfl z_219 k_219 (by decide) rfl (Nat.le_of_ble_eq_true rfl) ⟨Nat.le_of_ble_eq_true rfl, Nat.le_of_ble_eq_true rfl, Nat.zero_le _, Nat.zero_le _⟩ ⟨rfl, rfl⟩ (fun z89 D90 E91 hz89 => ?_)
    obtain ⟨hqV, hqD, hqE⟩ := hz89
    obtain rfl := hqE.symm
    obtain rfl := hqD.symm
    obtain rfl := hqV.symm
    refine r_istore [(5, .int (nI 0)), (4, .int (nI 0)), (3, .int (nI 0)), (2, .int (nI 0)), (1, .int (nI (s_kb (s_by t s.1)))), (0, .ref (B + 219))] dX6_readWisher_90 (by decide) rfl ?_
    refine r_aload_n dX6_readWisher_92 rfl ?_
    refine r_bipush (nI 44) dX6_readWisher_93 (by decide) ?_
    refine r_callVV (As := [.int (nI 44)]) (o := 219) (c_X6_mustSign_f B D62 E t _ hb1 (fun q => absurd (show (3 : Nat) = 0 from q) (by decide)) (nI 44)) hv_X6_mustSign wm_X6_130 dX6_readWisher_95 rfl rfl z_219 k_219 (by decide) rfl (Nat.le_of_ble_eq_true rfl) ⟨Nat.le_of_ble_eq_true rfl, Nat.le_of_ble_eq_true rfl, Nat.zero_le _, Nat.zero_le _⟩ ⟨rfl, rfl⟩ (fun D93 E94 hz92 => ?_)
    obtain ⟨hqD, hqE⟩ := hz92
    obtain rfl := hqE.symm
    obtain rfl := hqD.symm
    refine r_aload_n dX6_readWisher_98 rfl ?_
    refine r_iconst (nI 1) dX6_readWisher_99 (by decide) ?_
    refine r_bipush (nI 6) dX6_readWisher_100 (by decide) ?_
    refine r_callVI (As := [.int (nI 1), .int (nI 6)]) (o := 219) (c_X6_number_f B D62 E t _ hb1 (fun q => absurd (show (3 : Nat) = 0 from q) (by decide)) (nI 1) (nI 6)) hv_X6_number wm_X6_126 dX6_readWisher_102 rfl rfl z_219 k_219 (by decide) rfl (Nat.le_of_ble_eq_true rfl) ⟨Nat.le_of_ble_eq_true rfl, Nat.le_of_ble_eq_true rfl, Nat.zero_le _, Nat.zero_le _⟩ ⟨rfl, rfl⟩ (fun z95 D96 E97 hz95 => ?_)
    obtain ⟨hqV, hqD, hqE⟩ := hz95
    obtain rfl := hqE.symm
    obtain rfl := hqD.symm
    obtain rfl := hqV.symm
    refine r_istore [(6, .int (nI 1)), (5, .int (nI 0)), (4, .int (nI 0)), (3, .int (nI 0)), (2, .int (nI 0)), (1, .int (nI (s_kb (s_by t s.1)))), (0, .ref (B + 219))] dX6_readWisher_105 (by decide) rfl ?_
    refine r_aload_n dX6_readWisher_107 rfl ?_
    refine r_bipush (nI 59) dX6_readWisher_108 (by decide) ?_
    refine r_callVV (As := [.int (nI 59)]) (o := 219) (c_X6_mustSign_f B D62 E t _ hb1 (fun q => absurd (show (3 : Nat) = 0 from q) (by decide)) (nI 59)) hv_X6_mustSign wm_X6_130 dX6_readWisher_110 rfl rfl z_219 k_219 (by decide) rfl (Nat.le_of_ble_eq_true rfl) ⟨Nat.le_of_ble_eq_true rfl, Nat.le_of_ble_eq_true rfl, Nat.zero_le _, Nat.zero_le _⟩ ⟨rfl, rfl⟩ (fun D99 E100 hz98 => ?_)
    obtain ⟨hqD, hqE⟩ := hz98
    obtain rfl := hqE.symm
    obtain rfl := hqD.symm
    refine r_aload_n dX6_readWisher_113 rfl ?_
    refine r_getI (ci := 6) (k := 16) wf_X6_85 dX6_readWisher_114 z_219 k_219 (by decide) (by decide) rfl (fun z101 hz101 => ?_)
    obtain rfl : z101 = nI 3 := (hz101.trans (by first | exact MP_f hS_D62 | exact MP_f hb1))
    refine r_if_ne (tgt := 205) dX6_readWisher_117 (by decide) (fun c117 => ?_) (fun c117 => ?_)
    rotate_left
    · exact absurd c117 (by decide)
    rw [nI_z (by omega)] at c117
    refine r_vret2 dX6_readWisher_205 rfl ⟨Nat.zero_le _, Nat.zero_le _⟩ ?_
    refine ⟨?_, rfl⟩
    first
      | (rw [wi2_3 hk (show 6 ≤ r 5 by omega)]
         exact R3_mk (by rw [fp_f h0]; exact hb1) (fun k hk => (congrFun (hb2.1 224 (by decide)) k).trans (hA k hk)) (FRF.of hb2))
      | (rw [wi2_t hk (show ¬ 6 ≤ r 5 by omega) c117]
         rw [wis_rs] at hA7
         exact R3_mk hS7 hA7 hF7)
      | (rw [wi2_f hk (show ¬ 6 ≤ r 5 by omega) c117]
         exact R3_mk hS_D62 (fun k hk => (congrFun (hg_D62.1 224 (by decide)) k).trans (hA k hk)) (FRF.of hg_D62))
