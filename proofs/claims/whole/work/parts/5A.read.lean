set_option maxRecDepth 100000 in
set_option maxHeartbeats 4000000 in
theorem c_X6_mustSign_g (B : Nat) (D : DD) (E : EE) (t : TPt) (s : PSt) (hM : MP D t s) (h0 : ¬ s.2.1 = 0) (c : Nat) (hc : c = 44 ∨ c = 59) : MR yX6_mustSign cX6_mustSign 2 none rX6_mustSign B [.ref (B + 219), .int (nI c)] Z0 D E (Q2 Z0 (pV (fun D' E' => MP D' t (p_ex t c s) ∧ PFm D D' ∧ E' = E))) := by
  have m1 := (hM.2.2.2 h0).1
  have hp2 := hM.2.1.2.1
  refine r_enter [(0, .ref (B + 219)), (1, .int (nI c))] hv_X6_mustSign.1.2.2.2.2 (Nat.le_of_ble_eq_true rfl) rfl ?_
  refine r_aload_n dX6_mustSign_0 rfl ?_
  refine r_aload_n dX6_mustSign_1 rfl ?_
  refine r_getI (ci := 6) (k := 14) wf_X6_109 dX6_mustSign_2 z_219 k_219 (by decide) (by decide) rfl (fun z1 hz1 => ?_)
  subst hz1
  refine r_iconst (nI 4) dX6_mustSign_5 (by decide) ?_
  refine r_icmp_ne (tgt := 21) dX6_mustSign_6 (by decide) (fun c6 => ?_) (fun c6 => ?_)
  · skip
    refine r_iconst (nI 0) dX6_mustSign_21 (by decide) ?_
    refine r_callVV (As := [.int (nI 0)]) (o := 219) (c_X6_must_f B D E t s hM h0 (nI 0)) hv_X6_must wm_X6_119 dX6_mustSign_22 rfl rfl z_219 k_219 (by decide) rfl (Nat.le_of_ble_eq_true rfl) ⟨Nat.le_of_ble_eq_true rfl, Nat.le_of_ble_eq_true rfl, Nat.zero_le _, Nat.zero_le _⟩ ⟨rfl, rfl⟩ (fun D3 E4 hz2 => ?_)
    obtain ⟨hqD, hqE⟩ := hz2
    obtain rfl := hqE.symm
    obtain rfl := hqD.symm
    refine r_vret2 dX6_mustSign_25 rfl ⟨Nat.zero_le _, Nat.zero_le _⟩ ?_
    rw [ex_f h0]
    exact ⟨hM, PFm.rf, rfl⟩
  · skip
    refine r_aload_n dX6_mustSign_9 rfl ?_
    refine r_getI (ci := 6) (k := 15) wf_X6_98 dX6_mustSign_10 z_219 k_219 (by decide) (by decide) rfl (fun z5 hz5 => ?_)
    subst hz5
    refine r_iload_n dX6_mustSign_13 rfl ?_
    refine r_icmp_ne (tgt := 21) dX6_mustSign_14 (by decide) (fun c14 => ?_) (fun c14 => ?_)
    · skip
      refine r_iconst (nI 0) dX6_mustSign_21 (by decide) ?_
      refine r_callVV (As := [.int (nI 0)]) (o := 219) (c_X6_must_f B D E t s hM h0 (nI 0)) hv_X6_must wm_X6_119 dX6_mustSign_22 rfl rfl z_219 k_219 (by decide) rfl (Nat.le_of_ble_eq_true rfl) ⟨Nat.le_of_ble_eq_true rfl, Nat.le_of_ble_eq_true rfl, Nat.zero_le _, Nat.zero_le _⟩ ⟨rfl, rfl⟩ (fun D7 E8 hz6 => ?_)
      obtain ⟨hqD, hqE⟩ := hz6
      obtain rfl := hqE.symm
      obtain rfl := hqD.symm
      refine r_vret2 dX6_mustSign_25 rfl ⟨Nat.zero_le _, Nat.zero_le _⟩ ?_
      rw [ex_f h0]
      exact ⟨hM, PFm.rf, rfl⟩
    · skip
      refine r_iconst (nI 1) dX6_mustSign_17 (by decide) ?_
      refine r_goto (tgt := 22) dX6_mustSign_18 (by decide) ?_
      refine r_callVV (As := [.int (nI 1)]) (o := 219) (c_X6_must_f B D E t s hM h0 (nI 1)) hv_X6_must wm_X6_119 dX6_mustSign_22 rfl rfl z_219 k_219 (by decide) rfl (Nat.le_of_ble_eq_true rfl) ⟨Nat.le_of_ble_eq_true rfl, Nat.le_of_ble_eq_true rfl, Nat.zero_le _, Nat.zero_le _⟩ ⟨rfl, rfl⟩ (fun D10 E11 hz9 => ?_)
      obtain ⟨hqD, hqE⟩ := hz9
      obtain rfl := hqE.symm
      obtain rfl := hqD.symm
      refine r_vret2 dX6_mustSign_25 rfl ⟨Nat.zero_le _, Nat.zero_le _⟩ ?_
      rw [ex_f h0]
      exact ⟨hM, PFm.rf, rfl⟩
set_option maxRecDepth 100000 in
set_option maxHeartbeats 4000000 in
theorem c_X6_number_g (B : Nat) (D : DD) (E : EE) (t : TPt) (s : PSt) (hM : MP D t s) (h0 : ¬ s.2.1 = 0) (l h : Nat) (hi : Int32) : MR yX6_number cX6_number 4 (some .int) rX6_number B [.ref (B + 219), .int (nI l), .int hi] Z0 D E (Q2 Z0 (pI (fun v D' E' => v = (if (p_nm t l h s).2.1 = 0 then nI (p_vl t s) else nI l) ∧ MP D' t (p_nm t l h s) ∧ PFm D D' ∧ E' = E))) := by
  have m1 := (hM.2.2.2 h0).1
  have hp2 := hM.2.1.2.1
  refine r_enter [(0, .ref (B + 219)), (1, .int (nI l)), (2, .int hi)] hv_X6_number.1.2.2.2.2 (Nat.le_of_ble_eq_true rfl) rfl ?_
  refine r_aload_n dX6_number_0 rfl ?_
  refine r_getI (ci := 6) (k := 16) wf_X6_85 dX6_number_1 z_219 k_219 (by decide) (by decide) rfl (fun z1 hz1 => ?_)
  obtain rfl : z1 = nI s.2.1 := hz1.trans m1
  refine r_if_ne (tgt := 20) dX6_number_4 (by decide) (fun c4 => ?_) (fun c4 => ?_)
  rotate_left
  · exact absurd ((nI_z (by omega)).mp c4) h0
  rw [nI_z (by omega)] at c4
  refine r_aload_n dX6_number_20 rfl ?_
  refine r_getI (ci := 6) (k := 16) wf_X6_85 dX6_number_21 z_219 k_219 (by decide) (by decide) rfl (fun z2 hz2 => ?_)
  obtain rfl : z2 = nI s.2.1 := hz2.trans m1
  refine r_if_ne (tgt := 47) dX6_number_24 (by decide) (fun c24 => ?_) (fun c24 => ?_)
  rotate_left
  · exact absurd ((nI_z (by omega)).mp c24) h0
  rw [nI_z (by omega)] at c24
  refine r_aload_n dX6_number_47 rfl ?_
  refine r_getI (ci := 6) (k := 16) wf_X6_85 dX6_number_48 z_219 k_219 (by decide) (by decide) rfl (fun z3 hz3 => ?_)
  obtain rfl : z3 = nI s.2.1 := hz3.trans m1
  refine r_if_ne (tgt := 61) dX6_number_51 (by decide) (fun c51 => ?_) (fun c51 => ?_)
  rotate_left
  · exact absurd ((nI_z (by omega)).mp c51) h0
  rw [nI_z (by omega)] at c51
  refine r_iload_n dX6_number_61 rfl ?_
  refine r_istore_n [(3, .int (nI l)), (0, .ref (B + 219)), (1, .int (nI l)), (2, .int hi)] dX6_number_62 (by decide) rfl ?_
  refine r_aload_n dX6_number_63 rfl ?_
  refine r_iconst (nI 1) dX6_number_64 (by decide) ?_
  refine r_callVV (As := [.int (nI 1)]) (o := 219) (c_X6_must_f B D E t s hM h0 (nI 1)) hv_X6_must wm_X6_119 dX6_number_65 rfl rfl z_219 k_219 (by decide) rfl (Nat.le_of_ble_eq_true rfl) ⟨Nat.le_of_ble_eq_true rfl, Nat.le_of_ble_eq_true rfl, Nat.zero_le _, Nat.zero_le _⟩ ⟨rfl, rfl⟩ (fun D5 E6 hz4 => ?_)
  obtain ⟨hqD, hqE⟩ := hz4
  obtain rfl := hqE.symm
  obtain rfl := hqD.symm
  refine r_iload_n dX6_number_68 rfl ?_
  refine r_iret2 dX6_number_69 rfl ⟨Nat.zero_le _, Nat.zero_le _⟩ ?_
  rw [nm_f h0]
  exact ⟨(if_neg h0).symm, hM, PFm.rf, rfl⟩
theorem c_X6_mustSign (B : Nat) (D : DD) (E : EE) (t : TPt) (s : PSt) (hM : MP D t s) (c : Nat) (hc : c = 44 ∨ c = 59) : MR yX6_mustSign cX6_mustSign 2 none rX6_mustSign B [.ref (B + 219), .int (nI c)] Z0 D E (Q2 Z0 (pV (fun D' E' => MP D' t (p_ex t c s) ∧ PFm D D' ∧ E' = E))) := by
  by_cases h0 : s.2.1 = 0
  · exact c_X6_mustSign_0 B D E t s hM h0 c hc
  · exact c_X6_mustSign_g B D E t s hM h0 c hc
theorem c_X6_number (B : Nat) (D : DD) (E : EE) (t : TPt) (s : PSt) (hM : MP D t s) (l h : Nat) (hi : Int32) (hh : s.2.1 = 0 → hi = nI h) (hl9 : l ≤ 2000) (hh9 : h ≤ 2000) : MR yX6_number cX6_number 4 (some .int) rX6_number B [.ref (B + 219), .int (nI l), .int hi] Z0 D E (Q2 Z0 (pI (fun v D' E' => v = (if (p_nm t l h s).2.1 = 0 then nI (p_vl t s) else nI l) ∧ MP D' t (p_nm t l h s) ∧ PFm D D' ∧ E' = E))) := by
  by_cases h0 : s.2.1 = 0
  · obtain rfl := hh h0
    exact c_X6_number_0 B D E t s hM h0 l h hl9 hh9
  · exact c_X6_number_g B D E t s hM h0 l h hi
set_option maxRecDepth 100000 in
set_option maxHeartbeats 4000000 in
theorem c_X6_begin (B : Nat) (D : DD) (E : EE) (t : TPt) (hT : TPm D t) : MR yX6_begin cX6_begin 1 none rX6_begin B [.ref (B + 219)] Z0 D E (Q2 Z0 (pV (fun D' E' => MP D' t (0, 0, 0) ∧ PFm D D' ∧ E' = E))) := by
  refine r_enter [(0, .ref (B + 219))] hv_X6_begin.1.2.2.2.2 (Nat.le_of_ble_eq_true rfl) rfl ?_
  refine r_aload_n dX6_begin_0 rfl ?_
  refine r_iconst (nI 0) dX6_begin_1 (by decide) ?_
  refine r_putI (ci := 6) (k := 12) wf_X6_94 dX6_begin_2 z_219 k_219 (by decide) (by decide) rfl rfl (fun D1 hD1 => ?_)
  have hd1 := hD1
  refine r_aload_n dX6_begin_5 rfl ?_
  refine r_iconst (nI 0) dX6_begin_6 (by decide) ?_
  refine r_putI (ci := 6) (k := 16) wf_X6_85 dX6_begin_7 z_219 k_219 (by decide) (by decide) rfl rfl (fun D2 hD2 => ?_)
  have hd2 := hD2
  have hp1 : PFm D D2 := by rw [hd2, hd1]; exact ⟨fun q a => (up2_o a).trans (up2_o a), fun f a => (up2_n (by omega)).trans (up2_n (by omega))⟩
  have hT1 := TPm_fr hT hp1
  refine r_aload_n dX6_begin_10 rfl ?_
  refine r_callVV (As := []) (o := 219) (c_X6_nextToken B D2 E t hT1 0 (Nat.zero_le _) (by rw [hd2, hd1]; exact (up2_n (by decide)).trans up2_s)) hv_X6_nextToken wm_X6_116 dX6_begin_11 rfl rfl z_219 k_219 (by decide) rfl (Nat.le_of_ble_eq_true rfl) ⟨Nat.le_of_ble_eq_true rfl, Nat.le_of_ble_eq_true rfl, Nat.zero_le _, Nat.zero_le _⟩ ⟨rfl, rfl⟩ (fun D4 E5 hz3 => ?_)
  obtain ⟨hq1, hq2, hqE⟩ := hz3
  obtain rfl := hqE.symm
  have h16 : D2 219 16 = nI 0 := by rw [hd2]; exact up2_s
  refine r_vret2 dX6_begin_14 rfl ⟨Nat.zero_le _, Nat.zero_le _⟩ ?_
  have hf := PFm.of hq2
  exact ⟨⟨TPm_fr hT1 hf, PK_000, fun _ => ⟨(hq2.2 16 (by decide)).trans h16, hq1⟩, fun q => absurd rfl q⟩, hp1.trans hf, rfl⟩
set_option maxRecDepth 100000 in
set_option maxHeartbeats 4000000 in
theorem c_X6_readRoad (B : Nat) (D : DD) (E : EE) (t : TPt) (s : PSt) (hM : MP D t s) (h0 : s.2.1 = 0) (r : Row) (hA : MA D 224 r) (hO : OKR r) (h114 : s_by t s.1 = 114) : MR yX6_readRoad cX6_readRoad 3 none rX6_readRoad B [.ref (B + 219)] Z0 D E (Q2 Z0 (pV (fun D' E' => (MP D' t (p_road t (s, r)).1 ∧ MA D' 224 (p_road t (s, r)).2 ∧ FRF D D') ∧ E' = E))) := by
  obtain ⟨m1, m2, m3, m4⟩ := MP_1 hM h0
  have ht : ∀ j, j < t.1 → t.2 j ≤ 255 := fun j hj => (hM.1.2.2 j hj).2
  have hvn := vn_999 (c := s.1) ht
  have htk := s_tk_le (t := t) (c := s.1)
  have hpk := hM.2.1
  obtain ⟨p1, p2, p3⟩ := id hpk
  obtain ⟨k1, k2⟩ := lt_f (by decide) h114
  obtain ⟨b02, b06, b1, b2, b3, b4, b5, b9⟩ := id hO.1.1.1
  have hg_D : PFm D D := PFm.rf
  refine r_enter [(0, .ref (B + 219))] hv_X6_readRoad.1.2.2.2.2 (Nat.le_of_ble_eq_true rfl) rfl ?_
  refine r_aload_n dX6_readRoad_0 rfl ?_
  refine r_getR (ci := 6) (k := 6) wf_X6_22 dX6_readRoad_1 z_219 k_219 (by decide) (by decide) (fun _ _ => rfl) f_219_6 ?_
  refine r_iconst (nI 4) dX6_readRoad_4 (by decide) ?_
  refine r_iald dX6_readRoad_5 z_224 k_224 (vp_in_nI (by decide) (by decide)) (fun z1 hz1 => ?_)
  rw [nI_clamp (by omega)] at hz1
  obtain rfl : z1 = nI (r 4) := hz1.trans (hA 4 (by decide))
  refine r_bipush (nI 10) dX6_readRoad_6 (by decide) ?_
  refine r_icmp_ne (tgt := 16) dX6_readRoad_8 (by decide) (fun c8 => ?_) (fun c8 => ?_)
  · skip
    rw [nI_eq (by omega) (by omega)] at c8
    refine r_aload_n dX6_readRoad_16 rfl ?_
    refine r_iconst (nI 1) dX6_readRoad_17 (by decide) ?_
    refine r_callVV (As := [.int (nI 1)]) (o := 219) (c_X6_must_1 B D E t s hM h0 (by omega)) hv_X6_must wm_X6_119 dX6_readRoad_18 rfl rfl z_219 k_219 (by decide) rfl (Nat.le_of_ble_eq_true rfl) ⟨Nat.le_of_ble_eq_true rfl, Nat.le_of_ble_eq_true rfl, Nat.zero_le _, Nat.zero_le _⟩ ⟨rfl, rfl⟩ (fun D3 E4 hz2 => ?_)
    obtain ⟨hq1, hq2, hqE⟩ := hz2
    obtain rfl := hqE.symm
    have hS_D3 : MP D3 t (d_1 t s) := by
      rw [show d_1 t s = (s_nx t s.1, 0, s.2.2) from ex_lt h0 (by decide) h114]
      exact hq1
    have hg_D3 := hq2
    refine r_aload_n dX6_readRoad_21 rfl ?_
    refine r_iconst (nI 0) dX6_readRoad_22 (by decide) ?_
    refine r_aload_n dX6_readRoad_23 rfl ?_
    refine r_getR (ci := 6) (k := 6) wf_X6_22 dX6_readRoad_24 z_219 k_219 (by decide) (by decide) (fun _ _ => rfl) f_219_6 ?_
    refine r_iconst (nI 0) dX6_readRoad_27 (by decide) ?_
    refine r_iald dX6_readRoad_28 z_224 k_224 (vp_in_nI (by decide) (by decide)) (fun z5 hz5 => ?_)
    rw [nI_clamp (by omega)] at hz5
    obtain rfl : z5 = nI (r 0) := hz5.trans ((congrFun (hg_D3.1 224 (by decide)) _).trans (hA (0) (by omega)))
    refine r_iconst (nI 1) dX6_readRoad_29 (by decide) ?_
    refine r_isub dX6_readRoad_30 (fun z6 hz6 => ?_)
    obtain rfl : z6 = nI (r 0 - 1) := hz6.trans (nI_sub (by omega))
    refine r_callVI (As := [.int (nI 0), .int (nI (r 0 - 1))]) (o := 219) (c_X6_number B D3 E t (d_1 t s) hS_D3 0 (r 0 - 1) (nI (r 0 - 1)) (fun _ => rfl) (by omega) (by omega)) hv_X6_number wm_X6_126 dX6_readRoad_31 rfl rfl z_219 k_219 (by decide) rfl (Nat.le_of_ble_eq_true rfl) ⟨Nat.le_of_ble_eq_true rfl, Nat.le_of_ble_eq_true rfl, Nat.zero_le _, Nat.zero_le _⟩ ⟨rfl, rfl⟩ (fun z7 D8 E9 hz7 => ?_)
    obtain ⟨hq1, hq2, hq3, hqE⟩ := hz7
    obtain rfl := hqE.symm
    obtain rfl := hq1.symm
    have hS_D8 : MP D8 t (p_nm t 0 (r 0 - 1) (d_1 t s)) := hq2
    have hg_D8 := hg_D3.trans hq3
    refine r_istore_n [(1, .int ((if (p_nm t 0 (r 0 - 1) (d_1 t s)).2.1 = 0 then nI (p_vl t (d_1 t s)) else nI 0))), (0, .ref (B + 219))] dX6_readRoad_34 (by decide) rfl ?_
    refine r_aload_n dX6_readRoad_35 rfl ?_
    refine r_bipush (nI 44) dX6_readRoad_36 (by decide) ?_
    refine r_callVV (As := [.int (nI 44)]) (o := 219) (c_X6_mustSign B D8 E t (p_nm t 0 (r 0 - 1) (d_1 t s)) hS_D8 44 (by decide)) hv_X6_mustSign wm_X6_130 dX6_readRoad_38 rfl rfl z_219 k_219 (by decide) rfl (Nat.le_of_ble_eq_true rfl) ⟨Nat.le_of_ble_eq_true rfl, Nat.le_of_ble_eq_true rfl, Nat.zero_le _, Nat.zero_le _⟩ ⟨rfl, rfl⟩ (fun D11 E12 hz10 => ?_)
    obtain ⟨hq1, hq2, hqE⟩ := hz10
    obtain rfl := hqE.symm
    have hS_D11 : MP D11 t (d_2 t (r 0) s) := hq1
    have hg_D11 := hg_D8.trans hq2
    have hb3 : (d_2 t (r 0) s).2.1 ≤ 3 := hS_D11.2.1.2.1
    refine r_aload_n dX6_readRoad_41 rfl ?_
    refine r_getI (ci := 6) (k := 16) wf_X6_85 dX6_readRoad_42 z_219 k_219 (by decide) (by decide) rfl (fun z13 hz13 => ?_)
    obtain rfl : z13 = nI ((d_2 t (r 0) s).2.1) := (hz13.trans (by first | exact MP_f hS_D11 | exact MP_f hb1))
    refine r_if_ne (tgt := 102) dX6_readRoad_45 (by decide) (fun c45 => ?_) (fun c45 => ?_)
    · skip
      rw [nI_z (by omega)] at c45
      refine r_aload_n dX6_readRoad_102 rfl ?_
      refine r_iconst (nI 0) dX6_readRoad_103 (by decide) ?_
      refine r_aload_n dX6_readRoad_104 rfl ?_
      refine r_getR (ci := 6) (k := 6) wf_X6_22 dX6_readRoad_105 z_219 k_219 (by decide) (by decide) (fun _ _ => rfl) f_219_6 ?_
      refine r_iconst (nI 0) dX6_readRoad_108 (by decide) ?_
      refine r_iald dX6_readRoad_109 z_224 k_224 (vp_in_nI (by decide) (by decide)) (fun z14 hz14 => ?_)
      rw [nI_clamp (by omega)] at hz14
      obtain rfl : z14 = nI (r 0) := hz14.trans ((congrFun (hg_D11.1 224 (by decide)) _).trans (hA (0) (by omega)))
      refine r_iconst (nI 1) dX6_readRoad_110 (by decide) ?_
      refine r_isub dX6_readRoad_111 (fun z15 hz15 => ?_)
      obtain rfl : z15 = nI (r 0 - 1) := hz15.trans (nI_sub (by omega))
      refine r_callVI (As := [.int (nI 0), .int (nI (r 0 - 1))]) (o := 219) (c_X6_number B D11 E t (d_2 t (r 0) s) hS_D11 0 (r 0 - 1) (nI (r 0 - 1)) (fun _ => rfl) (by omega) (by omega)) hv_X6_number wm_X6_126 dX6_readRoad_112 rfl rfl z_219 k_219 (by decide) rfl (Nat.le_of_ble_eq_true rfl) ⟨Nat.le_of_ble_eq_true rfl, Nat.le_of_ble_eq_true rfl, Nat.zero_le _, Nat.zero_le _⟩ ⟨rfl, rfl⟩ (fun z16 D17 E18 hz16 => ?_)
      obtain ⟨hq1, hq2, hq3, hqE⟩ := hz16
      obtain rfl := hqE.symm
      obtain rfl := hq1.symm
      have hS_D17 : MP D17 t (d_3 t (r 0) s) := hq2
      have hg_D17 := hg_D11.trans hq3
      refine r_istore_n [(2, .int ((if (p_nm t 0 (r 0 - 1) (d_2 t (r 0) s)).2.1 = 0 then nI (p_vl t (d_2 t (r 0) s)) else nI 0))), (1, .int ((if (p_nm t 0 (r 0 - 1) (d_1 t s)).2.1 = 0 then nI (p_vl t (d_1 t s)) else nI 0))), (0, .ref (B + 219))] dX6_readRoad_115 (by decide) rfl ?_
      refine r_aload_n dX6_readRoad_116 rfl ?_
      refine r_bipush (nI 59) dX6_readRoad_117 (by decide) ?_
      have hd4 : d_4 t r s = d_3 t (r 0) s := by
        refine d4_n (fun q => ?_)
        first
          | exact c45 (nm_ok' (show d_3 t (r 0) s = p_nm t 0 (r 0 - 1) (d_2 t (r 0) s) from rfl) q.1).1
          | (have q1 := q.1
             rw [show d_3 t (r 0) s = _ from nm_1 c45 c53] at q1
             exact absurd (show (1 : Nat) = 0 from q1) (by decide))
          | (have q1 := q.1
             rw [show d_3 t (r 0) s = _ from nm_2 c45 c53 (by omega)] at q1
             exact absurd (show (2 : Nat) = 0 from q1) (by decide))
          | (have e := (nm_3 (l := 0) (h := r 0 - 1) c45 c53 ⟨Nat.zero_le _, by omega⟩).2
             rw [e] at q
             exact q.2.elim (fun u => c61 u.symm) c94)
      have hX3 : (d_3 t (r 0) s).2.1 = 0 → False := fun q => by
        first
          | exact c45 (nm_ok' (show d_3 t (r 0) s = p_nm t 0 (r 0 - 1) (d_2 t (r 0) s) from rfl) q).1
          | (rw [show d_3 t (r 0) s = _ from nm_1 c45 c53] at q
             exact absurd (show (1 : Nat) = 0 from q) (by decide))
          | (rw [show d_3 t (r 0) s = _ from nm_2 c45 c53 (by omega)] at q
             exact absurd (show (2 : Nat) = 0 from q) (by decide))
      refine r_callVV (As := [.int (nI 59)]) (o := 219) (c_X6_mustSign B D17 E t (d_3 t (r 0) s) hS_D17 59 (by decide)) hv_X6_mustSign wm_X6_130 dX6_readRoad_119 rfl rfl z_219 k_219 (by decide) rfl (Nat.le_of_ble_eq_true rfl) ⟨Nat.le_of_ble_eq_true rfl, Nat.le_of_ble_eq_true rfl, Nat.zero_le _, Nat.zero_le _⟩ ⟨rfl, rfl⟩ (fun D20 E21 hz19 => ?_)
      obtain ⟨hq1, hq2, hqE⟩ := hz19
      obtain rfl := hqE.symm
      have hS_D20 : MP D20 t (p_rdS t r s) := by
        show MP _ t (p_ex t 59 (d_4 t r s))
        rw [hd4]
        exact hq1
      have hg_D20 := hg_D17.trans hq2
      have hb9 : (p_rdS t r s).2.1 ≤ 3 := hS_D20.2.1.2.1
      refine r_aload_n dX6_readRoad_122 rfl ?_
      refine r_getI (ci := 6) (k := 16) wf_X6_85 dX6_readRoad_123 z_219 k_219 (by decide) (by decide) rfl (fun z22 hz22 => ?_)
      obtain rfl : z22 = nI ((p_rdS t r s).2.1) := (hz22.trans (by first | exact MP_f hS_D20 | exact MP_f hb1))
      refine r_if_ne (tgt := 169) dX6_readRoad_126 (by decide) (fun c126 => ?_) (fun c126 => ?_)
      rotate_left
      · exact (hX3 (rd_ok ((nI_z (by omega)).mp c126)).2.2.2.2.2.2).elim
      rw [nI_z (by omega)] at c126
      refine r_vret2 dX6_readRoad_169 rfl ⟨Nat.zero_le _, Nat.zero_le _⟩ ?_
      refine ⟨?_, rfl⟩
      first
        | (rw [road_3 (x := (s, r)) (show 10 ≤ r 4 by omega)]
           refine ⟨?_, fun k hk => (congrFun (hb2.1 224 (by decide)) k).trans (hA k hk), FRF.of hb2⟩
           show MP _ t (p_fp 3 s.1 s)
           rw [fp_f h0]
           exact hb1)
        | (rw [road_t (x := (s, r)) (show ¬ 10 ≤ r 4 by omega) c126]
           exact R3_mk hS3 hA3 hF3)
        | (rw [road_f (x := (s, r)) (show ¬ 10 ≤ r 4 by omega) c126]
           exact R3_mk hS_D20 (fun k hk => (congrFun (hg_D20.1 224 (by decide)) k).trans (hA k hk)) (FRF.of hg_D20))
        | (have hv : 0 ≤ s_vn t (d_2 t (r 0) s).1 ∧ s_vn t (d_2 t (r 0) s).1 ≤ r 0 - 1 := by omega
           obtain ⟨y1, y2⟩ := nm_3 (l := 0) (h := r 0 - 1) c45 c53 hv
           have hd3 : (d_3 t (r 0) s).2.1 = 0 := by rw [show d_3 t (r 0) s = _ from y1]
           have hd4 : d_4 t r s = ((d_3 t (r 0) s).1, 2, (d_2 t (r 0) s).1) := by
             rw [d4_t ⟨hd3, by rw [y2]; first | exact Or.inl c61.symm | exact Or.inr c94⟩, fp_f hd3]
           have hn2 : ¬ (2 : Nat) = 0 := by decide
           have hrd : p_rdS t r s = ((d_3 t (r 0) s).1, 2, (d_2 t (r 0) s).1) := by
             show p_ex t 59 (d_4 t r s) = _
             rw [hd4]
             exact ex_f hn2
           have hnf : ¬ (p_rdS t r s).2.1 = 0 := by rw [hrd]; exact hn2
           rw [road_f (x := (s, r)) (show ¬ 10 ≤ r 4 by omega) hnf]
           exact R3_mk (by rw [hrd]; exact MP_at hb1 hn2 (PK_rd hM.1.2.1 hpk).2.2.1.1) (fun k hk => (congrFun (hg_D20.1 224 (by decide)) k).trans (hA k hk)) (FRF.of hg_D20))
    · skip
      rw [nI_z (by omega)] at c45
      obtain ⟨g1, -, -⟩ := ex_ok' (show d_2 t (r 0) s = p_ex t 44 (p_nm t 0 (r 0 - 1) (d_1 t s)) from rfl) c45
      obtain ⟨-, -, ga, -, -⟩ := nm_ok g1
      obtain ⟨m1, m2, m3, m4⟩ := MP_1 hS_D11 c45
      have hvn2 := vn_999 (c := (d_2 t (r 0) s).1) ht
      have htk2 := s_tk_le (t := t) (c := (d_2 t (r 0) s).1)
      have hr64 := rg_64 hO.2 (show p_vl t (d_1 t s) < 6 by omega)
      refine r_lv [(1, .int (nI (p_vl t (d_1 t s)))), (0, .ref (B + 219))] (List.forall_mem_cons.mpr ⟨congrArg (fun x => some (Value.int x)) (if_pos g1), List.forall_mem_cons.mpr ⟨rfl, fun _ h => absurd h List.not_mem_nil⟩⟩) ?_
      refine r_aload_n dX6_readRoad_48 rfl ?_
      refine r_getI (ci := 6) (k := 14) wf_X6_109 dX6_readRoad_49 z_219 k_219 (by decide) (by decide) rfl (fun z23 hz23 => ?_)
      obtain rfl : z23 = nI (s_tk t (d_2 t (r 0) s).1) := hz23.trans m3
      refine r_iconst (nI 3) dX6_readRoad_52 (by decide) ?_
      refine r_icmp_ne (tgt := 102) dX6_readRoad_53 (by decide) (fun c53 => ?_) (fun c53 => ?_)
      · skip
        rw [nI_eq (by omega) (by omega)] at c53
        refine r_aload_n dX6_readRoad_102 rfl ?_
        refine r_iconst (nI 0) dX6_readRoad_103 (by decide) ?_
        refine r_aload_n dX6_readRoad_104 rfl ?_
        refine r_getR (ci := 6) (k := 6) wf_X6_22 dX6_readRoad_105 z_219 k_219 (by decide) (by decide) (fun _ _ => rfl) f_219_6 ?_
        refine r_iconst (nI 0) dX6_readRoad_108 (by decide) ?_
        refine r_iald dX6_readRoad_109 z_224 k_224 (vp_in_nI (by decide) (by decide)) (fun z24 hz24 => ?_)
        rw [nI_clamp (by omega)] at hz24
        obtain rfl : z24 = nI (r 0) := hz24.trans ((congrFun (hg_D11.1 224 (by decide)) _).trans (hA (0) (by omega)))
        refine r_iconst (nI 1) dX6_readRoad_110 (by decide) ?_
        refine r_isub dX6_readRoad_111 (fun z25 hz25 => ?_)
        obtain rfl : z25 = nI (r 0 - 1) := hz25.trans (nI_sub (by omega))
        refine r_callVI (As := [.int (nI 0), .int (nI (r 0 - 1))]) (o := 219) (c_X6_number B D11 E t (d_2 t (r 0) s) hS_D11 0 (r 0 - 1) (nI (r 0 - 1)) (fun _ => rfl) (by omega) (by omega)) hv_X6_number wm_X6_126 dX6_readRoad_112 rfl rfl z_219 k_219 (by decide) rfl (Nat.le_of_ble_eq_true rfl) ⟨Nat.le_of_ble_eq_true rfl, Nat.le_of_ble_eq_true rfl, Nat.zero_le _, Nat.zero_le _⟩ ⟨rfl, rfl⟩ (fun z26 D27 E28 hz26 => ?_)
        obtain ⟨hq1, hq2, hq3, hqE⟩ := hz26
        obtain rfl := hqE.symm
        obtain rfl := hq1.symm
        have hS_D27 : MP D27 t (d_3 t (r 0) s) := hq2
        have hg_D27 := hg_D11.trans hq3
        refine r_istore_n [(2, .int ((if (p_nm t 0 (r 0 - 1) (d_2 t (r 0) s)).2.1 = 0 then nI (p_vl t (d_2 t (r 0) s)) else nI 0))), (1, .int (nI (p_vl t (d_1 t s)))), (0, .ref (B + 219))] dX6_readRoad_115 (by decide) rfl ?_
        refine r_aload_n dX6_readRoad_116 rfl ?_
        refine r_bipush (nI 59) dX6_readRoad_117 (by decide) ?_
        have hd4 : d_4 t r s = d_3 t (r 0) s := by
          refine d4_n (fun q => ?_)
          first
            | exact c45 (nm_ok' (show d_3 t (r 0) s = p_nm t 0 (r 0 - 1) (d_2 t (r 0) s) from rfl) q.1).1
            | (have q1 := q.1
               rw [show d_3 t (r 0) s = _ from nm_1 c45 c53] at q1
               exact absurd (show (1 : Nat) = 0 from q1) (by decide))
            | (have q1 := q.1
               rw [show d_3 t (r 0) s = _ from nm_2 c45 c53 (by omega)] at q1
               exact absurd (show (2 : Nat) = 0 from q1) (by decide))
            | (have e := (nm_3 (l := 0) (h := r 0 - 1) c45 c53 ⟨Nat.zero_le _, by omega⟩).2
               rw [e] at q
               exact q.2.elim (fun u => c61 u.symm) c94)
        have hX3 : (d_3 t (r 0) s).2.1 = 0 → False := fun q => by
          first
            | exact c45 (nm_ok' (show d_3 t (r 0) s = p_nm t 0 (r 0 - 1) (d_2 t (r 0) s) from rfl) q).1
            | (rw [show d_3 t (r 0) s = _ from nm_1 c45 c53] at q
               exact absurd (show (1 : Nat) = 0 from q) (by decide))
            | (rw [show d_3 t (r 0) s = _ from nm_2 c45 c53 (by omega)] at q
               exact absurd (show (2 : Nat) = 0 from q) (by decide))
        refine r_callVV (As := [.int (nI 59)]) (o := 219) (c_X6_mustSign B D27 E t (d_3 t (r 0) s) hS_D27 59 (by decide)) hv_X6_mustSign wm_X6_130 dX6_readRoad_119 rfl rfl z_219 k_219 (by decide) rfl (Nat.le_of_ble_eq_true rfl) ⟨Nat.le_of_ble_eq_true rfl, Nat.le_of_ble_eq_true rfl, Nat.zero_le _, Nat.zero_le _⟩ ⟨rfl, rfl⟩ (fun D30 E31 hz29 => ?_)
        obtain ⟨hq1, hq2, hqE⟩ := hz29
        obtain rfl := hqE.symm
        have hS_D30 : MP D30 t (p_rdS t r s) := by
          show MP _ t (p_ex t 59 (d_4 t r s))
          rw [hd4]
          exact hq1
        have hg_D30 := hg_D27.trans hq2
        have hb9 : (p_rdS t r s).2.1 ≤ 3 := hS_D30.2.1.2.1
        refine r_aload_n dX6_readRoad_122 rfl ?_
        refine r_getI (ci := 6) (k := 16) wf_X6_85 dX6_readRoad_123 z_219 k_219 (by decide) (by decide) rfl (fun z32 hz32 => ?_)
        obtain rfl : z32 = nI ((p_rdS t r s).2.1) := (hz32.trans (by first | exact MP_f hS_D30 | exact MP_f hb1))
        refine r_if_ne (tgt := 169) dX6_readRoad_126 (by decide) (fun c126 => ?_) (fun c126 => ?_)
        rotate_left
        · exact (hX3 (rd_ok ((nI_z (by omega)).mp c126)).2.2.2.2.2.2).elim
        rw [nI_z (by omega)] at c126
        refine r_vret2 dX6_readRoad_169 rfl ⟨Nat.zero_le _, Nat.zero_le _⟩ ?_
        refine ⟨?_, rfl⟩
        first
          | (rw [road_3 (x := (s, r)) (show 10 ≤ r 4 by omega)]
             refine ⟨?_, fun k hk => (congrFun (hb2.1 224 (by decide)) k).trans (hA k hk), FRF.of hb2⟩
             show MP _ t (p_fp 3 s.1 s)
             rw [fp_f h0]
             exact hb1)
          | (rw [road_t (x := (s, r)) (show ¬ 10 ≤ r 4 by omega) c126]
             exact R3_mk hS3 hA3 hF3)
          | (rw [road_f (x := (s, r)) (show ¬ 10 ≤ r 4 by omega) c126]
             exact R3_mk hS_D30 (fun k hk => (congrFun (hg_D30.1 224 (by decide)) k).trans (hA k hk)) (FRF.of hg_D30))
          | (have hv : 0 ≤ s_vn t (d_2 t (r 0) s).1 ∧ s_vn t (d_2 t (r 0) s).1 ≤ r 0 - 1 := by omega
             obtain ⟨y1, y2⟩ := nm_3 (l := 0) (h := r 0 - 1) c45 c53 hv
             have hd3 : (d_3 t (r 0) s).2.1 = 0 := by rw [show d_3 t (r 0) s = _ from y1]
             have hd4 : d_4 t r s = ((d_3 t (r 0) s).1, 2, (d_2 t (r 0) s).1) := by
               rw [d4_t ⟨hd3, by rw [y2]; first | exact Or.inl c61.symm | exact Or.inr c94⟩, fp_f hd3]
             have hn2 : ¬ (2 : Nat) = 0 := by decide
             have hrd : p_rdS t r s = ((d_3 t (r 0) s).1, 2, (d_2 t (r 0) s).1) := by
               show p_ex t 59 (d_4 t r s) = _
               rw [hd4]
               exact ex_f hn2
             have hnf : ¬ (p_rdS t r s).2.1 = 0 := by rw [hrd]; exact hn2
             rw [road_f (x := (s, r)) (show ¬ 10 ≤ r 4 by omega) hnf]
             exact R3_mk (by rw [hrd]; exact MP_at hb1 hn2 (PK_rd hM.1.2.1 hpk).2.2.1.1) (fun k hk => (congrFun (hg_D30.1 224 (by decide)) k).trans (hA k hk)) (FRF.of hg_D30))
      · skip
        rw [nI_eq (by omega) (by omega)] at c53
        refine r_aload_n dX6_readRoad_56 rfl ?_
        refine r_getI (ci := 6) (k := 15) wf_X6_98 dX6_readRoad_57 z_219 k_219 (by decide) (by decide) rfl (fun z33 hz33 => ?_)
        obtain rfl : z33 = nI (s_vn t (d_2 t (r 0) s).1) := hz33.trans (m4 (by omega))
        refine r_iload_n dX6_readRoad_60 rfl ?_
        refine r_icmp_eq (tgt := 97) dX6_readRoad_61 (by decide) (fun c61 => ?_) (fun c61 => ?_)
        · skip
          rw [nI_eq (by omega) (by omega)] at c61
          refine r_aload_n dX6_readRoad_97 rfl ?_
          refine r_iconst (nI 2) dX6_readRoad_98 (by decide) ?_
          refine r_callVV (As := [.int (nI 2)]) (o := 219) (c_X6_bad_0 B D11 E t (d_2 t (r 0) s) hS_D11 c45 2 (by decide)) hv_X6_bad wm_X6_112 dX6_readRoad_99 rfl rfl z_219 k_219 (by decide) rfl (Nat.le_of_ble_eq_true rfl) ⟨Nat.le_of_ble_eq_true rfl, Nat.le_of_ble_eq_true rfl, Nat.zero_le _, Nat.zero_le _⟩ ⟨rfl, rfl⟩ (fun D35 E36 hz34 => ?_)
          obtain ⟨hb1, hb2, hqE⟩ := hz34
          obtain rfl := hqE.symm
          have hg_D35 := hg_D11.trans hb2
          refine r_aload_n dX6_readRoad_102 rfl ?_
          refine r_iconst (nI 0) dX6_readRoad_103 (by decide) ?_
          refine r_aload_n dX6_readRoad_104 rfl ?_
          refine r_getR (ci := 6) (k := 6) wf_X6_22 dX6_readRoad_105 z_219 k_219 (by decide) (by decide) (fun _ _ => rfl) f_219_6 ?_
          refine r_iconst (nI 0) dX6_readRoad_108 (by decide) ?_
          refine r_iald dX6_readRoad_109 z_224 k_224 (vp_in_nI (by decide) (by decide)) (fun z37 hz37 => ?_)
          rw [nI_clamp (by omega)] at hz37
          obtain rfl : z37 = nI (r 0) := hz37.trans ((congrFun (hg_D35.1 224 (by decide)) _).trans (hA (0) (by omega)))
          refine r_iconst (nI 1) dX6_readRoad_110 (by decide) ?_
          refine r_isub dX6_readRoad_111 (fun z38 hz38 => ?_)
          obtain rfl : z38 = nI (r 0 - 1) := hz38.trans (nI_sub (by omega))
          refine r_callVI (As := [.int (nI 0), .int (nI (r 0 - 1))]) (o := 219) (c_X6_number_f B D35 E t _ hb1 (fun q => absurd (show (2 : Nat) = 0 from q) (by decide)) (nI 0) (nI (r 0 - 1))) hv_X6_number wm_X6_126 dX6_readRoad_112 rfl rfl z_219 k_219 (by decide) rfl (Nat.le_of_ble_eq_true rfl) ⟨Nat.le_of_ble_eq_true rfl, Nat.le_of_ble_eq_true rfl, Nat.zero_le _, Nat.zero_le _⟩ ⟨rfl, rfl⟩ (fun z39 D40 E41 hz39 => ?_)
          obtain ⟨hqV, hqD, hqE⟩ := hz39
          obtain rfl := hqE.symm
          obtain rfl := hqD.symm
          obtain rfl := hqV.symm
          refine r_istore_n [(2, .int (nI 0)), (1, .int (nI (p_vl t (d_1 t s)))), (0, .ref (B + 219))] dX6_readRoad_115 (by decide) rfl ?_
          refine r_aload_n dX6_readRoad_116 rfl ?_
          refine r_bipush (nI 59) dX6_readRoad_117 (by decide) ?_
          refine r_callVV (As := [.int (nI 59)]) (o := 219) (c_X6_mustSign_f B D35 E t _ hb1 (fun q => absurd (show (2 : Nat) = 0 from q) (by decide)) (nI 59)) hv_X6_mustSign wm_X6_130 dX6_readRoad_119 rfl rfl z_219 k_219 (by decide) rfl (Nat.le_of_ble_eq_true rfl) ⟨Nat.le_of_ble_eq_true rfl, Nat.le_of_ble_eq_true rfl, Nat.zero_le _, Nat.zero_le _⟩ ⟨rfl, rfl⟩ (fun D43 E44 hz42 => ?_)
          obtain ⟨hqD, hqE⟩ := hz42
          obtain rfl := hqE.symm
          obtain rfl := hqD.symm
          refine r_aload_n dX6_readRoad_122 rfl ?_
          refine r_getI (ci := 6) (k := 16) wf_X6_85 dX6_readRoad_123 z_219 k_219 (by decide) (by decide) rfl (fun z45 hz45 => ?_)
          obtain rfl : z45 = nI 2 := (hz45.trans (by first | exact MP_f hS_D35 | exact MP_f hb1))
          refine r_if_ne (tgt := 169) dX6_readRoad_126 (by decide) (fun c126 => ?_) (fun c126 => ?_)
          rotate_left
          · exact absurd c126 (by decide)
          rw [nI_z (by omega)] at c126
          refine r_vret2 dX6_readRoad_169 rfl ⟨Nat.zero_le _, Nat.zero_le _⟩ ?_
          refine ⟨?_, rfl⟩
          first
            | (rw [road_3 (x := (s, r)) (show 10 ≤ r 4 by omega)]
               refine ⟨?_, fun k hk => (congrFun (hb2.1 224 (by decide)) k).trans (hA k hk), FRF.of hb2⟩
               show MP _ t (p_fp 3 s.1 s)
               rw [fp_f h0]
               exact hb1)
            | (rw [road_t (x := (s, r)) (show ¬ 10 ≤ r 4 by omega) c126]
               exact R3_mk hS3 hA3 hF3)
            | (rw [road_f (x := (s, r)) (show ¬ 10 ≤ r 4 by omega) c126]
               exact R3_mk hS_D35 (fun k hk => (congrFun (hg_D35.1 224 (by decide)) k).trans (hA k hk)) (FRF.of hg_D35))
            | (have hv : 0 ≤ s_vn t (d_2 t (r 0) s).1 ∧ s_vn t (d_2 t (r 0) s).1 ≤ r 0 - 1 := by omega
               obtain ⟨y1, y2⟩ := nm_3 (l := 0) (h := r 0 - 1) c45 c53 hv
               have hd3 : (d_3 t (r 0) s).2.1 = 0 := by rw [show d_3 t (r 0) s = _ from y1]
               have hd4 : d_4 t r s = ((d_3 t (r 0) s).1, 2, (d_2 t (r 0) s).1) := by
                 rw [d4_t ⟨hd3, by rw [y2]; first | exact Or.inl c61.symm | exact Or.inr c94⟩, fp_f hd3]
               have hn2 : ¬ (2 : Nat) = 0 := by decide
               have hrd : p_rdS t r s = ((d_3 t (r 0) s).1, 2, (d_2 t (r 0) s).1) := by
                 show p_ex t 59 (d_4 t r s) = _
                 rw [hd4]
                 exact ex_f hn2
               have hnf : ¬ (p_rdS t r s).2.1 = 0 := by rw [hrd]; exact hn2
               rw [road_f (x := (s, r)) (show ¬ 10 ≤ r 4 by omega) hnf]
               exact R3_mk (by rw [hrd]; exact MP_at hb1 hn2 (PK_rd hM.1.2.1 hpk).2.2.1.1) (fun k hk => (congrFun (hg_D35.1 224 (by decide)) k).trans (hA k hk)) (FRF.of hg_D35))
        · skip
          rw [nI_eq (by omega) (by omega)] at c61
          refine r_aload_n dX6_readRoad_64 rfl ?_
          refine r_getI (ci := 6) (k := 15) wf_X6_98 dX6_readRoad_65 z_219 k_219 (by decide) (by decide) rfl (fun z46 hz46 => ?_)
          obtain rfl : z46 = nI (s_vn t (d_2 t (r 0) s).1) := hz46.trans (m4 (by omega))
          refine r_aload_n dX6_readRoad_68 rfl ?_
          refine r_getR (ci := 6) (k := 6) wf_X6_22 dX6_readRoad_69 z_219 k_219 (by decide) (by decide) (fun _ _ => rfl) f_219_6 ?_
          refine r_iconst (nI 0) dX6_readRoad_72 (by decide) ?_
          refine r_iald dX6_readRoad_73 z_224 k_224 (vp_in_nI (by decide) (by decide)) (fun z47 hz47 => ?_)
          rw [nI_clamp (by omega)] at hz47
          obtain rfl : z47 = nI (r 0) := hz47.trans ((congrFun (hg_D11.1 224 (by decide)) _).trans (hA (0) (by omega)))
          refine r_icmp_ge (tgt := 102) dX6_readRoad_74 (by decide) (fun c74 => ?_) (fun c74 => ?_)
          · skip
            rw [nI_leI (by omega) (by omega)] at c74
            refine r_aload_n dX6_readRoad_102 rfl ?_
            refine r_iconst (nI 0) dX6_readRoad_103 (by decide) ?_
            refine r_aload_n dX6_readRoad_104 rfl ?_
            refine r_getR (ci := 6) (k := 6) wf_X6_22 dX6_readRoad_105 z_219 k_219 (by decide) (by decide) (fun _ _ => rfl) f_219_6 ?_
            refine r_iconst (nI 0) dX6_readRoad_108 (by decide) ?_
            refine r_iald dX6_readRoad_109 z_224 k_224 (vp_in_nI (by decide) (by decide)) (fun z48 hz48 => ?_)
            rw [nI_clamp (by omega)] at hz48
            obtain rfl : z48 = nI (r 0) := hz48.trans ((congrFun (hg_D11.1 224 (by decide)) _).trans (hA (0) (by omega)))
            refine r_iconst (nI 1) dX6_readRoad_110 (by decide) ?_
            refine r_isub dX6_readRoad_111 (fun z49 hz49 => ?_)
            obtain rfl : z49 = nI (r 0 - 1) := hz49.trans (nI_sub (by omega))
            refine r_callVI (As := [.int (nI 0), .int (nI (r 0 - 1))]) (o := 219) (c_X6_number B D11 E t (d_2 t (r 0) s) hS_D11 0 (r 0 - 1) (nI (r 0 - 1)) (fun _ => rfl) (by omega) (by omega)) hv_X6_number wm_X6_126 dX6_readRoad_112 rfl rfl z_219 k_219 (by decide) rfl (Nat.le_of_ble_eq_true rfl) ⟨Nat.le_of_ble_eq_true rfl, Nat.le_of_ble_eq_true rfl, Nat.zero_le _, Nat.zero_le _⟩ ⟨rfl, rfl⟩ (fun z50 D51 E52 hz50 => ?_)
            obtain ⟨hq1, hq2, hq3, hqE⟩ := hz50
            obtain rfl := hqE.symm
            obtain rfl := hq1.symm
            have hS_D51 : MP D51 t (d_3 t (r 0) s) := hq2
            have hg_D51 := hg_D11.trans hq3
            refine r_istore_n [(2, .int ((if (p_nm t 0 (r 0 - 1) (d_2 t (r 0) s)).2.1 = 0 then nI (p_vl t (d_2 t (r 0) s)) else nI 0))), (1, .int (nI (p_vl t (d_1 t s)))), (0, .ref (B + 219))] dX6_readRoad_115 (by decide) rfl ?_
            refine r_aload_n dX6_readRoad_116 rfl ?_
            refine r_bipush (nI 59) dX6_readRoad_117 (by decide) ?_
            have hd4 : d_4 t r s = d_3 t (r 0) s := by
              refine d4_n (fun q => ?_)
              first
                | exact c45 (nm_ok' (show d_3 t (r 0) s = p_nm t 0 (r 0 - 1) (d_2 t (r 0) s) from rfl) q.1).1
                | (have q1 := q.1
                   rw [show d_3 t (r 0) s = _ from nm_1 c45 c53] at q1
                   exact absurd (show (1 : Nat) = 0 from q1) (by decide))
                | (have q1 := q.1
                   rw [show d_3 t (r 0) s = _ from nm_2 c45 c53 (by omega)] at q1
                   exact absurd (show (2 : Nat) = 0 from q1) (by decide))
                | (have e := (nm_3 (l := 0) (h := r 0 - 1) c45 c53 ⟨Nat.zero_le _, by omega⟩).2
                   rw [e] at q
                   exact q.2.elim (fun u => c61 u.symm) c94)
            have hX3 : (d_3 t (r 0) s).2.1 = 0 → False := fun q => by
              first
                | exact c45 (nm_ok' (show d_3 t (r 0) s = p_nm t 0 (r 0 - 1) (d_2 t (r 0) s) from rfl) q).1
                | (rw [show d_3 t (r 0) s = _ from nm_1 c45 c53] at q
                   exact absurd (show (1 : Nat) = 0 from q) (by decide))
                | (rw [show d_3 t (r 0) s = _ from nm_2 c45 c53 (by omega)] at q
                   exact absurd (show (2 : Nat) = 0 from q) (by decide))
            refine r_callVV (As := [.int (nI 59)]) (o := 219) (c_X6_mustSign B D51 E t (d_3 t (r 0) s) hS_D51 59 (by decide)) hv_X6_mustSign wm_X6_130 dX6_readRoad_119 rfl rfl z_219 k_219 (by decide) rfl (Nat.le_of_ble_eq_true rfl) ⟨Nat.le_of_ble_eq_true rfl, Nat.le_of_ble_eq_true rfl, Nat.zero_le _, Nat.zero_le _⟩ ⟨rfl, rfl⟩ (fun D54 E55 hz53 => ?_)
            obtain ⟨hq1, hq2, hqE⟩ := hz53
            obtain rfl := hqE.symm
            have hS_D54 : MP D54 t (p_rdS t r s) := by
              show MP _ t (p_ex t 59 (d_4 t r s))
              rw [hd4]
              exact hq1
            have hg_D54 := hg_D51.trans hq2
            have hb9 : (p_rdS t r s).2.1 ≤ 3 := hS_D54.2.1.2.1
            refine r_aload_n dX6_readRoad_122 rfl ?_
            refine r_getI (ci := 6) (k := 16) wf_X6_85 dX6_readRoad_123 z_219 k_219 (by decide) (by decide) rfl (fun z56 hz56 => ?_)
            obtain rfl : z56 = nI ((p_rdS t r s).2.1) := (hz56.trans (by first | exact MP_f hS_D54 | exact MP_f hb1))
            refine r_if_ne (tgt := 169) dX6_readRoad_126 (by decide) (fun c126 => ?_) (fun c126 => ?_)
            rotate_left
            · exact (hX3 (rd_ok ((nI_z (by omega)).mp c126)).2.2.2.2.2.2).elim
            rw [nI_z (by omega)] at c126
            refine r_vret2 dX6_readRoad_169 rfl ⟨Nat.zero_le _, Nat.zero_le _⟩ ?_
            refine ⟨?_, rfl⟩
            first
              | (rw [road_3 (x := (s, r)) (show 10 ≤ r 4 by omega)]
                 refine ⟨?_, fun k hk => (congrFun (hb2.1 224 (by decide)) k).trans (hA k hk), FRF.of hb2⟩
                 show MP _ t (p_fp 3 s.1 s)
                 rw [fp_f h0]
                 exact hb1)
              | (rw [road_t (x := (s, r)) (show ¬ 10 ≤ r 4 by omega) c126]
                 exact R3_mk hS3 hA3 hF3)
              | (rw [road_f (x := (s, r)) (show ¬ 10 ≤ r 4 by omega) c126]
                 exact R3_mk hS_D54 (fun k hk => (congrFun (hg_D54.1 224 (by decide)) k).trans (hA k hk)) (FRF.of hg_D54))
              | (have hv : 0 ≤ s_vn t (d_2 t (r 0) s).1 ∧ s_vn t (d_2 t (r 0) s).1 ≤ r 0 - 1 := by omega
                 obtain ⟨y1, y2⟩ := nm_3 (l := 0) (h := r 0 - 1) c45 c53 hv
                 have hd3 : (d_3 t (r 0) s).2.1 = 0 := by rw [show d_3 t (r 0) s = _ from y1]
                 have hd4 : d_4 t r s = ((d_3 t (r 0) s).1, 2, (d_2 t (r 0) s).1) := by
                   rw [d4_t ⟨hd3, by rw [y2]; first | exact Or.inl c61.symm | exact Or.inr c94⟩, fp_f hd3]
                 have hn2 : ¬ (2 : Nat) = 0 := by decide
                 have hrd : p_rdS t r s = ((d_3 t (r 0) s).1, 2, (d_2 t (r 0) s).1) := by
                   show p_ex t 59 (d_4 t r s) = _
                   rw [hd4]
                   exact ex_f hn2
                 have hnf : ¬ (p_rdS t r s).2.1 = 0 := by rw [hrd]; exact hn2
                 rw [road_f (x := (s, r)) (show ¬ 10 ≤ r 4 by omega) hnf]
                 exact R3_mk (by rw [hrd]; exact MP_at hb1 hn2 (PK_rd hM.1.2.1 hpk).2.2.1.1) (fun k hk => (congrFun (hg_D54.1 224 (by decide)) k).trans (hA k hk)) (FRF.of hg_D54))
          · skip
            rw [nI_leI (by omega) (by omega)] at c74
            refine r_aload_n dX6_readRoad_77 rfl ?_
            refine r_getR (ci := 6) (k := 6) wf_X6_22 dX6_readRoad_78 z_219 k_219 (by decide) (by decide) (fun _ _ => rfl) f_219_6 ?_
            refine r_bipush (nI 10) dX6_readRoad_81 (by decide) ?_
            refine r_iload_n dX6_readRoad_83 rfl ?_
            refine r_iadd dX6_readRoad_84 (fun z57 hz57 => ?_)
            obtain rfl : z57 = nI (10 + (p_vl t (d_1 t s))) := (hz57.trans (nI_add _ _))
            refine r_iald dX6_readRoad_85 z_224 k_224 (vp_in_nI (by omega) (by decide)) (fun z58 hz58 => ?_)
            rw [nI_clamp (by omega)] at hz58
            obtain rfl : z58 = nI (r (10 + (p_vl t (d_1 t s)))) := hz58.trans ((congrFun (hg_D11.1 224 (by decide)) _).trans (hA (10 + (p_vl t (d_1 t s))) (by omega)))
            refine r_aload_n dX6_readRoad_86 rfl ?_
            refine r_getI (ci := 6) (k := 15) wf_X6_98 dX6_readRoad_87 z_219 k_219 (by decide) (by decide) rfl (fun z59 hz59 => ?_)
            obtain rfl : z59 = nI (s_vn t (d_2 t (r 0) s).1) := hz59.trans (m4 (by omega))
            refine r_ishr dX6_readRoad_90 (fun z60 hz60 => ?_)
            obtain rfl : z60 = nI (r (10 + p_vl t (d_1 t s))) >>> (nI (s_vn t (d_2 t (r 0) s).1) &&& 31) := hz60
            refine r_iconst (nI 1) dX6_readRoad_91 (by decide) ?_
            refine r_iand dX6_readRoad_92 (fun z61 hz61 => ?_)
            obtain rfl : z61 = nI (r (10 + p_vl t (d_1 t s)) / 2 ^ (s_vn t (d_2 t (r 0) s).1) % 2) := hz61.trans (bit_n (by omega) (by omega))
            refine r_iconst (nI 1) dX6_readRoad_93 (by decide) ?_
            refine r_icmp_ne (tgt := 102) dX6_readRoad_94 (by decide) (fun c94 => ?_) (fun c94 => ?_)
            · skip
              rw [nI_eq (by omega) (by omega)] at c94
              refine r_aload_n dX6_readRoad_102 rfl ?_
              refine r_iconst (nI 0) dX6_readRoad_103 (by decide) ?_
              refine r_aload_n dX6_readRoad_104 rfl ?_
              refine r_getR (ci := 6) (k := 6) wf_X6_22 dX6_readRoad_105 z_219 k_219 (by decide) (by decide) (fun _ _ => rfl) f_219_6 ?_
              refine r_iconst (nI 0) dX6_readRoad_108 (by decide) ?_
              refine r_iald dX6_readRoad_109 z_224 k_224 (vp_in_nI (by decide) (by decide)) (fun z62 hz62 => ?_)
              rw [nI_clamp (by omega)] at hz62
              obtain rfl : z62 = nI (r 0) := hz62.trans ((congrFun (hg_D11.1 224 (by decide)) _).trans (hA (0) (by omega)))
              refine r_iconst (nI 1) dX6_readRoad_110 (by decide) ?_
              refine r_isub dX6_readRoad_111 (fun z63 hz63 => ?_)
              obtain rfl : z63 = nI (r 0 - 1) := hz63.trans (nI_sub (by omega))
              refine r_callVI (As := [.int (nI 0), .int (nI (r 0 - 1))]) (o := 219) (c_X6_number B D11 E t (d_2 t (r 0) s) hS_D11 0 (r 0 - 1) (nI (r 0 - 1)) (fun _ => rfl) (by omega) (by omega)) hv_X6_number wm_X6_126 dX6_readRoad_112 rfl rfl z_219 k_219 (by decide) rfl (Nat.le_of_ble_eq_true rfl) ⟨Nat.le_of_ble_eq_true rfl, Nat.le_of_ble_eq_true rfl, Nat.zero_le _, Nat.zero_le _⟩ ⟨rfl, rfl⟩ (fun z64 D65 E66 hz64 => ?_)
              obtain ⟨hq1, hq2, hq3, hqE⟩ := hz64
              obtain rfl := hqE.symm
              obtain rfl := hq1.symm
              have hS_D65 : MP D65 t (d_3 t (r 0) s) := hq2
              have hg_D65 := hg_D11.trans hq3
              refine r_istore_n [(2, .int ((if (p_nm t 0 (r 0 - 1) (d_2 t (r 0) s)).2.1 = 0 then nI (p_vl t (d_2 t (r 0) s)) else nI 0))), (1, .int (nI (p_vl t (d_1 t s)))), (0, .ref (B + 219))] dX6_readRoad_115 (by decide) rfl ?_
              refine r_aload_n dX6_readRoad_116 rfl ?_
              refine r_bipush (nI 59) dX6_readRoad_117 (by decide) ?_
              have hd4 : d_4 t r s = d_3 t (r 0) s := by
                refine d4_n (fun q => ?_)
                first
                  | exact c45 (nm_ok' (show d_3 t (r 0) s = p_nm t 0 (r 0 - 1) (d_2 t (r 0) s) from rfl) q.1).1
                  | (have q1 := q.1
                     rw [show d_3 t (r 0) s = _ from nm_1 c45 c53] at q1
                     exact absurd (show (1 : Nat) = 0 from q1) (by decide))
                  | (have q1 := q.1
                     rw [show d_3 t (r 0) s = _ from nm_2 c45 c53 (by omega)] at q1
                     exact absurd (show (2 : Nat) = 0 from q1) (by decide))
                  | (have e := (nm_3 (l := 0) (h := r 0 - 1) c45 c53 ⟨Nat.zero_le _, by omega⟩).2
                     rw [e] at q
                     exact q.2.elim (fun u => c61 u.symm) c94)
              refine r_callVV (As := [.int (nI 59)]) (o := 219) (c_X6_mustSign B D65 E t (d_3 t (r 0) s) hS_D65 59 (by decide)) hv_X6_mustSign wm_X6_130 dX6_readRoad_119 rfl rfl z_219 k_219 (by decide) rfl (Nat.le_of_ble_eq_true rfl) ⟨Nat.le_of_ble_eq_true rfl, Nat.le_of_ble_eq_true rfl, Nat.zero_le _, Nat.zero_le _⟩ ⟨rfl, rfl⟩ (fun D68 E69 hz67 => ?_)
              obtain ⟨hq1, hq2, hqE⟩ := hz67
              obtain rfl := hqE.symm
              have hS_D68 : MP D68 t (p_rdS t r s) := by
                show MP _ t (p_ex t 59 (d_4 t r s))
                rw [hd4]
                exact hq1
              have hg_D68 := hg_D65.trans hq2
              have hb9 : (p_rdS t r s).2.1 ≤ 3 := hS_D68.2.1.2.1
              refine r_aload_n dX6_readRoad_122 rfl ?_
              refine r_getI (ci := 6) (k := 16) wf_X6_85 dX6_readRoad_123 z_219 k_219 (by decide) (by decide) rfl (fun z70 hz70 => ?_)
              obtain rfl : z70 = nI ((p_rdS t r s).2.1) := (hz70.trans (by first | exact MP_f hS_D68 | exact MP_f hb1))
              refine r_if_ne (tgt := 169) dX6_readRoad_126 (by decide) (fun c126 => ?_) (fun c126 => ?_)
              · skip
                rw [nI_z (by omega)] at c126
                refine r_vret2 dX6_readRoad_169 rfl ⟨Nat.zero_le _, Nat.zero_le _⟩ ?_
                refine ⟨?_, rfl⟩
                first
                  | (rw [road_3 (x := (s, r)) (show 10 ≤ r 4 by omega)]
                     refine ⟨?_, fun k hk => (congrFun (hb2.1 224 (by decide)) k).trans (hA k hk), FRF.of hb2⟩
                     show MP _ t (p_fp 3 s.1 s)
                     rw [fp_f h0]
                     exact hb1)
                  | (rw [road_t (x := (s, r)) (show ¬ 10 ≤ r 4 by omega) c126]
                     exact R3_mk hS3 hA3 hF3)
                  | (rw [road_f (x := (s, r)) (show ¬ 10 ≤ r 4 by omega) c126]
                     exact R3_mk hS_D68 (fun k hk => (congrFun (hg_D68.1 224 (by decide)) k).trans (hA k hk)) (FRF.of hg_D68))
                  | (have hv : 0 ≤ s_vn t (d_2 t (r 0) s).1 ∧ s_vn t (d_2 t (r 0) s).1 ≤ r 0 - 1 := by omega
                     obtain ⟨y1, y2⟩ := nm_3 (l := 0) (h := r 0 - 1) c45 c53 hv
                     have hd3 : (d_3 t (r 0) s).2.1 = 0 := by rw [show d_3 t (r 0) s = _ from y1]
                     have hd4 : d_4 t r s = ((d_3 t (r 0) s).1, 2, (d_2 t (r 0) s).1) := by
                       rw [d4_t ⟨hd3, by rw [y2]; first | exact Or.inl c61.symm | exact Or.inr c94⟩, fp_f hd3]
                     have hn2 : ¬ (2 : Nat) = 0 := by decide
                     have hrd : p_rdS t r s = ((d_3 t (r 0) s).1, 2, (d_2 t (r 0) s).1) := by
                       show p_ex t 59 (d_4 t r s) = _
                       rw [hd4]
                       exact ex_f hn2
                     have hnf : ¬ (p_rdS t r s).2.1 = 0 := by rw [hrd]; exact hn2
                     rw [road_f (x := (s, r)) (show ¬ 10 ≤ r 4 by omega) hnf]
                     exact R3_mk (by rw [hrd]; exact MP_at hb1 hn2 (PK_rd hM.1.2.1 hpk).2.2.1.1) (fun k hk => (congrFun (hg_D68.1 224 (by decide)) k).trans (hA k hk)) (FRF.of hg_D68))
              · skip
                rw [nI_z (by omega)] at c126
                obtain ⟨x1, x2, x3, x4, x5, x6, x7⟩ := rd_ok c126
                have hAX : MA D68 224 r := fun k hk => (congrFun (hg_D68.1 224 (by decide)) k).trans (hA k hk)
                have hFX := FRF.of hg_D68
                have hSX := hS_D68
                have hr65 := rg_64 hO.2 (show p_vl t (d_2 t (r 0) s) < 6 by omega)
                have hpa := pw_lt64 (show p_vl t (d_1 t s) < 6 by omega)
                have hpb := pw_lt64 (show p_vl t (d_2 t (r 0) s) < 6 by omega)
                refine r_lv [(2, .int (nI (p_vl t (d_2 t (r 0) s)))), (1, .int (nI (p_vl t (d_1 t s)))), (0, .ref (B + 219))] (List.forall_mem_cons.mpr ⟨congrArg (fun x => some (Value.int x)) (if_pos x7), List.forall_mem_cons.mpr ⟨rfl, List.forall_mem_cons.mpr ⟨rfl, fun _ h => absurd h List.not_mem_nil⟩⟩⟩) ?_
                refine r_aload_n dX6_readRoad_129 rfl ?_
                refine r_getR (ci := 6) (k := 6) wf_X6_22 dX6_readRoad_130 z_219 k_219 (by decide) (by decide) (fun _ _ => rfl) f_219_6 ?_
                refine r_bipush (nI 10) dX6_readRoad_133 (by decide) ?_
                refine r_iload_n dX6_readRoad_135 rfl ?_
                refine r_iadd dX6_readRoad_136 (fun z71 hz71 => ?_)
                obtain rfl : z71 = nI (10 + (p_vl t (d_1 t s))) := (hz71.trans (nI_add _ _))
                refine r_dup2 dX6_readRoad_137 rfl rfl ?_
                refine r_iald dX6_readRoad_138 z_224 k_224 (vp_in_nI (by omega) (by decide)) (fun z72 hz72 => ?_)
                rw [nI_clamp (by omega)] at hz72
                obtain rfl : z72 = nI (r (10 + p_vl t (d_1 t s))) := hz72.trans (hAX _ (by omega))
                refine r_iconst (nI 1) dX6_readRoad_139 (by decide) ?_
                refine r_iload_n dX6_readRoad_140 rfl ?_
                refine r_ishl dX6_readRoad_141 (fun z73 hz73 => ?_)
                obtain rfl : z73 = nI (2 ^ (p_vl t (d_2 t (r 0) s))) := hz73.trans (shl_1 (by omega))
                refine r_ior dX6_readRoad_142 (fun z74 hz74 => ?_)
                obtain rfl : z74 = nI (r (10 + p_vl t (d_1 t s)) ||| 2 ^ (p_vl t (d_2 t (r 0) s))) := hz74.trans (nI_or _ _)
                refine r_iast dX6_readRoad_143 z_224 k_224 (vp_in_nI (by omega) (by decide)) (fun D75 hD75 => ?_)
                rw [nI_clamp (by omega)] at hD75
                have ht1 := hD75
                have hA1 := MA_up hAX ht1 rfl
                have hS1 := MP_up hSX ht1
                have hF1 := hFX.up ht1
                refine r_aload_n dX6_readRoad_144 rfl ?_
                refine r_getR (ci := 6) (k := 6) wf_X6_22 dX6_readRoad_145 z_219 k_219 (by decide) (by decide) (fun _ _ => rfl) f_219_6 ?_
                refine r_bipush (nI 10) dX6_readRoad_148 (by decide) ?_
                refine r_iload_n dX6_readRoad_150 rfl ?_
                refine r_iadd dX6_readRoad_151 (fun z76 hz76 => ?_)
                obtain rfl : z76 = nI (10 + (p_vl t (d_2 t (r 0) s))) := (hz76.trans (nI_add _ _))
                refine r_dup2 dX6_readRoad_152 rfl rfl ?_
                refine r_iald dX6_readRoad_153 z_224 k_224 (vp_in_nI (by omega) (by decide)) (fun z77 hz77 => ?_)
                rw [nI_clamp (by omega)] at hz77
                obtain rfl : z77 = nI (r (10 + p_vl t (d_2 t (r 0) s))) := hz77.trans ((hA1 _ (by omega)).trans (congrArg nI (rset_n (fun e => x3 (Or.inl (by omega))))))
                refine r_iconst (nI 1) dX6_readRoad_154 (by decide) ?_
                refine r_iload_n dX6_readRoad_155 rfl ?_
                refine r_ishl dX6_readRoad_156 (fun z78 hz78 => ?_)
                obtain rfl : z78 = nI (2 ^ (p_vl t (d_1 t s))) := hz78.trans (shl_1 (by omega))
                refine r_ior dX6_readRoad_157 (fun z79 hz79 => ?_)
                obtain rfl : z79 = nI (r (10 + p_vl t (d_2 t (r 0) s)) ||| 2 ^ (p_vl t (d_1 t s))) := hz79.trans (nI_or _ _)
                refine r_iast dX6_readRoad_158 z_224 k_224 (vp_in_nI (by omega) (by decide)) (fun D80 hD80 => ?_)
                rw [nI_clamp (by omega)] at hD80
                have ht2 := hD80
                have hA2 := MA_up hA1 ht2 rfl
                have hS2 := MP_up hS1 ht2
                have hF2 := hF1.up ht2
                refine r_aload_n dX6_readRoad_159 rfl ?_
                refine r_getR (ci := 6) (k := 6) wf_X6_22 dX6_readRoad_160 z_219 k_219 (by decide) (by decide) (fun _ _ => rfl) f_219_6 ?_
                refine r_iconst (nI 4) dX6_readRoad_163 (by decide) ?_
                refine r_dup2 dX6_readRoad_164 rfl rfl ?_
                refine r_iald dX6_readRoad_165 z_224 k_224 (vp_in_nI (by decide) (by decide)) (fun z81 hz81 => ?_)
                rw [nI_clamp (by omega)] at hz81
                obtain rfl : z81 = nI (r 4) := hz81.trans ((hA2 _ (by decide)).trans (congrArg nI ((rset_n (by omega)).trans (rset_n (by omega)))))
                refine r_iconst (nI 1) dX6_readRoad_166 (by decide) ?_
                refine r_iadd dX6_readRoad_167 (fun z82 hz82 => ?_)
                obtain rfl : z82 = nI ((r 4) + 1) := (hz82.trans (nI_add _ _))
                refine r_iast dX6_readRoad_168 z_224 k_224 (vp_in_nI (by decide) (by decide)) (fun D83 hD83 => ?_)
                rw [nI_clamp (by omega)] at hD83
                have ht3 := hD83
                have hA3 := MA_up hA2 ht3 rfl
                have hS3 := MP_up hS2 ht3
                have hF3 := hF2.up ht3
                refine r_vret2 dX6_readRoad_169 rfl ⟨Nat.zero_le _, Nat.zero_le _⟩ ?_
                refine ⟨?_, rfl⟩
                first
                  | (rw [road_3 (x := (s, r)) (show 10 ≤ r 4 by omega)]
                     refine ⟨?_, fun k hk => (congrFun (hb2.1 224 (by decide)) k).trans (hA k hk), FRF.of hb2⟩
                     show MP _ t (p_fp 3 s.1 s)
                     rw [fp_f h0]
                     exact hb1)
                  | (rw [road_t (x := (s, r)) (show ¬ 10 ≤ r 4 by omega) c126]
                     exact R3_mk hS3 hA3 hF3)
                  | (rw [road_f (x := (s, r)) (show ¬ 10 ≤ r 4 by omega) c126]
                     exact R3_mk hS_D83 (fun k hk => (congrFun (hg_D83.1 224 (by decide)) k).trans (hA k hk)) (FRF.of hg_D83))
                  | (have hv : 0 ≤ s_vn t (d_2 t (r 0) s).1 ∧ s_vn t (d_2 t (r 0) s).1 ≤ r 0 - 1 := by omega
                     obtain ⟨y1, y2⟩ := nm_3 (l := 0) (h := r 0 - 1) c45 c53 hv
                     have hd3 : (d_3 t (r 0) s).2.1 = 0 := by rw [show d_3 t (r 0) s = _ from y1]
                     have hd4 : d_4 t r s = ((d_3 t (r 0) s).1, 2, (d_2 t (r 0) s).1) := by
                       rw [d4_t ⟨hd3, by rw [y2]; first | exact Or.inl c61.symm | exact Or.inr c94⟩, fp_f hd3]
                     have hn2 : ¬ (2 : Nat) = 0 := by decide
                     have hrd : p_rdS t r s = ((d_3 t (r 0) s).1, 2, (d_2 t (r 0) s).1) := by
                       show p_ex t 59 (d_4 t r s) = _
                       rw [hd4]
                       exact ex_f hn2
                     have hnf : ¬ (p_rdS t r s).2.1 = 0 := by rw [hrd]; exact hn2
                     rw [road_f (x := (s, r)) (show ¬ 10 ≤ r 4 by omega) hnf]
                     exact R3_mk (by rw [hrd]; exact MP_at hb1 hn2 (PK_rd hM.1.2.1 hpk).2.2.1.1) (fun k hk => (congrFun (hg_D83.1 224 (by decide)) k).trans (hA k hk)) (FRF.of hg_D83))
            · skip
              rw [nI_eq (by omega) (by omega)] at c94
              refine r_aload_n dX6_readRoad_97 rfl ?_
              refine r_iconst (nI 2) dX6_readRoad_98 (by decide) ?_
              refine r_callVV (As := [.int (nI 2)]) (o := 219) (c_X6_bad_0 B D11 E t (d_2 t (r 0) s) hS_D11 c45 2 (by decide)) hv_X6_bad wm_X6_112 dX6_readRoad_99 rfl rfl z_219 k_219 (by decide) rfl (Nat.le_of_ble_eq_true rfl) ⟨Nat.le_of_ble_eq_true rfl, Nat.le_of_ble_eq_true rfl, Nat.zero_le _, Nat.zero_le _⟩ ⟨rfl, rfl⟩ (fun D85 E86 hz84 => ?_)
              obtain ⟨hb1, hb2, hqE⟩ := hz84
              obtain rfl := hqE.symm
              have hg_D85 := hg_D11.trans hb2
              refine r_aload_n dX6_readRoad_102 rfl ?_
              refine r_iconst (nI 0) dX6_readRoad_103 (by decide) ?_
              refine r_aload_n dX6_readRoad_104 rfl ?_
              refine r_getR (ci := 6) (k := 6) wf_X6_22 dX6_readRoad_105 z_219 k_219 (by decide) (by decide) (fun _ _ => rfl) f_219_6 ?_
              refine r_iconst (nI 0) dX6_readRoad_108 (by decide) ?_
              refine r_iald dX6_readRoad_109 z_224 k_224 (vp_in_nI (by decide) (by decide)) (fun z87 hz87 => ?_)
              rw [nI_clamp (by omega)] at hz87
              obtain rfl : z87 = nI (r 0) := hz87.trans ((congrFun (hg_D85.1 224 (by decide)) _).trans (hA (0) (by omega)))
              refine r_iconst (nI 1) dX6_readRoad_110 (by decide) ?_
              refine r_isub dX6_readRoad_111 (fun z88 hz88 => ?_)
              obtain rfl : z88 = nI (r 0 - 1) := hz88.trans (nI_sub (by omega))
              refine r_callVI (As := [.int (nI 0), .int (nI (r 0 - 1))]) (o := 219) (c_X6_number_f B D85 E t _ hb1 (fun q => absurd (show (2 : Nat) = 0 from q) (by decide)) (nI 0) (nI (r 0 - 1))) hv_X6_number wm_X6_126 dX6_readRoad_112 rfl rfl z_219 k_219 (by decide) rfl (Nat.le_of_ble_eq_true rfl) ⟨Nat.le_of_ble_eq_true rfl, Nat.le_of_ble_eq_true rfl, Nat.zero_le _, Nat.zero_le _⟩ ⟨rfl, rfl⟩ (fun z89 D90 E91 hz89 => ?_)
              obtain ⟨hqV, hqD, hqE⟩ := hz89
              obtain rfl := hqE.symm
              obtain rfl := hqD.symm
              obtain rfl := hqV.symm
              refine r_istore_n [(2, .int (nI 0)), (1, .int (nI (p_vl t (d_1 t s)))), (0, .ref (B + 219))] dX6_readRoad_115 (by decide) rfl ?_
              refine r_aload_n dX6_readRoad_116 rfl ?_
              refine r_bipush (nI 59) dX6_readRoad_117 (by decide) ?_
              refine r_callVV (As := [.int (nI 59)]) (o := 219) (c_X6_mustSign_f B D85 E t _ hb1 (fun q => absurd (show (2 : Nat) = 0 from q) (by decide)) (nI 59)) hv_X6_mustSign wm_X6_130 dX6_readRoad_119 rfl rfl z_219 k_219 (by decide) rfl (Nat.le_of_ble_eq_true rfl) ⟨Nat.le_of_ble_eq_true rfl, Nat.le_of_ble_eq_true rfl, Nat.zero_le _, Nat.zero_le _⟩ ⟨rfl, rfl⟩ (fun D93 E94 hz92 => ?_)
              obtain ⟨hqD, hqE⟩ := hz92
              obtain rfl := hqE.symm
              obtain rfl := hqD.symm
              refine r_aload_n dX6_readRoad_122 rfl ?_
              refine r_getI (ci := 6) (k := 16) wf_X6_85 dX6_readRoad_123 z_219 k_219 (by decide) (by decide) rfl (fun z95 hz95 => ?_)
              obtain rfl : z95 = nI 2 := (hz95.trans (by first | exact MP_f hS_D85 | exact MP_f hb1))
              refine r_if_ne (tgt := 169) dX6_readRoad_126 (by decide) (fun c126 => ?_) (fun c126 => ?_)
              rotate_left
              · exact absurd c126 (by decide)
              rw [nI_z (by omega)] at c126
              refine r_vret2 dX6_readRoad_169 rfl ⟨Nat.zero_le _, Nat.zero_le _⟩ ?_
              refine ⟨?_, rfl⟩
              first
                | (rw [road_3 (x := (s, r)) (show 10 ≤ r 4 by omega)]
                   refine ⟨?_, fun k hk => (congrFun (hb2.1 224 (by decide)) k).trans (hA k hk), FRF.of hb2⟩
                   show MP _ t (p_fp 3 s.1 s)
                   rw [fp_f h0]
                   exact hb1)
                | (rw [road_t (x := (s, r)) (show ¬ 10 ≤ r 4 by omega) c126]
                   exact R3_mk hS3 hA3 hF3)
                | (rw [road_f (x := (s, r)) (show ¬ 10 ≤ r 4 by omega) c126]
                   exact R3_mk hS_D85 (fun k hk => (congrFun (hg_D85.1 224 (by decide)) k).trans (hA k hk)) (FRF.of hg_D85))
                | (have hv : 0 ≤ s_vn t (d_2 t (r 0) s).1 ∧ s_vn t (d_2 t (r 0) s).1 ≤ r 0 - 1 := by omega
                   obtain ⟨y1, y2⟩ := nm_3 (l := 0) (h := r 0 - 1) c45 c53 hv
                   have hd3 : (d_3 t (r 0) s).2.1 = 0 := by rw [show d_3 t (r 0) s = _ from y1]
                   have hd4 : d_4 t r s = ((d_3 t (r 0) s).1, 2, (d_2 t (r 0) s).1) := by
                     rw [d4_t ⟨hd3, by rw [y2]; first | exact Or.inl c61.symm | exact Or.inr c94⟩, fp_f hd3]
                   have hn2 : ¬ (2 : Nat) = 0 := by decide
                   have hrd : p_rdS t r s = ((d_3 t (r 0) s).1, 2, (d_2 t (r 0) s).1) := by
                     show p_ex t 59 (d_4 t r s) = _
                     rw [hd4]
                     exact ex_f hn2
                   have hnf : ¬ (p_rdS t r s).2.1 = 0 := by rw [hrd]; exact hn2
                   rw [road_f (x := (s, r)) (show ¬ 10 ≤ r 4 by omega) hnf]
                   exact R3_mk (by rw [hrd]; exact MP_at hb1 hn2 (PK_rd hM.1.2.1 hpk).2.2.1.1) (fun k hk => (congrFun (hg_D85.1 224 (by decide)) k).trans (hA k hk)) (FRF.of hg_D85))
  · skip
    rw [nI_eq (by omega) (by omega)] at c8
    refine r_aload_n dX6_readRoad_11 rfl ?_
    refine r_iconst (nI 3) dX6_readRoad_12 (by decide) ?_
    refine r_callVV (As := [.int (nI 3)]) (o := 219) (c_X6_bad_0 B D E t s hM h0 3 (by decide)) hv_X6_bad wm_X6_112 dX6_readRoad_13 rfl rfl z_219 k_219 (by decide) rfl (Nat.le_of_ble_eq_true rfl) ⟨Nat.le_of_ble_eq_true rfl, Nat.le_of_ble_eq_true rfl, Nat.zero_le _, Nat.zero_le _⟩ ⟨rfl, rfl⟩ (fun D97 E98 hz96 => ?_)
    obtain ⟨hb1, hb2, hqE⟩ := hz96
    obtain rfl := hqE.symm
    have hg_D97 := hb2
    refine r_aload_n dX6_readRoad_16 rfl ?_
    refine r_iconst (nI 1) dX6_readRoad_17 (by decide) ?_
    refine r_callVV (As := [.int (nI 1)]) (o := 219) (c_X6_must_f B D97 E t _ hb1 (fun q => absurd (show (3 : Nat) = 0 from q) (by decide)) (nI 1)) hv_X6_must wm_X6_119 dX6_readRoad_18 rfl rfl z_219 k_219 (by decide) rfl (Nat.le_of_ble_eq_true rfl) ⟨Nat.le_of_ble_eq_true rfl, Nat.le_of_ble_eq_true rfl, Nat.zero_le _, Nat.zero_le _⟩ ⟨rfl, rfl⟩ (fun D100 E101 hz99 => ?_)
    obtain ⟨hqD, hqE⟩ := hz99
    obtain rfl := hqE.symm
    obtain rfl := hqD.symm
    refine r_aload_n dX6_readRoad_21 rfl ?_
    refine r_iconst (nI 0) dX6_readRoad_22 (by decide) ?_
    refine r_aload_n dX6_readRoad_23 rfl ?_
    refine r_getR (ci := 6) (k := 6) wf_X6_22 dX6_readRoad_24 z_219 k_219 (by decide) (by decide) (fun _ _ => rfl) f_219_6 ?_
    refine r_iconst (nI 0) dX6_readRoad_27 (by decide) ?_
    refine r_iald dX6_readRoad_28 z_224 k_224 (vp_in_nI (by decide) (by decide)) (fun z102 hz102 => ?_)
    rw [nI_clamp (by omega)] at hz102
    obtain rfl : z102 = nI (r 0) := hz102.trans ((congrFun (hg_D97.1 224 (by decide)) _).trans (hA (0) (by omega)))
    refine r_iconst (nI 1) dX6_readRoad_29 (by decide) ?_
    refine r_isub dX6_readRoad_30 (fun z103 hz103 => ?_)
    obtain rfl : z103 = nI (r 0 - 1) := hz103.trans (nI_sub (by omega))
    refine r_callVI (As := [.int (nI 0), .int (nI (r 0 - 1))]) (o := 219) (c_X6_number_f B D97 E t _ hb1 (fun q => absurd (show (3 : Nat) = 0 from q) (by decide)) (nI 0) (nI (r 0 - 1))) hv_X6_number wm_X6_126 dX6_readRoad_31 rfl rfl z_219 k_219 (by decide) rfl (Nat.le_of_ble_eq_true rfl) ⟨Nat.le_of_ble_eq_true rfl, Nat.le_of_ble_eq_true rfl, Nat.zero_le _, Nat.zero_le _⟩ ⟨rfl, rfl⟩ (fun z104 D105 E106 hz104 => ?_)
    obtain ⟨hqV, hqD, hqE⟩ := hz104
    obtain rfl := hqE.symm
    obtain rfl := hqD.symm
    obtain rfl := hqV.symm
    refine r_istore_n [(1, .int (nI 0)), (0, .ref (B + 219))] dX6_readRoad_34 (by decide) rfl ?_
    refine r_aload_n dX6_readRoad_35 rfl ?_
    refine r_bipush (nI 44) dX6_readRoad_36 (by decide) ?_
    refine r_callVV (As := [.int (nI 44)]) (o := 219) (c_X6_mustSign_f B D97 E t _ hb1 (fun q => absurd (show (3 : Nat) = 0 from q) (by decide)) (nI 44)) hv_X6_mustSign wm_X6_130 dX6_readRoad_38 rfl rfl z_219 k_219 (by decide) rfl (Nat.le_of_ble_eq_true rfl) ⟨Nat.le_of_ble_eq_true rfl, Nat.le_of_ble_eq_true rfl, Nat.zero_le _, Nat.zero_le _⟩ ⟨rfl, rfl⟩ (fun D108 E109 hz107 => ?_)
    obtain ⟨hqD, hqE⟩ := hz107
    obtain rfl := hqE.symm
    obtain rfl := hqD.symm
    refine r_aload_n dX6_readRoad_41 rfl ?_
    refine r_getI (ci := 6) (k := 16) wf_X6_85 dX6_readRoad_42 z_219 k_219 (by decide) (by decide) rfl (fun z110 hz110 => ?_)
    obtain rfl : z110 = nI 3 := (hz110.trans (by first | exact MP_f hS_D97 | exact MP_f hb1))
    refine r_if_ne (tgt := 102) dX6_readRoad_45 (by decide) (fun c45 => ?_) (fun c45 => ?_)
    rotate_left
    · exact absurd c45 (by decide)
    rw [nI_z (by omega)] at c45
    refine r_aload_n dX6_readRoad_102 rfl ?_
    refine r_iconst (nI 0) dX6_readRoad_103 (by decide) ?_
    refine r_aload_n dX6_readRoad_104 rfl ?_
    refine r_getR (ci := 6) (k := 6) wf_X6_22 dX6_readRoad_105 z_219 k_219 (by decide) (by decide) (fun _ _ => rfl) f_219_6 ?_
    refine r_iconst (nI 0) dX6_readRoad_108 (by decide) ?_
    refine r_iald dX6_readRoad_109 z_224 k_224 (vp_in_nI (by decide) (by decide)) (fun z111 hz111 => ?_)
    rw [nI_clamp (by omega)] at hz111
    obtain rfl : z111 = nI (r 0) := hz111.trans ((congrFun (hg_D97.1 224 (by decide)) _).trans (hA (0) (by omega)))
    refine r_iconst (nI 1) dX6_readRoad_110 (by decide) ?_
    refine r_isub dX6_readRoad_111 (fun z112 hz112 => ?_)
    obtain rfl : z112 = nI (r 0 - 1) := hz112.trans (nI_sub (by omega))
    refine r_callVI (As := [.int (nI 0), .int (nI (r 0 - 1))]) (o := 219) (c_X6_number_f B D97 E t _ hb1 (fun q => absurd (show (3 : Nat) = 0 from q) (by decide)) (nI 0) (nI (r 0 - 1))) hv_X6_number wm_X6_126 dX6_readRoad_112 rfl rfl z_219 k_219 (by decide) rfl (Nat.le_of_ble_eq_true rfl) ⟨Nat.le_of_ble_eq_true rfl, Nat.le_of_ble_eq_true rfl, Nat.zero_le _, Nat.zero_le _⟩ ⟨rfl, rfl⟩ (fun z113 D114 E115 hz113 => ?_)
    obtain ⟨hqV, hqD, hqE⟩ := hz113
    obtain rfl := hqE.symm
    obtain rfl := hqD.symm
    obtain rfl := hqV.symm
    refine r_istore_n [(2, .int (nI 0)), (1, .int (nI 0)), (0, .ref (B + 219))] dX6_readRoad_115 (by decide) rfl ?_
    refine r_aload_n dX6_readRoad_116 rfl ?_
    refine r_bipush (nI 59) dX6_readRoad_117 (by decide) ?_
    refine r_callVV (As := [.int (nI 59)]) (o := 219) (c_X6_mustSign_f B D97 E t _ hb1 (fun q => absurd (show (3 : Nat) = 0 from q) (by decide)) (nI 59)) hv_X6_mustSign wm_X6_130 dX6_readRoad_119 rfl rfl z_219 k_219 (by decide) rfl (Nat.le_of_ble_eq_true rfl) ⟨Nat.le_of_ble_eq_true rfl, Nat.le_of_ble_eq_true rfl, Nat.zero_le _, Nat.zero_le _⟩ ⟨rfl, rfl⟩ (fun D117 E118 hz116 => ?_)
    obtain ⟨hqD, hqE⟩ := hz116
    obtain rfl := hqE.symm
    obtain rfl := hqD.symm
    refine r_aload_n dX6_readRoad_122 rfl ?_
    refine r_getI (ci := 6) (k := 16) wf_X6_85 dX6_readRoad_123 z_219 k_219 (by decide) (by decide) rfl (fun z119 hz119 => ?_)
    obtain rfl : z119 = nI 3 := (hz119.trans (by first | exact MP_f hS_D97 | exact MP_f hb1))
    refine r_if_ne (tgt := 169) dX6_readRoad_126 (by decide) (fun c126 => ?_) (fun c126 => ?_)
    rotate_left
    · exact absurd c126 (by decide)
    rw [nI_z (by omega)] at c126
    refine r_vret2 dX6_readRoad_169 rfl ⟨Nat.zero_le _, Nat.zero_le _⟩ ?_
    refine ⟨?_, rfl⟩
    first
      | (rw [road_3 (x := (s, r)) (show 10 ≤ r 4 by omega)]
         refine ⟨?_, fun k hk => (congrFun (hb2.1 224 (by decide)) k).trans (hA k hk), FRF.of hb2⟩
         show MP _ t (p_fp 3 s.1 s)
         rw [fp_f h0]
         exact hb1)
      | (rw [road_t (x := (s, r)) (show ¬ 10 ≤ r 4 by omega) c126]
         exact R3_mk hS3 hA3 hF3)
      | (rw [road_f (x := (s, r)) (show ¬ 10 ≤ r 4 by omega) c126]
         exact R3_mk hS_D97 (fun k hk => (congrFun (hg_D97.1 224 (by decide)) k).trans (hA k hk)) (FRF.of hg_D97))
      | (have hv : 0 ≤ s_vn t (d_2 t (r 0) s).1 ∧ s_vn t (d_2 t (r 0) s).1 ≤ r 0 - 1 := by omega
         obtain ⟨y1, y2⟩ := nm_3 (l := 0) (h := r 0 - 1) c45 c53 hv
         have hd3 : (d_3 t (r 0) s).2.1 = 0 := by rw [show d_3 t (r 0) s = _ from y1]
         have hd4 : d_4 t r s = ((d_3 t (r 0) s).1, 2, (d_2 t (r 0) s).1) := by
           rw [d4_t ⟨hd3, by rw [y2]; first | exact Or.inl c61.symm | exact Or.inr c94⟩, fp_f hd3]
         have hn2 : ¬ (2 : Nat) = 0 := by decide
         have hrd : p_rdS t r s = ((d_3 t (r 0) s).1, 2, (d_2 t (r 0) s).1) := by
           show p_ex t 59 (d_4 t r s) = _
           rw [hd4]
           exact ex_f hn2
         have hnf : ¬ (p_rdS t r s).2.1 = 0 := by rw [hrd]; exact hn2
         rw [road_f (x := (s, r)) (show ¬ 10 ≤ r 4 by omega) hnf]
         exact R3_mk (by rw [hrd]; exact MP_at hb1 hn2 (PK_rd hM.1.2.1 hpk).2.2.1.1) (fun k hk => (congrFun (hg_D97.1 224 (by decide)) k).trans (hA k hk)) (FRF.of hg_D97))
