set_option maxRecDepth 100000 in
set_option maxHeartbeats 4000000 in
theorem c_X6_bad_0 (B : Nat) (D : DD) (E : EE) (t : TPt) (s : PSt) (hM : MP D t s) (h0 : s.2.1 = 0) (n : Nat) (hn : 1 ≤ n ∧ n ≤ 3) : MR yX6_bad cX6_bad 2 none rX6_bad B [.ref (B + 219), .int (nI n)] Z0 D E (Q2 Z0 (pV (fun D' E' => MP D' t (s.1, n, s.1) ∧ PFm D D' ∧ E' = E))) := by
  obtain ⟨m1, m2, m3, m4⟩ := MP_1 hM h0
  have ht : ∀ j, j < t.1 → t.2 j ≤ 255 := fun j hj => (hM.1.2.2 j hj).2
  have hvn := vn_999 (c := s.1) ht
  have htk := s_tk_le (t := t) (c := s.1)
  have hpk := hM.2.1
  obtain ⟨p1, p2, p3⟩ := id hpk
  refine r_enter [(0, .ref (B + 219)), (1, .int (nI n))] hv_X6_bad.1.2.2.2.2 (Nat.le_of_ble_eq_true rfl) rfl ?_
  refine r_aload_n dX6_bad_0 rfl ?_
  refine r_getI (ci := 6) (k := 16) wf_X6_85 dX6_bad_1 z_219 k_219 (by decide) (by decide) rfl (fun z1 hz1 => ?_)
  obtain rfl : z1 = nI 0 := hz1.trans m1
  refine r_if_ne (tgt := 20) dX6_bad_4 (by decide) (fun c4 => ?_) (fun c4 => ?_)
  · exact absurd rfl c4
  rw [nI_z (by omega)] at c4
  refine r_aload_n dX6_bad_7 rfl ?_
  refine r_iload_n dX6_bad_8 rfl ?_
  refine r_putI (ci := 6) (k := 16) wf_X6_85 dX6_bad_9 z_219 k_219 (by decide) (by decide) rfl rfl (fun D2 hD2 => ?_)
  have hd1 := hD2
  refine r_aload_n dX6_bad_12 rfl ?_
  refine r_aload_n dX6_bad_13 rfl ?_
  refine r_getI (ci := 6) (k := 13) wf_X6_88 dX6_bad_14 z_219 k_219 (by decide) (by decide) rfl (fun z3 hz3 => ?_)
  obtain rfl : z3 = nI s.1 := hz3.trans (by rw [hd1]; exact (up2_n (by decide)).trans m2)
  refine r_putI (ci := 6) (k := 17) wf_X6_91 dX6_bad_17 z_219 k_219 (by decide) (by decide) rfl rfl (fun D4 hD4 => ?_)
  have hd2 := hD4
  refine r_vret2 dX6_bad_20 rfl ⟨Nat.zero_le _, Nat.zero_le _⟩ ?_
  have hE := bad_end hM hn hd1 hd2
  exact ⟨hE.1, hE.2, rfl⟩
set_option maxRecDepth 100000 in
set_option maxHeartbeats 4000000 in
theorem c_X6_bad_f (B : Nat) (D : DD) (E : EE) (t : TPt) (s : PSt) (hM : MP D t s) (h0 : ¬ s.2.1 = 0) (x : Int32) : MR yX6_bad cX6_bad 2 none rX6_bad B [.ref (B + 219), .int x] Z0 D E (Q2 Z0 (pV (fun D' E' => D' = D ∧ E' = E))) := by
  have m1 := (hM.2.2.2 h0).1
  have hp2 := hM.2.1.2.1
  refine r_enter [(0, .ref (B + 219)), (1, .int x)] hv_X6_bad.1.2.2.2.2 (Nat.le_of_ble_eq_true rfl) rfl ?_
  refine r_aload_n dX6_bad_0 rfl ?_
  refine r_getI (ci := 6) (k := 16) wf_X6_85 dX6_bad_1 z_219 k_219 (by decide) (by decide) rfl (fun z1 hz1 => ?_)
  obtain rfl : z1 = nI s.2.1 := hz1.trans m1
  refine r_if_ne (tgt := 20) dX6_bad_4 (by decide) (fun c4 => ?_) (fun c4 => ?_)
  rotate_left
  · exact absurd ((nI_z (by omega)).mp c4) h0
  rw [nI_z (by omega)] at c4
  refine r_vret2 dX6_bad_20 rfl ⟨Nat.zero_le _, Nat.zero_le _⟩ ?_
  exact ⟨rfl, rfl⟩
set_option maxRecDepth 100000 in
set_option maxHeartbeats 4000000 in
theorem c_X6_must_f (B : Nat) (D : DD) (E : EE) (t : TPt) (s : PSt) (hM : MP D t s) (h0 : ¬ s.2.1 = 0) (x : Int32) : MR yX6_must cX6_must 2 none rX6_must B [.ref (B + 219), .int x] Z0 D E (Q2 Z0 (pV (fun D' E' => D' = D ∧ E' = E))) := by
  have m1 := (hM.2.2.2 h0).1
  have hp2 := hM.2.1.2.1
  refine r_enter [(0, .ref (B + 219)), (1, .int x)] hv_X6_must.1.2.2.2.2 (Nat.le_of_ble_eq_true rfl) rfl ?_
  refine r_iload_n dX6_must_0 rfl ?_
  refine r_if_ne (tgt := 9) dX6_must_1 (by decide) (fun c1 => ?_) (fun c1 => ?_)
  · skip
    refine r_aload_n dX6_must_9 rfl ?_
    refine r_getI (ci := 6) (k := 16) wf_X6_85 dX6_must_10 z_219 k_219 (by decide) (by decide) rfl (fun z1 hz1 => ?_)
    obtain rfl : z1 = nI s.2.1 := hz1.trans m1
    refine r_if_ne (tgt := 20) dX6_must_13 (by decide) (fun c13 => ?_) (fun c13 => ?_)
    rotate_left
    · exact absurd ((nI_z (by omega)).mp c13) h0
    rw [nI_z (by omega)] at c13
    refine r_vret2 dX6_must_20 rfl ⟨Nat.zero_le _, Nat.zero_le _⟩ ?_
    exact ⟨rfl, rfl⟩
  · skip
    refine r_aload_n dX6_must_4 rfl ?_
    refine r_iconst (nI 1) dX6_must_5 (by decide) ?_
    refine r_callVV (As := [.int (nI 1)]) (o := 219) (c_X6_bad_f B D E t s hM h0 (nI 1)) hv_X6_bad wm_X6_112 dX6_must_6 rfl rfl z_219 k_219 (by decide) rfl (Nat.le_of_ble_eq_true rfl) ⟨Nat.le_of_ble_eq_true rfl, Nat.le_of_ble_eq_true rfl, Nat.zero_le _, Nat.zero_le _⟩ ⟨rfl, rfl⟩ (fun D3 E4 hz2 => ?_)
    obtain ⟨hqD, hqE⟩ := hz2
    obtain rfl := hqE.symm
    obtain rfl := hqD.symm
    refine r_aload_n dX6_must_9 rfl ?_
    refine r_getI (ci := 6) (k := 16) wf_X6_85 dX6_must_10 z_219 k_219 (by decide) (by decide) rfl (fun z5 hz5 => ?_)
    obtain rfl : z5 = nI s.2.1 := hz5.trans m1
    refine r_if_ne (tgt := 20) dX6_must_13 (by decide) (fun c13 => ?_) (fun c13 => ?_)
    rotate_left
    · exact absurd ((nI_z (by omega)).mp c13) h0
    rw [nI_z (by omega)] at c13
    refine r_vret2 dX6_must_20 rfl ⟨Nat.zero_le _, Nat.zero_le _⟩ ?_
    exact ⟨rfl, rfl⟩
set_option maxRecDepth 100000 in
set_option maxHeartbeats 4000000 in
theorem c_X6_must_1 (B : Nat) (D : DD) (E : EE) (t : TPt) (s : PSt) (hM : MP D t s) (h0 : s.2.1 = 0) (hk : 2 ≤ s_tk t s.1) : MR yX6_must cX6_must 2 none rX6_must B [.ref (B + 219), .int (nI 1)] Z0 D E (Q2 Z0 (pV (fun D' E' => MP D' t (s_nx t s.1, 0, s.2.2) ∧ PFm D D' ∧ E' = E))) := by
  obtain ⟨m1, m2, m3, m4⟩ := MP_1 hM h0
  have ht : ∀ j, j < t.1 → t.2 j ≤ 255 := fun j hj => (hM.1.2.2 j hj).2
  have hvn := vn_999 (c := s.1) ht
  have htk := s_tk_le (t := t) (c := s.1)
  have hpk := hM.2.1
  obtain ⟨p1, p2, p3⟩ := id hpk
  obtain ⟨n1, n2⟩ := MP_nx hM h0 hk
  refine r_enter [(0, .ref (B + 219)), (1, .int (nI 1))] hv_X6_must.1.2.2.2.2 (Nat.le_of_ble_eq_true rfl) rfl ?_
  refine r_iload_n dX6_must_0 rfl ?_
  refine r_if_ne (tgt := 9) dX6_must_1 (by decide) (fun c1 => ?_) (fun c1 => ?_)
  rotate_left
  · exact absurd c1 (by decide)
  rw [nI_z (by omega)] at c1
  refine r_aload_n dX6_must_9 rfl ?_
  refine r_getI (ci := 6) (k := 16) wf_X6_85 dX6_must_10 z_219 k_219 (by decide) (by decide) rfl (fun z1 hz1 => ?_)
  obtain rfl : z1 = nI 0 := hz1.trans m1
  refine r_if_ne (tgt := 20) dX6_must_13 (by decide) (fun c13 => ?_) (fun c13 => ?_)
  · exact absurd rfl c13
  rw [nI_z (by omega)] at c13
  refine r_aload_n dX6_must_16 rfl ?_
  refine r_callVV (As := []) (o := 219) (c_X6_nextToken B D E t hM.1 (s_nx t s.1) n2 n1) hv_X6_nextToken wm_X6_116 dX6_must_17 rfl rfl z_219 k_219 (by decide) rfl (Nat.le_of_ble_eq_true rfl) ⟨Nat.le_of_ble_eq_true rfl, Nat.le_of_ble_eq_true rfl, Nat.zero_le _, Nat.zero_le _⟩ ⟨rfl, rfl⟩ (fun D3 E4 hz2 => ?_)
  obtain ⟨hq1, hq2, hqE⟩ := hz2
  obtain rfl := hqE.symm
  have hE := next_end hM h0 hk n2 hq1 hq2
  refine r_vret2 dX6_must_20 rfl ⟨Nat.zero_le _, Nat.zero_le _⟩ ?_
  exact ⟨hE.1, hE.2, rfl⟩
set_option maxRecDepth 100000 in
set_option maxHeartbeats 4000000 in
theorem c_X6_must_0 (B : Nat) (D : DD) (E : EE) (t : TPt) (s : PSt) (hM : MP D t s) (h0 : s.2.1 = 0) : MR yX6_must cX6_must 2 none rX6_must B [.ref (B + 219), .int (nI 0)] Z0 D E (Q2 Z0 (pV (fun D' E' => MP D' t (s.1, 1, s.1) ∧ PFm D D' ∧ E' = E))) := by
  obtain ⟨m1, m2, m3, m4⟩ := MP_1 hM h0
  have ht : ∀ j, j < t.1 → t.2 j ≤ 255 := fun j hj => (hM.1.2.2 j hj).2
  have hvn := vn_999 (c := s.1) ht
  have htk := s_tk_le (t := t) (c := s.1)
  have hpk := hM.2.1
  obtain ⟨p1, p2, p3⟩ := id hpk
  refine r_enter [(0, .ref (B + 219)), (1, .int (nI 0))] hv_X6_must.1.2.2.2.2 (Nat.le_of_ble_eq_true rfl) rfl ?_
  refine r_iload_n dX6_must_0 rfl ?_
  refine r_if_ne (tgt := 9) dX6_must_1 (by decide) (fun c1 => ?_) (fun c1 => ?_)
  · exact absurd rfl c1
  rw [nI_z (by omega)] at c1
  refine r_aload_n dX6_must_4 rfl ?_
  refine r_iconst (nI 1) dX6_must_5 (by decide) ?_
  refine r_callVV (As := [.int (nI 1)]) (o := 219) (c_X6_bad_0 B D E t s hM h0 1 (by decide)) hv_X6_bad wm_X6_112 dX6_must_6 rfl rfl z_219 k_219 (by decide) rfl (Nat.le_of_ble_eq_true rfl) ⟨Nat.le_of_ble_eq_true rfl, Nat.le_of_ble_eq_true rfl, Nat.zero_le _, Nat.zero_le _⟩ ⟨rfl, rfl⟩ (fun D2 E3 hz1 => ?_)
  obtain ⟨hq1, hq2, hqE⟩ := hz1
  obtain rfl := hqE.symm
  refine r_aload_n dX6_must_9 rfl ?_
  refine r_getI (ci := 6) (k := 16) wf_X6_85 dX6_must_10 z_219 k_219 (by decide) (by decide) rfl (fun z4 hz4 => ?_)
  obtain rfl : z4 = nI 1 := hz4.trans (MP_f hq1)
  refine r_if_ne (tgt := 20) dX6_must_13 (by decide) (fun c13 => ?_) (fun c13 => ?_)
  rotate_left
  · exact absurd c13 (by decide)
  rw [nI_z (by omega)] at c13
  refine r_vret2 dX6_must_20 rfl ⟨Nat.zero_le _, Nat.zero_le _⟩ ?_
  exact ⟨hq1, hq2, rfl⟩
set_option maxRecDepth 100000 in
set_option maxHeartbeats 4000000 in
theorem c_X6_mustSign_0 (B : Nat) (D : DD) (E : EE) (t : TPt) (s : PSt) (hM : MP D t s) (h0 : s.2.1 = 0) (c : Nat) (hc : c = 44 ∨ c = 59) : MR yX6_mustSign cX6_mustSign 2 none rX6_mustSign B [.ref (B + 219), .int (nI c)] Z0 D E (Q2 Z0 (pV (fun D' E' => MP D' t (p_ex t c s) ∧ PFm D D' ∧ E' = E))) := by
  obtain ⟨m1, m2, m3, m4⟩ := MP_1 hM h0
  have ht : ∀ j, j < t.1 → t.2 j ≤ 255 := fun j hj => (hM.1.2.2 j hj).2
  have hvn := vn_999 (c := s.1) ht
  have htk := s_tk_le (t := t) (c := s.1)
  have hpk := hM.2.1
  obtain ⟨p1, p2, p3⟩ := id hpk
  refine r_enter [(0, .ref (B + 219)), (1, .int (nI c))] hv_X6_mustSign.1.2.2.2.2 (Nat.le_of_ble_eq_true rfl) rfl ?_
  refine r_aload_n dX6_mustSign_0 rfl ?_
  refine r_aload_n dX6_mustSign_1 rfl ?_
  refine r_getI (ci := 6) (k := 14) wf_X6_109 dX6_mustSign_2 z_219 k_219 (by decide) (by decide) rfl (fun z1 hz1 => ?_)
  obtain rfl : z1 = nI (s_tk t s.1) := hz1.trans m3
  refine r_iconst (nI 4) dX6_mustSign_5 (by decide) ?_
  refine r_icmp_ne (tgt := 21) dX6_mustSign_6 (by decide) (fun c6 => ?_) (fun c6 => ?_)
  · skip
    rw [nI_eq (by omega) (by omega)] at c6
    refine r_iconst (nI 0) dX6_mustSign_21 (by decide) ?_
    refine r_callVV (As := [.int (nI 0)]) (o := 219) (c_X6_must_0 B D E t s hM h0) hv_X6_must wm_X6_119 dX6_mustSign_22 rfl rfl z_219 k_219 (by decide) rfl (Nat.le_of_ble_eq_true rfl) ⟨Nat.le_of_ble_eq_true rfl, Nat.le_of_ble_eq_true rfl, Nat.zero_le _, Nat.zero_le _⟩ ⟨rfl, rfl⟩ (fun D3 E4 hz2 => ?_)
    obtain ⟨hq1, hq2, hqE⟩ := hz2
    obtain rfl := hqE.symm
    refine r_vret2 dX6_mustSign_25 rfl ⟨Nat.zero_le _, Nat.zero_le _⟩ ?_
    first
      | (rw [sg_t h0 hc c6 c14]; exact ⟨hq1, hq2, rfl⟩)
      | (rw [sg_f h0 hc (fun q => c14 q.2)]; exact ⟨hq1, hq2, rfl⟩)
      | (rw [sg_f h0 hc (fun q => c6 q.1)]; exact ⟨hq1, hq2, rfl⟩)
  · skip
    rw [nI_eq (by omega) (by omega)] at c6
    refine r_aload_n dX6_mustSign_9 rfl ?_
    refine r_getI (ci := 6) (k := 15) wf_X6_98 dX6_mustSign_10 z_219 k_219 (by decide) (by decide) rfl (fun z5 hz5 => ?_)
    obtain rfl : z5 = nI (s_vn t s.1) := hz5.trans (m4 (by omega))
    refine r_iload_n dX6_mustSign_13 rfl ?_
    refine r_icmp_ne (tgt := 21) dX6_mustSign_14 (by decide) (fun c14 => ?_) (fun c14 => ?_)
    · skip
      rw [nI_eq (by omega) (by omega)] at c14
      refine r_iconst (nI 0) dX6_mustSign_21 (by decide) ?_
      refine r_callVV (As := [.int (nI 0)]) (o := 219) (c_X6_must_0 B D E t s hM h0) hv_X6_must wm_X6_119 dX6_mustSign_22 rfl rfl z_219 k_219 (by decide) rfl (Nat.le_of_ble_eq_true rfl) ⟨Nat.le_of_ble_eq_true rfl, Nat.le_of_ble_eq_true rfl, Nat.zero_le _, Nat.zero_le _⟩ ⟨rfl, rfl⟩ (fun D7 E8 hz6 => ?_)
      obtain ⟨hq1, hq2, hqE⟩ := hz6
      obtain rfl := hqE.symm
      refine r_vret2 dX6_mustSign_25 rfl ⟨Nat.zero_le _, Nat.zero_le _⟩ ?_
      first
        | (rw [sg_t h0 hc c6 c14]; exact ⟨hq1, hq2, rfl⟩)
        | (rw [sg_f h0 hc (fun q => c14 q.2)]; exact ⟨hq1, hq2, rfl⟩)
        | (rw [sg_f h0 hc (fun q => c6 q.1)]; exact ⟨hq1, hq2, rfl⟩)
    · skip
      rw [nI_eq (by omega) (by omega)] at c14
      refine r_iconst (nI 1) dX6_mustSign_17 (by decide) ?_
      refine r_goto (tgt := 22) dX6_mustSign_18 (by decide) ?_
      refine r_callVV (As := [.int (nI 1)]) (o := 219) (c_X6_must_1 B D E t s hM h0 (by omega)) hv_X6_must wm_X6_119 dX6_mustSign_22 rfl rfl z_219 k_219 (by decide) rfl (Nat.le_of_ble_eq_true rfl) ⟨Nat.le_of_ble_eq_true rfl, Nat.le_of_ble_eq_true rfl, Nat.zero_le _, Nat.zero_le _⟩ ⟨rfl, rfl⟩ (fun D10 E11 hz9 => ?_)
      obtain ⟨hq1, hq2, hqE⟩ := hz9
      obtain rfl := hqE.symm
      refine r_vret2 dX6_mustSign_25 rfl ⟨Nat.zero_le _, Nat.zero_le _⟩ ?_
      first
        | (rw [sg_t h0 hc c6 c14]; exact ⟨hq1, hq2, rfl⟩)
        | (rw [sg_f h0 hc (fun q => c14 q.2)]; exact ⟨hq1, hq2, rfl⟩)
        | (rw [sg_f h0 hc (fun q => c6 q.1)]; exact ⟨hq1, hq2, rfl⟩)
set_option maxRecDepth 100000 in
set_option maxHeartbeats 4000000 in
theorem c_X6_mustSign_f (B : Nat) (D : DD) (E : EE) (t : TPt) (s : PSt) (hM : MP D t s) (h0 : ¬ s.2.1 = 0) (x : Int32) : MR yX6_mustSign cX6_mustSign 2 none rX6_mustSign B [.ref (B + 219), .int x] Z0 D E (Q2 Z0 (pV (fun D' E' => D' = D ∧ E' = E))) := by
  have m1 := (hM.2.2.2 h0).1
  have hp2 := hM.2.1.2.1
  refine r_enter [(0, .ref (B + 219)), (1, .int x)] hv_X6_mustSign.1.2.2.2.2 (Nat.le_of_ble_eq_true rfl) rfl ?_
  refine r_aload_n dX6_mustSign_0 rfl ?_
  refine r_aload_n dX6_mustSign_1 rfl ?_
  refine r_getI (ci := 6) (k := 14) wf_X6_109 dX6_mustSign_2 z_219 k_219 (by decide) (by decide) rfl (fun z1 hz1 => ?_)
  subst hz1
  refine r_iconst (nI 4) dX6_mustSign_5 (by decide) ?_
  refine r_icmp_ne (tgt := 21) dX6_mustSign_6 (by decide) (fun c6 => ?_) (fun c6 => ?_)
  · skip
    refine r_iconst (nI 0) dX6_mustSign_21 (by decide) ?_
    refine r_callVV (As := [.int (nI 0)]) (o := 219) (c_X6_must_f B D E t s hM h0 (nI 0)) hv_X6_must wm_X6_119 dX6_mustSign_22 rfl rfl z_219 k_219 (by decide) rfl (Nat.le_of_ble_eq_true rfl) ⟨Nat.le_of_ble_eq_true rfl, Nat.le_of_ble_eq_true rfl, Nat.zero_le _, Nat.zero_le _⟩ ⟨rfl, rfl⟩ (fun D3 E4 hz2 => ?_)
    obtain ⟨hqD, hqE⟩ := hz2
    obtain rfl := hqE.symm
    obtain rfl := hqD.symm
    refine r_vret2 dX6_mustSign_25 rfl ⟨Nat.zero_le _, Nat.zero_le _⟩ ?_
    exact ⟨rfl, rfl⟩
  · skip
    refine r_aload_n dX6_mustSign_9 rfl ?_
    refine r_getI (ci := 6) (k := 15) wf_X6_98 dX6_mustSign_10 z_219 k_219 (by decide) (by decide) rfl (fun z5 hz5 => ?_)
    subst hz5
    refine r_iload_n dX6_mustSign_13 rfl ?_
    refine r_icmp_ne (tgt := 21) dX6_mustSign_14 (by decide) (fun c14 => ?_) (fun c14 => ?_)
    · skip
      refine r_iconst (nI 0) dX6_mustSign_21 (by decide) ?_
      refine r_callVV (As := [.int (nI 0)]) (o := 219) (c_X6_must_f B D E t s hM h0 (nI 0)) hv_X6_must wm_X6_119 dX6_mustSign_22 rfl rfl z_219 k_219 (by decide) rfl (Nat.le_of_ble_eq_true rfl) ⟨Nat.le_of_ble_eq_true rfl, Nat.le_of_ble_eq_true rfl, Nat.zero_le _, Nat.zero_le _⟩ ⟨rfl, rfl⟩ (fun D7 E8 hz6 => ?_)
      obtain ⟨hqD, hqE⟩ := hz6
      obtain rfl := hqE.symm
      obtain rfl := hqD.symm
      refine r_vret2 dX6_mustSign_25 rfl ⟨Nat.zero_le _, Nat.zero_le _⟩ ?_
      exact ⟨rfl, rfl⟩
    · skip
      refine r_iconst (nI 1) dX6_mustSign_17 (by decide) ?_
      refine r_goto (tgt := 22) dX6_mustSign_18 (by decide) ?_
      refine r_callVV (As := [.int (nI 1)]) (o := 219) (c_X6_must_f B D E t s hM h0 (nI 1)) hv_X6_must wm_X6_119 dX6_mustSign_22 rfl rfl z_219 k_219 (by decide) rfl (Nat.le_of_ble_eq_true rfl) ⟨Nat.le_of_ble_eq_true rfl, Nat.le_of_ble_eq_true rfl, Nat.zero_le _, Nat.zero_le _⟩ ⟨rfl, rfl⟩ (fun D10 E11 hz9 => ?_)
      obtain ⟨hqD, hqE⟩ := hz9
      obtain rfl := hqE.symm
      obtain rfl := hqD.symm
      refine r_vret2 dX6_mustSign_25 rfl ⟨Nat.zero_le _, Nat.zero_le _⟩ ?_
      exact ⟨rfl, rfl⟩
set_option maxRecDepth 100000 in
set_option maxHeartbeats 4000000 in
theorem c_X6_isLetter_0 (B : Nat) (D : DD) (E : EE) (t : TPt) (s : PSt) (hM : MP D t s) (h0 : s.2.1 = 0) (c : Nat) (hc : 97 ≤ c ∧ c ≤ 122) : MR yX6_isLetter cX6_isLetter 2 (some .boolean) rX6_isLetter B [.ref (B + 219), .int (nI c)] Z0 D E (Q2 Z0 (pI (fun v D' E' => v = (bI (s_by t s.1 = c)) ∧ D' = D ∧ E' = E))) := by
  obtain ⟨m1, m2, m3, m4⟩ := MP_1 hM h0
  have ht : ∀ j, j < t.1 → t.2 j ≤ 255 := fun j hj => (hM.1.2.2 j hj).2
  have hvn := vn_999 (c := s.1) ht
  have htk := s_tk_le (t := t) (c := s.1)
  have hpk := hM.2.1
  obtain ⟨p1, p2, p3⟩ := id hpk
  refine r_enter [(0, .ref (B + 219)), (1, .int (nI c))] hv_X6_isLetter.1.2.2.2.2 (Nat.le_of_ble_eq_true rfl) rfl ?_
  refine r_aload_n dX6_isLetter_0 rfl ?_
  refine r_getI (ci := 6) (k := 16) wf_X6_85 dX6_isLetter_1 z_219 k_219 (by decide) (by decide) rfl (fun z1 hz1 => ?_)
  obtain rfl : z1 = nI 0 := hz1.trans m1
  refine r_if_ne (tgt := 27) dX6_isLetter_4 (by decide) (fun c4 => ?_) (fun c4 => ?_)
  · exact absurd rfl c4
  rw [nI_z (by omega)] at c4
  refine r_aload_n dX6_isLetter_7 rfl ?_
  refine r_getI (ci := 6) (k := 14) wf_X6_109 dX6_isLetter_8 z_219 k_219 (by decide) (by decide) rfl (fun z2 hz2 => ?_)
  obtain rfl : z2 = nI (s_tk t s.1) := hz2.trans m3
  refine r_iconst (nI 2) dX6_isLetter_11 (by decide) ?_
  refine r_icmp_ne (tgt := 27) dX6_isLetter_12 (by decide) (fun c12 => ?_) (fun c12 => ?_)
  · skip
    rw [nI_eq (by omega) (by omega)] at c12
    refine r_iconst (nI 0) dX6_isLetter_27 (by decide) ?_
    refine r_zret2 dX6_isLetter_28 rfl ⟨Nat.zero_le _, Nat.zero_le _⟩ rfl ?_
    refine ⟨?_, rfl, rfl⟩
    first
      | exact bI_t (lt_t c12 c20)
      | exact bI_f (fun q => c20 (lt_f hc q).2)
      | exact bI_f (fun q => c12 (lt_f hc q).1)
  · skip
    rw [nI_eq (by omega) (by omega)] at c12
    refine r_aload_n dX6_isLetter_15 rfl ?_
    refine r_getI (ci := 6) (k := 15) wf_X6_98 dX6_isLetter_16 z_219 k_219 (by decide) (by decide) rfl (fun z3 hz3 => ?_)
    obtain rfl : z3 = nI (s_vn t s.1) := hz3.trans (m4 (by omega))
    refine r_iload_n dX6_isLetter_19 rfl ?_
    refine r_icmp_ne (tgt := 27) dX6_isLetter_20 (by decide) (fun c20 => ?_) (fun c20 => ?_)
    · skip
      rw [nI_eq (by omega) (by omega)] at c20
      refine r_iconst (nI 0) dX6_isLetter_27 (by decide) ?_
      refine r_zret2 dX6_isLetter_28 rfl ⟨Nat.zero_le _, Nat.zero_le _⟩ rfl ?_
      refine ⟨?_, rfl, rfl⟩
      first
        | exact bI_t (lt_t c12 c20)
        | exact bI_f (fun q => c20 (lt_f hc q).2)
        | exact bI_f (fun q => c12 (lt_f hc q).1)
    · skip
      rw [nI_eq (by omega) (by omega)] at c20
      refine r_iconst (nI 1) dX6_isLetter_23 (by decide) ?_
      refine r_goto (tgt := 28) dX6_isLetter_24 (by decide) ?_
      refine r_zret2 dX6_isLetter_28 rfl ⟨Nat.zero_le _, Nat.zero_le _⟩ rfl ?_
      refine ⟨?_, rfl, rfl⟩
      first
        | exact bI_t (lt_t c12 c20)
        | exact bI_f (fun q => c20 (lt_f hc q).2)
        | exact bI_f (fun q => c12 (lt_f hc q).1)
set_option maxRecDepth 100000 in
set_option maxHeartbeats 4000000 in
theorem c_X6_isLetter_f (B : Nat) (D : DD) (E : EE) (t : TPt) (s : PSt) (hM : MP D t s) (h0 : ¬ s.2.1 = 0) (x : Int32) : MR yX6_isLetter cX6_isLetter 2 (some .boolean) rX6_isLetter B [.ref (B + 219), .int x] Z0 D E (Q2 Z0 (pI (fun v D' E' => v = (nI 0) ∧ D' = D ∧ E' = E))) := by
  have m1 := (hM.2.2.2 h0).1
  have hp2 := hM.2.1.2.1
  refine r_enter [(0, .ref (B + 219)), (1, .int x)] hv_X6_isLetter.1.2.2.2.2 (Nat.le_of_ble_eq_true rfl) rfl ?_
  refine r_aload_n dX6_isLetter_0 rfl ?_
  refine r_getI (ci := 6) (k := 16) wf_X6_85 dX6_isLetter_1 z_219 k_219 (by decide) (by decide) rfl (fun z1 hz1 => ?_)
  obtain rfl : z1 = nI s.2.1 := hz1.trans m1
  refine r_if_ne (tgt := 27) dX6_isLetter_4 (by decide) (fun c4 => ?_) (fun c4 => ?_)
  rotate_left
  · exact absurd ((nI_z (by omega)).mp c4) h0
  rw [nI_z (by omega)] at c4
  refine r_iconst (nI 0) dX6_isLetter_27 (by decide) ?_
  refine r_zret2 dX6_isLetter_28 rfl ⟨Nat.zero_le _, Nat.zero_le _⟩ rfl ?_
  exact ⟨rfl, rfl, rfl⟩
set_option maxRecDepth 100000 in
set_option maxHeartbeats 4000000 in
theorem c_X6_number_0 (B : Nat) (D : DD) (E : EE) (t : TPt) (s : PSt) (hM : MP D t s) (h0 : s.2.1 = 0) (l h : Nat) (hl : l ≤ 2000) (hh : h ≤ 2000) : MR yX6_number cX6_number 4 (some .int) rX6_number B [.ref (B + 219), .int (nI l), .int (nI h)] Z0 D E (Q2 Z0 (pI (fun v D' E' => v = (if (p_nm t l h s).2.1 = 0 then nI (p_vl t s) else nI l) ∧ MP D' t (p_nm t l h s) ∧ PFm D D' ∧ E' = E))) := by
  obtain ⟨m1, m2, m3, m4⟩ := MP_1 hM h0
  have ht : ∀ j, j < t.1 → t.2 j ≤ 255 := fun j hj => (hM.1.2.2 j hj).2
  have hvn := vn_999 (c := s.1) ht
  have htk := s_tk_le (t := t) (c := s.1)
  have hpk := hM.2.1
  obtain ⟨p1, p2, p3⟩ := id hpk
  refine r_enter [(0, .ref (B + 219)), (1, .int (nI l)), (2, .int (nI h))] hv_X6_number.1.2.2.2.2 (Nat.le_of_ble_eq_true rfl) rfl ?_
  refine r_aload_n dX6_number_0 rfl ?_
  refine r_getI (ci := 6) (k := 16) wf_X6_85 dX6_number_1 z_219 k_219 (by decide) (by decide) rfl (fun z1 hz1 => ?_)
  obtain rfl : z1 = nI 0 := hz1.trans m1
  refine r_if_ne (tgt := 20) dX6_number_4 (by decide) (fun c4 => ?_) (fun c4 => ?_)
  · exact absurd rfl c4
  rw [nI_z (by omega)] at c4
  refine r_aload_n dX6_number_7 rfl ?_
  refine r_getI (ci := 6) (k := 14) wf_X6_109 dX6_number_8 z_219 k_219 (by decide) (by decide) rfl (fun z2 hz2 => ?_)
  obtain rfl : z2 = nI (s_tk t s.1) := hz2.trans m3
  refine r_iconst (nI 3) dX6_number_11 (by decide) ?_
  refine r_icmp_eq (tgt := 20) dX6_number_12 (by decide) (fun c12 => ?_) (fun c12 => ?_)
  · skip
    rw [nI_eq (by omega) (by omega)] at c12
    refine r_aload_n dX6_number_20 rfl ?_
    refine r_getI (ci := 6) (k := 16) wf_X6_85 dX6_number_21 z_219 k_219 (by decide) (by decide) rfl (fun z3 hz3 => ?_)
    obtain rfl : z3 = nI 0 := hz3.trans m1
    refine r_if_ne (tgt := 47) dX6_number_24 (by decide) (fun c24 => ?_) (fun c24 => ?_)
    · exact absurd rfl c24
    rw [nI_z (by omega)] at c24
    refine r_aload_n dX6_number_27 rfl ?_
    refine r_getI (ci := 6) (k := 15) wf_X6_98 dX6_number_28 z_219 k_219 (by decide) (by decide) rfl (fun z4 hz4 => ?_)
    obtain rfl : z4 = nI (s_vn t s.1) := hz4.trans (m4 (by omega))
    refine r_i2l dX6_number_31 (fun z5 hz5 => ?_)
    subst hz5
    refine r_iload_n dX6_number_32 rfl ?_
    refine r_i2l dX6_number_33 (fun z6 hz6 => ?_)
    subst hz6
    refine r_iload_n dX6_number_34 rfl ?_
    refine r_i2l dX6_number_35 (fun z7 hz7 => ?_)
    subst hz7
    refine r_callSI (As := [.long ((nI (s_vn t s.1)).toInt64), .long ((nI l).toInt64), .long ((nI h).toInt64)]) (c_X6_in B D E (nI (s_vn t s.1)) (nI l) (nI h)) hs_X6_in wm_X6_64 rfl dX6_number_36 rfl rfl (Nat.le_of_ble_eq_true rfl) ⟨Nat.le_of_ble_eq_true rfl, Nat.le_of_ble_eq_true rfl, Nat.zero_le _, Nat.zero_le _⟩ ⟨rfl, rfl⟩ (fun z8 D9 E10 hz8 => ?_)
    obtain ⟨hqV, hqD, hqE⟩ := hz8
    obtain rfl : z8 = bI (nI l ≤ (nI (s_vn t s.1)) ∧ (nI (s_vn t s.1)) ≤ nI h) := hqV
    obtain rfl := hqD.symm
    obtain rfl := hqE.symm
    refine r_if_ne (tgt := 47) dX6_number_39 (by decide) (fun c39 => ?_) (fun c39 => ?_)
    · skip
      rw [bI_n0] at c39
      rw [nI_leI (by omega) (by omega), nI_leI (by omega) (by omega)] at c39
      refine r_aload_n dX6_number_47 rfl ?_
      refine r_getI (ci := 6) (k := 16) wf_X6_85 dX6_number_48 z_219 k_219 (by decide) (by decide) rfl (fun z11 hz11 => ?_)
      obtain rfl : z11 = nI 0 := hz11.trans m1
      refine r_if_ne (tgt := 61) dX6_number_51 (by decide) (fun c51 => ?_) (fun c51 => ?_)
      · exact absurd rfl c51
      rw [nI_z (by omega)] at c51
      refine r_aload_n dX6_number_54 rfl ?_
      refine r_getI (ci := 6) (k := 15) wf_X6_98 dX6_number_55 z_219 k_219 (by decide) (by decide) rfl (fun z12 hz12 => ?_)
      obtain rfl : z12 = nI (s_vn t s.1) := hz12.trans (m4 (by omega))
      refine r_goto (tgt := 62) dX6_number_58 (by decide) ?_
      refine r_istore_n [(3, .int (nI (s_vn t s.1))), (0, .ref (B + 219)), (1, .int (nI l)), (2, .int (nI h))] dX6_number_62 (by decide) rfl ?_
      refine r_aload_n dX6_number_63 rfl ?_
      refine r_iconst (nI 1) dX6_number_64 (by decide) ?_
      refine r_callVV (As := [.int (nI 1)]) (o := 219) (c_X6_must_1 B D E t s hM h0 (by omega)) hv_X6_must wm_X6_119 dX6_number_65 rfl rfl z_219 k_219 (by decide) rfl (Nat.le_of_ble_eq_true rfl) ⟨Nat.le_of_ble_eq_true rfl, Nat.le_of_ble_eq_true rfl, Nat.zero_le _, Nat.zero_le _⟩ ⟨rfl, rfl⟩ (fun D14 E15 hz13 => ?_)
      obtain ⟨hq1, hq2, hqE⟩ := hz13
      obtain rfl := hqE.symm
      refine r_iload_n dX6_number_68 rfl ?_
      refine r_iret2 dX6_number_69 rfl ⟨Nat.zero_le _, Nat.zero_le _⟩ ?_
      first
        | (obtain ⟨x1, x2⟩ := nm_3 (l := l) (h := h) h0 c12 c39; rw [x1, x2]; exact ⟨rfl, hq1, hq2, rfl⟩)
        | (rw [nm_2 (l := l) (h := h) h0 c12 c39]; exact ⟨rfl, hb1, hb2, rfl⟩)
        | (rw [nm_1 (l := l) (h := h) h0 c12]; exact ⟨rfl, hb1, hb2, rfl⟩)
    · skip
      rw [bI_0] at c39
      rw [nI_leI (by omega) (by omega), nI_leI (by omega) (by omega)] at c39
      refine r_aload_n dX6_number_42 rfl ?_
      refine r_iconst (nI 2) dX6_number_43 (by decide) ?_
      refine r_callVV (As := [.int (nI 2)]) (o := 219) (c_X6_bad_0 B D E t s hM h0 2 (by decide)) hv_X6_bad wm_X6_112 dX6_number_44 rfl rfl z_219 k_219 (by decide) rfl (Nat.le_of_ble_eq_true rfl) ⟨Nat.le_of_ble_eq_true rfl, Nat.le_of_ble_eq_true rfl, Nat.zero_le _, Nat.zero_le _⟩ ⟨rfl, rfl⟩ (fun D17 E18 hz16 => ?_)
      obtain ⟨hb1, hb2, hqE⟩ := hz16
      obtain rfl := hqE.symm
      refine r_aload_n dX6_number_47 rfl ?_
      refine r_getI (ci := 6) (k := 16) wf_X6_85 dX6_number_48 z_219 k_219 (by decide) (by decide) rfl (fun z19 hz19 => ?_)
      obtain rfl : z19 = nI 2 := hz19.trans (MP_f hb1)
      refine r_if_ne (tgt := 61) dX6_number_51 (by decide) (fun c51 => ?_) (fun c51 => ?_)
      rotate_left
      · exact absurd c51 (by decide)
      rw [nI_z (by omega)] at c51
      refine r_iload_n dX6_number_61 rfl ?_
      refine r_istore_n [(3, .int (nI l)), (0, .ref (B + 219)), (1, .int (nI l)), (2, .int (nI h))] dX6_number_62 (by decide) rfl ?_
      refine r_aload_n dX6_number_63 rfl ?_
      refine r_iconst (nI 1) dX6_number_64 (by decide) ?_
      refine r_callVV (As := [.int (nI 1)]) (o := 219) (c_X6_must_f B D17 E t _ hb1 (fun q => absurd (show (2 : Nat) = 0 from q) (by decide)) (nI 1)) hv_X6_must wm_X6_119 dX6_number_65 rfl rfl z_219 k_219 (by decide) rfl (Nat.le_of_ble_eq_true rfl) ⟨Nat.le_of_ble_eq_true rfl, Nat.le_of_ble_eq_true rfl, Nat.zero_le _, Nat.zero_le _⟩ ⟨rfl, rfl⟩ (fun D21 E22 hz20 => ?_)
      obtain ⟨hqD, hqE⟩ := hz20
      obtain rfl := hqE.symm
      obtain rfl := hqD.symm
      refine r_iload_n dX6_number_68 rfl ?_
      refine r_iret2 dX6_number_69 rfl ⟨Nat.zero_le _, Nat.zero_le _⟩ ?_
      first
        | (obtain ⟨x1, x2⟩ := nm_3 (l := l) (h := h) h0 c12 c39; rw [x1, x2]; exact ⟨rfl, hq1, hq2, rfl⟩)
        | (rw [nm_2 (l := l) (h := h) h0 c12 c39]; exact ⟨rfl, hb1, hb2, rfl⟩)
        | (rw [nm_1 (l := l) (h := h) h0 c12]; exact ⟨rfl, hb1, hb2, rfl⟩)
  · skip
    rw [nI_eq (by omega) (by omega)] at c12
    refine r_aload_n dX6_number_15 rfl ?_
    refine r_iconst (nI 1) dX6_number_16 (by decide) ?_
    refine r_callVV (As := [.int (nI 1)]) (o := 219) (c_X6_bad_0 B D E t s hM h0 1 (by decide)) hv_X6_bad wm_X6_112 dX6_number_17 rfl rfl z_219 k_219 (by decide) rfl (Nat.le_of_ble_eq_true rfl) ⟨Nat.le_of_ble_eq_true rfl, Nat.le_of_ble_eq_true rfl, Nat.zero_le _, Nat.zero_le _⟩ ⟨rfl, rfl⟩ (fun D24 E25 hz23 => ?_)
    obtain ⟨hb1, hb2, hqE⟩ := hz23
    obtain rfl := hqE.symm
    refine r_aload_n dX6_number_20 rfl ?_
    refine r_getI (ci := 6) (k := 16) wf_X6_85 dX6_number_21 z_219 k_219 (by decide) (by decide) rfl (fun z26 hz26 => ?_)
    obtain rfl : z26 = nI 1 := hz26.trans (MP_f hb1)
    refine r_if_ne (tgt := 47) dX6_number_24 (by decide) (fun c24 => ?_) (fun c24 => ?_)
    rotate_left
    · exact absurd c24 (by decide)
    rw [nI_z (by omega)] at c24
    refine r_aload_n dX6_number_47 rfl ?_
    refine r_getI (ci := 6) (k := 16) wf_X6_85 dX6_number_48 z_219 k_219 (by decide) (by decide) rfl (fun z27 hz27 => ?_)
    obtain rfl : z27 = nI 1 := hz27.trans (MP_f hb1)
    refine r_if_ne (tgt := 61) dX6_number_51 (by decide) (fun c51 => ?_) (fun c51 => ?_)
    rotate_left
    · exact absurd c51 (by decide)
    rw [nI_z (by omega)] at c51
    refine r_iload_n dX6_number_61 rfl ?_
    refine r_istore_n [(3, .int (nI l)), (0, .ref (B + 219)), (1, .int (nI l)), (2, .int (nI h))] dX6_number_62 (by decide) rfl ?_
    refine r_aload_n dX6_number_63 rfl ?_
    refine r_iconst (nI 1) dX6_number_64 (by decide) ?_
    refine r_callVV (As := [.int (nI 1)]) (o := 219) (c_X6_must_f B D24 E t _ hb1 (fun q => absurd (show (1 : Nat) = 0 from q) (by decide)) (nI 1)) hv_X6_must wm_X6_119 dX6_number_65 rfl rfl z_219 k_219 (by decide) rfl (Nat.le_of_ble_eq_true rfl) ⟨Nat.le_of_ble_eq_true rfl, Nat.le_of_ble_eq_true rfl, Nat.zero_le _, Nat.zero_le _⟩ ⟨rfl, rfl⟩ (fun D29 E30 hz28 => ?_)
    obtain ⟨hqD, hqE⟩ := hz28
    obtain rfl := hqE.symm
    obtain rfl := hqD.symm
    refine r_iload_n dX6_number_68 rfl ?_
    refine r_iret2 dX6_number_69 rfl ⟨Nat.zero_le _, Nat.zero_le _⟩ ?_
    first
      | (obtain ⟨x1, x2⟩ := nm_3 (l := l) (h := h) h0 c12 c39; rw [x1, x2]; exact ⟨rfl, hq1, hq2, rfl⟩)
      | (rw [nm_2 (l := l) (h := h) h0 c12 c39]; exact ⟨rfl, hb1, hb2, rfl⟩)
      | (rw [nm_1 (l := l) (h := h) h0 c12]; exact ⟨rfl, hb1, hb2, rfl⟩)
set_option maxRecDepth 100000 in
set_option maxHeartbeats 4000000 in
theorem c_X6_number_f (B : Nat) (D : DD) (E : EE) (t : TPt) (s : PSt) (hM : MP D t s) (h0 : ¬ s.2.1 = 0) (lo hi : Int32) : MR yX6_number cX6_number 4 (some .int) rX6_number B [.ref (B + 219), .int lo, .int hi] Z0 D E (Q2 Z0 (pI (fun v D' E' => v = (lo) ∧ D' = D ∧ E' = E))) := by
  have m1 := (hM.2.2.2 h0).1
  have hp2 := hM.2.1.2.1
  refine r_enter [(0, .ref (B + 219)), (1, .int lo), (2, .int hi)] hv_X6_number.1.2.2.2.2 (Nat.le_of_ble_eq_true rfl) rfl ?_
  refine r_aload_n dX6_number_0 rfl ?_
  refine r_getI (ci := 6) (k := 16) wf_X6_85 dX6_number_1 z_219 k_219 (by decide) (by decide) rfl (fun z1 hz1 => ?_)
  obtain rfl : z1 = nI s.2.1 := hz1.trans m1
  refine r_if_ne (tgt := 20) dX6_number_4 (by decide) (fun c4 => ?_) (fun c4 => ?_)
  rotate_left
  · exact absurd ((nI_z (by omega)).mp c4) h0
  rw [nI_z (by omega)] at c4
  refine r_aload_n dX6_number_20 rfl ?_
  refine r_getI (ci := 6) (k := 16) wf_X6_85 dX6_number_21 z_219 k_219 (by decide) (by decide) rfl (fun z2 hz2 => ?_)
  obtain rfl : z2 = nI s.2.1 := hz2.trans m1
  refine r_if_ne (tgt := 47) dX6_number_24 (by decide) (fun c24 => ?_) (fun c24 => ?_)
  rotate_left
  · exact absurd ((nI_z (by omega)).mp c24) h0
  rw [nI_z (by omega)] at c24
  refine r_aload_n dX6_number_47 rfl ?_
  refine r_getI (ci := 6) (k := 16) wf_X6_85 dX6_number_48 z_219 k_219 (by decide) (by decide) rfl (fun z3 hz3 => ?_)
  obtain rfl : z3 = nI s.2.1 := hz3.trans m1
  refine r_if_ne (tgt := 61) dX6_number_51 (by decide) (fun c51 => ?_) (fun c51 => ?_)
  rotate_left
  · exact absurd ((nI_z (by omega)).mp c51) h0
  rw [nI_z (by omega)] at c51
  refine r_iload_n dX6_number_61 rfl ?_
  refine r_istore_n [(3, .int lo), (0, .ref (B + 219)), (1, .int lo), (2, .int hi)] dX6_number_62 (by decide) rfl ?_
  refine r_aload_n dX6_number_63 rfl ?_
  refine r_iconst (nI 1) dX6_number_64 (by decide) ?_
  refine r_callVV (As := [.int (nI 1)]) (o := 219) (c_X6_must_f B D E t s hM h0 (nI 1)) hv_X6_must wm_X6_119 dX6_number_65 rfl rfl z_219 k_219 (by decide) rfl (Nat.le_of_ble_eq_true rfl) ⟨Nat.le_of_ble_eq_true rfl, Nat.le_of_ble_eq_true rfl, Nat.zero_le _, Nat.zero_le _⟩ ⟨rfl, rfl⟩ (fun D5 E6 hz4 => ?_)
  obtain ⟨hqD, hqE⟩ := hz4
  obtain rfl := hqE.symm
  obtain rfl := hqD.symm
  refine r_iload_n dX6_number_68 rfl ?_
  refine r_iret2 dX6_number_69 rfl ⟨Nat.zero_le _, Nat.zero_le _⟩ ?_
  exact ⟨rfl, rfl, rfl⟩
set_option maxRecDepth 100000 in
set_option maxHeartbeats 4000000 in
theorem c_X6_kindBy (B : Nat) (D : DD) (E : EE) (c : Nat) (hc : c < 2 ^ 31) : MR yX6_kindBy cX6_kindBy 1 (some .int) rX6_kindBy B [.int (nI c)] Z0 D E (Q2 Z0 (pI (fun v D' E' => v = (if s_kb c = 0 then (-1000000) else nI (s_kb c)) ∧ D' = D ∧ E' = E))) := by
  refine r_enter [(0, .int (nI c))] hs_X6_kindBy.1.2.2.2.2 (Nat.le_of_ble_eq_true rfl) rfl ?_
  refine r_iload_n dX6_kindBy_0 rfl ?_
  refine r_bipush (nI 97) dX6_kindBy_1 (by decide) ?_
  refine r_icmp_ne (tgt := 10) dX6_kindBy_3 (by decide) (fun c3 => ?_) (fun c3 => ?_)
  · skip
    rw [nI_eq (by omega) (by omega)] at c3
    refine r_iload_n dX6_kindBy_10 rfl ?_
    refine r_bipush (nI 119) dX6_kindBy_11 (by decide) ?_
    refine r_icmp_ne (tgt := 20) dX6_kindBy_13 (by decide) (fun c13 => ?_) (fun c13 => ?_)
    · skip
      rw [nI_eq (by omega) (by omega)] at c13
      refine r_iload_n dX6_kindBy_20 rfl ?_
      refine r_bipush (nI 116) dX6_kindBy_21 (by decide) ?_
      refine r_icmp_ne (tgt := 30) dX6_kindBy_23 (by decide) (fun c23 => ?_) (fun c23 => ?_)
      · skip
        rw [nI_eq (by omega) (by omega)] at c23
        refine r_iload_n dX6_kindBy_30 rfl ?_
        refine r_bipush (nI 107) dX6_kindBy_31 (by decide) ?_
        refine r_icmp_ne (tgt := 40) dX6_kindBy_33 (by decide) (fun c33 => ?_) (fun c33 => ?_)
        · skip
          rw [nI_eq (by omega) (by omega)] at c33
          refine r_iload_n dX6_kindBy_40 rfl ?_
          refine r_bipush (nI 98) dX6_kindBy_41 (by decide) ?_
          refine r_icmp_ne (tgt := 50) dX6_kindBy_43 (by decide) (fun c43 => ?_) (fun c43 => ?_)
          · skip
            rw [nI_eq (by omega) (by omega)] at c43
            refine r_ldc wc_X6_97 dX6_kindBy_50 ?_
            refine r_iret2 dX6_kindBy_52 rfl ⟨Nat.zero_le _, Nat.zero_le _⟩ ?_
            refine ⟨?_, rfl, rfl⟩
            unfold s_kb
            first
              | (rw [if_pos c3]; rfl)
              | (rw [if_neg c3, if_pos c13]; rfl)
              | (rw [if_neg c3, if_neg c13, if_pos c23]; rfl)
              | (rw [if_neg c3, if_neg c13, if_neg c23, if_pos c33]; rfl)
              | (rw [if_neg c3, if_neg c13, if_neg c23, if_neg c33, if_pos c43]; rfl)
              | (rw [if_neg c3, if_neg c13, if_neg c23, if_neg c33, if_neg c43]; rfl)
          · skip
            rw [nI_eq (by omega) (by omega)] at c43
            refine r_iconst (nI 5) dX6_kindBy_46 (by decide) ?_
            refine r_goto (tgt := 52) dX6_kindBy_47 (by decide) ?_
            refine r_iret2 dX6_kindBy_52 rfl ⟨Nat.zero_le _, Nat.zero_le _⟩ ?_
            refine ⟨?_, rfl, rfl⟩
            unfold s_kb
            first
              | (rw [if_pos c3]; rfl)
              | (rw [if_neg c3, if_pos c13]; rfl)
              | (rw [if_neg c3, if_neg c13, if_pos c23]; rfl)
              | (rw [if_neg c3, if_neg c13, if_neg c23, if_pos c33]; rfl)
              | (rw [if_neg c3, if_neg c13, if_neg c23, if_neg c33, if_pos c43]; rfl)
              | (rw [if_neg c3, if_neg c13, if_neg c23, if_neg c33, if_neg c43]; rfl)
        · skip
          rw [nI_eq (by omega) (by omega)] at c33
          refine r_iconst (nI 4) dX6_kindBy_36 (by decide) ?_
          refine r_goto (tgt := 52) dX6_kindBy_37 (by decide) ?_
          refine r_iret2 dX6_kindBy_52 rfl ⟨Nat.zero_le _, Nat.zero_le _⟩ ?_
          refine ⟨?_, rfl, rfl⟩
          unfold s_kb
          first
            | (rw [if_pos c3]; rfl)
            | (rw [if_neg c3, if_pos c13]; rfl)
            | (rw [if_neg c3, if_neg c13, if_pos c23]; rfl)
            | (rw [if_neg c3, if_neg c13, if_neg c23, if_pos c33]; rfl)
            | (rw [if_neg c3, if_neg c13, if_neg c23, if_neg c33, if_pos c43]; rfl)
            | (rw [if_neg c3, if_neg c13, if_neg c23, if_neg c33, if_neg c43]; rfl)
      · skip
        rw [nI_eq (by omega) (by omega)] at c23
        refine r_iconst (nI 3) dX6_kindBy_26 (by decide) ?_
        refine r_goto (tgt := 52) dX6_kindBy_27 (by decide) ?_
        refine r_iret2 dX6_kindBy_52 rfl ⟨Nat.zero_le _, Nat.zero_le _⟩ ?_
        refine ⟨?_, rfl, rfl⟩
        unfold s_kb
        first
          | (rw [if_pos c3]; rfl)
          | (rw [if_neg c3, if_pos c13]; rfl)
          | (rw [if_neg c3, if_neg c13, if_pos c23]; rfl)
          | (rw [if_neg c3, if_neg c13, if_neg c23, if_pos c33]; rfl)
          | (rw [if_neg c3, if_neg c13, if_neg c23, if_neg c33, if_pos c43]; rfl)
          | (rw [if_neg c3, if_neg c13, if_neg c23, if_neg c33, if_neg c43]; rfl)
    · skip
      rw [nI_eq (by omega) (by omega)] at c13
      refine r_iconst (nI 2) dX6_kindBy_16 (by decide) ?_
      refine r_goto (tgt := 52) dX6_kindBy_17 (by decide) ?_
      refine r_iret2 dX6_kindBy_52 rfl ⟨Nat.zero_le _, Nat.zero_le _⟩ ?_
      refine ⟨?_, rfl, rfl⟩
      unfold s_kb
      first
        | (rw [if_pos c3]; rfl)
        | (rw [if_neg c3, if_pos c13]; rfl)
        | (rw [if_neg c3, if_neg c13, if_pos c23]; rfl)
        | (rw [if_neg c3, if_neg c13, if_neg c23, if_pos c33]; rfl)
        | (rw [if_neg c3, if_neg c13, if_neg c23, if_neg c33, if_pos c43]; rfl)
        | (rw [if_neg c3, if_neg c13, if_neg c23, if_neg c33, if_neg c43]; rfl)
  · skip
    rw [nI_eq (by omega) (by omega)] at c3
    refine r_iconst (nI 1) dX6_kindBy_6 (by decide) ?_
    refine r_goto (tgt := 52) dX6_kindBy_7 (by decide) ?_
    refine r_iret2 dX6_kindBy_52 rfl ⟨Nat.zero_le _, Nat.zero_le _⟩ ?_
    refine ⟨?_, rfl, rfl⟩
    unfold s_kb
    first
      | (rw [if_pos c3]; rfl)
      | (rw [if_neg c3, if_pos c13]; rfl)
      | (rw [if_neg c3, if_neg c13, if_pos c23]; rfl)
      | (rw [if_neg c3, if_neg c13, if_neg c23, if_pos c33]; rfl)
      | (rw [if_neg c3, if_neg c13, if_neg c23, if_neg c33, if_pos c43]; rfl)
      | (rw [if_neg c3, if_neg c13, if_neg c23, if_neg c33, if_neg c43]; rfl)
