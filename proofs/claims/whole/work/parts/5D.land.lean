theorem c_X6_must_c (B : Nat) (D : DD) (E : EE) (t : TPt) (s : PSt) (hM : MP D t s) (h0 : s.2.1 = 0) (c : Nat) (hc : 97 ≤ c ∧ c ≤ 122) : MR yX6_must cX6_must 2 none rX6_must B [.ref (B + 219), .int (bI (s_by t s.1 = c))] Z0 D E (Q2 Z0 (pV (fun D' E' => MP D' t (p_ex t c s) ∧ PFm D D' ∧ E' = E))) := by
  by_cases h : s_by t s.1 = c
  · rw [ex_lt h0 hc h, ← bI_t h]
    exact c_X6_must_1 B D E t s hM h0 (by have := lt_f hc h; omega)
  · rw [show p_ex t c s = (s.1, 1, s.1) from (if_pos h0).trans (if_neg h), ← bI_f h]
    exact c_X6_must_0 B D E t s hM h0
theorem c_X6_isLetter (B : Nat) (D : DD) (E : EE) (t : TPt) (s : PSt) (hM : MP D t s) (c : Nat) (hc : 97 ≤ c ∧ c ≤ 122) : MR yX6_isLetter cX6_isLetter 2 (some .boolean) rX6_isLetter B [.ref (B + 219), .int (nI c)] Z0 D E (Q2 Z0 (pI (fun v D' E' => v = (bI (s.2.1 = 0 ∧ s_by t s.1 = c)) ∧ D' = D ∧ E' = E))) := by
  by_cases h0 : s.2.1 = 0
  · rw [show bI (s.2.1 = 0 ∧ s_by t s.1 = c) = bI (s_by t s.1 = c) from bI_c ⟨fun q => q.2, fun q => ⟨h0, q⟩⟩]
    exact c_X6_isLetter_0 B D E t s hM h0 c hc
  · rw [← bI_f (P := s.2.1 = 0 ∧ s_by t s.1 = c) (fun q => h0 q.1)]
    exact c_X6_isLetter_f B D E t s hM h0 (nI c)
set_option maxRecDepth 100000 in
set_option maxHeartbeats 4000000 in
theorem c_X6_failed (B : Nat) (D : DD) (E : EE) (t : TPt) (s : PSt) (hM : MP D t s) : MR yX6_failed cX6_failed 1 (some .boolean) rX6_failed B [.ref (B + 219)] Z0 D E (Q2 Z0 (pI (fun v D' E' => v = bI (¬ (p_fin t s).2.1 = 0) ∧ (D' 219 18 = (if (p_fin t s).2.1 = 0 then D 219 18 else nI (p_fin t s).2.1) ∧ (¬ (p_fin t s).2.1 = 0 → D' 219 17 = nI (p_fin t s).2.2) ∧ D' 219 11 = nI 0 ∧ (∀ q, q ≠ 219 → D' q = D q) ∧ ∀ f, (f < 11 ∨ 18 < f) → D' 219 f = D 219 f) ∧ E' = E))) := by
  have hp3 := hM.2.1.2.1
  have htk := s_tk_le (t := t) (c := s.1)
  refine r_enter [(0, .ref (B + 219))] hv_X6_failed.1.2.2.2.2 (Nat.le_of_ble_eq_true rfl) rfl ?_
  refine r_aload_n dX6_failed_0 rfl ?_
  refine r_getI (ci := 6) (k := 16) wf_X6_85 dX6_failed_1 z_219 k_219 (by decide) (by decide) rfl (fun z1 hz1 => ?_)
  obtain rfl : z1 = nI s.2.1 := hz1.trans (MP_f hM)
  refine r_if_ne (tgt := 20) dX6_failed_4 (by decide) (fun c4 => ?_) (fun c4 => ?_)
  · skip
    rw [nI_z (by omega)] at c4
    have hMX : MP D t (p_fin t s) := by
      first
        | (rw [show p_fin t s = s from if_neg (fun q => c4 q.1)]; exact hM)
        | (rw [show p_fin t s = s from if_neg (fun q => q.2 c12)]; exact hM)
        | (rw [show p_fin t s = (s.1, 1, s.1) from if_pos ⟨c4, c12⟩]; exact hb1)
    have hPX : PFm D D := by first | exact hb2 | exact PFm.rf
    obtain ⟨S, hS⟩ : ∃ S, S = p_fin t s := ⟨_, rfl⟩
    rw [← hS] at hMX
    have hS3 := hMX.2.1.2.1
    refine r_aload_n dX6_failed_20 rfl ?_
    refine r_iconst (nI 0) dX6_failed_21 (by decide) ?_
    refine r_putI (ci := 6) (k := 11) wf_X6_81 dX6_failed_22 z_219 k_219 (by decide) (by decide) rfl rfl (fun D2 hD2 => ?_)
    have hk11 := hD2
    refine r_aload_n dX6_failed_25 rfl ?_
    refine r_aload_n dX6_failed_26 rfl ?_
    refine r_getI (ci := 6) (k := 16) wf_X6_85 dX6_failed_27 z_219 k_219 (by decide) (by decide) rfl (fun z3 hz3 => ?_)
    obtain rfl : z3 = nI S.2.1 := hz3.trans (by rw [hk11]; exact (up2_n (by decide)).trans (MP_f hMX))
    refine r_if_le (tgt := 40) dX6_failed_30 (by decide) (fun c30 => ?_) (fun c30 => ?_)
    · skip
      rw [nI_zle (by omega)] at c30
      refine r_aload_n dX6_failed_40 rfl ?_
      refine r_getI (ci := 6) (k := 18) wf_X6_123 dX6_failed_41 z_219 k_219 (by decide) (by decide) rfl (fun z4 hz4 => ?_)
      obtain rfl : z4 = D 219 18 := hz4.trans (by rw [hk11]; exact (up2_n (by decide)).trans (hPX.2 18 (by decide)))
      refine r_putI (ci := 6) (k := 18) wf_X6_123 dX6_failed_44 z_219 k_219 (by decide) (by decide) rfl rfl (fun D5 hD5 => ?_)
      have hk18 := hD5
      refine r_aload_n dX6_failed_47 rfl ?_
      refine r_getI (ci := 6) (k := 16) wf_X6_85 dX6_failed_48 z_219 k_219 (by decide) (by decide) rfl (fun z6 hz6 => ?_)
      obtain rfl : z6 = nI S.2.1 := hz6.trans (by rw [hk18, hk11]; exact (up2_n (by decide)).trans ((up2_n (by decide)).trans (MP_f hMX)))
      refine r_if_le (tgt := 58) dX6_failed_51 (by decide) (fun c51 => ?_) (fun c51 => ?_)
      rotate_left
      · exact absurd ((nI_zle (by omega)).mpr c30) c51
      rw [nI_zle (by omega)] at c51
      refine r_iconst (nI 0) dX6_failed_58 (by decide) ?_
      refine r_zret2 dX6_failed_59 rfl ⟨Nat.zero_le _, Nat.zero_le _⟩ rfl ?_
      rw [← hS]
      refine ⟨?_, ⟨?_, fun q => ?_, ?_, fun q hq => ?_, fun f hf => ?_⟩, rfl⟩
      · first
          | exact bI_t (by omega)
          | exact bI_f (by omega)
      · rw [hk18]
        first
          | (rw [if_pos (by omega)]; exact up2_s)
          | (rw [if_neg (by omega)]; exact up2_s)
      · rw [hk18, hk11]
        exact (up2_n (by decide)).trans ((up2_n (by decide)).trans (hMX.2.2.2 q).2)
      · rw [hk18, hk11]
        exact (up2_n (by decide)).trans up2_s
      · rw [hk18, hk11]
        exact (up2_o hq).trans ((up2_o hq).trans (hPX.1 q hq))
      · rw [hk18, hk11]
        exact (up2_n (by omega)).trans ((up2_n (by omega)).trans (hPX.2 f (by omega)))
    · skip
      rw [nI_zle (by omega)] at c30
      refine r_aload_n dX6_failed_33 rfl ?_
      refine r_getI (ci := 6) (k := 16) wf_X6_85 dX6_failed_34 z_219 k_219 (by decide) (by decide) rfl (fun z7 hz7 => ?_)
      obtain rfl : z7 = nI S.2.1 := hz7.trans (by rw [hk11]; exact (up2_n (by decide)).trans (MP_f hMX))
      refine r_goto (tgt := 44) dX6_failed_37 (by decide) ?_
      refine r_putI (ci := 6) (k := 18) wf_X6_123 dX6_failed_44 z_219 k_219 (by decide) (by decide) rfl rfl (fun D8 hD8 => ?_)
      have hk18 := hD8
      refine r_aload_n dX6_failed_47 rfl ?_
      refine r_getI (ci := 6) (k := 16) wf_X6_85 dX6_failed_48 z_219 k_219 (by decide) (by decide) rfl (fun z9 hz9 => ?_)
      obtain rfl : z9 = nI S.2.1 := hz9.trans (by rw [hk18, hk11]; exact (up2_n (by decide)).trans ((up2_n (by decide)).trans (MP_f hMX)))
      refine r_if_le (tgt := 58) dX6_failed_51 (by decide) (fun c51 => ?_) (fun c51 => ?_)
      · exact absurd ((nI_zle (by omega)).mp c51) c30
      rw [nI_zle (by omega)] at c51
      refine r_iconst (nI 1) dX6_failed_54 (by decide) ?_
      refine r_goto (tgt := 59) dX6_failed_55 (by decide) ?_
      refine r_zret2 dX6_failed_59 rfl ⟨Nat.zero_le _, Nat.zero_le _⟩ rfl ?_
      rw [← hS]
      refine ⟨?_, ⟨?_, fun q => ?_, ?_, fun q hq => ?_, fun f hf => ?_⟩, rfl⟩
      · first
          | exact bI_t (by omega)
          | exact bI_f (by omega)
      · rw [hk18]
        first
          | (rw [if_pos (by omega)]; exact up2_s)
          | (rw [if_neg (by omega)]; exact up2_s)
      · rw [hk18, hk11]
        exact (up2_n (by decide)).trans ((up2_n (by decide)).trans (hMX.2.2.2 q).2)
      · rw [hk18, hk11]
        exact (up2_n (by decide)).trans up2_s
      · rw [hk18, hk11]
        exact (up2_o hq).trans ((up2_o hq).trans (hPX.1 q hq))
      · rw [hk18, hk11]
        exact (up2_n (by omega)).trans ((up2_n (by omega)).trans (hPX.2 f (by omega)))
  · skip
    rw [nI_z (by omega)] at c4
    refine r_aload_n dX6_failed_7 rfl ?_
    refine r_getI (ci := 6) (k := 14) wf_X6_109 dX6_failed_8 z_219 k_219 (by decide) (by decide) rfl (fun z10 hz10 => ?_)
    obtain rfl : z10 = nI (s_tk t s.1) := hz10.trans (MP_1 hM c4).2.2.1
    refine r_iconst (nI 1) dX6_failed_11 (by decide) ?_
    refine r_icmp_eq (tgt := 20) dX6_failed_12 (by decide) (fun c12 => ?_) (fun c12 => ?_)
    · skip
      rw [nI_eq (by omega) (by omega)] at c12
      have hMX : MP D t (p_fin t s) := by
        first
          | (rw [show p_fin t s = s from if_neg (fun q => c4 q.1)]; exact hM)
          | (rw [show p_fin t s = s from if_neg (fun q => q.2 c12)]; exact hM)
          | (rw [show p_fin t s = (s.1, 1, s.1) from if_pos ⟨c4, c12⟩]; exact hb1)
      have hPX : PFm D D := by first | exact hb2 | exact PFm.rf
      obtain ⟨S, hS⟩ : ∃ S, S = p_fin t s := ⟨_, rfl⟩
      rw [← hS] at hMX
      have hS3 := hMX.2.1.2.1
      refine r_aload_n dX6_failed_20 rfl ?_
      refine r_iconst (nI 0) dX6_failed_21 (by decide) ?_
      refine r_putI (ci := 6) (k := 11) wf_X6_81 dX6_failed_22 z_219 k_219 (by decide) (by decide) rfl rfl (fun D11 hD11 => ?_)
      have hk11 := hD11
      refine r_aload_n dX6_failed_25 rfl ?_
      refine r_aload_n dX6_failed_26 rfl ?_
      refine r_getI (ci := 6) (k := 16) wf_X6_85 dX6_failed_27 z_219 k_219 (by decide) (by decide) rfl (fun z12 hz12 => ?_)
      obtain rfl : z12 = nI S.2.1 := hz12.trans (by rw [hk11]; exact (up2_n (by decide)).trans (MP_f hMX))
      refine r_if_le (tgt := 40) dX6_failed_30 (by decide) (fun c30 => ?_) (fun c30 => ?_)
      · skip
        rw [nI_zle (by omega)] at c30
        refine r_aload_n dX6_failed_40 rfl ?_
        refine r_getI (ci := 6) (k := 18) wf_X6_123 dX6_failed_41 z_219 k_219 (by decide) (by decide) rfl (fun z13 hz13 => ?_)
        obtain rfl : z13 = D 219 18 := hz13.trans (by rw [hk11]; exact (up2_n (by decide)).trans (hPX.2 18 (by decide)))
        refine r_putI (ci := 6) (k := 18) wf_X6_123 dX6_failed_44 z_219 k_219 (by decide) (by decide) rfl rfl (fun D14 hD14 => ?_)
        have hk18 := hD14
        refine r_aload_n dX6_failed_47 rfl ?_
        refine r_getI (ci := 6) (k := 16) wf_X6_85 dX6_failed_48 z_219 k_219 (by decide) (by decide) rfl (fun z15 hz15 => ?_)
        obtain rfl : z15 = nI S.2.1 := hz15.trans (by rw [hk18, hk11]; exact (up2_n (by decide)).trans ((up2_n (by decide)).trans (MP_f hMX)))
        refine r_if_le (tgt := 58) dX6_failed_51 (by decide) (fun c51 => ?_) (fun c51 => ?_)
        rotate_left
        · exact absurd ((nI_zle (by omega)).mpr c30) c51
        rw [nI_zle (by omega)] at c51
        refine r_iconst (nI 0) dX6_failed_58 (by decide) ?_
        refine r_zret2 dX6_failed_59 rfl ⟨Nat.zero_le _, Nat.zero_le _⟩ rfl ?_
        rw [← hS]
        refine ⟨?_, ⟨?_, fun q => ?_, ?_, fun q hq => ?_, fun f hf => ?_⟩, rfl⟩
        · first
            | exact bI_t (by omega)
            | exact bI_f (by omega)
        · rw [hk18]
          first
            | (rw [if_pos (by omega)]; exact up2_s)
            | (rw [if_neg (by omega)]; exact up2_s)
        · rw [hk18, hk11]
          exact (up2_n (by decide)).trans ((up2_n (by decide)).trans (hMX.2.2.2 q).2)
        · rw [hk18, hk11]
          exact (up2_n (by decide)).trans up2_s
        · rw [hk18, hk11]
          exact (up2_o hq).trans ((up2_o hq).trans (hPX.1 q hq))
        · rw [hk18, hk11]
          exact (up2_n (by omega)).trans ((up2_n (by omega)).trans (hPX.2 f (by omega)))
      · skip
        rw [nI_zle (by omega)] at c30
        refine r_aload_n dX6_failed_33 rfl ?_
        refine r_getI (ci := 6) (k := 16) wf_X6_85 dX6_failed_34 z_219 k_219 (by decide) (by decide) rfl (fun z16 hz16 => ?_)
        obtain rfl : z16 = nI S.2.1 := hz16.trans (by rw [hk11]; exact (up2_n (by decide)).trans (MP_f hMX))
        refine r_goto (tgt := 44) dX6_failed_37 (by decide) ?_
        refine r_putI (ci := 6) (k := 18) wf_X6_123 dX6_failed_44 z_219 k_219 (by decide) (by decide) rfl rfl (fun D17 hD17 => ?_)
        have hk18 := hD17
        refine r_aload_n dX6_failed_47 rfl ?_
        refine r_getI (ci := 6) (k := 16) wf_X6_85 dX6_failed_48 z_219 k_219 (by decide) (by decide) rfl (fun z18 hz18 => ?_)
        obtain rfl : z18 = nI S.2.1 := hz18.trans (by rw [hk18, hk11]; exact (up2_n (by decide)).trans ((up2_n (by decide)).trans (MP_f hMX)))
        refine r_if_le (tgt := 58) dX6_failed_51 (by decide) (fun c51 => ?_) (fun c51 => ?_)
        · exact absurd ((nI_zle (by omega)).mp c51) c30
        rw [nI_zle (by omega)] at c51
        refine r_iconst (nI 1) dX6_failed_54 (by decide) ?_
        refine r_goto (tgt := 59) dX6_failed_55 (by decide) ?_
        refine r_zret2 dX6_failed_59 rfl ⟨Nat.zero_le _, Nat.zero_le _⟩ rfl ?_
        rw [← hS]
        refine ⟨?_, ⟨?_, fun q => ?_, ?_, fun q hq => ?_, fun f hf => ?_⟩, rfl⟩
        · first
            | exact bI_t (by omega)
            | exact bI_f (by omega)
        · rw [hk18]
          first
            | (rw [if_pos (by omega)]; exact up2_s)
            | (rw [if_neg (by omega)]; exact up2_s)
        · rw [hk18, hk11]
          exact (up2_n (by decide)).trans ((up2_n (by decide)).trans (hMX.2.2.2 q).2)
        · rw [hk18, hk11]
          exact (up2_n (by decide)).trans up2_s
        · rw [hk18, hk11]
          exact (up2_o hq).trans ((up2_o hq).trans (hPX.1 q hq))
        · rw [hk18, hk11]
          exact (up2_n (by omega)).trans ((up2_n (by omega)).trans (hPX.2 f (by omega)))
    · skip
      rw [nI_eq (by omega) (by omega)] at c12
      refine r_aload_n dX6_failed_15 rfl ?_
      refine r_iconst (nI 1) dX6_failed_16 (by decide) ?_
      refine r_callVV (As := [.int (nI 1)]) (o := 219) (c_X6_bad_0 B D E t s hM c4 1 (by decide)) hv_X6_bad wm_X6_112 dX6_failed_17 rfl rfl z_219 k_219 (by decide) rfl (Nat.le_of_ble_eq_true rfl) ⟨Nat.le_of_ble_eq_true rfl, Nat.le_of_ble_eq_true rfl, Nat.zero_le _, Nat.zero_le _⟩ ⟨rfl, rfl⟩ (fun D20 E21 hz19 => ?_)
      obtain ⟨hb1, hb2, hqE⟩ := hz19
      obtain rfl := hqE.symm
      have hMX : MP D20 t (p_fin t s) := by
        first
          | (rw [show p_fin t s = s from if_neg (fun q => c4 q.1)]; exact hM)
          | (rw [show p_fin t s = s from if_neg (fun q => q.2 c12)]; exact hM)
          | (rw [show p_fin t s = (s.1, 1, s.1) from if_pos ⟨c4, c12⟩]; exact hb1)
      have hPX : PFm D D20 := by first | exact hb2 | exact PFm.rf
      obtain ⟨S, hS⟩ : ∃ S, S = p_fin t s := ⟨_, rfl⟩
      rw [← hS] at hMX
      have hS3 := hMX.2.1.2.1
      refine r_aload_n dX6_failed_20 rfl ?_
      refine r_iconst (nI 0) dX6_failed_21 (by decide) ?_
      refine r_putI (ci := 6) (k := 11) wf_X6_81 dX6_failed_22 z_219 k_219 (by decide) (by decide) rfl rfl (fun D22 hD22 => ?_)
      have hk11 := hD22
      refine r_aload_n dX6_failed_25 rfl ?_
      refine r_aload_n dX6_failed_26 rfl ?_
      refine r_getI (ci := 6) (k := 16) wf_X6_85 dX6_failed_27 z_219 k_219 (by decide) (by decide) rfl (fun z23 hz23 => ?_)
      obtain rfl : z23 = nI S.2.1 := hz23.trans (by rw [hk11]; exact (up2_n (by decide)).trans (MP_f hMX))
      refine r_if_le (tgt := 40) dX6_failed_30 (by decide) (fun c30 => ?_) (fun c30 => ?_)
      · skip
        rw [nI_zle (by omega)] at c30
        refine r_aload_n dX6_failed_40 rfl ?_
        refine r_getI (ci := 6) (k := 18) wf_X6_123 dX6_failed_41 z_219 k_219 (by decide) (by decide) rfl (fun z24 hz24 => ?_)
        obtain rfl : z24 = D 219 18 := hz24.trans (by rw [hk11]; exact (up2_n (by decide)).trans (hPX.2 18 (by decide)))
        refine r_putI (ci := 6) (k := 18) wf_X6_123 dX6_failed_44 z_219 k_219 (by decide) (by decide) rfl rfl (fun D25 hD25 => ?_)
        have hk18 := hD25
        refine r_aload_n dX6_failed_47 rfl ?_
        refine r_getI (ci := 6) (k := 16) wf_X6_85 dX6_failed_48 z_219 k_219 (by decide) (by decide) rfl (fun z26 hz26 => ?_)
        obtain rfl : z26 = nI S.2.1 := hz26.trans (by rw [hk18, hk11]; exact (up2_n (by decide)).trans ((up2_n (by decide)).trans (MP_f hMX)))
        refine r_if_le (tgt := 58) dX6_failed_51 (by decide) (fun c51 => ?_) (fun c51 => ?_)
        rotate_left
        · exact absurd ((nI_zle (by omega)).mpr c30) c51
        rw [nI_zle (by omega)] at c51
        refine r_iconst (nI 0) dX6_failed_58 (by decide) ?_
        refine r_zret2 dX6_failed_59 rfl ⟨Nat.zero_le _, Nat.zero_le _⟩ rfl ?_
        rw [← hS]
        refine ⟨?_, ⟨?_, fun q => ?_, ?_, fun q hq => ?_, fun f hf => ?_⟩, rfl⟩
        · first
            | exact bI_t (by omega)
            | exact bI_f (by omega)
        · rw [hk18]
          first
            | (rw [if_pos (by omega)]; exact up2_s)
            | (rw [if_neg (by omega)]; exact up2_s)
        · rw [hk18, hk11]
          exact (up2_n (by decide)).trans ((up2_n (by decide)).trans (hMX.2.2.2 q).2)
        · rw [hk18, hk11]
          exact (up2_n (by decide)).trans up2_s
        · rw [hk18, hk11]
          exact (up2_o hq).trans ((up2_o hq).trans (hPX.1 q hq))
        · rw [hk18, hk11]
          exact (up2_n (by omega)).trans ((up2_n (by omega)).trans (hPX.2 f (by omega)))
      · skip
        rw [nI_zle (by omega)] at c30
        refine r_aload_n dX6_failed_33 rfl ?_
        refine r_getI (ci := 6) (k := 16) wf_X6_85 dX6_failed_34 z_219 k_219 (by decide) (by decide) rfl (fun z27 hz27 => ?_)
        obtain rfl : z27 = nI S.2.1 := hz27.trans (by rw [hk11]; exact (up2_n (by decide)).trans (MP_f hMX))
        refine r_goto (tgt := 44) dX6_failed_37 (by decide) ?_
        refine r_putI (ci := 6) (k := 18) wf_X6_123 dX6_failed_44 z_219 k_219 (by decide) (by decide) rfl rfl (fun D28 hD28 => ?_)
        have hk18 := hD28
        refine r_aload_n dX6_failed_47 rfl ?_
        refine r_getI (ci := 6) (k := 16) wf_X6_85 dX6_failed_48 z_219 k_219 (by decide) (by decide) rfl (fun z29 hz29 => ?_)
        obtain rfl : z29 = nI S.2.1 := hz29.trans (by rw [hk18, hk11]; exact (up2_n (by decide)).trans ((up2_n (by decide)).trans (MP_f hMX)))
        refine r_if_le (tgt := 58) dX6_failed_51 (by decide) (fun c51 => ?_) (fun c51 => ?_)
        · exact absurd ((nI_zle (by omega)).mp c51) c30
        rw [nI_zle (by omega)] at c51
        refine r_iconst (nI 1) dX6_failed_54 (by decide) ?_
        refine r_goto (tgt := 59) dX6_failed_55 (by decide) ?_
        refine r_zret2 dX6_failed_59 rfl ⟨Nat.zero_le _, Nat.zero_le _⟩ rfl ?_
        rw [← hS]
        refine ⟨?_, ⟨?_, fun q => ?_, ?_, fun q hq => ?_, fun f hf => ?_⟩, rfl⟩
        · first
            | exact bI_t (by omega)
            | exact bI_f (by omega)
        · rw [hk18]
          first
            | (rw [if_pos (by omega)]; exact up2_s)
            | (rw [if_neg (by omega)]; exact up2_s)
        · rw [hk18, hk11]
          exact (up2_n (by decide)).trans ((up2_n (by decide)).trans (hMX.2.2.2 q).2)
        · rw [hk18, hk11]
          exact (up2_n (by decide)).trans up2_s
        · rw [hk18, hk11]
          exact (up2_o hq).trans ((up2_o hq).trans (hPX.1 q hq))
        · rw [hk18, hk11]
          exact (up2_n (by omega)).trans ((up2_n (by omega)).trans (hPX.2 f (by omega)))
