set_option maxRecDepth 100000 in
set_option maxHeartbeats 4000000 in
theorem c_X5_set (B : Nat) (D : DD) (E : EE) (w : RWS) (hX : XR D w) (x y z : Int32) : MR yX5_set cX5_set 5 (some .int) rX5_set B [.ref (B + 0), .int x, .int y, .int z] Z0 D E (Q2 Z0 (pI (fun v D' E' => v = (g_set x y z w).1 ∧ XR D' (g_set x y z w).2 ∧ XFr D D' ∧ E' = E))) := by
  refine r_enter [(0, .ref (B + 0)), (1, .int x), (2, .int y), (3, .int z)] hv_X5_set.1.2.2.2.2 (Nat.le_of_ble_eq_true rfl) rfl ?_
  refine r_iload_n dX5_set_0 rfl ?_
  refine r_callSI (As := [.int x]) (c_X5_isRow B D E x) hs_X5_isRow wm_X5_69 rfl dX5_set_1 rfl rfl (Nat.le_of_ble_eq_true rfl) ⟨Nat.le_of_ble_eq_true rfl, Nat.le_of_ble_eq_true rfl, Nat.zero_le _, Nat.zero_le _⟩ ⟨rfl, rfl⟩ (fun z1 D2 E3 hz1 => ?_)
  obtain ⟨hqV, hqD, hqE⟩ := hz1
  obtain rfl : z1 = bI (nI 0 ≤ x ∧ x ≤ nI 7) := hqV
  obtain rfl := hqD.symm
  obtain rfl := hqE.symm
  refine r_if_ne (tgt := 10) dX5_set_4 (by decide) (fun c4 => ?_) (fun c4 => ?_)
  · skip
    rw [bI_n0] at c4
    obtain ⟨ρ, -, hρ8, rfl⟩ := rg (by decide) (by decide) c4
    have hρ : ρ < 8 := by omega
    have h1 := hX.1 ρ hρ
    have he : (g_set (nI ρ) y z w) = (match w.1 ρ with
        | none => ((-1000011 : Int32), (w.1, w.2.1, nI 1))
        | some (l, s) => if okInB s y (nI 1) = true then (trn l z, (w.1, upo w.2.1 ρ (upd (w.2.1 ρ) y.toNatClampNeg (trn l z)), nI 0)) else (-1000012, (w.1, w.2.1, nI 2))) := by
      unfold g_set
      rw [if_pos c4, nI_clamp (show ρ < 2 ^ 31 by omega)]
      try rfl
    refine r_aload_n dX5_set_10 rfl ?_
    refine r_getR (ci := 5) (k := 0) wf_X5_10 dX5_set_11 z_0 k_0 (by decide) (by decide) (fun _ _ => rfl) f_0_0 ?_
    refine r_iload_n dX5_set_14 rfl ?_
    refine r_iload_n dX5_set_15 rfl ?_
    refine r_iconst (nI 1) dX5_set_16 (by decide) ?_
    refine r_callVI (As := [.int (nI ρ), .int y, .int (nI 1)]) (o := 1) (c_X3_look B D E ρ hρ y (nI 1)) hv_X3_look wm_X5_89 dX5_set_17 rfl rfl z_1 k_1 (by decide) rfl (Nat.le_of_ble_eq_true rfl) ⟨Nat.le_of_ble_eq_true rfl, Nat.le_of_ble_eq_true rfl, Nat.zero_le _, Nat.zero_le _⟩ ⟨rfl, rfl⟩ (fun z4 D5 E6 hz4 => ?_)
    obtain ⟨hqV, hqD, hqE⟩ := hz4
    obtain rfl : z4 = lkD (D 3 ρ) y (nI 1) := hqV
    obtain rfl := hqD.symm
    obtain rfl := hqE.symm
    refine r_istore [(4, .int (lkD (D 3 ρ) y (nI 1))), (0, .ref (B + 0)), (1, .int (nI ρ)), (2, .int y), (3, .int z)] dX5_set_20 (by decide) rfl ?_
    refine r_iload dX5_set_22 rfl ?_
    refine r_if_eq (tgt := 34) dX5_set_24 (by decide) (fun c24 => ?_) (fun c24 => ?_)
    · skip
      obtain ⟨l, s, a, hls, has, hsa, rfl⟩ : ∃ l s a : Nat, w.1 ρ = some (l, s) ∧ a < s ∧ okIn s y (nI 1) ∧ y = nI a := by
        cases e : w.1 ρ with
        | none => rw [e] at h1; rw [lkD_n h1] at c24; exact absurd c24 (by decide)
        | some p =>
          obtain ⟨l, s⟩ := p
          rw [e] at h1
          by_cases ok : okIn s y (nI 1)
          · obtain ⟨a, b, h2, h3, h4⟩ := okIn_n (by have := h1.2.1; omega) ok
            have hb : 1 = b := (nI_eq (by decide) (by have := h1.2.1; omega)).mp h3
            exact ⟨l, s, a, rfl, by omega, ok, h2⟩
          · rw [lkD_f h1 ok] at c24; exact absurd c24 (by decide)
      rw [hls] at h1
      obtain ⟨hl2, hs40, hD2, hD3, hDf⟩ := id h1
      rw [hls] at he
      have he2 : (g_set (nI ρ) (nI a) z w) = (trn l z, (w.1, upo w.2.1 ρ (upd (w.2.1 ρ) a (trn l z)), nI 0)) := by
        rw [he]
        show (if _ then _ else _) = _
        rw [if_pos (okInB_iff.mpr hsa), nI_clamp (show a < 2 ^ 31 by omega)]
      refine r_aload_n dX5_set_34 rfl ?_
      refine r_aload_n dX5_set_35 rfl ?_
      refine r_getR (ci := 5) (k := 0) wf_X5_10 dX5_set_36 z_0 k_0 (by decide) (by decide) (fun _ _ => rfl) f_0_0 ?_
      refine r_iload_n dX5_set_39 rfl ?_
      refine r_iload_n dX5_set_40 rfl ?_
      refine r_iload_n dX5_set_41 rfl ?_
      refine r_callVI (As := [.int (nI ρ), .int (nI a), .int z]) (o := 1) (c_X3_put B D E ρ l a z hρ hD2 hl2 (by omega)) hv_X3_put wm_X5_93 dX5_set_42 rfl rfl z_1 k_1 (by decide) rfl (Nat.le_of_ble_eq_true rfl) ⟨Nat.le_of_ble_eq_true rfl, Nat.le_of_ble_eq_true rfl, Nat.zero_le _, Nat.zero_le _⟩ ⟨rfl, rfl⟩ (fun z7 D8 E9 hz7 => ?_)
      obtain ⟨hq1, hqD, hqE⟩ := hz7
      obtain rfl := hqE.symm
      subst hqD
      subst hq1
      refine r_callVI (As := [.int (trn l z)]) (o := 0) (c_X5_fine B (upo D (5 + ρ) (upd (D (5 + ρ)) a (trn l z))) E (trn l z)) hv_X5_fine wm_X5_86 dX5_set_45 rfl rfl z_0 k_0 (by decide) rfl (Nat.le_of_ble_eq_true rfl) ⟨Nat.le_of_ble_eq_true rfl, Nat.le_of_ble_eq_true rfl, Nat.zero_le _, Nat.zero_le _⟩ ⟨rfl, rfl⟩ (fun z10 D11 E12 hz10 => ?_)
      obtain ⟨hq1, hqD, hqE⟩ := hz10
      obtain rfl := hqE.symm
      subst hqD
      subst hq1
      refine r_iret2 dX5_set_48 rfl ⟨Nat.zero_le _, Nat.zero_le _⟩ ?_
      rw [he2]
      refine ⟨rfl, ⟨fun i hi => ?_, (congrFun upo_s 15).trans pk_us⟩, ⟨fun q h1 h2 h3 h4 => (upo_n h1).trans (upo_n (by omega)), fun f hf => (congrFun upo_s f).trans ((pk_un hf).trans (congrFun (upo_n (by omega)) f))⟩, rfl⟩
      by_cases e : i = ρ
      · subst e
        show XW1 _ i (w.1 i) (upo w.2.1 i _ i)
        rw [upo_s, hls]
        refine ⟨hl2, hs40, (congrFun ((upo_n (by omega)).trans (upo_n (by omega))) i).trans hD2, (congrFun ((upo_n (by omega)).trans (upo_n (by omega))) i).trans hD3, fun j hj => (congrFun ((upo_n (by omega)).trans upo_s) j).trans ?_⟩
        unfold upd
        by_cases e2 : j = a
        · rw [if_pos e2, if_pos e2]
        · rw [if_neg e2, if_neg e2]; exact hDf j hj
      · show XW1 _ i (w.1 i) (upo w.2.1 ρ _ i)
        rw [upo_n e]
        exact XW1_eq (hX.1 i hi) (congrFun ((upo_n (by omega)).trans (upo_n (by omega))) i) (congrFun ((upo_n (by omega)).trans (upo_n (by omega))) i) ((upo_n (by omega)).trans (upo_n (by omega)))
    · skip
      have hb : lkD (D 3 ρ) y (nI 1) = nI 1 ∧ w.1 ρ = none ∨ lkD (D 3 ρ) y (nI 1) = nI 2 ∧ ∃ l s, w.1 ρ = some (l, s) ∧ ¬ okInB s y (nI 1) = true := by
        cases e : w.1 ρ with
        | none => rw [e] at h1; exact Or.inl ⟨lkD_n h1, rfl⟩
        | some p =>
          obtain ⟨l, s⟩ := p
          rw [e] at h1
          by_cases ok : okInB s y (nI 1) = true
          · exact absurd (lkD_t h1 (okInB_iff.mp ok)) c24
          · exact Or.inr ⟨lkD_f h1 (fun q => ok (okInB_iff.mpr q)), l, s, rfl, ok⟩
      refine r_aload_n dX5_set_27 rfl ?_
      refine r_iload dX5_set_28 rfl ?_
      refine r_callVI (As := [.int (lkD (D 3 ρ) y (nI 1))]) (o := 0) (c_X5_found B D E (lkD (D 3 ρ) y (nI 1))) hv_X5_found wm_X5_78 dX5_set_30 rfl rfl z_0 k_0 (by decide) rfl (Nat.le_of_ble_eq_true rfl) ⟨Nat.le_of_ble_eq_true rfl, Nat.le_of_ble_eq_true rfl, Nat.zero_le _, Nat.zero_le _⟩ ⟨rfl, rfl⟩ (fun z13 D14 E15 hz13 => ?_)
      obtain ⟨hq1, hqD, hqE⟩ := hz13
      obtain rfl := hqE.symm
      subst hqD
      refine r_iret2 dX5_set_33 rfl ⟨Nat.zero_le _, Nat.zero_le _⟩ ?_
      rcases hb with ⟨b1, b2⟩ | ⟨b1, l, s, b2, b3⟩
      · rw [b2] at he
        rw [he, hq1, b1]
        exact ⟨fd_1, hX.st, XFr.st, rfl⟩
      · rw [b2] at he
        rw [he, hq1, b1]
        show _ = (if _ then _ else _ : Int32 × RWS).1 ∧ XR _ (if _ then _ else _ : Int32 × RWS).2 ∧ _
        rw [if_neg b3]
        exact ⟨fd_2, hX.st, XFr.st, rfl⟩
  · skip
    rw [bI_0] at c4
    refine r_ldc wc_X5_77 dX5_set_7 ?_
    refine r_iret2 dX5_set_9 rfl ⟨Nat.zero_le _, Nat.zero_le _⟩ ?_
    have e : g_set x y z w = (-1000001, w) := if_neg c4
    rw [e]
    exact ⟨rfl, hX, XFr.rf, rfl⟩
set_option maxRecDepth 100000 in
set_option maxHeartbeats 4000000 in
theorem c_X5_drop (B : Nat) (D : DD) (E : EE) (w : RWS) (hX : XR D w) (x : Int32) : MR yX5_drop cX5_drop 3 (some .int) rX5_drop B [.ref (B + 0), .int x] Z0 D E (Q2 Z0 (pI (fun v D' E' => v = (g_drop x w).1 ∧ XR D' (g_drop x w).2 ∧ XFr D D' ∧ E' = E))) := by
  refine r_enter [(0, .ref (B + 0)), (1, .int x)] hv_X5_drop.1.2.2.2.2 (Nat.le_of_ble_eq_true rfl) rfl ?_
  refine r_iload_n dX5_drop_0 rfl ?_
  refine r_callSI (As := [.int x]) (c_X5_isRow B D E x) hs_X5_isRow wm_X5_69 rfl dX5_drop_1 rfl rfl (Nat.le_of_ble_eq_true rfl) ⟨Nat.le_of_ble_eq_true rfl, Nat.le_of_ble_eq_true rfl, Nat.zero_le _, Nat.zero_le _⟩ ⟨rfl, rfl⟩ (fun z1 D2 E3 hz1 => ?_)
  obtain ⟨hqV, hqD, hqE⟩ := hz1
  obtain rfl : z1 = bI (nI 0 ≤ x ∧ x ≤ nI 7) := hqV
  obtain rfl := hqD.symm
  obtain rfl := hqE.symm
  refine r_if_ne (tgt := 10) dX5_drop_4 (by decide) (fun c4 => ?_) (fun c4 => ?_)
  · skip
    rw [bI_n0] at c4
    obtain ⟨ρ, -, hρ8, rfl⟩ := rg (by decide) (by decide) c4
    have hρ : ρ < 8 := by omega
    have h1 := hX.1 ρ hρ
    have he : (g_drop (nI ρ) w) = (match w.1 ρ with
        | none => ((-1000011 : Int32), (w.1, w.2.1, nI 1))
        | some (l, s) => (nI s, (upo w.1 ρ none, w.2.1, nI 0))) := by
      unfold g_drop
      rw [if_pos c4, nI_clamp (show ρ < 2 ^ 31 by omega)]
      try rfl
    refine r_aload_n dX5_drop_10 rfl ?_
    refine r_getR (ci := 5) (k := 0) wf_X5_10 dX5_drop_11 z_0 k_0 (by decide) (by decide) (fun _ _ => rfl) f_0_0 ?_
    refine r_iload_n dX5_drop_14 rfl ?_
    refine r_callVI (As := [.int (nI ρ)]) (o := 1) (c_X3_isMissing B D E ρ hρ) hv_X3_isMissing wm_X5_96 dX5_drop_15 rfl rfl z_1 k_1 (by decide) rfl (Nat.le_of_ble_eq_true rfl) ⟨Nat.le_of_ble_eq_true rfl, Nat.le_of_ble_eq_true rfl, Nat.zero_le _, Nat.zero_le _⟩ ⟨rfl, rfl⟩ (fun z4 D5 E6 hz4 => ?_)
    obtain ⟨hqV, hqD, hqE⟩ := hz4
    obtain rfl : z4 = bI (D 3 ρ = -1) := hqV
    obtain rfl := hqD.symm
    obtain rfl := hqE.symm
    refine r_if_eq (tgt := 27) dX5_drop_18 (by decide) (fun c18 => ?_) (fun c18 => ?_)
    · skip
      rw [bI_0] at c18
      obtain ⟨l, s, hls⟩ : ∃ l s, w.1 ρ = some (l, s) := by
        cases e : w.1 ρ with
        | none => rw [e] at h1; exact absurd h1 c18
        | some p => exact ⟨p.1, p.2, rfl⟩
      rw [hls] at h1
      obtain ⟨hl2, hs40, hD2, hD3, hDf⟩ := id h1
      refine r_aload_n dX5_drop_27 rfl ?_
      refine r_getR (ci := 5) (k := 0) wf_X5_10 dX5_drop_28 z_0 k_0 (by decide) (by decide) (fun _ _ => rfl) f_0_0 ?_
      refine r_getR (ci := 3) (k := 1) wf_X5_112 dX5_drop_31 z_1 k_1 (by decide) (by decide) (fun _ _ => rfl) f_1_1 ?_
      refine r_iload_n dX5_drop_34 rfl ?_
      refine r_iald dX5_drop_35 z_3 k_3 (vp_in_nI (by omega) (by decide)) (fun z7 hz7 => ?_)
      rw [nI_clamp (by omega)] at hz7
      obtain rfl : z7 = nI s := hz7.trans hD3
      refine r_istore_n [(2, .int (nI s)), (0, .ref (B + 0)), (1, .int (nI ρ))] dX5_drop_36 (by decide) rfl ?_
      refine r_aload_n dX5_drop_37 rfl ?_
      refine r_getR (ci := 5) (k := 0) wf_X5_10 dX5_drop_38 z_0 k_0 (by decide) (by decide) (fun _ _ => rfl) f_0_0 ?_
      refine r_getR (ci := 3) (k := 1) wf_X5_112 dX5_drop_41 z_1 k_1 (by decide) (by decide) (fun _ _ => rfl) f_1_1 ?_
      refine r_iload_n dX5_drop_44 rfl ?_
      refine r_iconst ((-1)) dX5_drop_45 (by decide) ?_
      refine r_iast dX5_drop_46 z_3 k_3 (vp_in_nI (by omega) (by decide)) (fun D8 hD8 => ?_)
      rw [nI_clamp (by omega)] at hD8
      obtain rfl : D8 = upo D 3 (upd (D 3) ρ (-1)) := hD8.trans up2_eq
      refine r_aload_n dX5_drop_47 rfl ?_
      refine r_iload_n dX5_drop_48 rfl ?_
      refine r_callVI (As := [.int (nI s)]) (o := 0) (c_X5_fine B (upo D 3 (upd (D 3) ρ (-1))) E (nI s)) hv_X5_fine wm_X5_86 dX5_drop_49 rfl rfl z_0 k_0 (by decide) rfl (Nat.le_of_ble_eq_true rfl) ⟨Nat.le_of_ble_eq_true rfl, Nat.le_of_ble_eq_true rfl, Nat.zero_le _, Nat.zero_le _⟩ ⟨rfl, rfl⟩ (fun z9 D10 E11 hz9 => ?_)
      obtain ⟨hq1, hqD, hqE⟩ := hz9
      obtain rfl := hqE.symm
      subst hqD
      subst hq1
      refine r_iret2 dX5_drop_52 rfl ⟨Nat.zero_le _, Nat.zero_le _⟩ ?_
      rw [he, hls]
      refine ⟨rfl, ⟨fun i hi => ?_, (congrFun upo_s 15).trans pk_us⟩, ⟨fun q h1 h2 h3 h4 => (upo_n h1).trans (upo_n h3), fun f hf => (congrFun upo_s f).trans ((pk_un hf).trans (congrFun (upo_n (by decide)) f))⟩, rfl⟩
      by_cases e : i = ρ
      · subst e
        show XW1 _ i (upo w.1 i none i) _
        rw [upo_s]
        exact (congrFun ((upo_n (by decide)).trans upo_s) i).trans pk_us
      · show XW1 _ i (upo w.1 ρ none i) _
        rw [upo_n e]
        exact XW1_eq (hX.1 i hi) (congrFun ((upo_n (by decide)).trans (upo_n (by decide))) i) ((congrFun ((upo_n (by decide)).trans upo_s) i).trans (pk_un e)) ((upo_n (by omega)).trans (upo_n (by omega)))
    · skip
      rw [bI_n0] at c18
      have hn : w.1 ρ = none := by
        cases e : w.1 ρ with
        | none => rfl
        | some p => obtain ⟨l, s⟩ := p; rw [e] at h1; exact absurd (h1.2.2.2.1.symm.trans c18) (nI_ne_m1 s h1.2.1)
      refine r_aload_n dX5_drop_21 rfl ?_
      refine r_iconst (nI 1) dX5_drop_22 (by decide) ?_
      refine r_callVI (As := [.int (nI 1)]) (o := 0) (c_X5_found B D E (nI 1)) hv_X5_found wm_X5_78 dX5_drop_23 rfl rfl z_0 k_0 (by decide) rfl (Nat.le_of_ble_eq_true rfl) ⟨Nat.le_of_ble_eq_true rfl, Nat.le_of_ble_eq_true rfl, Nat.zero_le _, Nat.zero_le _⟩ ⟨rfl, rfl⟩ (fun z12 D13 E14 hz12 => ?_)
      obtain ⟨hq1, hqD, hqE⟩ := hz12
      obtain rfl := hqE.symm
      obtain rfl := hqD.symm
      obtain rfl : z12 = (-1000011) := hq1.trans fd_1
      refine r_iret2 dX5_drop_26 rfl ⟨Nat.zero_le _, Nat.zero_le _⟩ ?_
      rw [he, hn]
      exact ⟨rfl, hX.st, XFr.st, rfl⟩
  · skip
    rw [bI_0] at c4
    refine r_ldc wc_X5_77 dX5_drop_7 ?_
    refine r_iret2 dX5_drop_9 rfl ⟨Nat.zero_le _, Nat.zero_le _⟩ ?_
    have e : g_drop x w = (-1000001, w) := if_neg c4
    rw [e]
    exact ⟨rfl, hX, XFr.rf, rfl⟩
