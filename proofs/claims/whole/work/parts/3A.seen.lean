set_option maxRecDepth 100000 in
set_option maxHeartbeats 4000000 in
theorem c_X0_become (B : Nat) (D : DD) (E : EE) (o w kd : Nat) (ho : isC o) (r : Row) (hC : CA D o r) (hw : w < r 5) (h5 : r 5 ≤ 6) (hk1 : 1 ≤ kd) (hk5 : kd ≤ 5) : MR yX0_become cX0_become 3 none rX0_become B [.ref (B + o), .int (nI w), .int (nI kd)] Z0 D E (Q2 Z0 (pV (fun D' E' => (∀ q, q ≠ o + 1 → q ≠ o + 4 → D' q = D q) ∧ CA D' o (s_kd r w kd) ∧ E' = E))) := by
  refine r_enter [(0, .ref (B + o)), (1, .int (nI w)), (2, .int (nI kd))] hv_X0_become.1.2.2.2.2 (Nat.le_of_ble_eq_true rfl) rfl ?_
  refine r_aload_n dX0_become_0 rfl ?_
  refine r_getR (ci := 0) (k := 6) wf_X0_9 dX0_become_1 ho.1.1 ho.2.1.1 (by decide) (by decide) (fun _ _ => rfl) ho.2.2.1 ?_
  refine r_iload_n dX0_become_4 rfl ?_
  refine r_iload_n dX0_become_5 rfl ?_
  refine r_iast dX0_become_6 ho.1.2.1 ho.2.1.2.1 (vp_in_nI (by omega) (by decide)) (fun D1 hD1 => ?_)
  rw [nI_clamp (by omega)] at hD1
  obtain rfl : D1 = upo D (o + 1) (upd (D (o + 1)) w (nI kd)) := hD1.trans up2_eq
  refine r_iload_n dX0_become_7 rfl ?_
  refine r_iconst (nI 2) dX0_become_8 (by decide) ?_
  refine r_icmp_ne (tgt := 19) dX0_become_9 (by decide) (fun c9 => ?_) (fun c9 => ?_)
  · skip
    rw [nI_eq (by omega) (by omega)] at c9
    refine r_vret2 dX0_become_19 rfl ⟨Nat.zero_le _, Nat.zero_le _⟩ ?_
    first
      | exact ⟨fun q h1 h4 => (upo_n h4).trans (upo_n h1), CA_kd hC hw (fun j h1 h4 => (upo_n (by omega)).trans (upo_n (by omega))) ((upo_n (by omega)).trans upo_s) (upo_s.trans (if_pos c9).symm), rfl⟩
      | exact ⟨fun q h1 h4 => upo_n h1, CA_kd hC hw (fun j h1 h4 => upo_n (by omega)) upo_s ((upo_n (by omega)).trans (if_neg c9).symm), rfl⟩
  · skip
    rw [nI_eq (by omega) (by omega)] at c9
    refine r_aload_n dX0_become_12 rfl ?_
    refine r_getR (ci := 0) (k := 9) wf_X0_21 dX0_become_13 ho.1.1 ho.2.1.1 (by decide) (by decide) (fun _ _ => rfl) ho.2.2.2.2.2.1 ?_
    refine r_iload_n dX0_become_16 rfl ?_
    refine r_iconst (nI 0) dX0_become_17 (by decide) ?_
    refine r_iast dX0_become_18 ho.1.2.2.2.2.1 ho.2.1.2.2.2.2.1 (vp_in_nI (by omega) (by decide)) (fun D2 hD2 => ?_)
    rw [nI_clamp (by omega)] at hD2
    obtain rfl : D2 = upo (upo D (o + 1) (upd (D (o + 1)) w (nI kd))) (o + 4) (upd (D (o + 4)) w (nI 0)) := hD2.trans (up2_eq.trans (by rw [upo_n (show o + 4 ≠ o + 1 by omega)]))
    refine r_vret2 dX0_become_19 rfl ⟨Nat.zero_le _, Nat.zero_le _⟩ ?_
    first
      | exact ⟨fun q h1 h4 => (upo_n h4).trans (upo_n h1), CA_kd hC hw (fun j h1 h4 => (upo_n (by omega)).trans (upo_n (by omega))) ((upo_n (by omega)).trans upo_s) (upo_s.trans (if_pos c9).symm), rfl⟩
      | exact ⟨fun q h1 h4 => upo_n h1, CA_kd hC hw (fun j h1 h4 => upo_n (by omega)) upo_s ((upo_n (by omega)).trans (if_neg c9).symm), rfl⟩
set_option maxRecDepth 100000 in
set_option maxHeartbeats 4000000 in
theorem c_X5_comesAsTold (B : Nat) (D : DD) (E : EE) (wy : Nat → Nat) (r : Row) (hW : WF r) (hT : T2 r) (hH : HB r 999) (hY : WY wy r) (hC : CA D 173 r) (hLl : LA D 15 wy r) (ρ a n : Nat) (hρ : ρ < 8) (han : a + n ≤ 40) (hn : n ≤ 12) : MR yX5_comesAsTold cX5_comesAsTold 6 (some .boolean) rX5_comesAsTold B [.ref (B + 0), .int (nI ρ), .int (nI a), .int (nI n)] Z0 D E (Q2 Z0 (pI (fun v D' E' => v = bI (s_fits wy r (fun k => D (5 + ρ) (a + k)) n = true) ∧ SX D D' ∧ E' = E))) := by
  refine r_enter [(0, .ref (B + 0)), (1, .int (nI ρ)), (2, .int (nI a)), (3, .int (nI n))] hv_X5_comesAsTold.1.2.2.2.2 (Nat.le_of_ble_eq_true rfl) rfl ?_
  refine r_iconst (nI 0) dX5_comesAsTold_0 (by decide) ?_
  refine r_istore [(4, .int (nI 0)), (0, .ref (B + 0)), (1, .int (nI ρ)), (2, .int (nI a)), (3, .int (nI n))] dX5_comesAsTold_1 (by decide) rfl ?_
  have L : ∀ (fu k : Nat) (Dk : DD), k ≤ n → n - k < fu → (CA Dk 173 (s_hours wy k r) ∧ SX D Dk ∧ ∀ j, j < k → s_told wy r (fun k => D (5 + ρ) (a + k)) j = true) → RW yX5_comesAsTold cX5_comesAsTold 6 (some .boolean) rX5_comesAsTold B (Q2 Z0 (pI (fun v D' E' => v = bI (s_fits wy r (fun k => D (5 + ρ) (a + k)) n = true) ∧ SX D D' ∧ E' = E))) Z0 Dk E 0 0 3 [(4, .int (nI k)), (0, .ref (B + 0)), (1, .int (nI ρ)), (2, .int (nI a)), (3, .int (nI n))] [] := by
    intro fu
    induction fu with
    | zero => intro k Dk hku hfu _; omega
    | succ fu ih =>
      intro k Dk hku hfu hI
      refine r_iload dX5_comesAsTold_3 rfl ?_
      refine r_iload_n dX5_comesAsTold_5 rfl ?_
      refine r_icmp_ge (tgt := 62) dX5_comesAsTold_6 (by decide) (fun c6 => ?_) (fun c6 => ?_)
      · skip
        rw [nI_leI (by omega) (by omega)] at c6
        refine r_iconst (nI 1) dX5_comesAsTold_62 (by decide) ?_
        refine r_zret2 dX5_comesAsTold_63 rfl ⟨Nat.zero_le _, Nat.zero_le _⟩ rfl ?_
        exact ⟨bI_t (s_fits_t (fun j hj => hI.2.2 j (by omega))), hI.2.1, rfl⟩
      · skip
        rw [nI_leI (by omega) (by omega)] at c6
        have hk := s_hours_k hW hT hH hY k
        obtain ⟨kb1, kb2, kb3, kb4, kb5, kb6, kb7, kb8⟩ := hk.1.1
        have hk2 := (s_hours_k hW hT hH hY (k + 1)).1.1
        refine r_aload_n dX5_comesAsTold_9 rfl ?_
        refine r_getR (ci := 5) (k := 5) wf_X5_44 dX5_comesAsTold_10 z_0 k_0 (by decide) (by decide) (fun _ _ => rfl) f_0_5 ?_
        refine r_aload_n dX5_comesAsTold_13 rfl ?_
        refine r_getR (ci := 5) (k := 2) wf_X5_26 dX5_comesAsTold_14 z_0 k_0 (by decide) (by decide) (fun _ _ => rfl) f_0_2 ?_
        refine r_callVV (As := [.ref (B + 15)]) (o := 173) (c_X0_pass B Dk E 173 15 isC_p isL_l (dj15 (Or.inr rfl)) (s_hours wy k r) wy hk.1 (999 + k) hk.2.2.1 (by omega) hI.1 (hI.2.1.LA (LA_hours hLl k)) hk.2.2.2 hk.2.1) hv_X0_pass wm_X5_166 dX5_comesAsTold_17 rfl rfl z_173 k_173 (by decide) rfl (Nat.le_of_ble_eq_true rfl) ⟨Nat.le_of_ble_eq_true rfl, Nat.le_of_ble_eq_true rfl, Nat.zero_le _, Nat.zero_le _⟩ ⟨rfl, rfl⟩ (fun D2 E3 hz1 => ?_)
        obtain ⟨hF9, hC9, hqE⟩ := hz1
        obtain rfl := hqE.symm
        have hS9 : SX D D2 := hI.2.1.trans (fun q h1 h2 => hF9 q (by omega) (by omega) (by omega))
        refine r_aload_n dX5_comesAsTold_20 rfl ?_
        refine r_getR (ci := 5) (k := 0) wf_X5_10 dX5_comesAsTold_21 z_0 k_0 (by decide) (by decide) (fun _ _ => rfl) f_0_0 ?_
        refine r_getR (ci := 3) (k := 2) wf_X5_102 dX5_comesAsTold_24 z_1 k_1 (by decide) (by decide) (fun _ _ => rfl) f_1_2 ?_
        refine r_iload_n dX5_comesAsTold_27 rfl ?_
        refine r_aald (v := 5 + ρ) dX5_comesAsTold_28 z_4 k_4 (by decide) (vp_in_nI (by omega) (by decide)) (items_at ρ hρ) ?_
        refine r_iload_n dX5_comesAsTold_29 rfl ?_
        refine r_iload dX5_comesAsTold_30 rfl ?_
        refine r_iadd dX5_comesAsTold_32 (fun z4 hz4 => ?_)
        obtain rfl : z4 = nI (a + k) := (hz4.trans (nI_add _ _))
        refine r_iald dX5_comesAsTold_33 (items_z ρ hρ).1 (items_z ρ hρ).2 (vp_in_nI (by omega) (by decide)) (fun z5 hz5 => ?_)
        rw [nI_clamp (by omega)] at hz5
        obtain rfl : z5 = D (5 + ρ) (a + k) := hz5.trans (congrFun (hS9 (5 + ρ) (by omega) (by omega)) _)
        refine r_istore [(5, .int (D (5 + ρ) (a + k))), (4, .int (nI k)), (0, .ref (B + 0)), (1, .int (nI ρ)), (2, .int (nI a)), (3, .int (nI n))] dX5_comesAsTold_34 (by decide) rfl ?_
        refine r_iload dX5_comesAsTold_36 rfl ?_
        refine r_iconst ((-1)) dX5_comesAsTold_38 (by decide) ?_
        refine r_icmp_eq (tgt := 56) dX5_comesAsTold_39 (by decide) (fun c39 => ?_) (fun c39 => ?_)
        · skip
          refine r_iinc (nI (k + 1)) [(4, .int (nI (k + 1))), (5, .int (D (5 + ρ) (a + k))), (0, .ref (B + 0)), (1, .int (nI ρ)), (2, .int (nI a)), (3, .int (nI n))] dX5_comesAsTold_56 rfl (nI_1 _) (by decide) rfl ?_
          refine r_goto (tgt := 3) dX5_comesAsTold_59 (by decide) ?_
          exact r_lv [(4, .int (nI (k + 1))), (0, .ref (B + 0)), (1, .int (nI ρ)), (2, .int (nI a)), (3, .int (nI n))] (List.forall_mem_cons.mpr ⟨rfl, List.forall_mem_cons.mpr ⟨rfl, List.forall_mem_cons.mpr ⟨rfl, List.forall_mem_cons.mpr ⟨rfl, List.forall_mem_cons.mpr ⟨rfl, fun _ h => absurd h List.not_mem_nil⟩⟩⟩⟩⟩) (ih (k + 1) D2 (by omega) (by omega) (⟨hC9, hS9, fun j hj => (Nat.lt_succ_iff_lt_or_eq.mp hj).elim (fun h => hI.2.2 j h) (fun h => h ▸ s_told_t (by first | exact Or.inl c39 | exact Or.inr c51))⟩))
        · skip
          refine r_iload dX5_comesAsTold_42 rfl ?_
          refine r_aload_n dX5_comesAsTold_44 rfl ?_
          refine r_getR (ci := 5) (k := 5) wf_X5_44 dX5_comesAsTold_45 z_0 k_0 (by decide) (by decide) (fun _ _ => rfl) f_0_5 ?_
          refine r_getI (ci := 0) (k := 1) wf_X5_169 dX5_comesAsTold_48 z_173 k_173 (by decide) (by decide) rfl (fun z6 hz6 => ?_)
          obtain rfl : z6 = nI (s_hours wy (k + 1) r 1) := hz6.trans hC9.1.2.1
          refine r_icmp_eq (tgt := 56) dX5_comesAsTold_51 (by decide) (fun c51 => ?_) (fun c51 => ?_)
          · skip
            refine r_iinc (nI (k + 1)) [(4, .int (nI (k + 1))), (5, .int (D (5 + ρ) (a + k))), (0, .ref (B + 0)), (1, .int (nI ρ)), (2, .int (nI a)), (3, .int (nI n))] dX5_comesAsTold_56 rfl (nI_1 _) (by decide) rfl ?_
            refine r_goto (tgt := 3) dX5_comesAsTold_59 (by decide) ?_
            exact r_lv [(4, .int (nI (k + 1))), (0, .ref (B + 0)), (1, .int (nI ρ)), (2, .int (nI a)), (3, .int (nI n))] (List.forall_mem_cons.mpr ⟨rfl, List.forall_mem_cons.mpr ⟨rfl, List.forall_mem_cons.mpr ⟨rfl, List.forall_mem_cons.mpr ⟨rfl, List.forall_mem_cons.mpr ⟨rfl, fun _ h => absurd h List.not_mem_nil⟩⟩⟩⟩⟩) (ih (k + 1) D2 (by omega) (by omega) (⟨hC9, hS9, fun j hj => (Nat.lt_succ_iff_lt_or_eq.mp hj).elim (fun h => hI.2.2 j h) (fun h => h ▸ s_told_t (by first | exact Or.inl c39 | exact Or.inr c51))⟩))
          · skip
            refine r_iconst (nI 0) dX5_comesAsTold_54 (by decide) ?_
            refine r_zret2 dX5_comesAsTold_55 rfl ⟨Nat.zero_le _, Nat.zero_le _⟩ rfl ?_
            exact ⟨bI_f (s_fits_f (k := k) (by omega) (s_told_f c39 c51)), hS9, rfl⟩
  exact r_lv [(4, .int (nI 0)), (0, .ref (B + 0)), (1, .int (nI ρ)), (2, .int (nI a)), (3, .int (nI n))] (List.forall_mem_cons.mpr ⟨rfl, List.forall_mem_cons.mpr ⟨rfl, List.forall_mem_cons.mpr ⟨rfl, List.forall_mem_cons.mpr ⟨rfl, List.forall_mem_cons.mpr ⟨rfl, fun _ h => absurd h List.not_mem_nil⟩⟩⟩⟩⟩) (L (n + 1) 0 D (by omega) (by omega) (⟨hC, SX.rf, fun j hj => absurd hj (Nat.not_lt_zero j)⟩))
set_option maxRecDepth 100000 in
set_option maxHeartbeats 4000000 in
theorem c_X5_seen (B : Nat) (D : DD) (E : EE) (wy : Nat → Nat) (r : Row) (hX : XL D wy r) (w : RWS) (hR : XR D w) (x y t what : Int32) : MR yX5_seen cX5_seen 9 (some .int) rX5_seen B [.ref (B + 0), .int x, .int y, .int t, .int what] Z0 D E (Q2 Z0 (pI (fun v D' E' => v = (if 0 < r 0 then g_seen wy r x y t what w else (-1000002, w.2.2)).1 ∧ D' 0 15 = (if 0 < r 0 then g_seen wy r x y t what w else (-1000002, w.2.2)).2 ∧ FXs D D' ∧ E' = E))) := by
  obtain ⟨hO, hCn, hLl, hYY⟩ := id hX
  obtain ⟨l0, l5, l4, l6, l7, l8, l1⟩ := hO.le
  refine r_enter [(0, .ref (B + 0)), (1, .int x), (2, .int y), (3, .int t), (4, .int what)] hv_X5_seen.1.2.2.2.2 (Nat.le_of_ble_eq_true rfl) rfl ?_
  refine r_aload_n dX5_seen_0 rfl ?_
  refine r_callVI (As := []) (o := 0) (c_X5_hasLand B D E (r 0) hLl.1.1 l0) hv_X5_hasLand wm_X5_156 dX5_seen_1 rfl rfl z_0 k_0 (by decide) rfl (Nat.le_of_ble_eq_true rfl) ⟨Nat.le_of_ble_eq_true rfl, Nat.le_of_ble_eq_true rfl, Nat.zero_le _, Nat.zero_le _⟩ ⟨rfl, rfl⟩ (fun z1 D2 E3 hz1 => ?_)
  obtain ⟨hqV, hqD, hqE⟩ := hz1
  obtain rfl : z1 = bI (0 < r 0) := hqV
  obtain rfl := hqD.symm
  obtain rfl := hqE.symm
  refine r_if_ne (tgt := 10) dX5_seen_4 (by decide) (fun c4 => ?_) (fun c4 => ?_)
  · skip
    rw [bI_n0] at c4
    obtain ⟨hW, hT, hH⟩ := hO.p c4
    have hY := hYY hW
    obtain ⟨b1, b2, b3, b4, b5, b6, b7, b8⟩ := hW.1
    refine r_iload_n dX5_seen_10 rfl ?_
    refine r_callSI (As := [.int x]) (c_X5_isRow B D E x) hs_X5_isRow wm_X5_69 rfl dX5_seen_11 rfl rfl (Nat.le_of_ble_eq_true rfl) ⟨Nat.le_of_ble_eq_true rfl, Nat.le_of_ble_eq_true rfl, Nat.zero_le _, Nat.zero_le _⟩ ⟨rfl, rfl⟩ (fun z4 D5 E6 hz4 => ?_)
    obtain ⟨hqV, hqD, hqE⟩ := hz4
    obtain rfl : z4 = bI (nI 0 ≤ x ∧ x ≤ nI 7) := hqV
    obtain rfl := hqD.symm
    obtain rfl := hqE.symm
    refine r_if_eq (tgt := 37) dX5_seen_14 (by decide) (fun c14 => ?_) (fun c14 => ?_)
    · skip
      rw [bI_0] at c14
      refine r_ldc wc_X5_77 dX5_seen_37 ?_
      refine r_iret2 dX5_seen_39 rfl ⟨Nat.zero_le _, Nat.zero_le _⟩ ?_
      rw [if_pos c4]
      have e : ∀ a b : Int32 × Int32, a = b → b = (-1000001, w.2.2) → (-1000001 : Int32) = a.1 ∧ D 0 15 = a.2 ∧ FXs D D ∧ E = E := fun a b h1 h2 => by rw [h1, h2]; exact ⟨rfl, hR.2, FXs.of SX.rf, rfl⟩
      refine e _ _ rfl ?_
      unfold g_seen
      first | rw [if_neg c14] | rw [if_pos c14, if_neg c24] | rw [if_pos c14, if_pos c24, if_neg c34]
    · skip
      rw [bI_n0] at c14
      obtain ⟨ρ, -, hρ8, rfl⟩ := rg (by decide) (by decide) c14
      have hρ : ρ < 8 := by omega
      refine r_iload_n dX5_seen_17 rfl ?_
      refine r_iconst (nI 1) dX5_seen_18 (by decide) ?_
      refine r_bipush (nI 12) dX5_seen_19 (by decide) ?_
      refine r_callSI (As := [.int t, .int (nI 1), .int (nI 12)]) (c_X5_within B D E t (nI 1) (nI 12)) hs_X5_within wm_X5_73 rfl dX5_seen_21 rfl rfl (Nat.le_of_ble_eq_true rfl) ⟨Nat.le_of_ble_eq_true rfl, Nat.le_of_ble_eq_true rfl, Nat.zero_le _, Nat.zero_le _⟩ ⟨rfl, rfl⟩ (fun z7 D8 E9 hz7 => ?_)
      obtain ⟨hqV, hqD, hqE⟩ := hz7
      obtain rfl : z7 = bI (nI 1 ≤ t ∧ t ≤ nI 12) := hqV
      obtain rfl := hqD.symm
      obtain rfl := hqE.symm
      refine r_if_eq (tgt := 37) dX5_seen_24 (by decide) (fun c24 => ?_) (fun c24 => ?_)
      · skip
        rw [bI_0] at c24
        refine r_ldc wc_X5_77 dX5_seen_37 ?_
        refine r_iret2 dX5_seen_39 rfl ⟨Nat.zero_le _, Nat.zero_le _⟩ ?_
        rw [if_pos c4]
        have e : ∀ a b : Int32 × Int32, a = b → b = (-1000001, w.2.2) → (-1000001 : Int32) = a.1 ∧ D 0 15 = a.2 ∧ FXs D D ∧ E = E := fun a b h1 h2 => by rw [h1, h2]; exact ⟨rfl, hR.2, FXs.of SX.rf, rfl⟩
        refine e _ _ rfl ?_
        unfold g_seen
        first | rw [if_neg c14] | rw [if_pos c14, if_neg c24] | rw [if_pos c14, if_pos c24, if_neg c34]
      · skip
        rw [bI_n0] at c24
        obtain ⟨n, hn1, hn2, rfl⟩ := rg (by decide) (by decide) c24
        refine r_iload dX5_seen_27 rfl ?_
        refine r_iconst (nI 0) dX5_seen_29 (by decide) ?_
        refine r_iconst (nI 1) dX5_seen_30 (by decide) ?_
        refine r_callSI (As := [.int what, .int (nI 0), .int (nI 1)]) (c_X5_within B D E what (nI 0) (nI 1)) hs_X5_within wm_X5_73 rfl dX5_seen_31 rfl rfl (Nat.le_of_ble_eq_true rfl) ⟨Nat.le_of_ble_eq_true rfl, Nat.le_of_ble_eq_true rfl, Nat.zero_le _, Nat.zero_le _⟩ ⟨rfl, rfl⟩ (fun z10 D11 E12 hz10 => ?_)
        obtain ⟨hqV, hqD, hqE⟩ := hz10
        obtain rfl : z10 = bI (nI 0 ≤ what ∧ what ≤ nI 1) := hqV
        obtain rfl := hqD.symm
        obtain rfl := hqE.symm
        refine r_if_ne (tgt := 40) dX5_seen_34 (by decide) (fun c34 => ?_) (fun c34 => ?_)
        · skip
          rw [bI_n0] at c34
          obtain ⟨wh, hw1, hw2, rfl⟩ := rg (by decide) (by decide) c34
          have h1 := hR.1 ρ hρ
          have he : g_seen wy r (nI ρ) y (nI n) (nI wh) w = (match w.1 ρ with
              | none => ((-1000011 : Int32), nI 1)
              | some (_, s) => if okInB s y (nI n) = true then (if nI wh = 0 then nI (s_sn wy r (fun k => w.2.1 ρ (y.toNatClampNeg + k)) n (r 0)).1 else s_opt (s_sn wy r (fun k => w.2.1 ρ (y.toNatClampNeg + k)) n (r 0)).2, nI 0) else (-1000012, nI 2)) := by
            unfold g_seen
            rw [if_pos c14, if_pos c24, if_pos c34, nI_clamp (show ρ < 2 ^ 31 by omega), nI_clamp (show n < 2 ^ 31 by omega)]
            try rfl
          refine r_aload_n dX5_seen_40 rfl ?_
          refine r_getR (ci := 5) (k := 0) wf_X5_10 dX5_seen_41 z_0 k_0 (by decide) (by decide) (fun _ _ => rfl) f_0_0 ?_
          refine r_iload_n dX5_seen_44 rfl ?_
          refine r_iload_n dX5_seen_45 rfl ?_
          refine r_iload_n dX5_seen_46 rfl ?_
          refine r_callVI (As := [.int (nI ρ), .int y, .int (nI n)]) (o := 1) (c_X3_look B D E ρ hρ y (nI n)) hv_X3_look wm_X5_89 dX5_seen_47 rfl rfl z_1 k_1 (by decide) rfl (Nat.le_of_ble_eq_true rfl) ⟨Nat.le_of_ble_eq_true rfl, Nat.le_of_ble_eq_true rfl, Nat.zero_le _, Nat.zero_le _⟩ ⟨rfl, rfl⟩ (fun z13 D14 E15 hz13 => ?_)
          obtain ⟨hqV, hqD, hqE⟩ := hz13
          obtain rfl : z13 = lkD (D 3 ρ) y (nI n) := hqV
          obtain rfl := hqD.symm
          obtain rfl := hqE.symm
          refine r_istore [(5, .int (lkD (D 3 ρ) y (nI n))), (0, .ref (B + 0)), (1, .int (nI ρ)), (2, .int y), (3, .int (nI n)), (4, .int (nI wh))] dX5_seen_50 (by decide) rfl ?_
          refine r_iload dX5_seen_52 rfl ?_
          refine r_if_eq (tgt := 64) dX5_seen_54 (by decide) (fun c54 => ?_) (fun c54 => ?_)
          · skip
            obtain ⟨l, s, a, hls, has, hsa, rfl⟩ : ∃ l s a : Nat, w.1 ρ = some (l, s) ∧ a + n ≤ s ∧ okIn s y (nI n) ∧ y = nI a := by
              cases e : w.1 ρ with
              | none => rw [e] at h1; rw [lkD_n h1] at c54; exact absurd c54 (by decide)
              | some p =>
                obtain ⟨l, s⟩ := p
                rw [e] at h1
                by_cases ok : okIn s y (nI n)
                · obtain ⟨a, b, h2, h3, h4⟩ := okIn_n (by have := h1.2.1; omega) ok
                  have hb : n = b := (nI_eq (by omega) (by have := h1.2.1; omega)).mp h3
                  exact ⟨l, s, a, rfl, by omega, ok, h2⟩
                · rw [lkD_f h1 ok] at c54; exact absurd c54 (by decide)
            rw [hls] at h1
            obtain ⟨hl2, hs40, hD2, hD3, hDf⟩ := id h1
            rw [hls] at he
            have he2 : g_seen wy r (nI ρ) (nI a) (nI n) (nI wh) w = (if nI wh = 0 then nI (s_sn wy r (fun k => w.2.1 ρ (a + k)) n (r 0)).1 else s_opt (s_sn wy r (fun k => w.2.1 ρ (a + k)) n (r 0)).2, nI 0) := by
              rw [he]
              show (if _ then _ else _) = _
              rw [if_pos (okInB_iff.mpr hsa), nI_clamp (show a < 2 ^ 31 by omega)]
            refine r_iconst (nI 0) dX5_seen_64 (by decide) ?_
            refine r_istore [(6, .int (nI 0)), (5, .int (lkD (D 3 ρ) (nI a) (nI n))), (0, .ref (B + 0)), (1, .int (nI ρ)), (2, .int (nI a)), (3, .int (nI n)), (4, .int (nI wh))] dX5_seen_65 (by decide) rfl ?_
            refine r_ldc wc_X5_232 dX5_seen_67 ?_
            refine r_istore [(7, .int ((-1000000))), (6, .int (nI 0)), (5, .int (lkD (D 3 ρ) (nI a) (nI n))), (0, .ref (B + 0)), (1, .int (nI ρ)), (2, .int (nI a)), (3, .int (nI n)), (4, .int (nI wh))] dX5_seen_69 (by decide) rfl ?_
            refine r_aload_n dX5_seen_71 rfl ?_
            refine r_getR (ci := 5) (k := 2) wf_X5_26 dX5_seen_72 z_0 k_0 (by decide) (by decide) (fun _ _ => rfl) f_0_2 ?_
            refine r_getI (ci := 1) (k := 0) wf_X5_244 dX5_seen_75 z_15 k_15 (by decide) (by decide) rfl (fun z16 hz16 => ?_)
            obtain rfl : z16 = nI (r 0) := hz16.trans hLl.1.1
            refine r_iconst (nI 1) dX5_seen_78 (by decide) ?_
            refine r_isub dX5_seen_79 (fun z17 hz17 => ?_)
            subst hz17
            refine r_istore [(8, .int ((nI (r 0)) - (nI 1))), (7, .int ((-1000000))), (6, .int (nI 0)), (5, .int (lkD (D 3 ρ) (nI a) (nI n))), (0, .ref (B + 0)), (1, .int (nI ρ)), (2, .int (nI a)), (3, .int (nI n)), (4, .int (nI wh))] dX5_seen_80 (by decide) rfl ?_
            refine r_lv [(8, .int (nI (r 0) - nI 1 - nI 0)), (7, .int (s_opt (s_sn wy r (fun k => w.2.1 ρ (a + k)) n 0).2)), (6, .int (nI ((s_sn wy r (fun k => w.2.1 ρ (a + k)) n 0).1))), (5, .int (lkD (D 3 ρ) (nI a) (nI n))), (0, .ref (B + 0)), (1, .int (nI ρ)), (2, .int (nI a)), (3, .int (nI n)), (4, .int (nI wh))] (List.forall_mem_cons.mpr ⟨congrArg (fun x => some (Value.int x)) (by rw [nI_0, Int32.sub_zero]), List.forall_mem_cons.mpr ⟨congrArg (fun x => some (Value.int x)) rfl, List.forall_mem_cons.mpr ⟨congrArg (fun x => some (Value.int x)) rfl, List.forall_mem_cons.mpr ⟨rfl, List.forall_mem_cons.mpr ⟨rfl, List.forall_mem_cons.mpr ⟨rfl, List.forall_mem_cons.mpr ⟨rfl, List.forall_mem_cons.mpr ⟨rfl, List.forall_mem_cons.mpr ⟨rfl, fun _ h => absurd h List.not_mem_nil⟩⟩⟩⟩⟩⟩⟩⟩⟩) ?_
            have L : ∀ (fu k : Nat) (Dk : DD), k ≤ r 0 → r 0 - k < fu → (SX D Dk) → RW yX5_seen cX5_seen 9 (some .int) rX5_seen B (Q2 Z0 (pI (fun v D' E' => v = (if 0 < r 0 then g_seen wy r (nI ρ) (nI a) (nI n) (nI wh) w else (-1000002, w.2.2)).1 ∧ D' 0 15 = (if 0 < r 0 then g_seen wy r (nI ρ) (nI a) (nI n) (nI wh) w else (-1000002, w.2.2)).2 ∧ FXs D D' ∧ E' = E))) Z0 Dk E 0 0 82 [(8, .int (nI (r 0) - nI 1 - nI k)), (7, .int (s_opt (s_sn wy r (fun k => w.2.1 ρ (a + k)) n k).2)), (6, .int (nI ((s_sn wy r (fun k => w.2.1 ρ (a + k)) n k).1))), (0, .ref (B + 0)), (1, .int (nI ρ)), (2, .int (nI a)), (3, .int (nI n)), (4, .int (nI wh))] [] := by
              intro fu
              induction fu with
              | zero => intro k Dk hku hfu _; omega
              | succ fu ih =>
                intro k Dk hku hfu hI
                refine r_iload dX5_seen_82 rfl ?_
                refine r_if_lt (tgt := 130) dX5_seen_84 (by decide) (fun c84 => ?_) (fun c84 => ?_)
                · skip
                  rw [dn_lt (by omega) (by omega)] at c84
                  refine r_aload_n dX5_seen_130 rfl ?_
                  refine r_iload dX5_seen_131 rfl ?_
                  refine r_if_ne (tgt := 141) dX5_seen_133 (by decide) (fun c133 => ?_) (fun c133 => ?_)
                  · skip
                    refine r_iload dX5_seen_141 rfl ?_
                    refine r_callVI (As := [.int (s_opt (s_sn wy r (fun k => w.2.1 ρ (a + k)) n k).2)]) (o := 0) (c_X5_fine B Dk E (s_opt (s_sn wy r (fun k => w.2.1 ρ (a + k)) n k).2)) hv_X5_fine wm_X5_86 dX5_seen_143 rfl rfl z_0 k_0 (by decide) rfl (Nat.le_of_ble_eq_true rfl) ⟨Nat.le_of_ble_eq_true rfl, Nat.le_of_ble_eq_true rfl, Nat.zero_le _, Nat.zero_le _⟩ ⟨rfl, rfl⟩ (fun z18 D19 E20 hz18 => ?_)
                    obtain ⟨hq1, hqD, hqE⟩ := hz18
                    obtain rfl := hqE.symm
                    subst hqD
                    subst hq1
                    refine r_iret2 dX5_seen_146 rfl ⟨Nat.zero_le _, Nat.zero_le _⟩ ?_
                    have hkr : k = r 0 := by omega
                    rw [if_pos c4, he2, ← hkr]
                    first
                      | exact ⟨(if_pos c133).symm, st_at, FXs.st hI, rfl⟩
                      | exact ⟨(if_neg c133).symm, st_at, FXs.st hI, rfl⟩
                  · skip
                    refine r_iload dX5_seen_136 rfl ?_
                    refine r_goto (tgt := 143) dX5_seen_138 (by decide) ?_
                    refine r_callVI (As := [.int (nI ((s_sn wy r (fun k => w.2.1 ρ (a + k)) n k).1))]) (o := 0) (c_X5_fine B Dk E (nI ((s_sn wy r (fun k => w.2.1 ρ (a + k)) n k).1))) hv_X5_fine wm_X5_86 dX5_seen_143 rfl rfl z_0 k_0 (by decide) rfl (Nat.le_of_ble_eq_true rfl) ⟨Nat.le_of_ble_eq_true rfl, Nat.le_of_ble_eq_true rfl, Nat.zero_le _, Nat.zero_le _⟩ ⟨rfl, rfl⟩ (fun z21 D22 E23 hz21 => ?_)
                    obtain ⟨hq1, hqD, hqE⟩ := hz21
                    obtain rfl := hqE.symm
                    subst hqD
                    subst hq1
                    refine r_iret2 dX5_seen_146 rfl ⟨Nat.zero_le _, Nat.zero_le _⟩ ?_
                    have hkr : k = r 0 := by omega
                    rw [if_pos c4, he2, ← hkr]
                    first
                      | exact ⟨(if_pos c133).symm, st_at, FXs.st hI, rfl⟩
                      | exact ⟨(if_neg c133).symm, st_at, FXs.st hI, rfl⟩
                · skip
                  rw [dn_lt (by omega) (by omega)] at c84
                  have hsl := s_sn_le (wy := wy) (r := r) (it := fun k => w.2.1 ρ (a + k)) (n := n) k
                  refine r_lv [(8, .int (nI (r 0 - 1 - k))), (7, .int (s_opt (s_sn wy r (fun k => w.2.1 ρ (a + k)) n k).2)), (6, .int (nI ((s_sn wy r (fun k => w.2.1 ρ (a + k)) n k).1))), (0, .ref (B + 0)), (1, .int (nI ρ)), (2, .int (nI a)), (3, .int (nI n)), (4, .int (nI wh))] (List.forall_mem_cons.mpr ⟨congrArg (fun x => some (Value.int x)) (dn_n (by omega)), List.forall_mem_cons.mpr ⟨rfl, List.forall_mem_cons.mpr ⟨rfl, List.forall_mem_cons.mpr ⟨rfl, List.forall_mem_cons.mpr ⟨rfl, List.forall_mem_cons.mpr ⟨rfl, List.forall_mem_cons.mpr ⟨rfl, List.forall_mem_cons.mpr ⟨rfl, fun _ h => absurd h List.not_mem_nil⟩⟩⟩⟩⟩⟩⟩⟩) ?_
                  refine r_aload_n dX5_seen_87 rfl ?_
                  refine r_getR (ci := 5) (k := 5) wf_X5_44 dX5_seen_88 z_0 k_0 (by decide) (by decide) (fun _ _ => rfl) f_0_5 ?_
                  refine r_aload_n dX5_seen_91 rfl ?_
                  refine r_getR (ci := 5) (k := 3) wf_X5_33 dX5_seen_92 z_0 k_0 (by decide) (by decide) (fun _ _ => rfl) f_0_3 ?_
                  refine r_callVV (As := [.ref (B + 21)]) (o := 173) (c_X0_take B Dk E 173 21 isC_p isC_n dj_pn) hv_X0_take wm_X5_140 dX5_seen_95 rfl rfl z_173 k_173 (by decide) rfl (Nat.le_of_ble_eq_true rfl) ⟨Nat.le_of_ble_eq_true rfl, Nat.le_of_ble_eq_true rfl, Nat.zero_le _, Nat.zero_le _⟩ ⟨rfl, rfl⟩ (fun D25 E26 hz24 => ?_)
                  obtain ⟨hqD, hqE⟩ := hz24
                  obtain rfl := hqE.symm
                  have hP : XP Dk D25 r := by rw [hqD]; exact XP.take l5 (hI.now hCn)
                  refine r_aload_n dX5_seen_98 rfl ?_
                  refine r_getR (ci := 5) (k := 5) wf_X5_44 dX5_seen_99 z_0 k_0 (by decide) (by decide) (fun _ _ => rfl) f_0_5 ?_
                  refine r_iload dX5_seen_102 rfl ?_
                  refine r_putI (ci := 0) (k := 1) wf_X5_169 dX5_seen_104 z_173 k_173 (by decide) (by decide) rfl rfl (fun D27 hD27 => ?_)
                  obtain rfl : D27 = upo D25 173 (upd (D25 173) 1 (nI (r 0 - 1 - k))) := hD27.trans up2_eq
                  refine r_aload_n dX5_seen_107 rfl ?_
                  refine r_iload_n dX5_seen_108 rfl ?_
                  refine r_iload_n dX5_seen_109 rfl ?_
                  refine r_iload_n dX5_seen_110 rfl ?_
                  refine r_callVI (As := [.int (nI ρ), .int (nI a), .int (nI n)]) (o := 0) (c_X5_comesAsTold B (upo D25 173 (upd (D25 173) 1 (nI (r 0 - 1 - k)))) E wy (rset r 1 (r 0 - 1 - k)) (WF_set hW (Or.inl ⟨rfl, by omega⟩)) (T2_set hT (by omega)) (HB_set hH (by omega)) (WY_set hY (by omega)) (CA_at hP.1) (LA_set (LA_upo ((hI.trans hP.2).LA hLl) (fun j hj => by omega)) (by omega)) ρ a n hρ (by omega) hn2) hv_X5_comesAsTold wm_X5_247 dX5_seen_111 rfl rfl z_0 k_0 (by decide) rfl (Nat.le_of_ble_eq_true rfl) ⟨Nat.le_of_ble_eq_true rfl, Nat.le_of_ble_eq_true rfl, Nat.zero_le _, Nat.zero_le _⟩ ⟨rfl, rfl⟩ (fun z28 D29 E30 hz28 => ?_)
                  obtain ⟨hq1, hS8, hqE⟩ := hz28
                  obtain rfl := hqE.symm
                  have hS9 : SX D D29 := (hI.trans hP.2).trans (fun q h1 h2 => (hS8 q h1 h2).trans (upo_n (by omega)))
                  have hfc : s_fits wy (rset r 1 (r 0 - 1 - k)) (fun j => (upo D25 173 (upd (D25 173) 1 (nI (r 0 - 1 - k)))) (5 + ρ) (a + j)) n = s_fits wy (rset r 1 (r 0 - 1 - k)) (fun j => w.2.1 ρ (a + j)) n := s_fits_congr (fun j hj => (congrFun ((upo_n (by omega)).trans ((hI.trans hP.2) (5 + ρ) (by omega) (by omega))) _).trans (hDf _ (by omega)))
                  obtain rfl : z28 = bI (s_fits wy (rset r 1 (r 0 - 1 - k)) (fun j => w.2.1 ρ (a + j)) n = true) := hq1.trans (bI_c (by rw [hfc]))
                  refine r_if_eq (tgt := 124) dX5_seen_114 (by decide) (fun c114 => ?_) (fun c114 => ?_)
                  · skip
                    rw [bI_0] at c114
                    have hs : s_sn wy r (fun k => w.2.1 ρ (a + k)) n (k + 1) = s_sn wy r (fun k => w.2.1 ρ (a + k)) n k := if_neg c114
                    refine r_lv [(8, .int (nI (r 0 - 1 - k))), (7, .int (s_opt (s_sn wy r (fun k => w.2.1 ρ (a + k)) n (k + 1)).2)), (6, .int (nI ((s_sn wy r (fun k => w.2.1 ρ (a + k)) n (k + 1)).1))), (0, .ref (B + 0)), (1, .int (nI ρ)), (2, .int (nI a)), (3, .int (nI n)), (4, .int (nI wh))] (List.forall_mem_cons.mpr ⟨rfl, List.forall_mem_cons.mpr ⟨congrArg (fun x => some (Value.int x)) ((congrArg (fun p : Nat × Option Nat => s_opt p.2) hs).symm), List.forall_mem_cons.mpr ⟨congrArg (fun x => some (Value.int x)) ((congrArg (fun p : Nat × Option Nat => nI p.1) hs).symm), List.forall_mem_cons.mpr ⟨rfl, List.forall_mem_cons.mpr ⟨rfl, List.forall_mem_cons.mpr ⟨rfl, List.forall_mem_cons.mpr ⟨rfl, List.forall_mem_cons.mpr ⟨rfl, fun _ h => absurd h List.not_mem_nil⟩⟩⟩⟩⟩⟩⟩⟩) ?_
                    refine r_iinc (nI (r 0) - nI 1 - nI (k + 1)) [(8, .int (nI (r 0) - nI 1 - nI (k + 1))), (7, .int (s_opt (s_sn wy r (fun k => w.2.1 ρ (a + k)) n (k + 1)).2)), (6, .int (nI ((s_sn wy r (fun k => w.2.1 ρ (a + k)) n (k + 1)).1))), (0, .ref (B + 0)), (1, .int (nI ρ)), (2, .int (nI a)), (3, .int (nI n)), (4, .int (nI wh))] dX5_seen_124 rfl (dn_s (by omega)) (by decide) rfl ?_
                    refine r_goto (tgt := 82) dX5_seen_127 (by decide) ?_
                    exact r_lv [(8, .int (nI (r 0) - nI 1 - nI (k + 1))), (7, .int (s_opt (s_sn wy r (fun k => w.2.1 ρ (a + k)) n (k + 1)).2)), (6, .int (nI ((s_sn wy r (fun k => w.2.1 ρ (a + k)) n (k + 1)).1))), (0, .ref (B + 0)), (1, .int (nI ρ)), (2, .int (nI a)), (3, .int (nI n)), (4, .int (nI wh))] (List.forall_mem_cons.mpr ⟨rfl, List.forall_mem_cons.mpr ⟨rfl, List.forall_mem_cons.mpr ⟨rfl, List.forall_mem_cons.mpr ⟨rfl, List.forall_mem_cons.mpr ⟨rfl, List.forall_mem_cons.mpr ⟨rfl, List.forall_mem_cons.mpr ⟨rfl, List.forall_mem_cons.mpr ⟨rfl, fun _ h => absurd h List.not_mem_nil⟩⟩⟩⟩⟩⟩⟩⟩) (ih (k + 1) D29 (by omega) (by omega) hS9)
                  · skip
                    rw [bI_n0] at c114
                    have hs : s_sn wy r (fun k => w.2.1 ρ (a + k)) n (k + 1) = ((s_sn wy r (fun k => w.2.1 ρ (a + k)) n k).1 + 1, some (r 0 - 1 - k)) := if_pos c114
                    refine r_iinc (nI (((s_sn wy r (fun k => w.2.1 ρ (a + k)) n k).1) + 1)) [(6, .int (nI (((s_sn wy r (fun k => w.2.1 ρ (a + k)) n k).1) + 1))), (8, .int (nI (r 0 - 1 - k))), (7, .int (s_opt (s_sn wy r (fun k => w.2.1 ρ (a + k)) n k).2)), (0, .ref (B + 0)), (1, .int (nI ρ)), (2, .int (nI a)), (3, .int (nI n)), (4, .int (nI wh))] dX5_seen_117 rfl (nI_1 _) (by decide) rfl ?_
                    refine r_iload dX5_seen_120 rfl ?_
                    refine r_istore [(7, .int (nI (r 0 - 1 - k))), (6, .int (nI (((s_sn wy r (fun k => w.2.1 ρ (a + k)) n k).1) + 1))), (8, .int (nI (r 0 - 1 - k))), (0, .ref (B + 0)), (1, .int (nI ρ)), (2, .int (nI a)), (3, .int (nI n)), (4, .int (nI wh))] dX5_seen_122 (by decide) rfl ?_
                    refine r_lv [(7, .int (s_opt (s_sn wy r (fun k => w.2.1 ρ (a + k)) n (k + 1)).2)), (6, .int (nI ((s_sn wy r (fun k => w.2.1 ρ (a + k)) n (k + 1)).1))), (8, .int (nI (r 0 - 1 - k))), (0, .ref (B + 0)), (1, .int (nI ρ)), (2, .int (nI a)), (3, .int (nI n)), (4, .int (nI wh))] (List.forall_mem_cons.mpr ⟨congrArg (fun x => some (Value.int x)) ((congrArg (fun p : Nat × Option Nat => s_opt p.2) hs).symm), List.forall_mem_cons.mpr ⟨congrArg (fun x => some (Value.int x)) ((congrArg (fun p : Nat × Option Nat => nI p.1) hs).symm), List.forall_mem_cons.mpr ⟨rfl, List.forall_mem_cons.mpr ⟨rfl, List.forall_mem_cons.mpr ⟨rfl, List.forall_mem_cons.mpr ⟨rfl, List.forall_mem_cons.mpr ⟨rfl, List.forall_mem_cons.mpr ⟨rfl, fun _ h => absurd h List.not_mem_nil⟩⟩⟩⟩⟩⟩⟩⟩) ?_
                    refine r_iinc (nI (r 0) - nI 1 - nI (k + 1)) [(8, .int (nI (r 0) - nI 1 - nI (k + 1))), (7, .int (s_opt (s_sn wy r (fun k => w.2.1 ρ (a + k)) n (k + 1)).2)), (6, .int (nI ((s_sn wy r (fun k => w.2.1 ρ (a + k)) n (k + 1)).1))), (0, .ref (B + 0)), (1, .int (nI ρ)), (2, .int (nI a)), (3, .int (nI n)), (4, .int (nI wh))] dX5_seen_124 rfl (dn_s (by omega)) (by decide) rfl ?_
                    refine r_goto (tgt := 82) dX5_seen_127 (by decide) ?_
                    exact r_lv [(8, .int (nI (r 0) - nI 1 - nI (k + 1))), (7, .int (s_opt (s_sn wy r (fun k => w.2.1 ρ (a + k)) n (k + 1)).2)), (6, .int (nI ((s_sn wy r (fun k => w.2.1 ρ (a + k)) n (k + 1)).1))), (0, .ref (B + 0)), (1, .int (nI ρ)), (2, .int (nI a)), (3, .int (nI n)), (4, .int (nI wh))] (List.forall_mem_cons.mpr ⟨rfl, List.forall_mem_cons.mpr ⟨rfl, List.forall_mem_cons.mpr ⟨rfl, List.forall_mem_cons.mpr ⟨rfl, List.forall_mem_cons.mpr ⟨rfl, List.forall_mem_cons.mpr ⟨rfl, List.forall_mem_cons.mpr ⟨rfl, List.forall_mem_cons.mpr ⟨rfl, fun _ h => absurd h List.not_mem_nil⟩⟩⟩⟩⟩⟩⟩⟩) (ih (k + 1) D29 (by omega) (by omega) hS9)
            exact r_lv [(8, .int (nI (r 0) - nI 1 - nI 0)), (7, .int (s_opt (s_sn wy r (fun k => w.2.1 ρ (a + k)) n 0).2)), (6, .int (nI ((s_sn wy r (fun k => w.2.1 ρ (a + k)) n 0).1))), (0, .ref (B + 0)), (1, .int (nI ρ)), (2, .int (nI a)), (3, .int (nI n)), (4, .int (nI wh))] (List.forall_mem_cons.mpr ⟨rfl, List.forall_mem_cons.mpr ⟨rfl, List.forall_mem_cons.mpr ⟨rfl, List.forall_mem_cons.mpr ⟨rfl, List.forall_mem_cons.mpr ⟨rfl, List.forall_mem_cons.mpr ⟨rfl, List.forall_mem_cons.mpr ⟨rfl, List.forall_mem_cons.mpr ⟨rfl, fun _ h => absurd h List.not_mem_nil⟩⟩⟩⟩⟩⟩⟩⟩) (L (r 0 + 1) 0 D (by omega) (by omega) SX.rf)
          · skip
            have hb : lkD (D 3 ρ) y (nI n) = nI 1 ∧ w.1 ρ = none ∨ lkD (D 3 ρ) y (nI n) = nI 2 ∧ ∃ l s, w.1 ρ = some (l, s) ∧ ¬ okInB s y (nI n) = true := by
              cases e : w.1 ρ with
              | none => rw [e] at h1; exact Or.inl ⟨lkD_n h1, rfl⟩
              | some p =>
                obtain ⟨l, s⟩ := p
                rw [e] at h1
                by_cases ok : okInB s y (nI n) = true
                · exact absurd (lkD_t h1 (okInB_iff.mp ok)) c54
                · exact Or.inr ⟨lkD_f h1 (fun q => ok (okInB_iff.mpr q)), l, s, rfl, ok⟩
            refine r_aload_n dX5_seen_57 rfl ?_
            refine r_iload dX5_seen_58 rfl ?_
            refine r_callVI (As := [.int (lkD (D 3 ρ) y (nI n))]) (o := 0) (c_X5_found B D E (lkD (D 3 ρ) y (nI n))) hv_X5_found wm_X5_78 dX5_seen_60 rfl rfl z_0 k_0 (by decide) rfl (Nat.le_of_ble_eq_true rfl) ⟨Nat.le_of_ble_eq_true rfl, Nat.le_of_ble_eq_true rfl, Nat.zero_le _, Nat.zero_le _⟩ ⟨rfl, rfl⟩ (fun z31 D32 E33 hz31 => ?_)
            obtain ⟨hq1, hqD, hqE⟩ := hz31
            obtain rfl := hqE.symm
            subst hqD
            refine r_iret2 dX5_seen_63 rfl ⟨Nat.zero_le _, Nat.zero_le _⟩ ?_
            rw [if_pos c4]
            rcases hb with ⟨b1, b2⟩ | ⟨b1, l, s, b2, b3⟩
            · rw [b2] at he
              rw [he, hq1, b1]
              exact ⟨fd_1, st_at, FXs.st SX.rf, rfl⟩
            · rw [b2] at he
              have he3 := he.trans (if_neg b3)
              rw [he3, hq1, b1]
              exact ⟨fd_2, st_at, FXs.st SX.rf, rfl⟩
        · skip
          rw [bI_0] at c34
          refine r_ldc wc_X5_77 dX5_seen_37 ?_
          refine r_iret2 dX5_seen_39 rfl ⟨Nat.zero_le _, Nat.zero_le _⟩ ?_
          rw [if_pos c4]
          have e : ∀ a b : Int32 × Int32, a = b → b = (-1000001, w.2.2) → (-1000001 : Int32) = a.1 ∧ D 0 15 = a.2 ∧ FXs D D ∧ E = E := fun a b h1 h2 => by rw [h1, h2]; exact ⟨rfl, hR.2, FXs.of SX.rf, rfl⟩
          refine e _ _ rfl ?_
          unfold g_seen
          first | rw [if_neg c14] | rw [if_pos c14, if_neg c24] | rw [if_pos c14, if_pos c24, if_neg c34]
  · skip
    rw [bI_0] at c4
    refine r_ldc wc_X5_152 dX5_seen_7 ?_
    refine r_iret2 dX5_seen_9 rfl ⟨Nat.zero_le _, Nat.zero_le _⟩ ?_
    rw [if_neg c4]
    exact ⟨rfl, hR.2, FXs.of SX.rf, rfl⟩
set_option maxRecDepth 100000 in
set_option maxHeartbeats 4000000 in
theorem c_X5_who (B : Nat) (D : DD) (E : EE) (wy : Nat → Nat) (r : Row) (hX : XL D wy r) (w : RWS) (hR : XR D w) (v x y t : Int32) : MR yX5_who cX5_who 8 (some .int) rX5_who B [.ref (B + 0), .int v, .int x, .int y, .int t] Z0 D E (Q2 Z0 (pI (fun r9 D' E' => r9 = (g_who wy r v x y t w).1 ∧ D' 0 15 = (g_who wy r v x y t w).2 ∧ FXs D D' ∧ E' = E))) := by
  obtain ⟨hO, hCn, hLl, hYY⟩ := id hX
  obtain ⟨l0, l5, l4, l6, l7, l8, l1⟩ := hO.le
  refine r_enter [(0, .ref (B + 0)), (1, .int v), (2, .int x), (3, .int y), (4, .int t)] hv_X5_who.1.2.2.2.2 (Nat.le_of_ble_eq_true rfl) rfl ?_
  refine r_aload_n dX5_who_0 rfl ?_
  refine r_iload_n dX5_who_1 rfl ?_
  refine r_callVI (As := [.int v]) (o := 0) (c_X5_isWisher B D E v (r 5) hLl.1.2.2.2.2) hv_X5_isWisher wm_X5_172 dX5_who_2 rfl rfl z_0 k_0 (by decide) rfl (Nat.le_of_ble_eq_true rfl) ⟨Nat.le_of_ble_eq_true rfl, Nat.le_of_ble_eq_true rfl, Nat.zero_le _, Nat.zero_le _⟩ ⟨rfl, rfl⟩ (fun z1 D2 E3 hz1 => ?_)
  obtain ⟨hqV, hqD, hqE⟩ := hz1
  obtain rfl : z1 = bI (nI 0 ≤ v ∧ v ≤ nI (r 5) - nI 1) := hqV
  obtain rfl := hqD.symm
  obtain rfl := hqE.symm
  refine r_if_eq (tgt := 26) dX5_who_5 (by decide) (fun c5 => ?_) (fun c5 => ?_)
  · skip
    rw [bI_0] at c5
    refine r_ldc wc_X5_77 dX5_who_26 ?_
    refine r_iret2 dX5_who_28 rfl ⟨Nat.zero_le _, Nat.zero_le _⟩ ?_
    have e : ∀ a b : Int32 × Int32, a = b → b = (-1000001, w.2.2) → (-1000001 : Int32) = a.1 ∧ D 0 15 = a.2 ∧ FXs D D ∧ E = E := fun a b h1 h2 => by rw [h1, h2]; exact ⟨rfl, hR.2, FXs.of SX.rf, rfl⟩
    refine e _ _ rfl ?_
    unfold g_who
    first | rw [if_neg c5] | rw [if_pos c5, if_neg c12] | rw [if_pos c5, if_pos c12, if_neg c23]
  · skip
    rw [bI_n0] at c5
    obtain ⟨wi, hwi, rfl⟩ := gd_n (by omega) c5
    obtain ⟨hW, hT, hH⟩ := hO.w hwi
    have hY := hYY hW
    obtain ⟨b1, b2, b3, b4, b5, b6, b7, b8⟩ := hW.1
    obtain ⟨⟨d1, d2⟩, d3, d4, d5, d6, ⟨d7, d8⟩, d9, d10⟩ := hW.2.2.1 wi hwi
    refine r_iload_n dX5_who_8 rfl ?_
    refine r_callSI (As := [.int x]) (c_X5_isRow B D E x) hs_X5_isRow wm_X5_69 rfl dX5_who_9 rfl rfl (Nat.le_of_ble_eq_true rfl) ⟨Nat.le_of_ble_eq_true rfl, Nat.le_of_ble_eq_true rfl, Nat.zero_le _, Nat.zero_le _⟩ ⟨rfl, rfl⟩ (fun z4 D5 E6 hz4 => ?_)
    obtain ⟨hqV, hqD, hqE⟩ := hz4
    obtain rfl : z4 = bI (nI 0 ≤ x ∧ x ≤ nI 7) := hqV
    obtain rfl := hqD.symm
    obtain rfl := hqE.symm
    refine r_if_eq (tgt := 26) dX5_who_12 (by decide) (fun c12 => ?_) (fun c12 => ?_)
    · skip
      rw [bI_0] at c12
      refine r_ldc wc_X5_77 dX5_who_26 ?_
      refine r_iret2 dX5_who_28 rfl ⟨Nat.zero_le _, Nat.zero_le _⟩ ?_
      have e : ∀ a b : Int32 × Int32, a = b → b = (-1000001, w.2.2) → (-1000001 : Int32) = a.1 ∧ D 0 15 = a.2 ∧ FXs D D ∧ E = E := fun a b h1 h2 => by rw [h1, h2]; exact ⟨rfl, hR.2, FXs.of SX.rf, rfl⟩
      refine e _ _ rfl ?_
      unfold g_who
      first | rw [if_neg c5] | rw [if_pos c5, if_neg c12] | rw [if_pos c5, if_pos c12, if_neg c23]
    · skip
      rw [bI_n0] at c12
      obtain ⟨ρ, -, hρ8, rfl⟩ := rg (by decide) (by decide) c12
      have hρ : ρ < 8 := by omega
      refine r_iload dX5_who_15 rfl ?_
      refine r_iconst (nI 1) dX5_who_17 (by decide) ?_
      refine r_bipush (nI 12) dX5_who_18 (by decide) ?_
      refine r_callSI (As := [.int t, .int (nI 1), .int (nI 12)]) (c_X5_within B D E t (nI 1) (nI 12)) hs_X5_within wm_X5_73 rfl dX5_who_20 rfl rfl (Nat.le_of_ble_eq_true rfl) ⟨Nat.le_of_ble_eq_true rfl, Nat.le_of_ble_eq_true rfl, Nat.zero_le _, Nat.zero_le _⟩ ⟨rfl, rfl⟩ (fun z7 D8 E9 hz7 => ?_)
      obtain ⟨hqV, hqD, hqE⟩ := hz7
      obtain rfl : z7 = bI (nI 1 ≤ t ∧ t ≤ nI 12) := hqV
      obtain rfl := hqD.symm
      obtain rfl := hqE.symm
      refine r_if_ne (tgt := 29) dX5_who_23 (by decide) (fun c23 => ?_) (fun c23 => ?_)
      · skip
        rw [bI_n0] at c23
        obtain ⟨n, hn1, hn2, rfl⟩ := rg (by decide) (by decide) c23
        have h1 := hR.1 ρ hρ
        have he : g_who wy r (nI wi) (nI ρ) y (nI n) w = (match w.1 ρ with
            | none => ((-1000011 : Int32), nI 1)
            | some (_, s) => if okInB s y (nI n) = true then (nI (s_wh wy r wi (fun k => w.2.1 ρ (y.toNatClampNeg + k)) n 5), nI 0) else (-1000012, nI 2)) := by
          unfold g_who
          rw [if_pos c5, if_pos c12, if_pos c23, nI_clamp (show ρ < 2 ^ 31 by omega), nI_clamp (show n < 2 ^ 31 by omega), nI_clamp (show wi < 2 ^ 31 by omega)]
          try rfl
        refine r_aload_n dX5_who_29 rfl ?_
        refine r_getR (ci := 5) (k := 0) wf_X5_10 dX5_who_30 z_0 k_0 (by decide) (by decide) (fun _ _ => rfl) f_0_0 ?_
        refine r_iload_n dX5_who_33 rfl ?_
        refine r_iload_n dX5_who_34 rfl ?_
        refine r_iload dX5_who_35 rfl ?_
        refine r_callVI (As := [.int (nI ρ), .int y, .int (nI n)]) (o := 1) (c_X3_look B D E ρ hρ y (nI n)) hv_X3_look wm_X5_89 dX5_who_37 rfl rfl z_1 k_1 (by decide) rfl (Nat.le_of_ble_eq_true rfl) ⟨Nat.le_of_ble_eq_true rfl, Nat.le_of_ble_eq_true rfl, Nat.zero_le _, Nat.zero_le _⟩ ⟨rfl, rfl⟩ (fun z10 D11 E12 hz10 => ?_)
        obtain ⟨hqV, hqD, hqE⟩ := hz10
        obtain rfl : z10 = lkD (D 3 ρ) y (nI n) := hqV
        obtain rfl := hqD.symm
        obtain rfl := hqE.symm
        refine r_istore [(5, .int (lkD (D 3 ρ) y (nI n))), (0, .ref (B + 0)), (1, .int (nI wi)), (2, .int (nI ρ)), (3, .int y), (4, .int (nI n))] dX5_who_40 (by decide) rfl ?_
        refine r_iload dX5_who_42 rfl ?_
        refine r_if_eq (tgt := 54) dX5_who_44 (by decide) (fun c44 => ?_) (fun c44 => ?_)
        · skip
          obtain ⟨l, s, a, hls, has, hsa, rfl⟩ : ∃ l s a : Nat, w.1 ρ = some (l, s) ∧ a + n ≤ s ∧ okIn s y (nI n) ∧ y = nI a := by
            cases e : w.1 ρ with
            | none => rw [e] at h1; rw [lkD_n h1] at c44; exact absurd c44 (by decide)
            | some p =>
              obtain ⟨l, s⟩ := p
              rw [e] at h1
              by_cases ok : okIn s y (nI n)
              · obtain ⟨a, b, h2, h3, h4⟩ := okIn_n (by have := h1.2.1; omega) ok
                have hb : n = b := (nI_eq (by omega) (by have := h1.2.1; omega)).mp h3
                exact ⟨l, s, a, rfl, by omega, ok, h2⟩
              · rw [lkD_f h1 ok] at c44; exact absurd c44 (by decide)
          rw [hls] at h1
          obtain ⟨hl2, hs40, hD2, hD3, hDf⟩ := id h1
          rw [hls] at he
          have he2 : g_who wy r (nI wi) (nI ρ) (nI a) (nI n) w = (nI (s_wh wy r wi (fun k => w.2.1 ρ (a + k)) n 5), nI 0) := by
            rw [he]
            show (if _ then _ else _) = _
            rw [if_pos (okInB_iff.mpr hsa), nI_clamp (show a < 2 ^ 31 by omega)]
          refine r_iconst (nI 0) dX5_who_54 (by decide) ?_
          refine r_istore [(6, .int (nI 0)), (5, .int (lkD (D 3 ρ) (nI a) (nI n))), (0, .ref (B + 0)), (1, .int (nI wi)), (2, .int (nI ρ)), (3, .int (nI a)), (4, .int (nI n))] dX5_who_55 (by decide) rfl ?_
          refine r_iconst (nI 1) dX5_who_57 (by decide) ?_
          refine r_istore [(7, .int (nI 1)), (6, .int (nI 0)), (5, .int (lkD (D 3 ρ) (nI a) (nI n))), (0, .ref (B + 0)), (1, .int (nI wi)), (2, .int (nI ρ)), (3, .int (nI a)), (4, .int (nI n))] dX5_who_58 (by decide) rfl ?_
          refine r_lv [(7, .int (nI (0 + 1))), (6, .int (nI (s_wh wy r wi (fun k => w.2.1 ρ (a + k)) n 0))), (5, .int (lkD (D 3 ρ) (nI a) (nI n))), (0, .ref (B + 0)), (1, .int (nI wi)), (2, .int (nI ρ)), (3, .int (nI a)), (4, .int (nI n))] (List.forall_mem_cons.mpr ⟨congrArg (fun x => some (Value.int x)) rfl, List.forall_mem_cons.mpr ⟨congrArg (fun x => some (Value.int x)) rfl, List.forall_mem_cons.mpr ⟨rfl, List.forall_mem_cons.mpr ⟨rfl, List.forall_mem_cons.mpr ⟨rfl, List.forall_mem_cons.mpr ⟨rfl, List.forall_mem_cons.mpr ⟨rfl, List.forall_mem_cons.mpr ⟨rfl, fun _ h => absurd h List.not_mem_nil⟩⟩⟩⟩⟩⟩⟩⟩) ?_
          have L : ∀ (fu k : Nat) (Dk : DD), k ≤ 5 → 5 - k < fu → (SX D Dk) → RW yX5_who cX5_who 8 (some .int) rX5_who B (Q2 Z0 (pI (fun r9 D' E' => r9 = (g_who wy r (nI wi) (nI ρ) (nI a) (nI n) w).1 ∧ D' 0 15 = (g_who wy r (nI wi) (nI ρ) (nI a) (nI n) w).2 ∧ FXs D D' ∧ E' = E))) Z0 Dk E 0 0 60 [(7, .int (nI (k + 1))), (6, .int (nI (s_wh wy r wi (fun k => w.2.1 ρ (a + k)) n k))), (0, .ref (B + 0)), (1, .int (nI wi)), (2, .int (nI ρ)), (3, .int (nI a)), (4, .int (nI n))] [] := by
            intro fu
            induction fu with
            | zero => intro k Dk hku hfu _; omega
            | succ fu ih =>
              intro k Dk hku hfu hI
              refine r_iload dX5_who_60 rfl ?_
              refine r_iconst (nI 5) dX5_who_62 (by decide) ?_
              refine r_icmp_gt (tgt := 113) dX5_who_63 (by decide) (fun c63 => ?_) (fun c63 => ?_)
              · skip
                rw [nI_ltI (by omega) (by omega)] at c63
                refine r_aload_n dX5_who_113 rfl ?_
                refine r_iload dX5_who_114 rfl ?_
                refine r_callVI (As := [.int (nI (s_wh wy r wi (fun k => w.2.1 ρ (a + k)) n k))]) (o := 0) (c_X5_fine B Dk E (nI (s_wh wy r wi (fun k => w.2.1 ρ (a + k)) n k))) hv_X5_fine wm_X5_86 dX5_who_116 rfl rfl z_0 k_0 (by decide) rfl (Nat.le_of_ble_eq_true rfl) ⟨Nat.le_of_ble_eq_true rfl, Nat.le_of_ble_eq_true rfl, Nat.zero_le _, Nat.zero_le _⟩ ⟨rfl, rfl⟩ (fun z13 D14 E15 hz13 => ?_)
                obtain ⟨hq1, hqD, hqE⟩ := hz13
                obtain rfl := hqE.symm
                subst hqD
                subst hq1
                refine r_iret2 dX5_who_119 rfl ⟨Nat.zero_le _, Nat.zero_le _⟩ ?_
                have hkr : k = 5 := by omega
                rw [he2]
                exact ⟨by rw [hkr], st_at, FXs.st hI, rfl⟩
              · skip
                rw [nI_ltI (by omega) (by omega)] at c63
                refine r_aload_n dX5_who_66 rfl ?_
                refine r_getR (ci := 5) (k := 5) wf_X5_44 dX5_who_67 z_0 k_0 (by decide) (by decide) (fun _ _ => rfl) f_0_5 ?_
                refine r_aload_n dX5_who_70 rfl ?_
                refine r_getR (ci := 5) (k := 3) wf_X5_33 dX5_who_71 z_0 k_0 (by decide) (by decide) (fun _ _ => rfl) f_0_3 ?_
                refine r_callVV (As := [.ref (B + 21)]) (o := 173) (c_X0_take B Dk E 173 21 isC_p isC_n dj_pn) hv_X0_take wm_X5_140 dX5_who_74 rfl rfl z_173 k_173 (by decide) rfl (Nat.le_of_ble_eq_true rfl) ⟨Nat.le_of_ble_eq_true rfl, Nat.le_of_ble_eq_true rfl, Nat.zero_le _, Nat.zero_le _⟩ ⟨rfl, rfl⟩ (fun D17 E18 hz16 => ?_)
                obtain ⟨hqD, hqE⟩ := hz16
                obtain rfl := hqE.symm
                have hP : XP Dk D17 r := by rw [hqD]; exact XP.take l5 (hI.now hCn)
                refine r_aload_n dX5_who_77 rfl ?_
                refine r_getR (ci := 5) (k := 5) wf_X5_44 dX5_who_78 z_0 k_0 (by decide) (by decide) (fun _ _ => rfl) f_0_5 ?_
                refine r_iload_n dX5_who_81 rfl ?_
                refine r_iload dX5_who_82 rfl ?_
                refine r_callVV (As := [.int (nI wi), .int (nI (k + 1))]) (o := 173) (c_X0_become B D17 E 173 wi (k + 1) isC_p r hP.1 hwi b7 (by omega) (by omega)) hv_X0_become wm_X5_250 dX5_who_84 rfl rfl z_173 k_173 (by decide) rfl (Nat.le_of_ble_eq_true rfl) ⟨Nat.le_of_ble_eq_true rfl, Nat.le_of_ble_eq_true rfl, Nat.zero_le _, Nat.zero_le _⟩ ⟨rfl, rfl⟩ (fun D20 E21 hz19 => ?_)
                obtain ⟨hF7, hC7, hqE⟩ := hz19
                obtain rfl := hqE.symm
                have hS7 : SX D D20 := (hI.trans hP.2).trans (fun q h1 h2 => hF7 q (by omega) (by omega))
                refine r_aload_n dX5_who_87 rfl ?_
                refine r_iload_n dX5_who_88 rfl ?_
                refine r_iload_n dX5_who_89 rfl ?_
                refine r_iload dX5_who_90 rfl ?_
                refine r_callVI (As := [.int (nI ρ), .int (nI a), .int (nI n)]) (o := 0) (c_X5_comesAsTold B D20 E wy (s_kd r wi (k + 1)) (WF_kd hW hwi (by omega) (by omega)) (T2_kd hT) (HB_kd hH) (WY_kd hY) hC7 (LA_kd (hS7.LA hLl)) ρ a n hρ (by omega) hn2) hv_X5_comesAsTold wm_X5_247 dX5_who_92 rfl rfl z_0 k_0 (by decide) rfl (Nat.le_of_ble_eq_true rfl) ⟨Nat.le_of_ble_eq_true rfl, Nat.le_of_ble_eq_true rfl, Nat.zero_le _, Nat.zero_le _⟩ ⟨rfl, rfl⟩ (fun z22 D23 E24 hz22 => ?_)
                obtain ⟨hq1, hS8, hqE⟩ := hz22
                obtain rfl := hqE.symm
                have hS9 : SX D D23 := hS7.trans hS8
                have hfc : s_fits wy (s_kd r wi (k + 1)) (fun j => D20 (5 + ρ) (a + j)) n = s_fits wy (s_kd r wi (k + 1)) (fun j => w.2.1 ρ (a + j)) n := s_fits_congr (fun j hj => (congrFun (hS7 (5 + ρ) (by omega) (by omega)) _).trans (hDf _ (by omega)))
                obtain rfl : z22 = bI (s_fits wy (s_kd r wi (k + 1)) (fun j => w.2.1 ρ (a + j)) n = true) := hq1.trans (bI_c (by rw [hfc]))
                refine r_if_eq (tgt := 107) dX5_who_95 (by decide) (fun c95 => ?_) (fun c95 => ?_)
                · skip
                  rw [bI_0] at c95
                  refine r_lv [(7, .int (nI (k + 1))), (6, .int (nI (s_wh wy r wi (fun k => w.2.1 ρ (a + k)) n (k + 1)))), (0, .ref (B + 0)), (1, .int (nI wi)), (2, .int (nI ρ)), (3, .int (nI a)), (4, .int (nI n))] (List.forall_mem_cons.mpr ⟨rfl, List.forall_mem_cons.mpr ⟨congrArg (fun x => some (Value.int x)) (congrArg nI (if_neg c95).symm), List.forall_mem_cons.mpr ⟨rfl, List.forall_mem_cons.mpr ⟨rfl, List.forall_mem_cons.mpr ⟨rfl, List.forall_mem_cons.mpr ⟨rfl, List.forall_mem_cons.mpr ⟨rfl, fun _ h => absurd h List.not_mem_nil⟩⟩⟩⟩⟩⟩⟩) ?_
                  refine r_iinc (nI ((k + 1) + 1)) [(7, .int (nI ((k + 1) + 1))), (6, .int (nI (s_wh wy r wi (fun k => w.2.1 ρ (a + k)) n (k + 1)))), (0, .ref (B + 0)), (1, .int (nI wi)), (2, .int (nI ρ)), (3, .int (nI a)), (4, .int (nI n))] dX5_who_107 rfl (nI_1 _) (by decide) rfl ?_
                  refine r_goto (tgt := 60) dX5_who_110 (by decide) ?_
                  exact r_lv [(7, .int (nI ((k + 1) + 1))), (6, .int (nI (s_wh wy r wi (fun k => w.2.1 ρ (a + k)) n (k + 1)))), (0, .ref (B + 0)), (1, .int (nI wi)), (2, .int (nI ρ)), (3, .int (nI a)), (4, .int (nI n))] (List.forall_mem_cons.mpr ⟨rfl, List.forall_mem_cons.mpr ⟨rfl, List.forall_mem_cons.mpr ⟨rfl, List.forall_mem_cons.mpr ⟨rfl, List.forall_mem_cons.mpr ⟨rfl, List.forall_mem_cons.mpr ⟨rfl, List.forall_mem_cons.mpr ⟨rfl, fun _ h => absurd h List.not_mem_nil⟩⟩⟩⟩⟩⟩⟩) (ih (k + 1) D23 (by omega) (by omega) hS9)
                · skip
                  rw [bI_n0] at c95
                  refine r_iload dX5_who_98 rfl ?_
                  refine r_iconst (nI 1) dX5_who_100 (by decide) ?_
                  refine r_iload dX5_who_101 rfl ?_
                  refine r_ishl dX5_who_103 (fun z25 hz25 => ?_)
                  obtain rfl : z25 = nI (2 ^ (k + 1)) := hz25.trans (shl_1 (by omega))
                  refine r_ior dX5_who_104 (fun z26 hz26 => ?_)
                  obtain rfl : z26 = nI (s_wh wy r wi (fun k => w.2.1 ρ (a + k)) n (k + 1)) := hz26.trans ((nI_or _ _).trans (congrArg nI (if_pos c95).symm))
                  refine r_istore [(6, .int (nI (s_wh wy r wi (fun k => w.2.1 ρ (a + k)) n (k + 1)))), (7, .int (nI (k + 1))), (0, .ref (B + 0)), (1, .int (nI wi)), (2, .int (nI ρ)), (3, .int (nI a)), (4, .int (nI n))] dX5_who_105 (by decide) rfl ?_
                  refine r_iinc (nI ((k + 1) + 1)) [(7, .int (nI ((k + 1) + 1))), (6, .int (nI (s_wh wy r wi (fun k => w.2.1 ρ (a + k)) n (k + 1)))), (0, .ref (B + 0)), (1, .int (nI wi)), (2, .int (nI ρ)), (3, .int (nI a)), (4, .int (nI n))] dX5_who_107 rfl (nI_1 _) (by decide) rfl ?_
                  refine r_goto (tgt := 60) dX5_who_110 (by decide) ?_
                  exact r_lv [(7, .int (nI ((k + 1) + 1))), (6, .int (nI (s_wh wy r wi (fun k => w.2.1 ρ (a + k)) n (k + 1)))), (0, .ref (B + 0)), (1, .int (nI wi)), (2, .int (nI ρ)), (3, .int (nI a)), (4, .int (nI n))] (List.forall_mem_cons.mpr ⟨rfl, List.forall_mem_cons.mpr ⟨rfl, List.forall_mem_cons.mpr ⟨rfl, List.forall_mem_cons.mpr ⟨rfl, List.forall_mem_cons.mpr ⟨rfl, List.forall_mem_cons.mpr ⟨rfl, List.forall_mem_cons.mpr ⟨rfl, fun _ h => absurd h List.not_mem_nil⟩⟩⟩⟩⟩⟩⟩) (ih (k + 1) D23 (by omega) (by omega) hS9)
          exact r_lv [(7, .int (nI (0 + 1))), (6, .int (nI (s_wh wy r wi (fun k => w.2.1 ρ (a + k)) n 0))), (0, .ref (B + 0)), (1, .int (nI wi)), (2, .int (nI ρ)), (3, .int (nI a)), (4, .int (nI n))] (List.forall_mem_cons.mpr ⟨rfl, List.forall_mem_cons.mpr ⟨rfl, List.forall_mem_cons.mpr ⟨rfl, List.forall_mem_cons.mpr ⟨rfl, List.forall_mem_cons.mpr ⟨rfl, List.forall_mem_cons.mpr ⟨rfl, List.forall_mem_cons.mpr ⟨rfl, fun _ h => absurd h List.not_mem_nil⟩⟩⟩⟩⟩⟩⟩) (L (5 + 1) 0 D (by omega) (by omega) SX.rf)
        · skip
          have hb : lkD (D 3 ρ) y (nI n) = nI 1 ∧ w.1 ρ = none ∨ lkD (D 3 ρ) y (nI n) = nI 2 ∧ ∃ l s, w.1 ρ = some (l, s) ∧ ¬ okInB s y (nI n) = true := by
            cases e : w.1 ρ with
            | none => rw [e] at h1; exact Or.inl ⟨lkD_n h1, rfl⟩
            | some p =>
              obtain ⟨l, s⟩ := p
              rw [e] at h1
              by_cases ok : okInB s y (nI n) = true
              · exact absurd (lkD_t h1 (okInB_iff.mp ok)) c44
              · exact Or.inr ⟨lkD_f h1 (fun q => ok (okInB_iff.mpr q)), l, s, rfl, ok⟩
          refine r_aload_n dX5_who_47 rfl ?_
          refine r_iload dX5_who_48 rfl ?_
          refine r_callVI (As := [.int (lkD (D 3 ρ) y (nI n))]) (o := 0) (c_X5_found B D E (lkD (D 3 ρ) y (nI n))) hv_X5_found wm_X5_78 dX5_who_50 rfl rfl z_0 k_0 (by decide) rfl (Nat.le_of_ble_eq_true rfl) ⟨Nat.le_of_ble_eq_true rfl, Nat.le_of_ble_eq_true rfl, Nat.zero_le _, Nat.zero_le _⟩ ⟨rfl, rfl⟩ (fun z27 D28 E29 hz27 => ?_)
          obtain ⟨hq1, hqD, hqE⟩ := hz27
          obtain rfl := hqE.symm
          subst hqD
          refine r_iret2 dX5_who_53 rfl ⟨Nat.zero_le _, Nat.zero_le _⟩ ?_
          rcases hb with ⟨b1, b2⟩ | ⟨b1, l, s, b2, b3⟩
          · rw [b2] at he
            rw [he, hq1, b1]
            exact ⟨fd_1, st_at, FXs.st SX.rf, rfl⟩
          · rw [b2] at he
            have he3 := he.trans (if_neg b3)
            rw [he3, hq1, b1]
            exact ⟨fd_2, st_at, FXs.st SX.rf, rfl⟩
      · skip
        rw [bI_0] at c23
        refine r_ldc wc_X5_77 dX5_who_26 ?_
        refine r_iret2 dX5_who_28 rfl ⟨Nat.zero_le _, Nat.zero_le _⟩ ?_
        have e : ∀ a b : Int32 × Int32, a = b → b = (-1000001, w.2.2) → (-1000001 : Int32) = a.1 ∧ D 0 15 = a.2 ∧ FXs D D ∧ E = E := fun a b h1 h2 => by rw [h1, h2]; exact ⟨rfl, hR.2, FXs.of SX.rf, rfl⟩
        refine e _ _ rfl ?_
        unfold g_who
        first | rw [if_neg c5] | rw [if_pos c5, if_neg c12] | rw [if_pos c5, if_pos c12, if_neg c23]
