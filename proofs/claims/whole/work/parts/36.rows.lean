set_option maxRecDepth 100000 in
set_option maxHeartbeats 4000000 in
theorem c_X3_isMissing (B : Nat) (D : DD) (E : EE) (ρ : Nat) (hρ : ρ < 8) : MR yX3_isMissing cX3_isMissing 2 (some .boolean) rX3_isMissing B [.ref (B + 1), .int (nI ρ)] Z0 D E (Q2 Z0 (pI (fun v D' E' => v = (bI (D 3 ρ = -1)) ∧ D' = D ∧ E' = E))) := by
  refine r_enter [(0, .ref (B + 1)), (1, .int (nI ρ))] hv_X3_isMissing.1.2.2.2.2 (Nat.le_of_ble_eq_true rfl) rfl ?_
  refine r_aload_n dX3_isMissing_0 rfl ?_
  refine r_getR (ci := 3) (k := 1) wf_X3_15 dX3_isMissing_1 z_1 k_1 (by decide) (by decide) (fun _ _ => rfl) f_1_1 ?_
  refine r_iload_n dX3_isMissing_4 rfl ?_
  refine r_iald dX3_isMissing_5 z_3 k_3 (vp_in_nI (by omega) (by decide)) (fun z1 hz1 => ?_)
  rw [nI_clamp (by omega)] at hz1
  subst hz1
  refine r_iconst ((-1)) dX3_isMissing_6 (by decide) ?_
  refine r_icmp_ne (tgt := 14) dX3_isMissing_7 (by decide) (fun c7 => ?_) (fun c7 => ?_)
  · skip
    refine r_iconst (nI 0) dX3_isMissing_14 (by decide) ?_
    refine r_zret2 dX3_isMissing_15 rfl ⟨Nat.zero_le _, Nat.zero_le _⟩ rfl ?_
    first | exact ⟨bI_t c7, rfl, rfl⟩ | exact ⟨bI_f c7, rfl, rfl⟩
  · skip
    refine r_iconst (nI 1) dX3_isMissing_10 (by decide) ?_
    refine r_goto (tgt := 15) dX3_isMissing_11 (by decide) ?_
    refine r_zret2 dX3_isMissing_15 rfl ⟨Nat.zero_le _, Nat.zero_le _⟩ rfl ?_
    first | exact ⟨bI_t c7, rfl, rfl⟩ | exact ⟨bI_f c7, rfl, rfl⟩
set_option maxRecDepth 100000 in
set_option maxHeartbeats 4000000 in
theorem c_X3_look (B : Nat) (D : DD) (E : EE) (ρ : Nat) (hρ : ρ < 8) (a b : Int32) : MR yX3_look cX3_look 4 (some .int) rX3_look B [.ref (B + 1), .int (nI ρ), .int a, .int b] Z0 D E (Q2 Z0 (pI (fun v D' E' => v = (lkD (D 3 ρ) a b) ∧ D' = D ∧ E' = E))) := by
  refine r_enter [(0, .ref (B + 1)), (1, .int (nI ρ)), (2, .int a), (3, .int b)] hv_X3_look.1.2.2.2.2 (Nat.le_of_ble_eq_true rfl) rfl ?_
  refine r_aload_n dX3_look_0 rfl ?_
  refine r_iload_n dX3_look_1 rfl ?_
  refine r_callVI (As := [.int (nI ρ)]) (o := 1) (c_X3_isMissing B D E ρ hρ) hv_X3_isMissing wm_X3_23 dX3_look_2 rfl rfl z_1 k_1 (by decide) rfl (Nat.le_of_ble_eq_true rfl) ⟨Nat.le_of_ble_eq_true rfl, Nat.le_of_ble_eq_true rfl, Nat.zero_le _, Nat.zero_le _⟩ ⟨rfl, rfl⟩ (fun z1 D2 E3 hz1 => ?_)
  obtain ⟨hqV, hqD, hqE⟩ := hz1
  obtain rfl : z1 = bI (D 3 ρ = -1) := hqV
  obtain rfl := hqD.symm
  obtain rfl := hqE.symm
  refine r_if_eq (tgt := 10) dX3_look_5 (by decide) (fun c5 => ?_) (fun c5 => ?_)
  · skip
    rw [bI_0] at c5
    refine r_iload_n dX3_look_10 rfl ?_
    refine r_if_lt (tgt := 40) dX3_look_11 (by decide) (fun c11 => ?_) (fun c11 => ?_)
    · skip
      refine r_iconst (nI 2) dX3_look_40 (by decide) ?_
      refine r_iret2 dX3_look_41 rfl ⟨Nat.zero_le _, Nat.zero_le _⟩ ?_
      refine ⟨?_, rfl, rfl⟩
      unfold lkD
      first
        | rw [if_pos c5]
        | rw [if_neg c5, if_pos c11]
        | rw [if_neg c5, if_neg c11, if_pos c15]
        | rw [if_neg c5, if_neg c11, if_neg c15, if_pos c25]
        | rw [if_neg c5, if_neg c11, if_neg c15, if_neg c25, if_pos c37]
        | rw [if_neg c5, if_neg c11, if_neg c15, if_neg c25, if_neg c37]
    · skip
      refine r_iload_n dX3_look_14 rfl ?_
      refine r_if_lt (tgt := 40) dX3_look_15 (by decide) (fun c15 => ?_) (fun c15 => ?_)
      · skip
        refine r_iconst (nI 2) dX3_look_40 (by decide) ?_
        refine r_iret2 dX3_look_41 rfl ⟨Nat.zero_le _, Nat.zero_le _⟩ ?_
        refine ⟨?_, rfl, rfl⟩
        unfold lkD
        first
          | rw [if_pos c5]
          | rw [if_neg c5, if_pos c11]
          | rw [if_neg c5, if_neg c11, if_pos c15]
          | rw [if_neg c5, if_neg c11, if_neg c15, if_pos c25]
          | rw [if_neg c5, if_neg c11, if_neg c15, if_neg c25, if_pos c37]
          | rw [if_neg c5, if_neg c11, if_neg c15, if_neg c25, if_neg c37]
      · skip
        refine r_iload_n dX3_look_18 rfl ?_
        refine r_aload_n dX3_look_19 rfl ?_
        refine r_getR (ci := 3) (k := 1) wf_X3_15 dX3_look_20 z_1 k_1 (by decide) (by decide) (fun _ _ => rfl) f_1_1 ?_
        refine r_iload_n dX3_look_23 rfl ?_
        refine r_iald dX3_look_24 z_3 k_3 (vp_in_nI (by omega) (by decide)) (fun z4 hz4 => ?_)
        rw [nI_clamp (by omega)] at hz4
        subst hz4
        refine r_icmp_gt (tgt := 40) dX3_look_25 (by decide) (fun c25 => ?_) (fun c25 => ?_)
        · skip
          refine r_iconst (nI 2) dX3_look_40 (by decide) ?_
          refine r_iret2 dX3_look_41 rfl ⟨Nat.zero_le _, Nat.zero_le _⟩ ?_
          refine ⟨?_, rfl, rfl⟩
          unfold lkD
          first
            | rw [if_pos c5]
            | rw [if_neg c5, if_pos c11]
            | rw [if_neg c5, if_neg c11, if_pos c15]
            | rw [if_neg c5, if_neg c11, if_neg c15, if_pos c25]
            | rw [if_neg c5, if_neg c11, if_neg c15, if_neg c25, if_pos c37]
            | rw [if_neg c5, if_neg c11, if_neg c15, if_neg c25, if_neg c37]
        · skip
          refine r_iload_n dX3_look_28 rfl ?_
          refine r_aload_n dX3_look_29 rfl ?_
          refine r_getR (ci := 3) (k := 1) wf_X3_15 dX3_look_30 z_1 k_1 (by decide) (by decide) (fun _ _ => rfl) f_1_1 ?_
          refine r_iload_n dX3_look_33 rfl ?_
          refine r_iald dX3_look_34 z_3 k_3 (vp_in_nI (by omega) (by decide)) (fun z5 hz5 => ?_)
          rw [nI_clamp (by omega)] at hz5
          subst hz5
          refine r_iload_n dX3_look_35 rfl ?_
          refine r_isub dX3_look_36 (fun z6 hz6 => ?_)
          subst hz6
          refine r_icmp_le (tgt := 42) dX3_look_37 (by decide) (fun c37 => ?_) (fun c37 => ?_)
          · skip
            refine r_iconst (nI 0) dX3_look_42 (by decide) ?_
            refine r_iret2 dX3_look_43 rfl ⟨Nat.zero_le _, Nat.zero_le _⟩ ?_
            refine ⟨?_, rfl, rfl⟩
            unfold lkD
            first
              | rw [if_pos c5]
              | rw [if_neg c5, if_pos c11]
              | rw [if_neg c5, if_neg c11, if_pos c15]
              | rw [if_neg c5, if_neg c11, if_neg c15, if_pos c25]
              | rw [if_neg c5, if_neg c11, if_neg c15, if_neg c25, if_pos c37]
              | rw [if_neg c5, if_neg c11, if_neg c15, if_neg c25, if_neg c37]
          · skip
            refine r_iconst (nI 2) dX3_look_40 (by decide) ?_
            refine r_iret2 dX3_look_41 rfl ⟨Nat.zero_le _, Nat.zero_le _⟩ ?_
            refine ⟨?_, rfl, rfl⟩
            unfold lkD
            first
              | rw [if_pos c5]
              | rw [if_neg c5, if_pos c11]
              | rw [if_neg c5, if_neg c11, if_pos c15]
              | rw [if_neg c5, if_neg c11, if_neg c15, if_pos c25]
              | rw [if_neg c5, if_neg c11, if_neg c15, if_neg c25, if_pos c37]
              | rw [if_neg c5, if_neg c11, if_neg c15, if_neg c25, if_neg c37]
  · skip
    rw [bI_n0] at c5
    refine r_iconst (nI 1) dX3_look_8 (by decide) ?_
    refine r_iret2 dX3_look_9 rfl ⟨Nat.zero_le _, Nat.zero_le _⟩ ?_
    refine ⟨?_, rfl, rfl⟩
    unfold lkD
    first
      | rw [if_pos c5]
      | rw [if_neg c5, if_pos c11]
      | rw [if_neg c5, if_neg c11, if_pos c15]
      | rw [if_neg c5, if_neg c11, if_neg c15, if_pos c25]
      | rw [if_neg c5, if_neg c11, if_neg c15, if_neg c25, if_pos c37]
      | rw [if_neg c5, if_neg c11, if_neg c15, if_neg c25, if_neg c37]
set_option maxRecDepth 100000 in
set_option maxHeartbeats 4000000 in
theorem c_X3_make (B : Nat) (D : DD) (E : EE) (ρ l n : Nat) (hρ : ρ < 8) (hl : l ≤ 2) (hn : n ≤ 40) : MR yX3_make cX3_make 5 none rX3_make B [.ref (B + 1), .int (nI ρ), .int (nI l), .int (nI n)] Z0 D E (Q2 Z0 (pV (fun D' E' => (∃ g, D' = upo (upo (upo D 2 (upd (D 2) ρ (nI l))) 3 (upd (D 3) ρ (nI n))) (5 + ρ) g ∧ ∀ j, j < n → g j = nI 0) ∧ E' = E))) := by
  refine r_enter [(0, .ref (B + 1)), (1, .int (nI ρ)), (2, .int (nI l)), (3, .int (nI n))] hv_X3_make.1.2.2.2.2 (Nat.le_of_ble_eq_true rfl) rfl ?_
  refine r_aload_n dX3_make_0 rfl ?_
  refine r_getR (ci := 3) (k := 0) wf_X3_9 dX3_make_1 z_1 k_1 (by decide) (by decide) (fun _ _ => rfl) f_1_0 ?_
  refine r_iload_n dX3_make_4 rfl ?_
  refine r_iload_n dX3_make_5 rfl ?_
  refine r_iast dX3_make_6 z_2 k_2 (vp_in_nI (by omega) (by decide)) (fun D1 hD1 => ?_)
  rw [nI_clamp (by omega)] at hD1
  obtain rfl : D1 = upo D 2 (upd (D 2) ρ (nI l)) := hD1.trans up2_eq
  refine r_aload_n dX3_make_7 rfl ?_
  refine r_getR (ci := 3) (k := 1) wf_X3_15 dX3_make_8 z_1 k_1 (by decide) (by decide) (fun _ _ => rfl) f_1_1 ?_
  refine r_iload_n dX3_make_11 rfl ?_
  refine r_iload_n dX3_make_12 rfl ?_
  refine r_iast dX3_make_13 z_3 k_3 (vp_in_nI (by omega) (by decide)) (fun D2 hD2 => ?_)
  rw [nI_clamp (by omega)] at hD2
  obtain rfl : D2 = upo (upo D 2 (upd (D 2) ρ (nI l))) 3 (upd (D 3) ρ (nI n)) := hD2.trans (up2_eq.trans (by rw [upo_n (show 3 ≠ 2 by decide)]))
  refine r_iconst (nI 0) dX3_make_14 (by decide) ?_
  refine r_istore [(4, .int (nI 0)), (0, .ref (B + 1)), (1, .int (nI ρ)), (2, .int (nI l)), (3, .int (nI n))] dX3_make_15 (by decide) rfl ?_
  refine r_D (D' := upo (upo (upo D 2 (upd (D 2) ρ (nI l))) 3 (upd (D 3) ρ (nI n))) (5 + ρ) (D (5 + ρ))) (upo_self ((upo_n (by omega)).trans (upo_n (by omega)))) ?_
  have L : ∀ (fu k : Nat) (gk : Nat → Int32), k ≤ n → n - k < fu → (∀ j, j < k → gk j = nI 0) → RW yX3_make cX3_make 5 none rX3_make B (Q2 Z0 (pV (fun D' E' => (∃ g, D' = upo (upo (upo D 2 (upd (D 2) ρ (nI l))) 3 (upd (D 3) ρ (nI n))) (5 + ρ) g ∧ ∀ j, j < n → g j = nI 0) ∧ E' = E))) Z0 (upo (upo (upo D 2 (upd (D 2) ρ (nI l))) 3 (upd (D 3) ρ (nI n))) (5 + ρ) gk) E 0 0 17 [(4, .int (nI k)), (0, .ref (B + 1)), (1, .int (nI ρ)), (2, .int (nI l)), (3, .int (nI n))] [] := by
    intro fu
    induction fu with
    | zero => intro k gk hku hfu _; omega
    | succ fu ih =>
      intro k gk hku hfu hI
      refine r_iload dX3_make_17 rfl ?_
      refine r_iload_n dX3_make_19 rfl ?_
      refine r_icmp_ge (tgt := 39) dX3_make_20 (by decide) (fun c20 => ?_) (fun c20 => ?_)
      · skip
        rw [nI_leI (by omega) (by omega)] at c20
        refine r_vret2 dX3_make_39 rfl ⟨Nat.zero_le _, Nat.zero_le _⟩ ?_
        exact ⟨⟨gk, rfl, fun j hj => hI j (by omega)⟩, rfl⟩
      · skip
        rw [nI_leI (by omega) (by omega)] at c20
        refine r_aload_n dX3_make_23 rfl ?_
        refine r_getR (ci := 3) (k := 2) wf_X3_20 dX3_make_24 z_1 k_1 (by decide) (by decide) (fun _ _ => rfl) f_1_2 ?_
        refine r_iload_n dX3_make_27 rfl ?_
        refine r_aald (v := 5 + ρ) dX3_make_28 z_4 k_4 (by decide) (vp_in_nI (by omega) (by decide)) (items_at ρ hρ) ?_
        refine r_iload dX3_make_29 rfl ?_
        refine r_iconst (nI 0) dX3_make_31 (by decide) ?_
        refine r_iast dX3_make_32 (items_z ρ hρ).1 (items_z ρ hρ).2 (vp_in_nI (by omega) (by decide)) (fun D3 hD3 => ?_)
        rw [nI_clamp (by omega)] at hD3
        obtain rfl : D3 = upo (upo (upo D 2 (upd (D 2) ρ (nI l))) 3 (upd (D 3) ρ (nI n))) (5 + ρ) (upd gk k (nI 0)) := hD3.trans up2_upo
        refine r_iinc (nI (k + 1)) [(4, .int (nI (k + 1))), (0, .ref (B + 1)), (1, .int (nI ρ)), (2, .int (nI l)), (3, .int (nI n))] dX3_make_33 rfl (nI_1 _) (by decide) rfl ?_
        refine r_goto (tgt := 17) dX3_make_36 (by decide) ?_
        exact r_lv [(4, .int (nI (k + 1))), (0, .ref (B + 1)), (1, .int (nI ρ)), (2, .int (nI l)), (3, .int (nI n))] (List.forall_mem_cons.mpr ⟨rfl, List.forall_mem_cons.mpr ⟨rfl, List.forall_mem_cons.mpr ⟨rfl, List.forall_mem_cons.mpr ⟨rfl, List.forall_mem_cons.mpr ⟨rfl, fun _ h => absurd h List.not_mem_nil⟩⟩⟩⟩⟩) (ih (k + 1) ((upd gk k (nI 0))) (by omega) (by omega) (fun j hj => (Nat.lt_succ_iff_lt_or_eq.mp hj).elim (fun h => (pk_un (by omega)).trans (hI j h)) (fun h => by rw [h]; exact pk_us)))
  exact r_lv [(4, .int (nI 0)), (0, .ref (B + 1)), (1, .int (nI ρ)), (2, .int (nI l)), (3, .int (nI n))] (List.forall_mem_cons.mpr ⟨rfl, List.forall_mem_cons.mpr ⟨rfl, List.forall_mem_cons.mpr ⟨rfl, List.forall_mem_cons.mpr ⟨rfl, List.forall_mem_cons.mpr ⟨rfl, fun _ h => absurd h List.not_mem_nil⟩⟩⟩⟩⟩) (L (n + 1) 0 ((D (5 + ρ))) (by omega) (by omega) (fun j hj => absurd hj (Nat.not_lt_zero j)))
set_option maxRecDepth 100000 in
set_option maxHeartbeats 4000000 in
theorem c_X3_put (B : Nat) (D : DD) (E : EE) (ρ l a : Nat) (v : Int32) (hρ : ρ < 8) (hl : D 2 ρ = nI l) (hl2 : l ≤ 2) (ha : a < 40) : MR yX3_put cX3_put 5 (some .int) rX3_put B [.ref (B + 1), .int (nI ρ), .int (nI a), .int v] Z0 D E (Q2 Z0 (pI (fun r D' E' => r = trn l v ∧ D' = upo D (5 + ρ) (upd (D (5 + ρ)) a (trn l v)) ∧ E' = E))) := by
  refine r_enter [(0, .ref (B + 1)), (1, .int (nI ρ)), (2, .int (nI a)), (3, .int v)] hv_X3_put.1.2.2.2.2 (Nat.le_of_ble_eq_true rfl) rfl ?_
  refine r_iload_n dX3_put_0 rfl ?_
  refine r_istore [(4, .int v), (0, .ref (B + 1)), (1, .int (nI ρ)), (2, .int (nI a)), (3, .int v)] dX3_put_1 (by decide) rfl ?_
  refine r_aload_n dX3_put_3 rfl ?_
  refine r_getR (ci := 3) (k := 0) wf_X3_9 dX3_put_4 z_1 k_1 (by decide) (by decide) (fun _ _ => rfl) f_1_0 ?_
  refine r_iload_n dX3_put_7 rfl ?_
  refine r_iald dX3_put_8 z_2 k_2 (vp_in_nI (by omega) (by decide)) (fun z1 hz1 => ?_)
  rw [nI_clamp (by omega)] at hz1
  obtain rfl : z1 = nI l := hz1.trans hl
  refine r_if_ne (tgt := 19) dX3_put_9 (by decide) (fun c9 => ?_) (fun c9 => ?_)
  · skip
    rw [nI_z (by omega)] at c9
    refine r_aload_n dX3_put_19 rfl ?_
    refine r_getR (ci := 3) (k := 0) wf_X3_9 dX3_put_20 z_1 k_1 (by decide) (by decide) (fun _ _ => rfl) f_1_0 ?_
    refine r_iload_n dX3_put_23 rfl ?_
    refine r_iald dX3_put_24 z_2 k_2 (vp_in_nI (by omega) (by decide)) (fun z2 hz2 => ?_)
    rw [nI_clamp (by omega)] at hz2
    obtain rfl : z2 = nI l := hz2.trans hl
    refine r_iconst (nI 1) dX3_put_25 (by decide) ?_
    refine r_icmp_ne (tgt := 33) dX3_put_26 (by decide) (fun c26 => ?_) (fun c26 => ?_)
    · skip
      rw [nI_eq (by omega) (by omega)] at c26
      refine r_lv [(4, .int (trn l v)), (0, .ref (B + 1)), (1, .int (nI ρ)), (2, .int (nI a)), (3, .int v)] (List.forall_mem_cons.mpr ⟨congrArg (fun x => some (Value.int x)) (((if_neg c9).trans (if_neg c26)).symm), List.forall_mem_cons.mpr ⟨rfl, List.forall_mem_cons.mpr ⟨rfl, List.forall_mem_cons.mpr ⟨rfl, List.forall_mem_cons.mpr ⟨rfl, fun _ h => absurd h List.not_mem_nil⟩⟩⟩⟩⟩) ?_
      refine r_aload_n dX3_put_33 rfl ?_
      refine r_getR (ci := 3) (k := 2) wf_X3_20 dX3_put_34 z_1 k_1 (by decide) (by decide) (fun _ _ => rfl) f_1_2 ?_
      refine r_iload_n dX3_put_37 rfl ?_
      refine r_aald (v := 5 + ρ) dX3_put_38 z_4 k_4 (by decide) (vp_in_nI (by omega) (by decide)) (items_at ρ hρ) ?_
      refine r_iload_n dX3_put_39 rfl ?_
      refine r_iload dX3_put_40 rfl ?_
      refine r_iast dX3_put_42 (items_z ρ hρ).1 (items_z ρ hρ).2 (vp_in_nI (by omega) (by decide)) (fun D3 hD3 => ?_)
      rw [nI_clamp (by omega)] at hD3
      obtain rfl : D3 = upo D (5 + ρ) (upd (D (5 + ρ)) a (trn l v)) := hD3.trans up2_eq
      refine r_iload dX3_put_43 rfl ?_
      refine r_iret2 dX3_put_45 rfl ⟨Nat.zero_le _, Nat.zero_le _⟩ ?_
      exact ⟨rfl, rfl, rfl⟩
    · skip
      rw [nI_eq (by omega) (by omega)] at c26
      refine r_iload_n dX3_put_29 rfl ?_
      refine r_i2s dX3_put_30 (fun z4 hz4 => ?_)
      subst hz4
      refine r_istore [(4, .int v.toInt16.toInt32), (0, .ref (B + 1)), (1, .int (nI ρ)), (2, .int (nI a)), (3, .int v)] dX3_put_31 (by decide) rfl ?_
      refine r_lv [(4, .int (trn l v)), (0, .ref (B + 1)), (1, .int (nI ρ)), (2, .int (nI a)), (3, .int v)] (List.forall_mem_cons.mpr ⟨congrArg (fun x => some (Value.int x)) (((if_neg c9).trans (if_pos c26)).symm), List.forall_mem_cons.mpr ⟨rfl, List.forall_mem_cons.mpr ⟨rfl, List.forall_mem_cons.mpr ⟨rfl, List.forall_mem_cons.mpr ⟨rfl, fun _ h => absurd h List.not_mem_nil⟩⟩⟩⟩⟩) ?_
      refine r_aload_n dX3_put_33 rfl ?_
      refine r_getR (ci := 3) (k := 2) wf_X3_20 dX3_put_34 z_1 k_1 (by decide) (by decide) (fun _ _ => rfl) f_1_2 ?_
      refine r_iload_n dX3_put_37 rfl ?_
      refine r_aald (v := 5 + ρ) dX3_put_38 z_4 k_4 (by decide) (vp_in_nI (by omega) (by decide)) (items_at ρ hρ) ?_
      refine r_iload_n dX3_put_39 rfl ?_
      refine r_iload dX3_put_40 rfl ?_
      refine r_iast dX3_put_42 (items_z ρ hρ).1 (items_z ρ hρ).2 (vp_in_nI (by omega) (by decide)) (fun D5 hD5 => ?_)
      rw [nI_clamp (by omega)] at hD5
      obtain rfl : D5 = upo D (5 + ρ) (upd (D (5 + ρ)) a (trn l v)) := hD5.trans up2_eq
      refine r_iload dX3_put_43 rfl ?_
      refine r_iret2 dX3_put_45 rfl ⟨Nat.zero_le _, Nat.zero_le _⟩ ?_
      exact ⟨rfl, rfl, rfl⟩
  · skip
    rw [nI_z (by omega)] at c9
    refine r_iload_n dX3_put_12 rfl ?_
    refine r_i2b dX3_put_13 (fun z6 hz6 => ?_)
    subst hz6
    refine r_istore [(4, .int v.toInt8.toInt32), (0, .ref (B + 1)), (1, .int (nI ρ)), (2, .int (nI a)), (3, .int v)] dX3_put_14 (by decide) rfl ?_
    refine r_lv [(4, .int (trn l v)), (0, .ref (B + 1)), (1, .int (nI ρ)), (2, .int (nI a)), (3, .int v)] (List.forall_mem_cons.mpr ⟨congrArg (fun x => some (Value.int x)) ((if_pos c9).symm), List.forall_mem_cons.mpr ⟨rfl, List.forall_mem_cons.mpr ⟨rfl, List.forall_mem_cons.mpr ⟨rfl, List.forall_mem_cons.mpr ⟨rfl, fun _ h => absurd h List.not_mem_nil⟩⟩⟩⟩⟩) ?_
    refine r_goto (tgt := 33) dX3_put_16 (by decide) ?_
    refine r_aload_n dX3_put_33 rfl ?_
    refine r_getR (ci := 3) (k := 2) wf_X3_20 dX3_put_34 z_1 k_1 (by decide) (by decide) (fun _ _ => rfl) f_1_2 ?_
    refine r_iload_n dX3_put_37 rfl ?_
    refine r_aald (v := 5 + ρ) dX3_put_38 z_4 k_4 (by decide) (vp_in_nI (by omega) (by decide)) (items_at ρ hρ) ?_
    refine r_iload_n dX3_put_39 rfl ?_
    refine r_iload dX3_put_40 rfl ?_
    refine r_iast dX3_put_42 (items_z ρ hρ).1 (items_z ρ hρ).2 (vp_in_nI (by omega) (by decide)) (fun D7 hD7 => ?_)
    rw [nI_clamp (by omega)] at hD7
    obtain rfl : D7 = upo D (5 + ρ) (upd (D (5 + ρ)) a (trn l v)) := hD7.trans up2_eq
    refine r_iload dX3_put_43 rfl ?_
    refine r_iret2 dX3_put_45 rfl ⟨Nat.zero_le _, Nat.zero_le _⟩ ?_
    exact ⟨rfl, rfl, rfl⟩
set_option maxRecDepth 100000 in
set_option maxHeartbeats 4000000 in
theorem c_X3_many (B : Nat) (D : DD) (E : EE) (w : RWS) (hX : XR D w) : MR yX3_many cX3_many 3 (some .int) rX3_many B [.ref (B + 1)] Z0 D E (Q2 Z0 (pI (fun v D' E' => v = (nI (s_rows w 8)) ∧ D' = D ∧ E' = E))) := by
  refine r_enter [(0, .ref (B + 1))] hv_X3_many.1.2.2.2.2 (Nat.le_of_ble_eq_true rfl) rfl ?_
  refine r_iconst (nI 0) dX3_many_0 (by decide) ?_
  refine r_istore_n [(1, .int (nI 0)), (0, .ref (B + 1))] dX3_many_1 (by decide) rfl ?_
  refine r_iconst (nI 0) dX3_many_2 (by decide) ?_
  refine r_istore_n [(2, .int (nI 0)), (1, .int (nI 0)), (0, .ref (B + 1))] dX3_many_3 (by decide) rfl ?_
  have L : ∀ fu k : Nat, k ≤ 8 → 8 - k < fu → RW yX3_many cX3_many 3 (some .int) rX3_many B (Q2 Z0 (pI (fun v D' E' => v = (nI (s_rows w 8)) ∧ D' = D ∧ E' = E))) Z0 D E 0 0 4 [(2, .int (nI k)), (1, .int (nI (s_rows w k))), (0, .ref (B + 1))] [] := by
    intro fu
    induction fu with
    | zero => intro k hku hfu; omega
    | succ fu ih =>
      intro k hku hfu 
      refine r_iload_n dX3_many_4 rfl ?_
      refine r_bipush (nI 8) dX3_many_5 (by decide) ?_
      refine r_icmp_ge (tgt := 27) dX3_many_7 (by decide) (fun c7 => ?_) (fun c7 => ?_)
      · skip
        rw [nI_leI (by omega) (by omega)] at c7
        refine r_iload_n dX3_many_27 rfl ?_
        refine r_iret2 dX3_many_28 rfl ⟨Nat.zero_le _, Nat.zero_le _⟩ ?_
        have hk8 : k = 8 := by omega
        exact ⟨by rw [hk8], rfl, rfl⟩
      · skip
        rw [nI_leI (by omega) (by omega)] at c7
        have hw := hX.1 k (by omega)
        refine r_aload_n dX3_many_10 rfl ?_
        refine r_iload_n dX3_many_11 rfl ?_
        refine r_callVI (As := [.int (nI k)]) (o := 1) (c_X3_isMissing B D E k (by omega)) hv_X3_isMissing wm_X3_23 dX3_many_12 rfl rfl z_1 k_1 (by decide) rfl (Nat.le_of_ble_eq_true rfl) ⟨Nat.le_of_ble_eq_true rfl, Nat.le_of_ble_eq_true rfl, Nat.zero_le _, Nat.zero_le _⟩ ⟨rfl, rfl⟩ (fun z1 D2 E3 hz1 => ?_)
        obtain ⟨hqV, hqD, hqE⟩ := hz1
        obtain rfl : z1 = bI (D 3 k = -1) := hqV
        obtain rfl := hqD.symm
        obtain rfl := hqE.symm
        refine r_if_ne (tgt := 21) dX3_many_15 (by decide) (fun c15 => ?_) (fun c15 => ?_)
        · skip
          rw [bI_n0] at c15
          have hs : s_rows w (k + 1) = s_rows w k := s_rows_n hw c15
          refine r_lv [(2, .int (nI k)), (1, .int (nI (s_rows w (k + 1)))), (0, .ref (B + 1))] (List.forall_mem_cons.mpr ⟨rfl, List.forall_mem_cons.mpr ⟨congrArg (fun x => some (Value.int x)) (congrArg nI hs.symm), List.forall_mem_cons.mpr ⟨rfl, fun _ h => absurd h List.not_mem_nil⟩⟩⟩) ?_
          refine r_iinc (nI (k + 1)) [(2, .int (nI (k + 1))), (1, .int (nI (s_rows w (k + 1)))), (0, .ref (B + 1))] dX3_many_21 rfl (nI_1 _) (by decide) rfl ?_
          refine r_goto (tgt := 4) dX3_many_24 (by decide) ?_
          exact r_lv [(2, .int (nI (k + 1))), (1, .int (nI (s_rows w (k + 1)))), (0, .ref (B + 1))] (List.forall_mem_cons.mpr ⟨rfl, List.forall_mem_cons.mpr ⟨rfl, List.forall_mem_cons.mpr ⟨rfl, fun _ h => absurd h List.not_mem_nil⟩⟩⟩) (ih (k + 1) (by omega) (by omega))
        · skip
          rw [bI_0] at c15
          have hs : s_rows w (k + 1) = s_rows w k + 1 := s_rows_s hw c15
          refine r_iinc (nI ((s_rows w k) + 1)) [(1, .int (nI ((s_rows w k) + 1))), (2, .int (nI k)), (0, .ref (B + 1))] dX3_many_18 rfl (nI_1 _) (by decide) rfl ?_
          refine r_lv [(1, .int (nI (s_rows w (k + 1)))), (2, .int (nI k)), (0, .ref (B + 1))] (List.forall_mem_cons.mpr ⟨congrArg (fun x => some (Value.int x)) (congrArg nI hs.symm), List.forall_mem_cons.mpr ⟨rfl, List.forall_mem_cons.mpr ⟨rfl, fun _ h => absurd h List.not_mem_nil⟩⟩⟩) ?_
          refine r_iinc (nI (k + 1)) [(2, .int (nI (k + 1))), (1, .int (nI (s_rows w (k + 1)))), (0, .ref (B + 1))] dX3_many_21 rfl (nI_1 _) (by decide) rfl ?_
          refine r_goto (tgt := 4) dX3_many_24 (by decide) ?_
          exact r_lv [(2, .int (nI (k + 1))), (1, .int (nI (s_rows w (k + 1)))), (0, .ref (B + 1))] (List.forall_mem_cons.mpr ⟨rfl, List.forall_mem_cons.mpr ⟨rfl, List.forall_mem_cons.mpr ⟨rfl, fun _ h => absurd h List.not_mem_nil⟩⟩⟩) (ih (k + 1) (by omega) (by omega))
  exact r_lv [(2, .int (nI 0)), (1, .int (nI (s_rows w 0))), (0, .ref (B + 1))] (List.forall_mem_cons.mpr ⟨rfl, List.forall_mem_cons.mpr ⟨rfl, List.forall_mem_cons.mpr ⟨rfl, fun _ h => absurd h List.not_mem_nil⟩⟩⟩) (L (8 + 1) 0 (by omega) (by omega))
set_option maxRecDepth 100000 in
set_option maxHeartbeats 4000000 in
theorem c_X5_row (B : Nat) (D : DD) (E : EE) (w : RWS) (hX : XR D w) (x y z : Int32) : MR yX5_row cX5_row 4 (some .int) rX5_row B [.ref (B + 0), .int x, .int y, .int z] Z0 D E (Q2 Z0 (pI (fun v D' E' => v = (g_row x y z w).1 ∧ XR D' (g_row x y z w).2 ∧ XFr D D' ∧ E' = E))) := by
  refine r_enter [(0, .ref (B + 0)), (1, .int x), (2, .int y), (3, .int z)] hv_X5_row.1.2.2.2.2 (Nat.le_of_ble_eq_true rfl) rfl ?_
  refine r_iload_n dX5_row_0 rfl ?_
  refine r_callSI (As := [.int x]) (c_X5_isRow B D E x) hs_X5_isRow wm_X5_69 rfl dX5_row_1 rfl rfl (Nat.le_of_ble_eq_true rfl) ⟨Nat.le_of_ble_eq_true rfl, Nat.le_of_ble_eq_true rfl, Nat.zero_le _, Nat.zero_le _⟩ ⟨rfl, rfl⟩ (fun z1 D2 E3 hz1 => ?_)
  obtain ⟨hqV, hqD, hqE⟩ := hz1
  obtain rfl : z1 = bI (nI 0 ≤ x ∧ x ≤ nI 7) := hqV
  obtain rfl := hqD.symm
  obtain rfl := hqE.symm
  refine r_if_eq (tgt := 22) dX5_row_4 (by decide) (fun c4 => ?_) (fun c4 => ?_)
  · skip
    rw [bI_0] at c4
    refine r_ldc wc_X5_77 dX5_row_22 ?_
    refine r_iret2 dX5_row_24 rfl ⟨Nat.zero_le _, Nat.zero_le _⟩ ?_
    have e : g_row x y z w = (-1000001, w) := by
      unfold g_row
      first | rw [if_neg c4] | rw [if_pos c4, if_neg c13] | rw [if_pos c4, if_pos c13, if_neg c19]
    rw [e]
    exact ⟨rfl, hX, XFr.rf, rfl⟩
  · skip
    rw [bI_n0] at c4
    refine r_iload_n dX5_row_7 rfl ?_
    refine r_iconst (nI 0) dX5_row_8 (by decide) ?_
    refine r_iconst (nI 2) dX5_row_9 (by decide) ?_
    refine r_callSI (As := [.int y, .int (nI 0), .int (nI 2)]) (c_X5_within B D E y (nI 0) (nI 2)) hs_X5_within wm_X5_73 rfl dX5_row_10 rfl rfl (Nat.le_of_ble_eq_true rfl) ⟨Nat.le_of_ble_eq_true rfl, Nat.le_of_ble_eq_true rfl, Nat.zero_le _, Nat.zero_le _⟩ ⟨rfl, rfl⟩ (fun z4 D5 E6 hz4 => ?_)
    obtain ⟨hqV, hqD, hqE⟩ := hz4
    obtain rfl : z4 = bI (nI 0 ≤ y ∧ y ≤ nI 2) := hqV
    obtain rfl := hqD.symm
    obtain rfl := hqE.symm
    refine r_if_eq (tgt := 22) dX5_row_13 (by decide) (fun c13 => ?_) (fun c13 => ?_)
    · skip
      rw [bI_0] at c13
      refine r_ldc wc_X5_77 dX5_row_22 ?_
      refine r_iret2 dX5_row_24 rfl ⟨Nat.zero_le _, Nat.zero_le _⟩ ?_
      have e : g_row x y z w = (-1000001, w) := by
        unfold g_row
        first | rw [if_neg c4] | rw [if_pos c4, if_neg c13] | rw [if_pos c4, if_pos c13, if_neg c19]
      rw [e]
      exact ⟨rfl, hX, XFr.rf, rfl⟩
    · skip
      rw [bI_n0] at c13
      refine r_iload_n dX5_row_16 rfl ?_
      refine r_bipush (nI 40) dX5_row_17 (by decide) ?_
      refine r_icmp_le (tgt := 25) dX5_row_19 (by decide) (fun c19 => ?_) (fun c19 => ?_)
      · skip
        refine r_iload_n dX5_row_25 rfl ?_
        refine r_if_ge (tgt := 35) dX5_row_26 (by decide) (fun c26 => ?_) (fun c26 => ?_)
        · skip
          have e : g_row x y z w = (z, (upo w.1 x.toNatClampNeg (some (y.toNatClampNeg, z.toNatClampNeg)), upo w.2.1 x.toNatClampNeg (fun _ => nI 0), nI 0)) := by
            unfold g_row
            rw [if_pos c4, if_pos c13, if_pos c19, if_pos c26]
          rw [e]
          obtain ⟨ρ, -, hρ8, rfl⟩ := rg (by decide) (by decide) c4
          have hρ : ρ < 8 := by omega
          obtain ⟨l, -, hl, rfl⟩ := rg (by decide) (by decide) c13
          obtain ⟨n, -, hn, rfl⟩ := rg (by decide) (by decide) (⟨nI_0 ▸ c26, c19⟩ : nI 0 ≤ z ∧ z ≤ nI 40)
          rw [nI_clamp (show ρ < 2 ^ 31 by omega), nI_clamp (show l < 2 ^ 31 by omega), nI_clamp (show n < 2 ^ 31 by omega)]
          refine r_aload_n dX5_row_35 rfl ?_
          refine r_getR (ci := 5) (k := 0) wf_X5_10 dX5_row_36 z_0 k_0 (by decide) (by decide) (fun _ _ => rfl) f_0_0 ?_
          refine r_iload_n dX5_row_39 rfl ?_
          refine r_iload_n dX5_row_40 rfl ?_
          refine r_iload_n dX5_row_41 rfl ?_
          refine r_callVV (As := [.int (nI ρ), .int (nI l), .int (nI n)]) (o := 1) (c_X3_make B D E ρ l n hρ hl hn) hv_X3_make wm_X5_82 dX5_row_42 rfl rfl z_1 k_1 (by decide) rfl (Nat.le_of_ble_eq_true rfl) ⟨Nat.le_of_ble_eq_true rfl, Nat.le_of_ble_eq_true rfl, Nat.zero_le _, Nat.zero_le _⟩ ⟨rfl, rfl⟩ (fun D8 E9 hz7 => ?_)
          obtain ⟨⟨g, hqD, hg⟩, hqE⟩ := hz7
          obtain rfl := hqE.symm
          subst hqD
          refine r_aload_n dX5_row_45 rfl ?_
          refine r_iload_n dX5_row_46 rfl ?_
          refine r_callVI (As := [.int (nI n)]) (o := 0) (c_X5_fine B (upo (upo (upo D 2 (upd (D 2) ρ (nI l))) 3 (upd (D 3) ρ (nI n))) (5 + ρ) g) E (nI n)) hv_X5_fine wm_X5_86 dX5_row_47 rfl rfl z_0 k_0 (by decide) rfl (Nat.le_of_ble_eq_true rfl) ⟨Nat.le_of_ble_eq_true rfl, Nat.le_of_ble_eq_true rfl, Nat.zero_le _, Nat.zero_le _⟩ ⟨rfl, rfl⟩ (fun z10 D11 E12 hz10 => ?_)
          obtain ⟨rfl, hqD, hqE⟩ := hz10
          obtain rfl := hqE.symm
          subst hqD
          refine r_iret2 dX5_row_50 rfl ⟨Nat.zero_le _, Nat.zero_le _⟩ ?_
          refine ⟨rfl, XR_set hX (show XW1 _ ρ (some (l, n)) _ from ⟨hl, hn, ?_, ?_, fun j hj => ?_⟩) (fun i hi => ⟨?_, ?_⟩) (fun i hi hiρ => ?_) ?_, ⟨fun q h1 h2 h3 h4 => ?_, fun f hf => ?_⟩, rfl⟩
          · exact (congrFun ((upo_n (by omega)).trans ((upo_n (by omega)).trans ((upo_n (by omega)).trans upo_s))) ρ).trans pk_us
          · exact (congrFun ((upo_n (by omega)).trans ((upo_n (by omega)).trans upo_s)) ρ).trans pk_us
          · exact (congrFun ((upo_n (by omega)).trans upo_s) j).trans (hg j hj)
          · exact (congrFun ((upo_n (by omega)).trans ((upo_n (by omega)).trans ((upo_n (by omega)).trans upo_s))) i).trans (pk_un hi)
          · exact (congrFun ((upo_n (by omega)).trans ((upo_n (by omega)).trans upo_s)) i).trans (pk_un hi)
          · exact (upo_n (by omega)).trans ((upo_n (by omega)).trans ((upo_n (by omega)).trans (upo_n (by omega))))
          · exact (congrFun upo_s 15).trans pk_us
          · exact (upo_n h1).trans ((upo_n (by omega)).trans ((upo_n h3).trans (upo_n h2)))
          · exact (congrFun upo_s f).trans ((pk_un hf).trans (congrFun ((upo_n (by omega)).trans ((upo_n (by decide)).trans (upo_n (by decide)))) f))
        · skip
          refine r_aload_n dX5_row_29 rfl ?_
          refine r_iconst (nI 4) dX5_row_30 (by decide) ?_
          refine r_callVI (As := [.int (nI 4)]) (o := 0) (c_X5_found B D E (nI 4)) hv_X5_found wm_X5_78 dX5_row_31 rfl rfl z_0 k_0 (by decide) rfl (Nat.le_of_ble_eq_true rfl) ⟨Nat.le_of_ble_eq_true rfl, Nat.le_of_ble_eq_true rfl, Nat.zero_le _, Nat.zero_le _⟩ ⟨rfl, rfl⟩ (fun z13 D14 E15 hz13 => ?_)
          obtain ⟨hq1, hqD, hqE⟩ := hz13
          obtain rfl := hqE.symm
          obtain rfl := hqD.symm
          obtain rfl : z13 = (-1000014) := hq1.trans fd_4
          refine r_iret2 dX5_row_34 rfl ⟨Nat.zero_le _, Nat.zero_le _⟩ ?_
          have e : g_row x y z w = (-1000014, (w.1, w.2.1, nI 4)) := by
            unfold g_row
            rw [if_pos c4, if_pos c13, if_pos c19, if_neg c26]
          rw [e]
          exact ⟨rfl, hX.st, XFr.st, rfl⟩
      · skip
        refine r_ldc wc_X5_77 dX5_row_22 ?_
        refine r_iret2 dX5_row_24 rfl ⟨Nat.zero_le _, Nat.zero_le _⟩ ?_
        have e : g_row x y z w = (-1000001, w) := by
          unfold g_row
          first | rw [if_neg c4] | rw [if_pos c4, if_neg c13] | rw [if_pos c4, if_pos c13, if_neg c19]
        rw [e]
        exact ⟨rfl, hX, XFr.rf, rfl⟩
