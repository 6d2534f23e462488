set_option maxRecDepth 100000 in
set_option maxHeartbeats 4000000 in
theorem c_X6_comesSo (B : Nat) (D : DD) (E : EE) (wy : Nat → Nat) (r : Row) (hW : WF r) (hH : HB r 999) (hY : WY wy r) (hM : MA D 225 r) (hwy : ∀ j, j < 6 * r 0 → D 228 j = nI (wy j)) (F n : Nat) (it : Nat → Int32) (hit : ∀ k, k < n → D 222 (F + k) = it k) (hF : F + n ≤ 320) (hn : n ≤ 12) : MR yX6_comesSo cX6_comesSo 5 (some .boolean) rX6_comesSo B [.ref (B + 219), .int (nI F), .int (nI n)] Z0 D E (Q2 Z0 (pI (fun v D' E' => v = bI (s_fits wy r it n = true) ∧ (∀ q, q ≠ 225 → q ≠ 229 → D' q = D q) ∧ E' = E))) := by
  refine r_enter [(0, .ref (B + 219)), (1, .int (nI F)), (2, .int (nI n))] hv_X6_comesSo.1.2.2.2.2 (Nat.le_of_ble_eq_true rfl) rfl ?_
  refine r_iconst (nI 1) dX6_comesSo_0 (by decide) ?_
  refine r_istore_n [(3, .int (nI 1)), (0, .ref (B + 219)), (1, .int (nI F)), (2, .int (nI n))] dX6_comesSo_1 (by decide) rfl ?_
  refine r_lv [(3, .int (bI (s_fits wy r it 0 = true))), (0, .ref (B + 219)), (1, .int (nI F)), (2, .int (nI n))] (List.forall_mem_cons.mpr ⟨congrArg (fun x => some (Value.int x)) (bI_t (s_fits_t (fun j hj => absurd hj (Nat.not_lt_zero j)))), List.forall_mem_cons.mpr ⟨rfl, List.forall_mem_cons.mpr ⟨rfl, List.forall_mem_cons.mpr ⟨rfl, fun _ h => absurd h List.not_mem_nil⟩⟩⟩⟩) ?_
  refine r_iconst (nI 0) dX6_comesSo_2 (by decide) ?_
  refine r_istore [(4, .int (nI 0)), (3, .int (bI (s_fits wy r it 0 = true))), (0, .ref (B + 219)), (1, .int (nI F)), (2, .int (nI n))] dX6_comesSo_3 (by decide) rfl ?_
  have L : ∀ (fu k : Nat) (Dk : DD), k ≤ n → n - k < fu → ((∀ q, q ≠ 225 → q ≠ 229 → Dk q = D q) ∧ MA Dk 225 (s_hours wy k r)) → RW yX6_comesSo cX6_comesSo 5 (some .boolean) rX6_comesSo B (Q2 Z0 (pI (fun v D' E' => v = bI (s_fits wy r it n = true) ∧ (∀ q, q ≠ 225 → q ≠ 229 → D' q = D q) ∧ E' = E))) Z0 Dk E 0 0 5 [(4, .int (nI k)), (3, .int (bI (s_fits wy r it k = true))), (0, .ref (B + 219)), (1, .int (nI F)), (2, .int (nI n))] [] := by
    intro fu
    induction fu with
    | zero => intro k Dk hku hfu _; omega
    | succ fu ih =>
      intro k Dk hku hfu hI
      refine r_iload dX6_comesSo_5 rfl ?_
      refine r_iload_n dX6_comesSo_7 rfl ?_
      refine r_icmp_ge (tgt := 68) dX6_comesSo_8 (by decide) (fun c8 => ?_) (fun c8 => ?_)
      · skip
        rw [nI_leI (by omega) (by omega)] at c8
        refine r_iload_n dX6_comesSo_68 rfl ?_
        refine r_zret2 dX6_comesSo_69 rfl ⟨Nat.zero_le _, Nat.zero_le _⟩ (narrow_bI _) ?_
        obtain rfl : k = n := by omega
        exact ⟨rfl, hI.1, rfl⟩
      · skip
        rw [nI_leI (by omega) (by omega)] at c8
        obtain ⟨t1, t3, t4⟩ := s_hours_w hW hH hY k
        obtain ⟨u1, u3, u4⟩ := s_hours_w hW hH hY (k + 1)
        obtain ⟨v1, v2, v3, -⟩ := t1.1
        obtain ⟨w1, w2, w3, -⟩ := u1.1
        refine r_aload_n dX6_comesSo_11 rfl ?_
        refine r_aload_n dX6_comesSo_12 rfl ?_
        refine r_getR (ci := 6) (k := 7) wf_X6_25 dX6_comesSo_13 z_219 k_219 (by decide) (by decide) (fun _ _ => rfl) f_219_7 ?_
        refine r_iconst (nI 0) dX6_comesSo_16 (by decide) ?_
        refine r_iconst (nI 0) dX6_comesSo_17 (by decide) ?_
        refine r_callVV (As := [.ref (B + 225), .int (nI 0), .int (nI 0)]) (o := 219) (c_X6_hour B Dk E 225 (Or.inr rfl) (s_hours wy k r) wy t1 (999 + k) t3 (by omega) hI.2 t4 (fun j hj => (congrFun (hI.1 228 (by decide) (by decide)) j).trans (hwy j (by rw [s_hours_0] at hj; exact hj)))) hv_X6_hour wm_X6_185 dX6_comesSo_18 rfl rfl z_219 k_219 (by decide) rfl (Nat.le_of_ble_eq_true rfl) ⟨Nat.le_of_ble_eq_true rfl, Nat.le_of_ble_eq_true rfl, Nat.zero_le _, Nat.zero_le _⟩ ⟨rfl, rfl⟩ (fun D2 E3 hz1 => ?_)
        obtain ⟨hF9, hC9, hqE⟩ := hz1
        obtain rfl := hqE.symm
        refine r_iload_n dX6_comesSo_21 rfl ?_
        refine r_if_eq (tgt := 60) dX6_comesSo_22 (by decide) (fun c22 => ?_) (fun c22 => ?_)
        · skip
          rw [bI_0] at c22
          refine r_iconst (nI 0) dX6_comesSo_60 (by decide) ?_
          refine r_istore_n [(3, .int (nI 0)), (4, .int (nI k)), (0, .ref (B + 219)), (1, .int (nI F)), (2, .int (nI n))] dX6_comesSo_61 (by decide) rfl ?_
          refine r_lv [(3, .int (bI (s_fits wy r it (k + 1) = true))), (4, .int (nI k)), (0, .ref (B + 219)), (1, .int (nI F)), (2, .int (nI n))] (List.forall_mem_cons.mpr ⟨congrArg (fun x => some (Value.int x)) ((by first | exact bI_t (fits_succ.mpr ⟨c22, s_told_t (by first | exact Or.inl c35 | exact Or.inr c53)⟩) | exact bI_f (fun q => c22 (fits_succ.mp q).1) | exact bI_f (fun q => s_told_f c35 c53 (fits_succ.mp q).2))), List.forall_mem_cons.mpr ⟨rfl, List.forall_mem_cons.mpr ⟨rfl, List.forall_mem_cons.mpr ⟨rfl, List.forall_mem_cons.mpr ⟨rfl, fun _ h => absurd h List.not_mem_nil⟩⟩⟩⟩⟩) ?_
          refine r_iinc (nI (k + 1)) [(4, .int (nI (k + 1))), (3, .int (bI (s_fits wy r it (k + 1) = true))), (0, .ref (B + 219)), (1, .int (nI F)), (2, .int (nI n))] dX6_comesSo_62 rfl (nI_1 _) (by decide) rfl ?_
          refine r_goto (tgt := 5) dX6_comesSo_65 (by decide) ?_
          exact r_lv [(4, .int (nI (k + 1))), (3, .int (bI (s_fits wy r it (k + 1) = true))), (0, .ref (B + 219)), (1, .int (nI F)), (2, .int (nI n))] (List.forall_mem_cons.mpr ⟨rfl, List.forall_mem_cons.mpr ⟨rfl, List.forall_mem_cons.mpr ⟨rfl, List.forall_mem_cons.mpr ⟨rfl, List.forall_mem_cons.mpr ⟨rfl, fun _ h => absurd h List.not_mem_nil⟩⟩⟩⟩⟩) (ih (k + 1) D2 (by omega) (by omega) (⟨fun q h1 h2 => (hF9 q h1 h2).trans (hI.1 q h1 h2), hC9⟩))
        · skip
          rw [bI_n0] at c22
          refine r_aload_n dX6_comesSo_25 rfl ?_
          refine r_getR (ci := 6) (k := 4) wf_X6_16 dX6_comesSo_26 z_219 k_219 (by decide) (by decide) (fun _ _ => rfl) f_219_4 ?_
          refine r_iload_n dX6_comesSo_29 rfl ?_
          refine r_iload dX6_comesSo_30 rfl ?_
          refine r_iadd dX6_comesSo_32 (fun z4 hz4 => ?_)
          obtain rfl : z4 = nI (F + k) := (hz4.trans (nI_add _ _))
          refine r_iald dX6_comesSo_33 z_222 k_222 (vp_in_nI (by omega) (by decide)) (fun z5 hz5 => ?_)
          rw [nI_clamp (by omega)] at hz5
          obtain rfl : z5 = it k := hz5.trans ((congrFun ((hF9 222 (by decide) (by decide)).trans (hI.1 222 (by decide) (by decide))) _).trans (hit k (by omega)))
          refine r_iconst ((-1)) dX6_comesSo_34 (by decide) ?_
          refine r_icmp_eq (tgt := 56) dX6_comesSo_35 (by decide) (fun c35 => ?_) (fun c35 => ?_)
          · skip
            refine r_iconst (nI 1) dX6_comesSo_56 (by decide) ?_
            refine r_goto (tgt := 61) dX6_comesSo_57 (by decide) ?_
            refine r_istore_n [(3, .int (nI 1)), (4, .int (nI k)), (0, .ref (B + 219)), (1, .int (nI F)), (2, .int (nI n))] dX6_comesSo_61 (by decide) rfl ?_
            refine r_lv [(3, .int (bI (s_fits wy r it (k + 1) = true))), (4, .int (nI k)), (0, .ref (B + 219)), (1, .int (nI F)), (2, .int (nI n))] (List.forall_mem_cons.mpr ⟨congrArg (fun x => some (Value.int x)) ((by first | exact bI_t (fits_succ.mpr ⟨c22, s_told_t (by first | exact Or.inl c35 | exact Or.inr c53)⟩) | exact bI_f (fun q => c22 (fits_succ.mp q).1) | exact bI_f (fun q => s_told_f c35 c53 (fits_succ.mp q).2))), List.forall_mem_cons.mpr ⟨rfl, List.forall_mem_cons.mpr ⟨rfl, List.forall_mem_cons.mpr ⟨rfl, List.forall_mem_cons.mpr ⟨rfl, fun _ h => absurd h List.not_mem_nil⟩⟩⟩⟩⟩) ?_
            refine r_iinc (nI (k + 1)) [(4, .int (nI (k + 1))), (3, .int (bI (s_fits wy r it (k + 1) = true))), (0, .ref (B + 219)), (1, .int (nI F)), (2, .int (nI n))] dX6_comesSo_62 rfl (nI_1 _) (by decide) rfl ?_
            refine r_goto (tgt := 5) dX6_comesSo_65 (by decide) ?_
            exact r_lv [(4, .int (nI (k + 1))), (3, .int (bI (s_fits wy r it (k + 1) = true))), (0, .ref (B + 219)), (1, .int (nI F)), (2, .int (nI n))] (List.forall_mem_cons.mpr ⟨rfl, List.forall_mem_cons.mpr ⟨rfl, List.forall_mem_cons.mpr ⟨rfl, List.forall_mem_cons.mpr ⟨rfl, List.forall_mem_cons.mpr ⟨rfl, fun _ h => absurd h List.not_mem_nil⟩⟩⟩⟩⟩) (ih (k + 1) D2 (by omega) (by omega) (⟨fun q h1 h2 => (hF9 q h1 h2).trans (hI.1 q h1 h2), hC9⟩))
          · skip
            refine r_aload_n dX6_comesSo_38 rfl ?_
            refine r_getR (ci := 6) (k := 4) wf_X6_16 dX6_comesSo_39 z_219 k_219 (by decide) (by decide) (fun _ _ => rfl) f_219_4 ?_
            refine r_iload_n dX6_comesSo_42 rfl ?_
            refine r_iload dX6_comesSo_43 rfl ?_
            refine r_iadd dX6_comesSo_45 (fun z6 hz6 => ?_)
            obtain rfl : z6 = nI (F + k) := (hz6.trans (nI_add _ _))
            refine r_iald dX6_comesSo_46 z_222 k_222 (vp_in_nI (by omega) (by decide)) (fun z7 hz7 => ?_)
            rw [nI_clamp (by omega)] at hz7
            obtain rfl : z7 = it k := hz7.trans ((congrFun ((hF9 222 (by decide) (by decide)).trans (hI.1 222 (by decide) (by decide))) _).trans (hit k (by omega)))
            refine r_aload_n dX6_comesSo_47 rfl ?_
            refine r_getR (ci := 6) (k := 7) wf_X6_25 dX6_comesSo_48 z_219 k_219 (by decide) (by decide) (fun _ _ => rfl) f_219_7 ?_
            refine r_iconst (nI 1) dX6_comesSo_51 (by decide) ?_
            refine r_iald dX6_comesSo_52 z_225 k_225 (vp_in_nI (by decide) (by decide)) (fun z8 hz8 => ?_)
            rw [nI_clamp (by omega)] at hz8
            obtain rfl : z8 = nI (s_hours wy (k + 1) r 1) := hz8.trans (hC9 1 (by decide))
            refine r_icmp_ne (tgt := 60) dX6_comesSo_53 (by decide) (fun c53 => ?_) (fun c53 => ?_)
            · skip
              refine r_iconst (nI 0) dX6_comesSo_60 (by decide) ?_
              refine r_istore_n [(3, .int (nI 0)), (4, .int (nI k)), (0, .ref (B + 219)), (1, .int (nI F)), (2, .int (nI n))] dX6_comesSo_61 (by decide) rfl ?_
              refine r_lv [(3, .int (bI (s_fits wy r it (k + 1) = true))), (4, .int (nI k)), (0, .ref (B + 219)), (1, .int (nI F)), (2, .int (nI n))] (List.forall_mem_cons.mpr ⟨congrArg (fun x => some (Value.int x)) ((by first | exact bI_t (fits_succ.mpr ⟨c22, s_told_t (by first | exact Or.inl c35 | exact Or.inr c53)⟩) | exact bI_f (fun q => c22 (fits_succ.mp q).1) | exact bI_f (fun q => s_told_f c35 c53 (fits_succ.mp q).2))), List.forall_mem_cons.mpr ⟨rfl, List.forall_mem_cons.mpr ⟨rfl, List.forall_mem_cons.mpr ⟨rfl, List.forall_mem_cons.mpr ⟨rfl, fun _ h => absurd h List.not_mem_nil⟩⟩⟩⟩⟩) ?_
              refine r_iinc (nI (k + 1)) [(4, .int (nI (k + 1))), (3, .int (bI (s_fits wy r it (k + 1) = true))), (0, .ref (B + 219)), (1, .int (nI F)), (2, .int (nI n))] dX6_comesSo_62 rfl (nI_1 _) (by decide) rfl ?_
              refine r_goto (tgt := 5) dX6_comesSo_65 (by decide) ?_
              exact r_lv [(4, .int (nI (k + 1))), (3, .int (bI (s_fits wy r it (k + 1) = true))), (0, .ref (B + 219)), (1, .int (nI F)), (2, .int (nI n))] (List.forall_mem_cons.mpr ⟨rfl, List.forall_mem_cons.mpr ⟨rfl, List.forall_mem_cons.mpr ⟨rfl, List.forall_mem_cons.mpr ⟨rfl, List.forall_mem_cons.mpr ⟨rfl, fun _ h => absurd h List.not_mem_nil⟩⟩⟩⟩⟩) (ih (k + 1) D2 (by omega) (by omega) (⟨fun q h1 h2 => (hF9 q h1 h2).trans (hI.1 q h1 h2), hC9⟩))
            · skip
              refine r_iconst (nI 1) dX6_comesSo_56 (by decide) ?_
              refine r_goto (tgt := 61) dX6_comesSo_57 (by decide) ?_
              refine r_istore_n [(3, .int (nI 1)), (4, .int (nI k)), (0, .ref (B + 219)), (1, .int (nI F)), (2, .int (nI n))] dX6_comesSo_61 (by decide) rfl ?_
              refine r_lv [(3, .int (bI (s_fits wy r it (k + 1) = true))), (4, .int (nI k)), (0, .ref (B + 219)), (1, .int (nI F)), (2, .int (nI n))] (List.forall_mem_cons.mpr ⟨congrArg (fun x => some (Value.int x)) ((by first | exact bI_t (fits_succ.mpr ⟨c22, s_told_t (by first | exact Or.inl c35 | exact Or.inr c53)⟩) | exact bI_f (fun q => c22 (fits_succ.mp q).1) | exact bI_f (fun q => s_told_f c35 c53 (fits_succ.mp q).2))), List.forall_mem_cons.mpr ⟨rfl, List.forall_mem_cons.mpr ⟨rfl, List.forall_mem_cons.mpr ⟨rfl, List.forall_mem_cons.mpr ⟨rfl, fun _ h => absurd h List.not_mem_nil⟩⟩⟩⟩⟩) ?_
              refine r_iinc (nI (k + 1)) [(4, .int (nI (k + 1))), (3, .int (bI (s_fits wy r it (k + 1) = true))), (0, .ref (B + 219)), (1, .int (nI F)), (2, .int (nI n))] dX6_comesSo_62 rfl (nI_1 _) (by decide) rfl ?_
              refine r_goto (tgt := 5) dX6_comesSo_65 (by decide) ?_
              exact r_lv [(4, .int (nI (k + 1))), (3, .int (bI (s_fits wy r it (k + 1) = true))), (0, .ref (B + 219)), (1, .int (nI F)), (2, .int (nI n))] (List.forall_mem_cons.mpr ⟨rfl, List.forall_mem_cons.mpr ⟨rfl, List.forall_mem_cons.mpr ⟨rfl, List.forall_mem_cons.mpr ⟨rfl, List.forall_mem_cons.mpr ⟨rfl, fun _ h => absurd h List.not_mem_nil⟩⟩⟩⟩⟩) (ih (k + 1) D2 (by omega) (by omega) (⟨fun q h1 h2 => (hF9 q h1 h2).trans (hI.1 q h1 h2), hC9⟩))
  exact r_lv [(4, .int (nI 0)), (3, .int (bI (s_fits wy r it 0 = true))), (0, .ref (B + 219)), (1, .int (nI F)), (2, .int (nI n))] (List.forall_mem_cons.mpr ⟨rfl, List.forall_mem_cons.mpr ⟨rfl, List.forall_mem_cons.mpr ⟨rfl, List.forall_mem_cons.mpr ⟨rfl, List.forall_mem_cons.mpr ⟨rfl, fun _ h => absurd h List.not_mem_nil⟩⟩⟩⟩⟩) (L (n + 1) 0 D (by omega) (by omega) (⟨fun _ _ _ => rfl, hM⟩))
