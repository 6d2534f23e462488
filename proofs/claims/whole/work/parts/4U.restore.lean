set_option maxRecDepth 100000 in
set_option maxHeartbeats 4000000 in
theorem c_X6_restore (B : Nat) (D : DD) (E : EE) (wy : Nat → Nat) (r : Row) (kp : Nat) (A : Nat → Row) (hX0 : XMK D wy r kp A) (im : IMS) (hI0 : KI D im) (hO : IMOK im) (x : Int32) : MR yX6_restore cX6_restore 3 (some .int) rX6_restore B [.ref (B + 219), .int x] Z0 D E (Q2 Z0 (pI (fun v D' E' => v = (a_restore r kp A wy im x).1 ∧ XMK D' (a_restore r kp A wy im x).2.2 (a_restore r kp A wy im x).2.1.1 (a_restore r kp A wy im x).2.1.2.1 (a_restore r kp A wy im x).2.1.2.2 ∧ FRr D D' ∧ E' = E))) := by
  have hX := hX0.th
  have hK := KI_th hI0
  refine r_enter [(0, .ref (B + 219)), (1, .int x)] hv_X6_restore.1.2.2.2.2 (Nat.le_of_ble_eq_true rfl) rfl ?_
  refine r_aload_n dX6_restore_0 rfl ?_
  refine r_iconst (nI 0) dX6_restore_1 (by decide) ?_
  refine r_putI (ci := 6) (k := 0) wf_X6_54 dX6_restore_2 z_219 k_219 (by decide) (by decide) rfl rfl (fun D1 hD1 => ?_)
  obtain rfl : D1 = thD D := hD1.trans up2_eq
  refine r_iload_n dX6_restore_5 rfl ?_
  refine r_i2l dX6_restore_6 (fun z2 hz2 => ?_)
  subst hz2
  refine r_lconst ((nI 0).toInt64) dX6_restore_7 (by decide) ?_
  refine r_lconst ((nI 1).toInt64) dX6_restore_8 (by decide) ?_
  refine r_callSI (As := [.long x.toInt64, .long ((nI 0).toInt64), .long ((nI 1).toInt64)]) (c_X6_in B (thD D) E x (nI 0) (nI 1)) hs_X6_in wm_X6_64 rfl dX6_restore_9 rfl rfl (Nat.le_of_ble_eq_true rfl) ⟨Nat.le_of_ble_eq_true rfl, Nat.le_of_ble_eq_true rfl, Nat.zero_le _, Nat.zero_le _⟩ ⟨rfl, rfl⟩ (fun z3 D4 E5 hz3 => ?_)
  obtain ⟨hqV, hqD, hqE⟩ := hz3
  obtain rfl : z3 = bI (nI 0 ≤ x ∧ x ≤ nI 1) := hqV
  obtain rfl := hqD.symm
  obtain rfl := hqE.symm
  refine r_if_ne (tgt := 18) dX6_restore_12 (by decide) (fun c12 => ?_) (fun c12 => ?_)
  · skip
    rw [bI_n0] at c12
    obtain ⟨a, ha1, ha2, rfl⟩ := rg (by decide) (by decide) c12
    have hKp := hK a (by omega)
    refine r_aload_n dX6_restore_18 rfl ?_
    refine r_getR (ci := 6) (k := 22) wf_X6_44 dX6_restore_19 z_219 k_219 (by decide) (by decide) (fun _ _ => rfl) f_219_22 ?_
    refine r_iload_n dX6_restore_22 rfl ?_
    refine r_zald dX6_restore_23 z_231 k_231 (vp_in_nI (by omega) (by decide)) (fun z6 hz6 => ?_)
    rw [nI_clamp (by omega)] at hz6
    obtain rfl : z6 = thD D 231 a := hz6
    refine r_if_ne (tgt := 30) dX6_restore_24 (by decide) (fun c24 => ?_) (fun c24 => ?_)
    · skip
      obtain ⟨p, hp⟩ := KI_s hKp c24
      obtain ⟨g1, g2, g3⟩ := hO a p (by omega) hp
      rw [hp] at hKp
      refine r_iconst (nI 0) dX6_restore_30 (by decide) ?_
      refine r_istore_n [(2, .int (nI 0)), (0, .ref (B + 219)), (1, .int (nI a))] dX6_restore_31 (by decide) rfl ?_
      have L : ∀ (fu k : Nat) (Dk : DD), k ≤ 64 → 64 - k < fu → ((∀ i, i ≠ 223 → Dk i = thD D i) ∧ ∀ j, j < k → Dk 223 j = nI (p.1 j)) → RW yX6_restore cX6_restore 3 (some .int) rX6_restore B (Q2 Z0 (pI (fun v D' E' => v = (a_restore r kp A wy im (nI a)).1 ∧ XMK D' (a_restore r kp A wy im (nI a)).2.2 (a_restore r kp A wy im (nI a)).2.1.1 (a_restore r kp A wy im (nI a)).2.1.2.1 (a_restore r kp A wy im (nI a)).2.1.2.2 ∧ FRr D D' ∧ E' = E))) Z0 Dk E 0 0 32 [(2, .int (nI k)), (0, .ref (B + 219)), (1, .int (nI a))] [] := by
        intro fu
        induction fu with
        | zero => intro k Dk hku hfu _; omega
        | succ fu ih =>
          intro k Dk hku hfu hI
          refine r_iload_n dX6_restore_32 rfl ?_
          refine r_bipush (nI 64) dX6_restore_33 (by decide) ?_
          refine r_icmp_ge (tgt := 61) dX6_restore_35 (by decide) (fun c35 => ?_) (fun c35 => ?_)
          · skip
            rw [nI_leI (by omega) (by omega)] at c35
            refine r_aload_n dX6_restore_61 rfl ?_
            refine r_iconst (nI 0) dX6_restore_62 (by decide) ?_
            refine r_putI (ci := 6) (k := 9) wf_X6_153 dX6_restore_63 z_219 k_219 (by decide) (by decide) rfl rfl (fun D7 hD7 => ?_)
            have hk64 : k = 64 := by omega
            rw [hk64] at hI
            have hM6 : MA D7 223 p.1 := fun j hj => by rw [hD7]; exact (congrFun (up2_o (by decide)) j).trans (hI.2 j hj)
            refine r_aload_n dX6_restore_66 rfl ?_
            refine r_callVV (As := []) (o := 219) (c_X6_layFar B D7 E p.1 g2 hM6) hv_X6_layFar wm_X6_156 dX6_restore_67 rfl rfl z_219 k_219 (by decide) rfl (Nat.le_of_ble_eq_true rfl) ⟨Nat.le_of_ble_eq_true rfl, Nat.le_of_ble_eq_true rfl, Nat.zero_le _, Nat.zero_le _⟩ ⟨rfl, rfl⟩ (fun D9 E10 hz8 => ?_)
            obtain ⟨hF1, hF2, hqE⟩ := hz8
            obtain rfl := hqE.symm
            rw [hD7] at hF1
            have hEE := re_end (A := A) g1 hI hF1 hF2
            refine r_iconst (nI 1) dX6_restore_70 (by decide) ?_
            refine r_iret2 dX6_restore_71 rfl ⟨Nat.zero_le _, Nat.zero_le _⟩ ?_
            unfold a_restore
            rw [if_pos c12, nI_clamp (by omega), hp]
            refine ⟨rfl, ?_, hEE.2, rfl⟩
            show XMK _ p.2 p.1 0 A
            rw [g3]
            exact hEE.1
          · skip
            rw [nI_leI (by omega) (by omega)] at c35
            refine r_aload_n dX6_restore_38 rfl ?_
            refine r_getR (ci := 6) (k := 5) wf_X6_19 dX6_restore_39 z_219 k_219 (by decide) (by decide) (fun _ _ => rfl) f_219_5 ?_
            refine r_iload_n dX6_restore_42 rfl ?_
            refine r_aload_n dX6_restore_43 rfl ?_
            refine r_getR (ci := 6) (k := 23) wf_X6_48 dX6_restore_44 z_219 k_219 (by decide) (by decide) (fun _ _ => rfl) f_219_23 ?_
            refine r_bipush (nI 64) dX6_restore_47 (by decide) ?_
            refine r_iload_n dX6_restore_49 rfl ?_
            refine r_imul dX6_restore_50 (fun z11 hz11 => ?_)
            obtain rfl : z11 = nI (64 * a) := (hz11.trans (pk_mul _ _))
            refine r_iload_n dX6_restore_51 rfl ?_
            refine r_iadd dX6_restore_52 (fun z12 hz12 => ?_)
            obtain rfl : z12 = nI ((64 * a) + k) := (hz12.trans (nI_add _ _))
            refine r_iald dX6_restore_53 z_232 k_232 (vp_in_nI (by omega) (by decide)) (fun z13 hz13 => ?_)
            rw [nI_clamp (by omega)] at hz13
            obtain rfl : z13 = nI (p.1 k) := hz13.trans ((congrFun (hI.1 232 (by decide)) _).trans (hKp.2 k (by omega)))
            refine r_iast dX6_restore_54 z_223 k_223 (vp_in_nI (by omega) (by decide)) (fun D14 hD14 => ?_)
            rw [nI_clamp (by omega)] at hD14
            have hN9 : (∀ i, i ≠ 223 → D14 i = thD D i) ∧ ∀ j, j < k + 1 → D14 223 j = nI (p.1 j) := by
              rw [hD14]
              refine ⟨fun q hq => (up2_o hq).trans (hI.1 q hq), fun j hj => ?_⟩
              by_cases e : j = k
              · subst e; exact up2_s
              · exact (up2_n (fun q => e q.2)).trans (hI.2 j (by omega))
            refine r_iinc (nI (k + 1)) [(2, .int (nI (k + 1))), (0, .ref (B + 219)), (1, .int (nI a))] dX6_restore_55 rfl (nI_1 _) (by decide) rfl ?_
            refine r_goto (tgt := 32) dX6_restore_58 (by decide) ?_
            exact r_lv [(2, .int (nI (k + 1))), (0, .ref (B + 219)), (1, .int (nI a))] (List.forall_mem_cons.mpr ⟨rfl, List.forall_mem_cons.mpr ⟨rfl, List.forall_mem_cons.mpr ⟨rfl, fun _ h => absurd h List.not_mem_nil⟩⟩⟩) (ih (k + 1) D14 (by omega) (by omega) hN9)
      exact r_lv [(2, .int (nI 0)), (0, .ref (B + 219)), (1, .int (nI a))] (List.forall_mem_cons.mpr ⟨rfl, List.forall_mem_cons.mpr ⟨rfl, List.forall_mem_cons.mpr ⟨rfl, fun _ h => absurd h List.not_mem_nil⟩⟩⟩) (L (64 + 1) 0 (thD D) (by omega) (by omega) (⟨fun _ _ => rfl, fun j hj => absurd hj (Nat.not_lt_zero j)⟩))
    · skip
      have hn := KI_n hKp c24
      refine r_ldc wc_X6_196 dX6_restore_27 ?_
      refine r_iret2 dX6_restore_29 rfl ⟨Nat.zero_le _, Nat.zero_le _⟩ ?_
      unfold a_restore
      rw [if_pos c12, nI_clamp (by omega), hn]
      exact ⟨rfl, hX, FRr.th, rfl⟩
  · skip
    rw [bI_0] at c12
    refine r_ldc wc_X6_74 dX6_restore_15 ?_
    refine r_iret2 dX6_restore_17 rfl ⟨Nat.zero_le _, Nat.zero_le _⟩ ?_
    unfold a_restore
    rw [if_neg c12]
    exact ⟨rfl, hX, FRr.th, rfl⟩
