set_option maxRecDepth 100000 in
set_option maxHeartbeats 4000000 in
theorem c_X6_layPulls (B : Nat) (D : DD) (E : EE) (q : Nat) (hq : q = 223 ∨ q = 225) (r : Row) (wy : Nat → Nat) (hW : WF r) (b : Nat) (hH : HB r b) (hb : b < 2 ^ 20) (hM : MA D q r) (hY : WY wy r) (hwy : ∀ j, j < 6 * r 0 → D 228 j = nI (wy j)) (sset pl : Nat) (mo : Int32) (hs : sset < 2 ^ 30) (hpl : pl < 2 ^ 30) : MR yX6_layPulls cX6_layPulls 6 none rX6_layPulls B [.ref (B + 219), .ref (B + q), .int (nI sset), .int (nI pl), .int mo] Z0 D E (Q2 Z0 (pV (fun D' E' => (∃ g, D' = upo D 229 g ∧ ∀ p, p < r 0 → g p = s_pull wy r sset pl mo p) ∧ E' = E))) := by
  have hql : q < Z0.1 := by rcases hq with rfl | rfl <;> decide
  have hqk : Z0.2.1 q = (10, 64) := by rcases hq with rfl | rfl <;> decide +kernel
  obtain ⟨⟨b1, b2, b3, b4, b5, b6, b7, b8⟩, b9, b10, b11⟩ := id hW
  obtain ⟨hb1, hb2, hb3⟩ := id hH
  have hM9 : ∀ f, MA (upo D 229 f) q r := fun f => MA_upo hM (by omega)
  have hw9 : ∀ f, ∀ j, j < 6 * r 0 → upo D 229 f 228 j = nI (wy j) := fun f j hj => (congrFun (upo_n (by decide)) j).trans (hwy j hj)
  refine r_enter [(0, .ref (B + 219)), (1, .ref (B + q)), (2, .int (nI sset)), (3, .int (nI pl)), (4, .int mo)] hv_X6_layPulls.1.2.2.2.2 (Nat.le_of_ble_eq_true rfl) rfl ?_
  refine r_iconst (nI 0) dX6_layPulls_0 (by decide) ?_
  refine r_istore [(5, .int (nI 0)), (0, .ref (B + 219)), (1, .ref (B + q)), (2, .int (nI sset)), (3, .int (nI pl)), (4, .int mo)] dX6_layPulls_1 (by decide) rfl ?_
  have L : ∀ fu k : Nat, k ≤ r 0 → r 0 - k < fu → RW yX6_layPulls cX6_layPulls 6 none rX6_layPulls B (Q2 Z0 (pV (fun D' E' => (∃ g, D' = upo D 229 g ∧ ∀ p, p < r 0 → g p = s_pull wy r sset pl mo p) ∧ E' = E))) Z0 (upo D 229 (v1 D wy r pl mo k)) E 0 0 3 [(5, .int (nI k)), (0, .ref (B + 219)), (1, .ref (B + q)), (2, .int (nI sset)), (3, .int (nI pl)), (4, .int mo)] [] := by
    intro fu
    induction fu with
    | zero => intro k hku hfu; omega
    | succ fu ih =>
      intro k hku hfu 
      refine r_iload dX6_layPulls_3 rfl ?_
      refine r_aload_n dX6_layPulls_5 rfl ?_
      refine r_iconst (nI 0) dX6_layPulls_6 (by decide) ?_
      refine r_iald dX6_layPulls_7 hql hqk (vp_in_nI (by decide) (by decide)) (fun z1 hz1 => ?_)
      rw [nI_clamp (by omega)] at hz1
      obtain rfl : z1 = nI (r 0) := hz1.trans ((congrFun (upo_n (by omega)) _).trans (hM 0 (by decide)))
      refine r_icmp_ge (tgt := 63) dX6_layPulls_8 (by decide) (fun c8 => ?_) (fun c8 => ?_)
      · skip
        rw [nI_leI (by omega) (by omega)] at c8
        have hk0 : k = r 0 := by omega
        refine r_D (D' := upo D 229 (s_pl wy r sset (v1 D wy r pl mo (r 0)) 0)) (congrArg (fun x => upo D 229 (v1 D wy r pl mo x)) hk0) ?_
        refine r_iconst (nI 0) dX6_layPulls_63 (by decide) ?_
        refine r_istore [(5, .int (nI 0)), (0, .ref (B + 219)), (1, .ref (B + q)), (2, .int (nI sset)), (3, .int (nI pl)), (4, .int mo)] dX6_layPulls_64 (by decide) rfl ?_
        have L2 : ∀ fu k : Nat, k ≤ r 5 → r 5 - k < fu → RW yX6_layPulls cX6_layPulls 6 none rX6_layPulls B (Q2 Z0 (pV (fun D' E' => (∃ g, D' = upo D 229 g ∧ ∀ p, p < r 0 → g p = s_pull wy r sset pl mo p) ∧ E' = E))) Z0 (upo D 229 (s_pl wy r sset (v1 D wy r pl mo (r 0)) k)) E 0 0 66 [(5, .int (nI k)), (0, .ref (B + 219)), (1, .ref (B + q)), (2, .int (nI sset)), (3, .int (nI pl)), (4, .int mo)] [] := by
          intro fu
          induction fu with
          | zero => intro k hku hfu; omega
          | succ fu ihL2 =>
            intro k hku hfu 
            refine r_iload dX6_layPulls_66 rfl ?_
            refine r_aload_n dX6_layPulls_68 rfl ?_
            refine r_iconst (nI 5) dX6_layPulls_69 (by decide) ?_
            refine r_iald dX6_layPulls_70 hql hqk (vp_in_nI (by decide) (by decide)) (fun z2 hz2 => ?_)
            rw [nI_clamp (by omega)] at hz2
            obtain rfl : z2 = nI (r 5) := hz2.trans ((congrFun (upo_n (by omega)) _).trans (hM 5 (by decide)))
            refine r_icmp_ge (tgt := 121) dX6_layPulls_71 (by decide) (fun c71 => ?_) (fun c71 => ?_)
            · skip
              rw [nI_leI (by omega) (by omega)] at c71
              refine r_vret2 dX6_layPulls_121 rfl ⟨Nat.zero_le _, Nat.zero_le _⟩ ?_
              refine ⟨⟨_, rfl, fun q hq => ?_⟩, rfl⟩
              rw [show k = r 5 by omega]
              exact s_pl_congr (fun p hp => if_pos hp) _ (fun w hw => (b10 w hw).2.2.1) q hq
            · skip
              rw [nI_leI (by omega) (by omega)] at c71
              refine r_iload_n dX6_layPulls_74 rfl ?_
              refine r_iload dX6_layPulls_75 rfl ?_
              refine r_ishr dX6_layPulls_77 (fun z3 hz3 => ?_)
              subst hz3
              refine r_iconst (nI 1) dX6_layPulls_78 (by decide) ?_
              refine r_iand dX6_layPulls_79 (fun z4 hz4 => ?_)
              obtain rfl : z4 = nI (sset / 2 ^ k % 2) := hz4.trans (bit_n (by omega) (by omega))
              refine r_iconst (nI 1) dX6_layPulls_80 (by decide) ?_
              refine r_icmp_ne (tgt := 115) dX6_layPulls_81 (by decide) (fun c81 => ?_) (fun c81 => ?_)
              · skip
                rw [nI_eq (by omega) (by omega)] at c81
                refine r_D (D' := upo D 229 (s_pl wy r sset (v1 D wy r pl mo (r 0)) (k + 1))) (congrArg (upo D 229) (by show _ = (if _ then _ else _); rw [if_neg (fun q => c81 q.1)])) ?_
                refine r_iinc (nI (k + 1)) [(5, .int (nI (k + 1))), (0, .ref (B + 219)), (1, .ref (B + q)), (2, .int (nI sset)), (3, .int (nI pl)), (4, .int mo)] dX6_layPulls_115 rfl (nI_1 _) (by decide) rfl ?_
                refine r_goto (tgt := 66) dX6_layPulls_118 (by decide) ?_
                exact r_lv [(5, .int (nI (k + 1))), (0, .ref (B + 219)), (1, .ref (B + q)), (2, .int (nI sset)), (3, .int (nI pl)), (4, .int mo)] (List.forall_mem_cons.mpr ⟨rfl, List.forall_mem_cons.mpr ⟨rfl, List.forall_mem_cons.mpr ⟨rfl, List.forall_mem_cons.mpr ⟨rfl, List.forall_mem_cons.mpr ⟨rfl, List.forall_mem_cons.mpr ⟨rfl, fun _ h => absurd h List.not_mem_nil⟩⟩⟩⟩⟩⟩) (ihL2 (k + 1) (by omega) (by omega))
              · skip
                rw [nI_eq (by omega) (by omega)] at c81
                refine r_aload_n dX6_layPulls_84 rfl ?_
                refine r_iload dX6_layPulls_85 rfl ?_
                refine r_callSI (As := [.ref (B + q), .int (nI k)]) (c_X6_wishes B (upo D 229 (s_pl wy r sset (v1 D wy r pl mo (r 0)) k)) E q hq r wy hW b hH hb (hM9 _) hY k (by omega)) hs_X6_wishes wm_X6_169 rfl dX6_layPulls_87 rfl rfl (Nat.le_of_ble_eq_true rfl) ⟨Nat.le_of_ble_eq_true rfl, Nat.le_of_ble_eq_true rfl, Nat.zero_le _, Nat.zero_le _⟩ ⟨rfl, rfl⟩ (fun z5 D6 E7 hz5 => ?_)
                obtain ⟨hqV, hqD, hqE⟩ := hz5
                obtain rfl : z5 = bI (s_wiB r k = true) := hqV
                obtain rfl := hqD.symm
                obtain rfl := hqE.symm
                refine r_if_eq (tgt := 115) dX6_layPulls_90 (by decide) (fun c90 => ?_) (fun c90 => ?_)
                · skip
                  rw [bI_0] at c90
                  refine r_D (D' := upo D 229 (s_pl wy r sset (v1 D wy r pl mo (r 0)) (k + 1))) (congrArg (upo D 229) (by show _ = (if _ then _ else _); rw [if_neg (fun q => c90 q.2)])) ?_
                  refine r_iinc (nI (k + 1)) [(5, .int (nI (k + 1))), (0, .ref (B + 219)), (1, .ref (B + q)), (2, .int (nI sset)), (3, .int (nI pl)), (4, .int mo)] dX6_layPulls_115 rfl (nI_1 _) (by decide) rfl ?_
                  refine r_goto (tgt := 66) dX6_layPulls_118 (by decide) ?_
                  exact r_lv [(5, .int (nI (k + 1))), (0, .ref (B + 219)), (1, .ref (B + q)), (2, .int (nI sset)), (3, .int (nI pl)), (4, .int mo)] (List.forall_mem_cons.mpr ⟨rfl, List.forall_mem_cons.mpr ⟨rfl, List.forall_mem_cons.mpr ⟨rfl, List.forall_mem_cons.mpr ⟨rfl, List.forall_mem_cons.mpr ⟨rfl, List.forall_mem_cons.mpr ⟨rfl, fun _ h => absurd h List.not_mem_nil⟩⟩⟩⟩⟩⟩) (ihL2 (k + 1) (by omega) (by omega))
                · skip
                  rw [bI_n0] at c90
                  refine r_aload_n dX6_layPulls_93 rfl ?_
                  refine r_getR (ci := 6) (k := 20) wf_X6_37 dX6_layPulls_94 z_219 k_219 (by decide) (by decide) (fun _ _ => rfl) f_219_20 ?_
                  refine r_aload_n dX6_layPulls_97 rfl ?_
                  refine r_iload dX6_layPulls_98 rfl ?_
                  refine r_iconst (nI 2) dX6_layPulls_100 (by decide) ?_
                  refine r_callSI (As := [.ref (B + q), .int (nI k), .int (nI 2)]) (c_X6_of B (upo D 229 (s_pl wy r sset (v1 D wy r pl mo (r 0)) k)) E q hq k 2 (by omega)) hs_X6_of wm_X6_159 rfl dX6_layPulls_101 rfl rfl (Nat.le_of_ble_eq_true rfl) ⟨Nat.le_of_ble_eq_true rfl, Nat.le_of_ble_eq_true rfl, Nat.zero_le _, Nat.zero_le _⟩ ⟨rfl, rfl⟩ (fun z8 D9 E10 hz8 => ?_)
                  have hq18 := (b10 k (by omega)).2.2.1
                  obtain ⟨hq1, hqD, hqE⟩ := hz8
                  obtain rfl := hqD.symm
                  obtain rfl := hqE.symm
                  obtain rfl : z8 = nI (r (18 + 8 * k)) := hq1.trans (MA_at (hM9 _) (by omega) (by omega))
                  refine r_dup2 dX6_layPulls_104 rfl rfl ?_
                  refine r_iald dX6_layPulls_105 z_229 k_229 (vp_in_nI (by omega) (by decide)) (fun z11 hz11 => ?_)
                  rw [nI_clamp (by omega)] at hz11
                  obtain rfl : z11 = s_pl wy r sset (v1 D wy r pl mo (r 0)) k (r (18 + 8 * k)) := hz11.trans (congrFun upo_s _)
                  refine r_aload_n dX6_layPulls_106 rfl ?_
                  refine r_aload_n dX6_layPulls_107 rfl ?_
                  refine r_iload dX6_layPulls_108 rfl ?_
                  refine r_callVI (As := [.ref (B + q), .int (nI k)]) (o := 219) (c_X6_wishBy B (upo D 229 (s_pl wy r sset (v1 D wy r pl mo (r 0)) k)) E q hq r wy hW b hH hb (hM9 _) hY (hw9 _) k (by omega)) hv_X6_wishBy wm_X6_173 dX6_layPulls_110 rfl rfl z_219 k_219 (by decide) rfl (Nat.le_of_ble_eq_true rfl) ⟨Nat.le_of_ble_eq_true rfl, Nat.le_of_ble_eq_true rfl, Nat.zero_le _, Nat.zero_le _⟩ ⟨rfl, rfl⟩ (fun z12 D13 E14 hz12 => ?_)
                  obtain ⟨hqV, hqD, hqE⟩ := hz12
                  obtain rfl : z12 = nI (s_wish wy r k) := hqV
                  obtain rfl := hqD.symm
                  obtain rfl := hqE.symm
                  refine r_iadd dX6_layPulls_113 (fun z15 hz15 => ?_)
                  subst hz15
                  refine r_iast dX6_layPulls_114 z_229 k_229 (vp_in_nI (by omega) (by decide)) (fun D16 hD16 => ?_)
                  rw [nI_clamp (by omega)] at hD16
                  obtain rfl : D16 = upo D 229 (s_pl wy r sset (v1 D wy r pl mo (r 0)) (k + 1)) := hD16.trans (up2_upo.trans (congrArg (upo D 229) (by show _ = (if _ then _ else _); rw [if_pos ⟨c81, c90⟩])))
                  refine r_iinc (nI (k + 1)) [(5, .int (nI (k + 1))), (0, .ref (B + 219)), (1, .ref (B + q)), (2, .int (nI sset)), (3, .int (nI pl)), (4, .int mo)] dX6_layPulls_115 rfl (nI_1 _) (by decide) rfl ?_
                  refine r_goto (tgt := 66) dX6_layPulls_118 (by decide) ?_
                  exact r_lv [(5, .int (nI (k + 1))), (0, .ref (B + 219)), (1, .ref (B + q)), (2, .int (nI sset)), (3, .int (nI pl)), (4, .int mo)] (List.forall_mem_cons.mpr ⟨rfl, List.forall_mem_cons.mpr ⟨rfl, List.forall_mem_cons.mpr ⟨rfl, List.forall_mem_cons.mpr ⟨rfl, List.forall_mem_cons.mpr ⟨rfl, List.forall_mem_cons.mpr ⟨rfl, fun _ h => absurd h List.not_mem_nil⟩⟩⟩⟩⟩⟩) (ihL2 (k + 1) (by omega) (by omega))
        exact r_lv [(5, .int (nI 0)), (0, .ref (B + 219)), (1, .ref (B + q)), (2, .int (nI sset)), (3, .int (nI pl)), (4, .int mo)] (List.forall_mem_cons.mpr ⟨rfl, List.forall_mem_cons.mpr ⟨rfl, List.forall_mem_cons.mpr ⟨rfl, List.forall_mem_cons.mpr ⟨rfl, List.forall_mem_cons.mpr ⟨rfl, List.forall_mem_cons.mpr ⟨rfl, fun _ h => absurd h List.not_mem_nil⟩⟩⟩⟩⟩⟩) (L2 (r 5 + 1) 0 (by omega) (by omega))
      · skip
        rw [nI_leI (by omega) (by omega)] at c8
        refine r_aload_n dX6_layPulls_11 rfl ?_
        refine r_getR (ci := 6) (k := 20) wf_X6_37 dX6_layPulls_12 z_219 k_219 (by decide) (by decide) (fun _ _ => rfl) f_219_20 ?_
        refine r_iload dX6_layPulls_15 rfl ?_
        refine r_iload dX6_layPulls_17 rfl ?_
        refine r_aload_n dX6_layPulls_19 rfl ?_
        refine r_iconst (nI 1) dX6_layPulls_20 (by decide) ?_
        refine r_iald dX6_layPulls_21 hql hqk (vp_in_nI (by decide) (by decide)) (fun z17 hz17 => ?_)
        rw [nI_clamp (by omega)] at hz17
        obtain rfl : z17 = nI (r 1) := hz17.trans ((congrFun (upo_n (by omega)) _).trans (hM 1 (by decide)))
        refine r_icmp_ne (tgt := 31) dX6_layPulls_22 (by decide) (fun c22 => ?_) (fun c22 => ?_)
        · skip
          rw [nI_eq (by omega) (by omega)] at c22
          refine r_bipush ((-2)) dX6_layPulls_31 (by decide) ?_
          refine r_aload_n dX6_layPulls_33 rfl ?_
          refine r_aload_n dX6_layPulls_34 rfl ?_
          refine r_iconst (nI 1) dX6_layPulls_35 (by decide) ?_
          refine r_iald dX6_layPulls_36 hql hqk (vp_in_nI (by decide) (by decide)) (fun z18 hz18 => ?_)
          rw [nI_clamp (by omega)] at hz18
          obtain rfl : z18 = nI (r 1) := hz18.trans ((congrFun (upo_n (by omega)) _).trans (hM 1 (by decide)))
          refine r_iload dX6_layPulls_37 rfl ?_
          refine r_callVI (As := [.int (nI (r 1)), .int (nI k)]) (o := 219) (c_X6_farBy B (upo D 229 (v1 D wy r pl mo k)) E (r 1) k (by omega)) hv_X6_farBy wm_X6_163 dX6_layPulls_39 rfl rfl z_219 k_219 (by decide) rfl (Nat.le_of_ble_eq_true rfl) ⟨Nat.le_of_ble_eq_true rfl, Nat.le_of_ble_eq_true rfl, Nat.zero_le _, Nat.zero_le _⟩ ⟨rfl, rfl⟩ (fun z19 D20 E21 hz19 => ?_)
          obtain ⟨hq1, hqD, hqE⟩ := hz19
          obtain rfl := hqD.symm
          obtain rfl := hqE.symm
          obtain rfl : z19 = nI (wy (6 * r 1 + k)) := hq1.trans (hw9 _ _ (by omega))
          refine r_imul dX6_layPulls_42 (fun z22 hz22 => ?_)
          subst hz22
          refine r_iload dX6_layPulls_43 rfl ?_
          refine r_iload_n dX6_layPulls_45 rfl ?_
          refine r_icmp_ne (tgt := 54) dX6_layPulls_46 (by decide) (fun c46 => ?_) (fun c46 => ?_)
          · skip
            rw [nI_eq (by omega) (by omega)] at c46
            refine r_iconst (nI 0) dX6_layPulls_54 (by decide) ?_
            refine r_iadd dX6_layPulls_55 (fun z23 hz23 => ?_)
            subst hz23
            refine r_iast dX6_layPulls_56 z_229 k_229 (vp_in_nI (by omega) (by decide)) (fun D24 hD24 => ?_)
            rw [nI_clamp (by omega)] at hD24
            obtain rfl : D24 = upo D 229 (v1 D wy r pl mo (k + 1)) := hD24.trans (up2_upo.trans (congrArg (upo D 229) (v1_s (by unfold s_base; first | rw [if_pos (by omega), if_pos (by omega)] | rw [if_pos (by omega), if_neg (by omega)] | rw [if_neg (by omega), if_pos (by omega)] | rw [if_neg (by omega), if_neg (by omega)]))))
            refine r_iinc (nI (k + 1)) [(5, .int (nI (k + 1))), (0, .ref (B + 219)), (1, .ref (B + q)), (2, .int (nI sset)), (3, .int (nI pl)), (4, .int mo)] dX6_layPulls_57 rfl (nI_1 _) (by decide) rfl ?_
            refine r_goto (tgt := 3) dX6_layPulls_60 (by decide) ?_
            exact r_lv [(5, .int (nI (k + 1))), (0, .ref (B + 219)), (1, .ref (B + q)), (2, .int (nI sset)), (3, .int (nI pl)), (4, .int mo)] (List.forall_mem_cons.mpr ⟨rfl, List.forall_mem_cons.mpr ⟨rfl, List.forall_mem_cons.mpr ⟨rfl, List.forall_mem_cons.mpr ⟨rfl, List.forall_mem_cons.mpr ⟨rfl, List.forall_mem_cons.mpr ⟨rfl, fun _ h => absurd h List.not_mem_nil⟩⟩⟩⟩⟩⟩) (ih (k + 1) (by omega) (by omega))
          · skip
            rw [nI_eq (by omega) (by omega)] at c46
            refine r_iload dX6_layPulls_49 rfl ?_
            refine r_goto (tgt := 55) dX6_layPulls_51 (by decide) ?_
            refine r_iadd dX6_layPulls_55 (fun z25 hz25 => ?_)
            subst hz25
            refine r_iast dX6_layPulls_56 z_229 k_229 (vp_in_nI (by omega) (by decide)) (fun D26 hD26 => ?_)
            rw [nI_clamp (by omega)] at hD26
            obtain rfl : D26 = upo D 229 (v1 D wy r pl mo (k + 1)) := hD26.trans (up2_upo.trans (congrArg (upo D 229) (v1_s (by unfold s_base; first | rw [if_pos (by omega), if_pos (by omega)] | rw [if_pos (by omega), if_neg (by omega)] | rw [if_neg (by omega), if_pos (by omega)] | rw [if_neg (by omega), if_neg (by omega)]))))
            refine r_iinc (nI (k + 1)) [(5, .int (nI (k + 1))), (0, .ref (B + 219)), (1, .ref (B + q)), (2, .int (nI sset)), (3, .int (nI pl)), (4, .int mo)] dX6_layPulls_57 rfl (nI_1 _) (by decide) rfl ?_
            refine r_goto (tgt := 3) dX6_layPulls_60 (by decide) ?_
            exact r_lv [(5, .int (nI (k + 1))), (0, .ref (B + 219)), (1, .ref (B + q)), (2, .int (nI sset)), (3, .int (nI pl)), (4, .int mo)] (List.forall_mem_cons.mpr ⟨rfl, List.forall_mem_cons.mpr ⟨rfl, List.forall_mem_cons.mpr ⟨rfl, List.forall_mem_cons.mpr ⟨rfl, List.forall_mem_cons.mpr ⟨rfl, List.forall_mem_cons.mpr ⟨rfl, fun _ h => absurd h List.not_mem_nil⟩⟩⟩⟩⟩⟩) (ih (k + 1) (by omega) (by omega))
        · skip
          rw [nI_eq (by omega) (by omega)] at c22
          refine r_aload_n dX6_layPulls_25 rfl ?_
          refine r_iconst (nI 2) dX6_layPulls_26 (by decide) ?_
          refine r_iald dX6_layPulls_27 hql hqk (vp_in_nI (by decide) (by decide)) (fun z27 hz27 => ?_)
          rw [nI_clamp (by omega)] at hz27
          obtain rfl : z27 = nI (r 2) := hz27.trans ((congrFun (upo_n (by omega)) _).trans (hM 2 (by decide)))
          refine r_goto (tgt := 43) dX6_layPulls_28 (by decide) ?_
          refine r_iload dX6_layPulls_43 rfl ?_
          refine r_iload_n dX6_layPulls_45 rfl ?_
          refine r_icmp_ne (tgt := 54) dX6_layPulls_46 (by decide) (fun c46 => ?_) (fun c46 => ?_)
          · skip
            rw [nI_eq (by omega) (by omega)] at c46
            refine r_iconst (nI 0) dX6_layPulls_54 (by decide) ?_
            refine r_iadd dX6_layPulls_55 (fun z28 hz28 => ?_)
            subst hz28
            refine r_iast dX6_layPulls_56 z_229 k_229 (vp_in_nI (by omega) (by decide)) (fun D29 hD29 => ?_)
            rw [nI_clamp (by omega)] at hD29
            obtain rfl : D29 = upo D 229 (v1 D wy r pl mo (k + 1)) := hD29.trans (up2_upo.trans (congrArg (upo D 229) (v1_s (by unfold s_base; first | rw [if_pos (by omega), if_pos (by omega)] | rw [if_pos (by omega), if_neg (by omega)] | rw [if_neg (by omega), if_pos (by omega)] | rw [if_neg (by omega), if_neg (by omega)]))))
            refine r_iinc (nI (k + 1)) [(5, .int (nI (k + 1))), (0, .ref (B + 219)), (1, .ref (B + q)), (2, .int (nI sset)), (3, .int (nI pl)), (4, .int mo)] dX6_layPulls_57 rfl (nI_1 _) (by decide) rfl ?_
            refine r_goto (tgt := 3) dX6_layPulls_60 (by decide) ?_
            exact r_lv [(5, .int (nI (k + 1))), (0, .ref (B + 219)), (1, .ref (B + q)), (2, .int (nI sset)), (3, .int (nI pl)), (4, .int mo)] (List.forall_mem_cons.mpr ⟨rfl, List.forall_mem_cons.mpr ⟨rfl, List.forall_mem_cons.mpr ⟨rfl, List.forall_mem_cons.mpr ⟨rfl, List.forall_mem_cons.mpr ⟨rfl, List.forall_mem_cons.mpr ⟨rfl, fun _ h => absurd h List.not_mem_nil⟩⟩⟩⟩⟩⟩) (ih (k + 1) (by omega) (by omega))
          · skip
            rw [nI_eq (by omega) (by omega)] at c46
            refine r_iload dX6_layPulls_49 rfl ?_
            refine r_goto (tgt := 55) dX6_layPulls_51 (by decide) ?_
            refine r_iadd dX6_layPulls_55 (fun z30 hz30 => ?_)
            subst hz30
            refine r_iast dX6_layPulls_56 z_229 k_229 (vp_in_nI (by omega) (by decide)) (fun D31 hD31 => ?_)
            rw [nI_clamp (by omega)] at hD31
            obtain rfl : D31 = upo D 229 (v1 D wy r pl mo (k + 1)) := hD31.trans (up2_upo.trans (congrArg (upo D 229) (v1_s (by unfold s_base; first | rw [if_pos (by omega), if_pos (by omega)] | rw [if_pos (by omega), if_neg (by omega)] | rw [if_neg (by omega), if_pos (by omega)] | rw [if_neg (by omega), if_neg (by omega)]))))
            refine r_iinc (nI (k + 1)) [(5, .int (nI (k + 1))), (0, .ref (B + 219)), (1, .ref (B + q)), (2, .int (nI sset)), (3, .int (nI pl)), (4, .int mo)] dX6_layPulls_57 rfl (nI_1 _) (by decide) rfl ?_
            refine r_goto (tgt := 3) dX6_layPulls_60 (by decide) ?_
            exact r_lv [(5, .int (nI (k + 1))), (0, .ref (B + 219)), (1, .ref (B + q)), (2, .int (nI sset)), (3, .int (nI pl)), (4, .int mo)] (List.forall_mem_cons.mpr ⟨rfl, List.forall_mem_cons.mpr ⟨rfl, List.forall_mem_cons.mpr ⟨rfl, List.forall_mem_cons.mpr ⟨rfl, List.forall_mem_cons.mpr ⟨rfl, List.forall_mem_cons.mpr ⟨rfl, fun _ h => absurd h List.not_mem_nil⟩⟩⟩⟩⟩⟩) (ih (k + 1) (by omega) (by omega))
  have L9 := L (r 0 + 1) 0 (by omega) (by omega)
  rw [v1_0] at L9
  exact r_lv [(5, .int (nI 0)), (0, .ref (B + 219)), (1, .ref (B + q)), (2, .int (nI sset)), (3, .int (nI pl)), (4, .int mo)] (List.forall_mem_cons.mpr ⟨rfl, List.forall_mem_cons.mpr ⟨rfl, List.forall_mem_cons.mpr ⟨rfl, List.forall_mem_cons.mpr ⟨rfl, List.forall_mem_cons.mpr ⟨rfl, List.forall_mem_cons.mpr ⟨rfl, fun _ h => absurd h List.not_mem_nil⟩⟩⟩⟩⟩⟩) (L9)
set_option maxRecDepth 100000 in
set_option maxHeartbeats 4000000 in
theorem c_X6_goesTo (B : Nat) (D : DD) (E : EE) (q : Nat) (hq : q = 223 ∨ q = 225) (r : Row) (wy : Nat → Nat) (hW : WF r) (b : Nat) (hH : HB r b) (hb : b < 2 ^ 20) (hM : MA D q r) (hY : WY wy r) (f : Nat → Int32) (hf : ∀ p, p < r 0 → D 229 p = f p) : MR yX6_goesTo cX6_goesTo 5 (some .int) rX6_goesTo B [.ref (B + 219), .ref (B + q)] Z0 D E (Q2 Z0 (pI (fun v D' E' => v = (if s_to f (r 1) (r 0) = 9 then (-1000000) else nI (s_to f (r 1) (r 0))) ∧ D' = D ∧ E' = E))) := by
  have hql : q < Z0.1 := by rcases hq with rfl | rfl <;> decide
  have hqk : Z0.2.1 q = (10, 64) := by rcases hq with rfl | rfl <;> decide +kernel
  obtain ⟨⟨b1, b2, b3, b4, b5, b6, b7, b8⟩, b9, b10, b11⟩ := id hW
  obtain ⟨hb1, hb2, hb3⟩ := id hH
  refine r_enter [(0, .ref (B + 219)), (1, .ref (B + q))] hv_X6_goesTo.1.2.2.2.2 (Nat.le_of_ble_eq_true rfl) rfl ?_
  refine r_aload_n dX6_goesTo_0 rfl ?_
  refine r_iconst (nI 1) dX6_goesTo_1 (by decide) ?_
  refine r_iald dX6_goesTo_2 hql hqk (vp_in_nI (by decide) (by decide)) (fun z1 hz1 => ?_)
  rw [nI_clamp (by omega)] at hz1
  obtain rfl : z1 = nI (r 1) := hz1.trans (hM 1 (by decide))
  refine r_istore_n [(2, .int (nI (r 1))), (0, .ref (B + 219)), (1, .ref (B + q))] dX6_goesTo_3 (by decide) rfl ?_
  refine r_iconst (nI 1) dX6_goesTo_4 (by decide) ?_
  refine r_istore_n [(3, .int (nI 1)), (2, .int (nI (r 1))), (0, .ref (B + 219)), (1, .ref (B + q))] dX6_goesTo_5 (by decide) rfl ?_
  refine r_iconst (nI 0) dX6_goesTo_6 (by decide) ?_
  refine r_istore [(4, .int (nI 0)), (3, .int (nI 1)), (2, .int (nI (r 1))), (0, .ref (B + 219)), (1, .ref (B + q))] dX6_goesTo_7 (by decide) rfl ?_
  refine r_lv [(4, .int (nI 0)), (3, .int (nI ((s_best f (r 1) 0).2))), (2, .int (nI ((s_best f (r 1) 0).1))), (0, .ref (B + 219)), (1, .ref (B + q))] (List.forall_mem_cons.mpr ⟨rfl, List.forall_mem_cons.mpr ⟨congrArg (fun x => some (Value.int x)) rfl, List.forall_mem_cons.mpr ⟨congrArg (fun x => some (Value.int x)) rfl, List.forall_mem_cons.mpr ⟨rfl, List.forall_mem_cons.mpr ⟨rfl, fun _ h => absurd h List.not_mem_nil⟩⟩⟩⟩⟩) ?_
  have L : ∀ fu k : Nat, k ≤ r 0 → r 0 - k < fu → RW yX6_goesTo cX6_goesTo 5 (some .int) rX6_goesTo B (Q2 Z0 (pI (fun v D' E' => v = (if s_to f (r 1) (r 0) = 9 then (-1000000) else nI (s_to f (r 1) (r 0))) ∧ D' = D ∧ E' = E))) Z0 D E 0 0 9 [(4, .int (nI k)), (3, .int (nI ((s_best f (r 1) k).2))), (2, .int (nI ((s_best f (r 1) k).1))), (0, .ref (B + 219)), (1, .ref (B + q))] [] := by
    intro fu
    induction fu with
    | zero => intro k hku hfu; omega
    | succ fu ih =>
      intro k hku hfu 
      refine r_iload dX6_goesTo_9 rfl ?_
      refine r_aload_n dX6_goesTo_11 rfl ?_
      refine r_iconst (nI 0) dX6_goesTo_12 (by decide) ?_
      refine r_iald dX6_goesTo_13 hql hqk (vp_in_nI (by decide) (by decide)) (fun z2 hz2 => ?_)
      rw [nI_clamp (by omega)] at hz2
      obtain rfl : z2 = nI (r 0) := hz2.trans (hM 0 (by decide))
      refine r_icmp_ge (tgt := 72) dX6_goesTo_14 (by decide) (fun c14 => ?_) (fun c14 => ?_)
      · skip
        rw [nI_leI (by omega) (by omega)] at c14
        have hb0 := s_best_ok (f := f) (at' := r 1) k
        have hb2 := s_best_le (f := f) (a := r 1) k
        have hbl : (s_best f (r 1) k).1 < r 0 := by rcases hb0.1 with h | h <;> omega
        refine r_iload_n dX6_goesTo_72 rfl ?_
        refine r_aload_n dX6_goesTo_73 rfl ?_
        refine r_iconst (nI 1) dX6_goesTo_74 (by decide) ?_
        refine r_iald dX6_goesTo_75 hql hqk (vp_in_nI (by decide) (by decide)) (fun z3 hz3 => ?_)
        rw [nI_clamp (by omega)] at hz3
        obtain rfl : z3 = nI (r 1) := hz3.trans (hM 1 (by decide))
        refine r_icmp_eq (tgt := 84) dX6_goesTo_76 (by decide) (fun c76 => ?_) (fun c76 => ?_)
        · skip
          rw [nI_eq (by omega) (by omega)] at c76
          refine r_iload_n dX6_goesTo_84 rfl ?_
          refine r_goto (tgt := 90) dX6_goesTo_85 (by decide) ?_
          refine r_iret2 dX6_goesTo_90 rfl ⟨Nat.zero_le _, Nat.zero_le _⟩ ?_
          have hk0 : k = r 0 := by omega
          rw [← hk0]
          refine ⟨?_, rfl, rfl⟩
          first
            | rw [s_to_1 (by omega), if_neg (by omega)]
            | rw [s_to_9 (by omega), if_pos rfl]
        · skip
          rw [nI_eq (by omega) (by omega)] at c76
          refine r_iload_n dX6_goesTo_79 rfl ?_
          refine r_iconst (nI 1) dX6_goesTo_80 (by decide) ?_
          refine r_icmp_ne (tgt := 88) dX6_goesTo_81 (by decide) (fun c81 => ?_) (fun c81 => ?_)
          · skip
            rw [nI_eq (by omega) (by omega)] at c81
            refine r_ldc wc_X6_97 dX6_goesTo_88 ?_
            refine r_iret2 dX6_goesTo_90 rfl ⟨Nat.zero_le _, Nat.zero_le _⟩ ?_
            have hk0 : k = r 0 := by omega
            rw [← hk0]
            refine ⟨?_, rfl, rfl⟩
            first
              | rw [s_to_1 (by omega), if_neg (by omega)]
              | rw [s_to_9 (by omega), if_pos rfl]
          · skip
            rw [nI_eq (by omega) (by omega)] at c81
            refine r_iload_n dX6_goesTo_84 rfl ?_
            refine r_goto (tgt := 90) dX6_goesTo_85 (by decide) ?_
            refine r_iret2 dX6_goesTo_90 rfl ⟨Nat.zero_le _, Nat.zero_le _⟩ ?_
            have hk0 : k = r 0 := by omega
            rw [← hk0]
            refine ⟨?_, rfl, rfl⟩
            first
              | rw [s_to_1 (by omega), if_neg (by omega)]
              | rw [s_to_9 (by omega), if_pos rfl]
      · skip
        rw [nI_leI (by omega) (by omega)] at c14
        have hb0 := s_best_ok (f := f) (at' := r 1) k
        have hb2 := s_best_le (f := f) (a := r 1) k
        have hbl : (s_best f (r 1) k).1 < r 0 := by rcases hb0.1 with h | h <;> omega
        refine r_aload_n dX6_goesTo_17 rfl ?_
        refine r_getR (ci := 6) (k := 20) wf_X6_37 dX6_goesTo_18 z_219 k_219 (by decide) (by decide) (fun _ _ => rfl) f_219_20 ?_
        refine r_iload dX6_goesTo_21 rfl ?_
        refine r_iald dX6_goesTo_23 z_229 k_229 (vp_in_nI (by omega) (by decide)) (fun z4 hz4 => ?_)
        rw [nI_clamp (by omega)] at hz4
        obtain rfl : z4 = f k := hz4.trans (hf k (by omega))
        refine r_aload_n dX6_goesTo_24 rfl ?_
        refine r_getR (ci := 6) (k := 20) wf_X6_37 dX6_goesTo_25 z_219 k_219 (by decide) (by decide) (fun _ _ => rfl) f_219_20 ?_
        refine r_iload_n dX6_goesTo_28 rfl ?_
        refine r_iald dX6_goesTo_29 z_229 k_229 (vp_in_nI (by omega) (by decide)) (fun z5 hz5 => ?_)
        rw [nI_clamp (by omega)] at hz5
        obtain rfl : z5 = f (s_best f (r 1) k).1 := hz5.trans (hf _ (by omega))
        refine r_icmp_le (tgt := 41) dX6_goesTo_30 (by decide) (fun c30 => ?_) (fun c30 => ?_)
        · skip
          refine r_iload dX6_goesTo_41 rfl ?_
          refine r_iload_n dX6_goesTo_43 rfl ?_
          refine r_icmp_eq (tgt := 66) dX6_goesTo_44 (by decide) (fun c44 => ?_) (fun c44 => ?_)
          · skip
            rw [nI_eq (by omega) (by omega)] at c44
            have hs : s_best f (r 1) (k + 1) = s_best f (r 1) k := (if_neg (Int32.not_lt.mpr c30)).trans (if_neg (fun q => q.1 c44))
            refine r_lv [(4, .int (nI k)), (3, .int (nI ((s_best f (r 1) (k + 1)).2))), (2, .int (nI ((s_best f (r 1) (k + 1)).1))), (0, .ref (B + 219)), (1, .ref (B + q))] (List.forall_mem_cons.mpr ⟨rfl, List.forall_mem_cons.mpr ⟨congrArg (fun x => some (Value.int x)) (congrArg nI (congrArg Prod.snd hs).symm), List.forall_mem_cons.mpr ⟨congrArg (fun x => some (Value.int x)) (congrArg nI (congrArg Prod.fst hs).symm), List.forall_mem_cons.mpr ⟨rfl, List.forall_mem_cons.mpr ⟨rfl, fun _ h => absurd h List.not_mem_nil⟩⟩⟩⟩⟩) ?_
            refine r_iinc (nI (k + 1)) [(4, .int (nI (k + 1))), (3, .int (nI ((s_best f (r 1) (k + 1)).2))), (2, .int (nI ((s_best f (r 1) (k + 1)).1))), (0, .ref (B + 219)), (1, .ref (B + q))] dX6_goesTo_66 rfl (nI_1 _) (by decide) rfl ?_
            refine r_goto (tgt := 9) dX6_goesTo_69 (by decide) ?_
            exact r_lv [(4, .int (nI (k + 1))), (3, .int (nI ((s_best f (r 1) (k + 1)).2))), (2, .int (nI ((s_best f (r 1) (k + 1)).1))), (0, .ref (B + 219)), (1, .ref (B + q))] (List.forall_mem_cons.mpr ⟨rfl, List.forall_mem_cons.mpr ⟨rfl, List.forall_mem_cons.mpr ⟨rfl, List.forall_mem_cons.mpr ⟨rfl, List.forall_mem_cons.mpr ⟨rfl, fun _ h => absurd h List.not_mem_nil⟩⟩⟩⟩⟩) (ih (k + 1) (by omega) (by omega))
          · skip
            rw [nI_eq (by omega) (by omega)] at c44
            refine r_aload_n dX6_goesTo_47 rfl ?_
            refine r_getR (ci := 6) (k := 20) wf_X6_37 dX6_goesTo_48 z_219 k_219 (by decide) (by decide) (fun _ _ => rfl) f_219_20 ?_
            refine r_iload dX6_goesTo_51 rfl ?_
            refine r_iald dX6_goesTo_53 z_229 k_229 (vp_in_nI (by omega) (by decide)) (fun z6 hz6 => ?_)
            rw [nI_clamp (by omega)] at hz6
            obtain rfl : z6 = f k := hz6.trans (hf k (by omega))
            refine r_aload_n dX6_goesTo_54 rfl ?_
            refine r_getR (ci := 6) (k := 20) wf_X6_37 dX6_goesTo_55 z_219 k_219 (by decide) (by decide) (fun _ _ => rfl) f_219_20 ?_
            refine r_iload_n dX6_goesTo_58 rfl ?_
            refine r_iald dX6_goesTo_59 z_229 k_229 (vp_in_nI (by omega) (by decide)) (fun z7 hz7 => ?_)
            rw [nI_clamp (by omega)] at hz7
            obtain rfl : z7 = f (s_best f (r 1) k).1 := hz7.trans (hf _ (by omega))
            refine r_icmp_ne (tgt := 66) dX6_goesTo_60 (by decide) (fun c60 => ?_) (fun c60 => ?_)
            · skip
              have hs : s_best f (r 1) (k + 1) = s_best f (r 1) k := (if_neg (Int32.not_lt.mpr c30)).trans (if_neg (fun q => c60 q.2))
              refine r_lv [(4, .int (nI k)), (3, .int (nI ((s_best f (r 1) (k + 1)).2))), (2, .int (nI ((s_best f (r 1) (k + 1)).1))), (0, .ref (B + 219)), (1, .ref (B + q))] (List.forall_mem_cons.mpr ⟨rfl, List.forall_mem_cons.mpr ⟨congrArg (fun x => some (Value.int x)) (congrArg nI (congrArg Prod.snd hs).symm), List.forall_mem_cons.mpr ⟨congrArg (fun x => some (Value.int x)) (congrArg nI (congrArg Prod.fst hs).symm), List.forall_mem_cons.mpr ⟨rfl, List.forall_mem_cons.mpr ⟨rfl, fun _ h => absurd h List.not_mem_nil⟩⟩⟩⟩⟩) ?_
              refine r_iinc (nI (k + 1)) [(4, .int (nI (k + 1))), (3, .int (nI ((s_best f (r 1) (k + 1)).2))), (2, .int (nI ((s_best f (r 1) (k + 1)).1))), (0, .ref (B + 219)), (1, .ref (B + q))] dX6_goesTo_66 rfl (nI_1 _) (by decide) rfl ?_
              refine r_goto (tgt := 9) dX6_goesTo_69 (by decide) ?_
              exact r_lv [(4, .int (nI (k + 1))), (3, .int (nI ((s_best f (r 1) (k + 1)).2))), (2, .int (nI ((s_best f (r 1) (k + 1)).1))), (0, .ref (B + 219)), (1, .ref (B + q))] (List.forall_mem_cons.mpr ⟨rfl, List.forall_mem_cons.mpr ⟨rfl, List.forall_mem_cons.mpr ⟨rfl, List.forall_mem_cons.mpr ⟨rfl, List.forall_mem_cons.mpr ⟨rfl, fun _ h => absurd h List.not_mem_nil⟩⟩⟩⟩⟩) (ih (k + 1) (by omega) (by omega))
            · skip
              have hs : s_best f (r 1) (k + 1) = ((s_best f (r 1) k).1, (s_best f (r 1) k).2 + 1) := (if_neg (Int32.not_lt.mpr c30)).trans (if_pos ⟨c44, c60⟩)
              refine r_iinc (nI (((s_best f (r 1) k).2) + 1)) [(3, .int (nI (((s_best f (r 1) k).2) + 1))), (4, .int (nI k)), (2, .int (nI ((s_best f (r 1) k).1))), (0, .ref (B + 219)), (1, .ref (B + q))] dX6_goesTo_63 rfl (nI_1 _) (by decide) rfl ?_
              refine r_lv [(3, .int (nI ((s_best f (r 1) (k + 1)).2))), (4, .int (nI k)), (2, .int (nI ((s_best f (r 1) (k + 1)).1))), (0, .ref (B + 219)), (1, .ref (B + q))] (List.forall_mem_cons.mpr ⟨congrArg (fun x => some (Value.int x)) (congrArg nI (congrArg Prod.snd hs).symm), List.forall_mem_cons.mpr ⟨rfl, List.forall_mem_cons.mpr ⟨congrArg (fun x => some (Value.int x)) (congrArg nI (congrArg Prod.fst hs).symm), List.forall_mem_cons.mpr ⟨rfl, List.forall_mem_cons.mpr ⟨rfl, fun _ h => absurd h List.not_mem_nil⟩⟩⟩⟩⟩) ?_
              refine r_iinc (nI (k + 1)) [(4, .int (nI (k + 1))), (3, .int (nI ((s_best f (r 1) (k + 1)).2))), (2, .int (nI ((s_best f (r 1) (k + 1)).1))), (0, .ref (B + 219)), (1, .ref (B + q))] dX6_goesTo_66 rfl (nI_1 _) (by decide) rfl ?_
              refine r_goto (tgt := 9) dX6_goesTo_69 (by decide) ?_
              exact r_lv [(4, .int (nI (k + 1))), (3, .int (nI ((s_best f (r 1) (k + 1)).2))), (2, .int (nI ((s_best f (r 1) (k + 1)).1))), (0, .ref (B + 219)), (1, .ref (B + q))] (List.forall_mem_cons.mpr ⟨rfl, List.forall_mem_cons.mpr ⟨rfl, List.forall_mem_cons.mpr ⟨rfl, List.forall_mem_cons.mpr ⟨rfl, List.forall_mem_cons.mpr ⟨rfl, fun _ h => absurd h List.not_mem_nil⟩⟩⟩⟩⟩) (ih (k + 1) (by omega) (by omega))
        · skip
          have hs : s_best f (r 1) (k + 1) = (k, 1) := if_pos (Int32.not_le.mp c30)
          refine r_iload dX6_goesTo_33 rfl ?_
          refine r_istore_n [(2, .int (nI k)), (4, .int (nI k)), (3, .int (nI ((s_best f (r 1) k).2))), (0, .ref (B + 219)), (1, .ref (B + q))] dX6_goesTo_35 (by decide) rfl ?_
          refine r_iconst (nI 1) dX6_goesTo_36 (by decide) ?_
          refine r_istore_n [(3, .int (nI 1)), (2, .int (nI k)), (4, .int (nI k)), (0, .ref (B + 219)), (1, .ref (B + q))] dX6_goesTo_37 (by decide) rfl ?_
          refine r_goto (tgt := 66) dX6_goesTo_38 (by decide) ?_
          refine r_lv [(3, .int (nI ((s_best f (r 1) (k + 1)).2))), (2, .int (nI ((s_best f (r 1) (k + 1)).1))), (4, .int (nI k)), (0, .ref (B + 219)), (1, .ref (B + q))] (List.forall_mem_cons.mpr ⟨congrArg (fun x => some (Value.int x)) (congrArg nI (congrArg Prod.snd hs).symm), List.forall_mem_cons.mpr ⟨congrArg (fun x => some (Value.int x)) (congrArg nI (congrArg Prod.fst hs).symm), List.forall_mem_cons.mpr ⟨rfl, List.forall_mem_cons.mpr ⟨rfl, List.forall_mem_cons.mpr ⟨rfl, fun _ h => absurd h List.not_mem_nil⟩⟩⟩⟩⟩) ?_
          refine r_iinc (nI (k + 1)) [(4, .int (nI (k + 1))), (3, .int (nI ((s_best f (r 1) (k + 1)).2))), (2, .int (nI ((s_best f (r 1) (k + 1)).1))), (0, .ref (B + 219)), (1, .ref (B + q))] dX6_goesTo_66 rfl (nI_1 _) (by decide) rfl ?_
          refine r_goto (tgt := 9) dX6_goesTo_69 (by decide) ?_
          exact r_lv [(4, .int (nI (k + 1))), (3, .int (nI ((s_best f (r 1) (k + 1)).2))), (2, .int (nI ((s_best f (r 1) (k + 1)).1))), (0, .ref (B + 219)), (1, .ref (B + q))] (List.forall_mem_cons.mpr ⟨rfl, List.forall_mem_cons.mpr ⟨rfl, List.forall_mem_cons.mpr ⟨rfl, List.forall_mem_cons.mpr ⟨rfl, List.forall_mem_cons.mpr ⟨rfl, fun _ h => absurd h List.not_mem_nil⟩⟩⟩⟩⟩) (ih (k + 1) (by omega) (by omega))
  exact r_lv [(4, .int (nI 0)), (3, .int (nI ((s_best f (r 1) 0).2))), (2, .int (nI ((s_best f (r 1) 0).1))), (0, .ref (B + 219)), (1, .ref (B + q))] (List.forall_mem_cons.mpr ⟨rfl, List.forall_mem_cons.mpr ⟨rfl, List.forall_mem_cons.mpr ⟨rfl, List.forall_mem_cons.mpr ⟨rfl, List.forall_mem_cons.mpr ⟨rfl, fun _ h => absurd h List.not_mem_nil⟩⟩⟩⟩⟩) (L (r 0 + 1) 0 (by omega) (by omega))
set_option maxRecDepth 100000 in
set_option maxHeartbeats 4000000 in
theorem c_X6_hour (B : Nat) (D : DD) (E : EE) (q : Nat) (hq : q = 223 ∨ q = 225) (r : Row) (wy : Nat → Nat) (hW : WF r) (b : Nat) (hH : HB r b) (hb9 : b + 1 < 2 ^ 20) (hM : MA D q r) (hY : WY wy r) (hwy : ∀ j, j < 6 * r 0 → D 228 j = nI (wy j)) : MR yX6_hour cX6_hour 7 none rX6_hour B [.ref (B + 219), .ref (B + q), .int (nI 0), .int (nI 0)] Z0 D E (Q2 Z0 (pV (fun D' E' => (∀ j, j ≠ q → j ≠ 229 → D' j = D j) ∧ MA D' q (s_hour wy r) ∧ E' = E))) := by
  have hql : q < Z0.1 := by rcases hq with rfl | rfl <;> decide
  have hqk : Z0.2.1 q = (10, 64) := by rcases hq with rfl | rfl <;> decide +kernel
  obtain ⟨⟨b1, b2, b3, b4, b5, b6, b7, b8⟩, b9, b10, b11⟩ := id hW
  obtain ⟨hb1, hb2, hb3⟩ := id hH
  have hM9 : ∀ f, MA (upo D 229 f) q r := fun f => MA_upo hM (by omega)
  have hw9 : ∀ f, ∀ j, j < 6 * r 0 → upo D 229 f 228 j = nI (wy j) := fun f j hj => (congrFun (upo_n (by decide)) j).trans (hwy j hj)
  have hb : b < 2 ^ 20 := by omega
  have hg9 := s_goes_ok (wy := wy) hW
  have hg99 : s_goes wy r ≤ 9 := by omega
  refine r_enter [(0, .ref (B + 219)), (1, .ref (B + q)), (2, .int (nI 0)), (3, .int (nI 0))] hv_X6_hour.1.2.2.2.2 (Nat.le_of_ble_eq_true rfl) rfl ?_
  refine r_aload_n dX6_hour_0 rfl ?_
  refine r_aload_n dX6_hour_1 rfl ?_
  refine r_bipush (nI 63) dX6_hour_2 (by decide) ?_
  refine r_iload_n dX6_hour_4 rfl ?_
  refine r_iload_n dX6_hour_5 rfl ?_
  refine r_callVV (As := [.ref (B + q), .int (nI 63), .int (nI 0), .int (nI 0)]) (o := 219) (c_X6_layPulls B D E q hq r wy hW b hH hb hM hY hwy 63 0 (nI 0) (by decide) (by decide)) hv_X6_layPulls wm_X6_177 dX6_hour_6 rfl rfl z_219 k_219 (by decide) rfl (Nat.le_of_ble_eq_true rfl) ⟨Nat.le_of_ble_eq_true rfl, Nat.le_of_ble_eq_true rfl, Nat.zero_le _, Nat.zero_le _⟩ ⟨rfl, rfl⟩ (fun D2 E3 hz1 => ?_)
  obtain ⟨⟨g5, hqD, hg⟩, hqE⟩ := hz1
  obtain rfl := hqE.symm
  subst hqD
  refine r_aload_n dX6_hour_9 rfl ?_
  refine r_aload_n dX6_hour_10 rfl ?_
  refine r_callVI (As := [.ref (B + q)]) (o := 219) (c_X6_goesTo B (upo D 229 g5) E q hq r wy hW b hH hb (hM9 g5) hY (s_pull wy r 63 0 (nI 0)) (fun p hp => (congrFun upo_s p).trans (hg p hp))) hv_X6_goesTo wm_X6_181 dX6_hour_11 rfl rfl z_219 k_219 (by decide) rfl (Nat.le_of_ble_eq_true rfl) ⟨Nat.le_of_ble_eq_true rfl, Nat.le_of_ble_eq_true rfl, Nat.zero_le _, Nat.zero_le _⟩ ⟨rfl, rfl⟩ (fun z4 D5 E6 hz4 => ?_)
  obtain ⟨hq1, hqD, hqE⟩ := hz4
  obtain rfl := hqD.symm
  obtain rfl := hqE.symm
  obtain rfl : z4 = (if s_goes wy r = 9 then (-1000000) else nI (s_goes wy r)) := hq1
  refine r_istore [(4, .int (if s_goes wy r = 9 then (-1000000) else nI (s_goes wy r))), (0, .ref (B + 219)), (1, .ref (B + q)), (2, .int (nI 0)), (3, .int (nI 0))] dX6_hour_14 (by decide) rfl ?_
  have J : ∀ fr : Nat → Int32, (∀ j, j < 64 → fr j = nI (s_mv wy r j)) → RW yX6_hour cX6_hour 7 none rX6_hour B (Q2 Z0 (pV (fun D' E' => (∀ j, j ≠ q → j ≠ 229 → D' j = D j) ∧ MA D' q (s_hour wy r) ∧ E' = E))) Z0 (upo (upo D 229 g5) q fr) E 0 0 84 [(0, .ref (B + 219)), (1, .ref (B + q))] [] := by
    intro fr hJ
    have hJ0 : ∀ j, j < 64 → fr j = nI (s_tn wy r 0 j) := fun j hj => (hJ j hj).trans (congrArg nI (if_neg (fun q => absurd q.2.2 (Nat.not_lt_zero _))).symm)
    refine r_iconst (nI 0) dX6_hour_84 (by decide) ?_
    refine r_istore [(5, .int (nI 0)), (0, .ref (B + 219)), (1, .ref (B + q))] dX6_hour_85 (by decide) rfl ?_
    have L : ∀ (fu k : Nat) (fk : Nat → Int32), k ≤ r 5 → r 5 - k < fu → (∀ j, j < 64 → fk j = nI (s_tn wy r k j)) → RW yX6_hour cX6_hour 7 none rX6_hour B (Q2 Z0 (pV (fun D' E' => (∀ j, j ≠ q → j ≠ 229 → D' j = D j) ∧ MA D' q (s_hour wy r) ∧ E' = E))) Z0 (upo (upo D 229 g5) q fk) E 0 0 87 [(5, .int (nI k)), (0, .ref (B + 219)), (1, .ref (B + q))] [] := by
      intro fu
      induction fu with
      | zero => intro k fk hku hfu _; omega
      | succ fu ih =>
        intro k fk hku hfu hI
        refine r_iload dX6_hour_87 rfl ?_
        refine r_aload_n dX6_hour_89 rfl ?_
        refine r_iconst (nI 5) dX6_hour_90 (by decide) ?_
        refine r_iald dX6_hour_91 hql hqk (vp_in_nI (by decide) (by decide)) (fun z7 hz7 => ?_)
        rw [nI_clamp (by omega)] at hz7
        obtain rfl : z7 = nI (r 5) := hz7.trans ((congrFun upo_s 5).trans ((hI 5 (by decide)).trans (congrArg nI ((s_tn_o (by omega)).trans (s_mv_o (by omega))))))
        refine r_icmp_ge (tgt := 184) dX6_hour_92 (by decide) (fun c92 => ?_) (fun c92 => ?_)
        · skip
          rw [nI_leI (by omega) (by omega)] at c92
          refine r_aload_n dX6_hour_184 rfl ?_
          refine r_bipush (nI 6) dX6_hour_185 (by decide) ?_
          refine r_dup2 dX6_hour_187 rfl rfl ?_
          refine r_iald dX6_hour_188 hql hqk (vp_in_nI (by decide) (by decide)) (fun z8 hz8 => ?_)
          rw [nI_clamp (by omega)] at hz8
          obtain rfl : z8 = nI (r 6) := hz8.trans ((congrFun upo_s 6).trans ((hI 6 (by decide)).trans (congrArg nI ((s_tn_o (by omega)).trans (s_mv_o (by omega))))))
          refine r_iconst (nI 1) dX6_hour_189 (by decide) ?_
          refine r_iadd dX6_hour_190 (fun z9 hz9 => ?_)
          obtain rfl : z9 = nI ((r 6) + 1) := (hz9.trans (nI_add _ _))
          refine r_iast dX6_hour_191 hql hqk (vp_in_nI (by decide) (by decide)) (fun D10 hD10 => ?_)
          rw [nI_clamp (by omega)] at hD10
          obtain rfl : D10 = upo (upo D 229 g5) q (upd fk 6 (nI ((r 6) + 1))) := hD10.trans up2_upo
          refine r_vret2 dX6_hour_192 rfl ⟨Nat.zero_le _, Nat.zero_le _⟩ ?_
          refine ⟨fun j h1 h2 => (upo_n h1).trans (upo_n h2), fun j hj => ?_, rfl⟩
          rw [← s_tn_e, show (upo (upo D 229 g5) q (upd fk 6 (nI (r 6 + 1)))) q = upd fk 6 (nI (r 6 + 1)) from upo_s, ← show k = r 5 by omega]
          unfold upd
          by_cases e : j = 6
          · rw [if_pos e, if_pos e]
          · rw [if_neg e, if_neg e]; exact hI j hj
        · skip
          rw [nI_leI (by omega) (by omega)] at c92
          have hMk : MA (upo (upo D 229 g5) q fk) q (s_tn wy r k) := fun j hj => (congrFun upo_s j).trans (hI j hj)
          have hWk := WF_tn (wy := wy) hW (show k ≤ r 5 by omega)
          have hHk := HB_tn (wy := wy) (n := k) hH
          have hYk := WY_tn (n := k) hY
          have hok : ∀ j, (j < 16 ∨ j % 8 ≠ 6) → j ≠ 1 → j ≠ 7 → j ≠ 8 → j ≠ 9 → s_tn wy r k j = r j := fun j h1 h2 h3 h4 h5 => (s_tn_o h1).trans (s_mv_o ⟨h2, h3, h4, h5⟩)
          have htk : s_tn wy r k (22 + 8 * k) = r (22 + 8 * k) := by
            unfold s_tn
            rw [if_neg (by omega), s_mv_o (by omega)]
          have hwk : s_wiB (s_tn wy r k) k = s_wiB r k := s_wiB_congr (hok _ (by omega) (by omega) (by omega) (by omega) (by omega)) (hok _ (by omega) (by omega) (by omega) (by omega) (by omega)) (hok _ (by omega) (by omega) (by omega) (by omega) (by omega)) (hok _ (by omega) (by omega) (by omega) (by omega) (by omega))
          have h5k : s_tn wy r k 5 = r 5 := hok _ (by omega) (by omega) (by omega) (by omega) (by omega)
          obtain ⟨⟨d1, d2⟩, d3, d4, d5, d6, ⟨d7, d8⟩, d9, d10⟩ := b10 k (by omega)
          refine r_aload_n dX6_hour_95 rfl ?_
          refine r_iload dX6_hour_96 rfl ?_
          refine r_bipush (nI 6) dX6_hour_98 (by decide) ?_
          refine r_callSI (As := [.ref (B + q), .int (nI k), .int (nI 6)]) (c_X6_of B (upo (upo D 229 g5) q fk) E q hq k 6 (by omega)) hs_X6_of wm_X6_159 rfl dX6_hour_100 rfl rfl (Nat.le_of_ble_eq_true rfl) ⟨Nat.le_of_ble_eq_true rfl, Nat.le_of_ble_eq_true rfl, Nat.zero_le _, Nat.zero_le _⟩ ⟨rfl, rfl⟩ (fun z11 D12 E13 hz11 => ?_)
          obtain ⟨hq1, hqD, hqE⟩ := hz11
          obtain rfl := hqD.symm
          obtain rfl := hqE.symm
          obtain rfl : z11 = nI (r (22 + 8 * k)) := hq1.trans ((hMk _ (by omega)).trans (congrArg nI ((congrArg _ (show 16 + 8 * k + 6 = 22 + 8 * k by omega)).trans htk)))
          refine r_istore [(6, .int (nI (r (22 + 8 * k)))), (5, .int (nI k)), (0, .ref (B + 219)), (1, .ref (B + q))] dX6_hour_103 (by decide) rfl ?_
          refine r_aload_n dX6_hour_105 rfl ?_
          refine r_iload dX6_hour_106 rfl ?_
          refine r_callSI (As := [.ref (B + q), .int (nI k)]) (c_X6_wishes B (upo (upo D 229 g5) q fk) E q hq (s_tn wy r k) wy hWk (b + 1) hHk hb9 hMk hYk k (by omega)) hs_X6_wishes wm_X6_169 rfl dX6_hour_108 rfl rfl (Nat.le_of_ble_eq_true rfl) ⟨Nat.le_of_ble_eq_true rfl, Nat.le_of_ble_eq_true rfl, Nat.zero_le _, Nat.zero_le _⟩ ⟨rfl, rfl⟩ (fun z14 D15 E16 hz14 => ?_)
          obtain ⟨hq1, hqD, hqE⟩ := hz14
          obtain rfl := hqD.symm
          obtain rfl := hqE.symm
          obtain rfl : z14 = bI (s_wiB r k = true) := hq1.trans (bI_c (by rw [hwk]))
          refine r_if_eq (tgt := 123) dX6_hour_111 (by decide) (fun c111 => ?_) (fun c111 => ?_)
          · skip
            rw [bI_0] at c111
            refine r_iload dX6_hour_123 rfl ?_
            refine r_iconst (nI 1) dX6_hour_125 (by decide) ?_
            refine r_isub dX6_hour_126 (fun z17 hz17 => ?_)
            subst hz17
            refine r_istore [(6, .int ((nI (r (22 + 8 * k))) - (nI 1))), (5, .int (nI k)), (0, .ref (B + 219)), (1, .ref (B + q))] dX6_hour_127 (by decide) rfl ?_
            refine r_iload dX6_hour_129 rfl ?_
            refine r_bipush (nI 20) dX6_hour_131 (by decide) ?_
            refine r_icmp_le (tgt := 141) dX6_hour_133 (by decide) (fun c133 => ?_) (fun c133 => ?_)
            · skip
              refine r_iload dX6_hour_141 rfl ?_
              refine r_callSI (As := [.int ((nI (r (22 + 8 * k))) - (nI 1))]) (c_X6_atLeastNone B (upo (upo D 229 g5) q fk) E ((nI (r (22 + 8 * k))) - (nI 1))) hs_X6_atLeastNone wm_X6_166 rfl dX6_hour_143 rfl rfl (Nat.le_of_ble_eq_true rfl) ⟨Nat.le_of_ble_eq_true rfl, Nat.le_of_ble_eq_true rfl, Nat.zero_le _, Nat.zero_le _⟩ ⟨rfl, rfl⟩ (fun z18 D19 E20 hz18 => ?_)
              obtain ⟨hq1, hqD, hqE⟩ := hz18
              obtain rfl := hqD.symm
              obtain rfl := hqE.symm
              obtain rfl : z18 = nI (r (22 + 8 * k) - 1) := hq1.trans (at0_1 (by omega) (by omega))
              refine r_istore [(6, .int (nI (r (22 + 8 * k) - 1))), (5, .int (nI k)), (0, .ref (B + 219)), (1, .ref (B + q))] dX6_hour_146 (by decide) rfl ?_
              refine r_aload_n dX6_hour_148 rfl ?_
              refine r_bipush (nI 16) dX6_hour_149 (by decide) ?_
              refine r_bipush (nI 8) dX6_hour_151 (by decide) ?_
              refine r_iload dX6_hour_153 rfl ?_
              refine r_imul dX6_hour_155 (fun z21 hz21 => ?_)
              obtain rfl : z21 = nI (8 * k) := (hz21.trans (pk_mul _ _))
              refine r_iadd dX6_hour_156 (fun z22 hz22 => ?_)
              obtain rfl : z22 = nI (16 + (8 * k)) := (hz22.trans (nI_add _ _))
              refine r_bipush (nI 6) dX6_hour_157 (by decide) ?_
              refine r_iadd dX6_hour_159 (fun z23 hz23 => ?_)
              obtain rfl : z23 = nI ((16 + (8 * k)) + 6) := (hz23.trans (nI_add _ _))
              refine r_aload_n dX6_hour_160 rfl ?_
              refine r_iload dX6_hour_161 rfl ?_
              refine r_iconst (nI 0) dX6_hour_163 (by decide) ?_
              refine r_callSI (As := [.ref (B + q), .int (nI k), .int (nI 0)]) (c_X6_of B (upo (upo D 229 g5) q fk) E q hq k 0 (by omega)) hs_X6_of wm_X6_159 rfl dX6_hour_164 rfl rfl (Nat.le_of_ble_eq_true rfl) ⟨Nat.le_of_ble_eq_true rfl, Nat.le_of_ble_eq_true rfl, Nat.zero_le _, Nat.zero_le _⟩ ⟨rfl, rfl⟩ (fun z24 D25 E26 hz24 => ?_)
              obtain ⟨hq1, hqD, hqE⟩ := hz24
              obtain rfl := hqD.symm
              obtain rfl := hqE.symm
              obtain rfl : z24 = nI (r (16 + 8 * k)) := hq1.trans ((hMk _ (by omega)).trans (congrArg nI ((congrArg _ (show 16 + 8 * k + 0 = 16 + 8 * k by omega)).trans (hok _ (by omega) (by omega) (by omega) (by omega) (by omega)))))
              refine r_iconst (nI 2) dX6_hour_167 (by decide) ?_
              refine r_icmp_ne (tgt := 175) dX6_hour_168 (by decide) (fun c168 => ?_) (fun c168 => ?_)
              · skip
                rw [nI_eq (by omega) (by omega)] at c168
                refine r_iload dX6_hour_175 rfl ?_
                refine r_iast dX6_hour_177 hql hqk (vp_in_nI (by omega) (by decide)) (fun D27 hD27 => ?_)
                rw [nI_clamp (by omega)] at hD27
                obtain rfl : D27 = upo (upo D 229 g5) q (upd fk (22 + 8 * k) (nI (r (22 + 8 * k) - 1))) := hD27.trans (up2_upo.trans (congrArg (fun i => upo (upo D 229 g5) q (upd fk i (nI (r (22 + 8 * k) - 1)))) (show 16 + 8 * k + 6 = 22 + 8 * k by omega)))
                refine r_iinc (nI (k + 1)) [(5, .int (nI (k + 1))), (6, .int (nI (r (22 + 8 * k) - 1))), (0, .ref (B + 219)), (1, .ref (B + q))] dX6_hour_178 rfl (nI_1 _) (by decide) rfl ?_
                refine r_goto (tgt := 87) dX6_hour_181 (by decide) ?_
                exact r_lv [(5, .int (nI (k + 1))), (0, .ref (B + 219)), (1, .ref (B + q))] (List.forall_mem_cons.mpr ⟨rfl, List.forall_mem_cons.mpr ⟨rfl, List.forall_mem_cons.mpr ⟨rfl, fun _ h => absurd h List.not_mem_nil⟩⟩⟩) (ih (k + 1) ((upd fk (22 + 8 * k) (nI (r (22 + 8 * k) - 1)))) (by omega) (by omega) (tn_s hI (congrArg nI (by unfold s_tire; first | rw [if_pos c168] | (rw [if_neg c168, if_pos c111]; omega; done) | (rw [if_neg c168, if_neg c111]; done) | (exfalso; exact c133 (tm1_le (by omega)))))))
              · skip
                rw [nI_eq (by omega) (by omega)] at c168
                refine r_iconst (nI 0) dX6_hour_171 (by decide) ?_
                refine r_goto (tgt := 177) dX6_hour_172 (by decide) ?_
                refine r_iast dX6_hour_177 hql hqk (vp_in_nI (by omega) (by decide)) (fun D28 hD28 => ?_)
                rw [nI_clamp (by omega)] at hD28
                obtain rfl : D28 = upo (upo D 229 g5) q (upd fk (22 + 8 * k) (nI 0)) := hD28.trans (up2_upo.trans (congrArg (fun i => upo (upo D 229 g5) q (upd fk i (nI 0))) (show 16 + 8 * k + 6 = 22 + 8 * k by omega)))
                refine r_iinc (nI (k + 1)) [(5, .int (nI (k + 1))), (6, .int (nI (r (22 + 8 * k) - 1))), (0, .ref (B + 219)), (1, .ref (B + q))] dX6_hour_178 rfl (nI_1 _) (by decide) rfl ?_
                refine r_goto (tgt := 87) dX6_hour_181 (by decide) ?_
                exact r_lv [(5, .int (nI (k + 1))), (0, .ref (B + 219)), (1, .ref (B + q))] (List.forall_mem_cons.mpr ⟨rfl, List.forall_mem_cons.mpr ⟨rfl, List.forall_mem_cons.mpr ⟨rfl, fun _ h => absurd h List.not_mem_nil⟩⟩⟩) (ih (k + 1) ((upd fk (22 + 8 * k) (nI 0))) (by omega) (by omega) (tn_s hI (congrArg nI (by unfold s_tire; first | rw [if_pos c168] | (rw [if_neg c168, if_pos c111]; omega; done) | (rw [if_neg c168, if_neg c111]; done) | (exfalso; exact c133 (tm1_le (by omega)))))))
            · skip
              refine r_bipush (nI 20) dX6_hour_136 (by decide) ?_
              refine r_goto (tgt := 146) dX6_hour_138 (by decide) ?_
              refine r_istore [(6, .int (nI 20)), (5, .int (nI k)), (0, .ref (B + 219)), (1, .ref (B + q))] dX6_hour_146 (by decide) rfl ?_
              refine r_aload_n dX6_hour_148 rfl ?_
              refine r_bipush (nI 16) dX6_hour_149 (by decide) ?_
              refine r_bipush (nI 8) dX6_hour_151 (by decide) ?_
              refine r_iload dX6_hour_153 rfl ?_
              refine r_imul dX6_hour_155 (fun z29 hz29 => ?_)
              obtain rfl : z29 = nI (8 * k) := (hz29.trans (pk_mul _ _))
              refine r_iadd dX6_hour_156 (fun z30 hz30 => ?_)
              obtain rfl : z30 = nI (16 + (8 * k)) := (hz30.trans (nI_add _ _))
              refine r_bipush (nI 6) dX6_hour_157 (by decide) ?_
              refine r_iadd dX6_hour_159 (fun z31 hz31 => ?_)
              obtain rfl : z31 = nI ((16 + (8 * k)) + 6) := (hz31.trans (nI_add _ _))
              refine r_aload_n dX6_hour_160 rfl ?_
              refine r_iload dX6_hour_161 rfl ?_
              refine r_iconst (nI 0) dX6_hour_163 (by decide) ?_
              refine r_callSI (As := [.ref (B + q), .int (nI k), .int (nI 0)]) (c_X6_of B (upo (upo D 229 g5) q fk) E q hq k 0 (by omega)) hs_X6_of wm_X6_159 rfl dX6_hour_164 rfl rfl (Nat.le_of_ble_eq_true rfl) ⟨Nat.le_of_ble_eq_true rfl, Nat.le_of_ble_eq_true rfl, Nat.zero_le _, Nat.zero_le _⟩ ⟨rfl, rfl⟩ (fun z32 D33 E34 hz32 => ?_)
              obtain ⟨hq1, hqD, hqE⟩ := hz32
              obtain rfl := hqD.symm
              obtain rfl := hqE.symm
              obtain rfl : z32 = nI (r (16 + 8 * k)) := hq1.trans ((hMk _ (by omega)).trans (congrArg nI ((congrArg _ (show 16 + 8 * k + 0 = 16 + 8 * k by omega)).trans (hok _ (by omega) (by omega) (by omega) (by omega) (by omega)))))
              refine r_iconst (nI 2) dX6_hour_167 (by decide) ?_
              refine r_icmp_ne (tgt := 175) dX6_hour_168 (by decide) (fun c168 => ?_) (fun c168 => ?_)
              · skip
                rw [nI_eq (by omega) (by omega)] at c168
                refine r_iload dX6_hour_175 rfl ?_
                refine r_iast dX6_hour_177 hql hqk (vp_in_nI (by omega) (by decide)) (fun D35 hD35 => ?_)
                rw [nI_clamp (by omega)] at hD35
                obtain rfl : D35 = upo (upo D 229 g5) q (upd fk (22 + 8 * k) (nI 20)) := hD35.trans (up2_upo.trans (congrArg (fun i => upo (upo D 229 g5) q (upd fk i (nI 20))) (show 16 + 8 * k + 6 = 22 + 8 * k by omega)))
                refine r_iinc (nI (k + 1)) [(5, .int (nI (k + 1))), (6, .int (nI 20)), (0, .ref (B + 219)), (1, .ref (B + q))] dX6_hour_178 rfl (nI_1 _) (by decide) rfl ?_
                refine r_goto (tgt := 87) dX6_hour_181 (by decide) ?_
                exact r_lv [(5, .int (nI (k + 1))), (0, .ref (B + 219)), (1, .ref (B + q))] (List.forall_mem_cons.mpr ⟨rfl, List.forall_mem_cons.mpr ⟨rfl, List.forall_mem_cons.mpr ⟨rfl, fun _ h => absurd h List.not_mem_nil⟩⟩⟩) (ih (k + 1) ((upd fk (22 + 8 * k) (nI 20))) (by omega) (by omega) (tn_s hI (congrArg nI (by unfold s_tire; first | rw [if_pos c168] | (rw [if_neg c168, if_pos c111]; omega; done) | (rw [if_neg c168, if_neg c111]; done) | (exfalso; exact c133 (tm1_le (by omega)))))))
              · skip
                rw [nI_eq (by omega) (by omega)] at c168
                refine r_iconst (nI 0) dX6_hour_171 (by decide) ?_
                refine r_goto (tgt := 177) dX6_hour_172 (by decide) ?_
                refine r_iast dX6_hour_177 hql hqk (vp_in_nI (by omega) (by decide)) (fun D36 hD36 => ?_)
                rw [nI_clamp (by omega)] at hD36
                obtain rfl : D36 = upo (upo D 229 g5) q (upd fk (22 + 8 * k) (nI 0)) := hD36.trans (up2_upo.trans (congrArg (fun i => upo (upo D 229 g5) q (upd fk i (nI 0))) (show 16 + 8 * k + 6 = 22 + 8 * k by omega)))
                refine r_iinc (nI (k + 1)) [(5, .int (nI (k + 1))), (6, .int (nI 20)), (0, .ref (B + 219)), (1, .ref (B + q))] dX6_hour_178 rfl (nI_1 _) (by decide) rfl ?_
                refine r_goto (tgt := 87) dX6_hour_181 (by decide) ?_
                exact r_lv [(5, .int (nI (k + 1))), (0, .ref (B + 219)), (1, .ref (B + q))] (List.forall_mem_cons.mpr ⟨rfl, List.forall_mem_cons.mpr ⟨rfl, List.forall_mem_cons.mpr ⟨rfl, fun _ h => absurd h List.not_mem_nil⟩⟩⟩) (ih (k + 1) ((upd fk (22 + 8 * k) (nI 0))) (by omega) (by omega) (tn_s hI (congrArg nI (by unfold s_tire; first | rw [if_pos c168] | (rw [if_neg c168, if_pos c111]; omega; done) | (rw [if_neg c168, if_neg c111]; done) | (exfalso; exact c133 (tm1_le (by omega)))))))
          · skip
            rw [bI_n0] at c111
            refine r_iload dX6_hour_114 rfl ?_
            refine r_aload_n dX6_hour_116 rfl ?_
            refine r_iconst (nI 3) dX6_hour_117 (by decide) ?_
            refine r_iald dX6_hour_118 hql hqk (vp_in_nI (by decide) (by decide)) (fun z37 hz37 => ?_)
            rw [nI_clamp (by omega)] at hz37
            obtain rfl : z37 = nI (r 3) := hz37.trans ((congrFun upo_s 3).trans ((hI 3 (by decide)).trans (congrArg nI (hok _ (by omega) (by omega) (by omega) (by omega) (by omega)))))
            refine r_iadd dX6_hour_119 (fun z38 hz38 => ?_)
            obtain rfl : z38 = nI ((r (22 + 8 * k)) + (r 3)) := (hz38.trans (nI_add _ _))
            refine r_goto (tgt := 127) dX6_hour_120 (by decide) ?_
            refine r_istore [(6, .int (nI ((r (22 + 8 * k)) + (r 3)))), (5, .int (nI k)), (0, .ref (B + 219)), (1, .ref (B + q))] dX6_hour_127 (by decide) rfl ?_
            refine r_iload dX6_hour_129 rfl ?_
            refine r_bipush (nI 20) dX6_hour_131 (by decide) ?_
            refine r_icmp_le (tgt := 141) dX6_hour_133 (by decide) (fun c133 => ?_) (fun c133 => ?_)
            · skip
              rw [nI_leI (by omega) (by omega)] at c133
              refine r_iload dX6_hour_141 rfl ?_
              refine r_callSI (As := [.int (nI ((r (22 + 8 * k)) + (r 3)))]) (c_X6_atLeastNone B (upo (upo D 229 g5) q fk) E (nI ((r (22 + 8 * k)) + (r 3)))) hs_X6_atLeastNone wm_X6_166 rfl dX6_hour_143 rfl rfl (Nat.le_of_ble_eq_true rfl) ⟨Nat.le_of_ble_eq_true rfl, Nat.le_of_ble_eq_true rfl, Nat.zero_le _, Nat.zero_le _⟩ ⟨rfl, rfl⟩ (fun z39 D40 E41 hz39 => ?_)
              obtain ⟨hq1, hqD, hqE⟩ := hz39
              obtain rfl := hqD.symm
              obtain rfl := hqE.symm
              obtain rfl : z39 = nI (r (22 + 8 * k) + r 3) := hq1.trans (if_neg (nI_pos (by omega)))
              refine r_istore [(6, .int (nI (r (22 + 8 * k) + r 3))), (5, .int (nI k)), (0, .ref (B + 219)), (1, .ref (B + q))] dX6_hour_146 (by decide) rfl ?_
              refine r_aload_n dX6_hour_148 rfl ?_
              refine r_bipush (nI 16) dX6_hour_149 (by decide) ?_
              refine r_bipush (nI 8) dX6_hour_151 (by decide) ?_
              refine r_iload dX6_hour_153 rfl ?_
              refine r_imul dX6_hour_155 (fun z42 hz42 => ?_)
              obtain rfl : z42 = nI (8 * k) := (hz42.trans (pk_mul _ _))
              refine r_iadd dX6_hour_156 (fun z43 hz43 => ?_)
              obtain rfl : z43 = nI (16 + (8 * k)) := (hz43.trans (nI_add _ _))
              refine r_bipush (nI 6) dX6_hour_157 (by decide) ?_
              refine r_iadd dX6_hour_159 (fun z44 hz44 => ?_)
              obtain rfl : z44 = nI ((16 + (8 * k)) + 6) := (hz44.trans (nI_add _ _))
              refine r_aload_n dX6_hour_160 rfl ?_
              refine r_iload dX6_hour_161 rfl ?_
              refine r_iconst (nI 0) dX6_hour_163 (by decide) ?_
              refine r_callSI (As := [.ref (B + q), .int (nI k), .int (nI 0)]) (c_X6_of B (upo (upo D 229 g5) q fk) E q hq k 0 (by omega)) hs_X6_of wm_X6_159 rfl dX6_hour_164 rfl rfl (Nat.le_of_ble_eq_true rfl) ⟨Nat.le_of_ble_eq_true rfl, Nat.le_of_ble_eq_true rfl, Nat.zero_le _, Nat.zero_le _⟩ ⟨rfl, rfl⟩ (fun z45 D46 E47 hz45 => ?_)
              obtain ⟨hq1, hqD, hqE⟩ := hz45
              obtain rfl := hqD.symm
              obtain rfl := hqE.symm
              obtain rfl : z45 = nI (r (16 + 8 * k)) := hq1.trans ((hMk _ (by omega)).trans (congrArg nI ((congrArg _ (show 16 + 8 * k + 0 = 16 + 8 * k by omega)).trans (hok _ (by omega) (by omega) (by omega) (by omega) (by omega)))))
              refine r_iconst (nI 2) dX6_hour_167 (by decide) ?_
              refine r_icmp_ne (tgt := 175) dX6_hour_168 (by decide) (fun c168 => ?_) (fun c168 => ?_)
              · skip
                rw [nI_eq (by omega) (by omega)] at c168
                refine r_iload dX6_hour_175 rfl ?_
                refine r_iast dX6_hour_177 hql hqk (vp_in_nI (by omega) (by decide)) (fun D48 hD48 => ?_)
                rw [nI_clamp (by omega)] at hD48
                obtain rfl : D48 = upo (upo D 229 g5) q (upd fk (22 + 8 * k) (nI (r (22 + 8 * k) + r 3))) := hD48.trans (up2_upo.trans (congrArg (fun i => upo (upo D 229 g5) q (upd fk i (nI (r (22 + 8 * k) + r 3)))) (show 16 + 8 * k + 6 = 22 + 8 * k by omega)))
                refine r_iinc (nI (k + 1)) [(5, .int (nI (k + 1))), (6, .int (nI (r (22 + 8 * k) + r 3))), (0, .ref (B + 219)), (1, .ref (B + q))] dX6_hour_178 rfl (nI_1 _) (by decide) rfl ?_
                refine r_goto (tgt := 87) dX6_hour_181 (by decide) ?_
                exact r_lv [(5, .int (nI (k + 1))), (0, .ref (B + 219)), (1, .ref (B + q))] (List.forall_mem_cons.mpr ⟨rfl, List.forall_mem_cons.mpr ⟨rfl, List.forall_mem_cons.mpr ⟨rfl, fun _ h => absurd h List.not_mem_nil⟩⟩⟩) (ih (k + 1) ((upd fk (22 + 8 * k) (nI (r (22 + 8 * k) + r 3)))) (by omega) (by omega) (tn_s hI (congrArg nI (by unfold s_tire; first | rw [if_pos c168] | (rw [if_neg c168, if_pos c111]; omega; done) | (rw [if_neg c168, if_neg c111]; done) | (exfalso; exact c133 (tm1_le (by omega)))))))
              · skip
                rw [nI_eq (by omega) (by omega)] at c168
                refine r_iconst (nI 0) dX6_hour_171 (by decide) ?_
                refine r_goto (tgt := 177) dX6_hour_172 (by decide) ?_
                refine r_iast dX6_hour_177 hql hqk (vp_in_nI (by omega) (by decide)) (fun D49 hD49 => ?_)
                rw [nI_clamp (by omega)] at hD49
                obtain rfl : D49 = upo (upo D 229 g5) q (upd fk (22 + 8 * k) (nI 0)) := hD49.trans (up2_upo.trans (congrArg (fun i => upo (upo D 229 g5) q (upd fk i (nI 0))) (show 16 + 8 * k + 6 = 22 + 8 * k by omega)))
                refine r_iinc (nI (k + 1)) [(5, .int (nI (k + 1))), (6, .int (nI (r (22 + 8 * k) + r 3))), (0, .ref (B + 219)), (1, .ref (B + q))] dX6_hour_178 rfl (nI_1 _) (by decide) rfl ?_
                refine r_goto (tgt := 87) dX6_hour_181 (by decide) ?_
                exact r_lv [(5, .int (nI (k + 1))), (0, .ref (B + 219)), (1, .ref (B + q))] (List.forall_mem_cons.mpr ⟨rfl, List.forall_mem_cons.mpr ⟨rfl, List.forall_mem_cons.mpr ⟨rfl, fun _ h => absurd h List.not_mem_nil⟩⟩⟩) (ih (k + 1) ((upd fk (22 + 8 * k) (nI 0))) (by omega) (by omega) (tn_s hI (congrArg nI (by unfold s_tire; first | rw [if_pos c168] | (rw [if_neg c168, if_pos c111]; omega; done) | (rw [if_neg c168, if_neg c111]; done) | (exfalso; exact c133 (tm1_le (by omega)))))))
            · skip
              rw [nI_leI (by omega) (by omega)] at c133
              refine r_bipush (nI 20) dX6_hour_136 (by decide) ?_
              refine r_goto (tgt := 146) dX6_hour_138 (by decide) ?_
              refine r_istore [(6, .int (nI 20)), (5, .int (nI k)), (0, .ref (B + 219)), (1, .ref (B + q))] dX6_hour_146 (by decide) rfl ?_
              refine r_aload_n dX6_hour_148 rfl ?_
              refine r_bipush (nI 16) dX6_hour_149 (by decide) ?_
              refine r_bipush (nI 8) dX6_hour_151 (by decide) ?_
              refine r_iload dX6_hour_153 rfl ?_
              refine r_imul dX6_hour_155 (fun z50 hz50 => ?_)
              obtain rfl : z50 = nI (8 * k) := (hz50.trans (pk_mul _ _))
              refine r_iadd dX6_hour_156 (fun z51 hz51 => ?_)
              obtain rfl : z51 = nI (16 + (8 * k)) := (hz51.trans (nI_add _ _))
              refine r_bipush (nI 6) dX6_hour_157 (by decide) ?_
              refine r_iadd dX6_hour_159 (fun z52 hz52 => ?_)
              obtain rfl : z52 = nI ((16 + (8 * k)) + 6) := (hz52.trans (nI_add _ _))
              refine r_aload_n dX6_hour_160 rfl ?_
              refine r_iload dX6_hour_161 rfl ?_
              refine r_iconst (nI 0) dX6_hour_163 (by decide) ?_
              refine r_callSI (As := [.ref (B + q), .int (nI k), .int (nI 0)]) (c_X6_of B (upo (upo D 229 g5) q fk) E q hq k 0 (by omega)) hs_X6_of wm_X6_159 rfl dX6_hour_164 rfl rfl (Nat.le_of_ble_eq_true rfl) ⟨Nat.le_of_ble_eq_true rfl, Nat.le_of_ble_eq_true rfl, Nat.zero_le _, Nat.zero_le _⟩ ⟨rfl, rfl⟩ (fun z53 D54 E55 hz53 => ?_)
              obtain ⟨hq1, hqD, hqE⟩ := hz53
              obtain rfl := hqD.symm
              obtain rfl := hqE.symm
              obtain rfl : z53 = nI (r (16 + 8 * k)) := hq1.trans ((hMk _ (by omega)).trans (congrArg nI ((congrArg _ (show 16 + 8 * k + 0 = 16 + 8 * k by omega)).trans (hok _ (by omega) (by omega) (by omega) (by omega) (by omega)))))
              refine r_iconst (nI 2) dX6_hour_167 (by decide) ?_
              refine r_icmp_ne (tgt := 175) dX6_hour_168 (by decide) (fun c168 => ?_) (fun c168 => ?_)
              · skip
                rw [nI_eq (by omega) (by omega)] at c168
                refine r_iload dX6_hour_175 rfl ?_
                refine r_iast dX6_hour_177 hql hqk (vp_in_nI (by omega) (by decide)) (fun D56 hD56 => ?_)
                rw [nI_clamp (by omega)] at hD56
                obtain rfl : D56 = upo (upo D 229 g5) q (upd fk (22 + 8 * k) (nI 20)) := hD56.trans (up2_upo.trans (congrArg (fun i => upo (upo D 229 g5) q (upd fk i (nI 20))) (show 16 + 8 * k + 6 = 22 + 8 * k by omega)))
                refine r_iinc (nI (k + 1)) [(5, .int (nI (k + 1))), (6, .int (nI 20)), (0, .ref (B + 219)), (1, .ref (B + q))] dX6_hour_178 rfl (nI_1 _) (by decide) rfl ?_
                refine r_goto (tgt := 87) dX6_hour_181 (by decide) ?_
                exact r_lv [(5, .int (nI (k + 1))), (0, .ref (B + 219)), (1, .ref (B + q))] (List.forall_mem_cons.mpr ⟨rfl, List.forall_mem_cons.mpr ⟨rfl, List.forall_mem_cons.mpr ⟨rfl, fun _ h => absurd h List.not_mem_nil⟩⟩⟩) (ih (k + 1) ((upd fk (22 + 8 * k) (nI 20))) (by omega) (by omega) (tn_s hI (congrArg nI (by unfold s_tire; first | rw [if_pos c168] | (rw [if_neg c168, if_pos c111]; omega; done) | (rw [if_neg c168, if_neg c111]; done) | (exfalso; exact c133 (tm1_le (by omega)))))))
              · skip
                rw [nI_eq (by omega) (by omega)] at c168
                refine r_iconst (nI 0) dX6_hour_171 (by decide) ?_
                refine r_goto (tgt := 177) dX6_hour_172 (by decide) ?_
                refine r_iast dX6_hour_177 hql hqk (vp_in_nI (by omega) (by decide)) (fun D57 hD57 => ?_)
                rw [nI_clamp (by omega)] at hD57
                obtain rfl : D57 = upo (upo D 229 g5) q (upd fk (22 + 8 * k) (nI 0)) := hD57.trans (up2_upo.trans (congrArg (fun i => upo (upo D 229 g5) q (upd fk i (nI 0))) (show 16 + 8 * k + 6 = 22 + 8 * k by omega)))
                refine r_iinc (nI (k + 1)) [(5, .int (nI (k + 1))), (6, .int (nI 20)), (0, .ref (B + 219)), (1, .ref (B + q))] dX6_hour_178 rfl (nI_1 _) (by decide) rfl ?_
                refine r_goto (tgt := 87) dX6_hour_181 (by decide) ?_
                exact r_lv [(5, .int (nI (k + 1))), (0, .ref (B + 219)), (1, .ref (B + q))] (List.forall_mem_cons.mpr ⟨rfl, List.forall_mem_cons.mpr ⟨rfl, List.forall_mem_cons.mpr ⟨rfl, fun _ h => absurd h List.not_mem_nil⟩⟩⟩) (ih (k + 1) ((upd fk (22 + 8 * k) (nI 0))) (by omega) (by omega) (tn_s hI (congrArg nI (by unfold s_tire; first | rw [if_pos c168] | (rw [if_neg c168, if_pos c111]; omega; done) | (rw [if_neg c168, if_neg c111]; done) | (exfalso; exact c133 (tm1_le (by omega)))))))
    exact r_lv [(5, .int (nI 0)), (0, .ref (B + 219)), (1, .ref (B + q))] (List.forall_mem_cons.mpr ⟨rfl, List.forall_mem_cons.mpr ⟨rfl, List.forall_mem_cons.mpr ⟨rfl, fun _ h => absurd h List.not_mem_nil⟩⟩⟩) (L (r 5 + 1) 0 fr (by omega) (by omega) hJ0)
  refine r_aload_n dX6_hour_16 rfl ?_
  refine r_bipush (nI 8) dX6_hour_17 (by decide) ?_
  refine r_dup2 dX6_hour_19 rfl rfl ?_
  refine r_iald dX6_hour_20 hql hqk (vp_in_nI (by decide) (by decide)) (fun z58 hz58 => ?_)
  rw [nI_clamp (by omega)] at hz58
  obtain rfl : z58 = nI (r 8) := (hz58.trans (congrFun (upo_n (by omega)) _)).trans (hM 8 (by decide))
  refine r_iload dX6_hour_21 rfl ?_
  refine r_ldc wc_X6_97 dX6_hour_23 ?_
  refine r_icmp_ne (tgt := 32) dX6_hour_25 (by decide) (fun c25 => ?_) (fun c25 => ?_)
  · skip
    rw [code_none hg99] at c25
    refine r_iconst (nI 0) dX6_hour_32 (by decide) ?_
    refine r_iadd dX6_hour_33 (fun z59 hz59 => ?_)
    obtain rfl : z59 = nI ((r 8) + 0) := (hz59.trans (nI_add _ _))
    refine r_iast dX6_hour_34 hql hqk (vp_in_nI (by decide) (by decide)) (fun D60 hD60 => ?_)
    rw [nI_clamp (by omega)] at hD60
    obtain rfl : D60 = upo (upo D 229 g5) q (upd (D q) 8 (nI ((r 8) + 0))) := hD60.trans (up2_eq.trans (congrArg (fun g9 => upo (upo D 229 g5) q (upd g9 8 (nI ((r 8) + 0)))) (upo_n (by omega))))
    refine r_iload dX6_hour_35 rfl ?_
    refine r_ldc wc_X6_97 dX6_hour_37 ?_
    refine r_icmp_eq (tgt := 84) dX6_hour_39 (by decide) (fun c39 => ?_) (fun c39 => ?_)
    · skip
      rw [code_none hg99] at c39
      exact r_lv [(0, .ref (B + 219)), (1, .ref (B + q))] (List.forall_mem_cons.mpr ⟨rfl, List.forall_mem_cons.mpr ⟨rfl, fun _ h => absurd h List.not_mem_nil⟩⟩) (J _ (by first | exact mv_stay hM c25 c47 | (exfalso; omega)))
    · skip
      rw [code_none hg99] at c39
      refine r_lv [(4, .int (nI (s_goes wy r))), (0, .ref (B + 219)), (1, .ref (B + q)), (2, .int (nI 0)), (3, .int (nI 0))] (List.forall_mem_cons.mpr ⟨congrArg (fun x => some (Value.int x)) (if_neg c39), List.forall_mem_cons.mpr ⟨rfl, List.forall_mem_cons.mpr ⟨rfl, List.forall_mem_cons.mpr ⟨rfl, List.forall_mem_cons.mpr ⟨rfl, fun _ h => absurd h List.not_mem_nil⟩⟩⟩⟩⟩) ?_
      refine r_iload dX6_hour_42 rfl ?_
      refine r_aload_n dX6_hour_44 rfl ?_
      refine r_iconst (nI 1) dX6_hour_45 (by decide) ?_
      refine r_iald dX6_hour_46 hql hqk (vp_in_nI (by decide) (by decide)) (fun z61 hz61 => ?_)
      rw [nI_clamp (by omega)] at hz61
      obtain rfl : z61 = nI (r 1) := (hz61.trans ((congrFun (upo_s) _).trans (pk_un (by decide)))).trans (hM 1 (by decide))
      refine r_icmp_eq (tgt := 84) dX6_hour_47 (by decide) (fun c47 => ?_) (fun c47 => ?_)
      · skip
        rw [nI_eq (by omega) (by omega)] at c47
        exact r_lv [(0, .ref (B + 219)), (1, .ref (B + q))] (List.forall_mem_cons.mpr ⟨rfl, List.forall_mem_cons.mpr ⟨rfl, fun _ h => absurd h List.not_mem_nil⟩⟩) (J _ (by first | exact mv_stay hM c25 c47 | (exfalso; omega)))
      · skip
        rw [nI_eq (by omega) (by omega)] at c47
        refine r_aload_n dX6_hour_50 rfl ?_
        refine r_bipush (nI 9) dX6_hour_51 (by decide) ?_
        refine r_aload_n dX6_hour_53 rfl ?_
        refine r_bipush (nI 9) dX6_hour_54 (by decide) ?_
        refine r_iald dX6_hour_56 hql hqk (vp_in_nI (by decide) (by decide)) (fun z62 hz62 => ?_)
        rw [nI_clamp (by omega)] at hz62
        obtain rfl : z62 = nI (r 9) := (hz62.trans ((congrFun (upo_s) _).trans (pk_un (by decide)))).trans (hM 9 (by decide))
        refine r_iconst (nI 1) dX6_hour_57 (by decide) ?_
        refine r_aload_n dX6_hour_58 rfl ?_
        refine r_iconst (nI 1) dX6_hour_59 (by decide) ?_
        refine r_iald dX6_hour_60 hql hqk (vp_in_nI (by decide) (by decide)) (fun z63 hz63 => ?_)
        rw [nI_clamp (by omega)] at hz63
        obtain rfl : z63 = nI (r 1) := (hz63.trans ((congrFun (upo_s) _).trans (pk_un (by decide)))).trans (hM 1 (by decide))
        refine r_ishl dX6_hour_61 (fun z64 hz64 => ?_)
        obtain rfl : z64 = nI (2 ^ r 1) := hz64.trans (shl_1 (by omega))
        refine r_ior dX6_hour_62 (fun z65 hz65 => ?_)
        obtain rfl : z65 = nI (r 9 ||| 2 ^ r 1) := hz65.trans (nI_or _ _)
        refine r_iconst (nI 1) dX6_hour_63 (by decide) ?_
        refine r_iload dX6_hour_64 rfl ?_
        refine r_ishl dX6_hour_66 (fun z66 hz66 => ?_)
        obtain rfl : z66 = nI (2 ^ s_goes wy r) := hz66.trans (shl_1 (by omega))
        refine r_iconst ((-1)) dX6_hour_67 (by decide) ?_
        refine r_ixor dX6_hour_68 (fun z67 hz67 => ?_)
        subst hz67
        refine r_iand dX6_hour_69 (fun z68 hz68 => ?_)
        obtain rfl : z68 = nI (s_milk (r 9) (r 1) (s_goes wy r)) := hz68.trans (milk_n _ (or_lt64 b8 (pw_lt64 (by omega))) _ (by omega))
        refine r_iast dX6_hour_70 hql hqk (vp_in_nI (by decide) (by decide)) (fun D69 hD69 => ?_)
        rw [nI_clamp (by omega)] at hD69
        obtain rfl : D69 = upo (upo D 229 g5) q (upd (upd (D q) 8 (nI ((r 8) + 0))) 9 (nI (s_milk (r 9) (r 1) (s_goes wy r)))) := hD69.trans up2_upo
        refine r_aload_n dX6_hour_71 rfl ?_
        refine r_iconst (nI 1) dX6_hour_72 (by decide) ?_
        refine r_iload dX6_hour_73 rfl ?_
        refine r_iast dX6_hour_75 hql hqk (vp_in_nI (by decide) (by decide)) (fun D70 hD70 => ?_)
        rw [nI_clamp (by omega)] at hD70
        obtain rfl : D70 = upo (upo D 229 g5) q (upd (upd (upd (D q) 8 (nI ((r 8) + 0))) 9 (nI (s_milk (r 9) (r 1) (s_goes wy r)))) 1 (nI (s_goes wy r))) := hD70.trans up2_upo
        refine r_aload_n dX6_hour_76 rfl ?_
        refine r_bipush (nI 7) dX6_hour_77 (by decide) ?_
        refine r_dup2 dX6_hour_79 rfl rfl ?_
        refine r_iald dX6_hour_80 hql hqk (vp_in_nI (by decide) (by decide)) (fun z71 hz71 => ?_)
        rw [nI_clamp (by omega)] at hz71
        obtain rfl : z71 = nI (r 7) := (hz71.trans ((congrFun (upo_s) _).trans ((pk_un (by decide)).trans ((pk_un (by decide)).trans (pk_un (by decide)))))).trans (hM 7 (by decide))
        refine r_iconst (nI 1) dX6_hour_81 (by decide) ?_
        refine r_iadd dX6_hour_82 (fun z72 hz72 => ?_)
        obtain rfl : z72 = nI ((r 7) + 1) := (hz72.trans (nI_add _ _))
        refine r_iast dX6_hour_83 hql hqk (vp_in_nI (by decide) (by decide)) (fun D73 hD73 => ?_)
        rw [nI_clamp (by omega)] at hD73
        obtain rfl : D73 = upo (upo D 229 g5) q (upd (upd (upd (upd (D q) 8 (nI ((r 8) + 0))) 9 (nI (s_milk (r 9) (r 1) (s_goes wy r)))) 1 (nI (s_goes wy r))) 7 (nI ((r 7) + 1))) := hD73.trans up2_upo
        exact r_lv [(0, .ref (B + 219)), (1, .ref (B + q))] (List.forall_mem_cons.mpr ⟨rfl, List.forall_mem_cons.mpr ⟨rfl, fun _ h => absurd h List.not_mem_nil⟩⟩) (J _ (by first | exact mv_move hM c25 c47 | (exfalso; omega)))
  · skip
    rw [code_none hg99] at c25
    refine r_iconst (nI 1) dX6_hour_28 (by decide) ?_
    refine r_goto (tgt := 33) dX6_hour_29 (by decide) ?_
    refine r_iadd dX6_hour_33 (fun z74 hz74 => ?_)
    obtain rfl : z74 = nI ((r 8) + 1) := (hz74.trans (nI_add _ _))
    refine r_iast dX6_hour_34 hql hqk (vp_in_nI (by decide) (by decide)) (fun D75 hD75 => ?_)
    rw [nI_clamp (by omega)] at hD75
    obtain rfl : D75 = upo (upo D 229 g5) q (upd (D q) 8 (nI ((r 8) + 1))) := hD75.trans (up2_eq.trans (congrArg (fun g9 => upo (upo D 229 g5) q (upd g9 8 (nI ((r 8) + 1)))) (upo_n (by omega))))
    refine r_iload dX6_hour_35 rfl ?_
    refine r_ldc wc_X6_97 dX6_hour_37 ?_
    refine r_icmp_eq (tgt := 84) dX6_hour_39 (by decide) (fun c39 => ?_) (fun c39 => ?_)
    · skip
      rw [code_none hg99] at c39
      exact r_lv [(0, .ref (B + 219)), (1, .ref (B + q))] (List.forall_mem_cons.mpr ⟨rfl, List.forall_mem_cons.mpr ⟨rfl, fun _ h => absurd h List.not_mem_nil⟩⟩) (J _ (by first | exact mv_half hM c25 | (exfalso; omega)))
    · skip
      rw [code_none hg99] at c39
      refine r_lv [(4, .int (nI (s_goes wy r))), (0, .ref (B + 219)), (1, .ref (B + q)), (2, .int (nI 0)), (3, .int (nI 0))] (List.forall_mem_cons.mpr ⟨congrArg (fun x => some (Value.int x)) (if_neg c39), List.forall_mem_cons.mpr ⟨rfl, List.forall_mem_cons.mpr ⟨rfl, List.forall_mem_cons.mpr ⟨rfl, List.forall_mem_cons.mpr ⟨rfl, fun _ h => absurd h List.not_mem_nil⟩⟩⟩⟩⟩) ?_
      refine r_iload dX6_hour_42 rfl ?_
      refine r_aload_n dX6_hour_44 rfl ?_
      refine r_iconst (nI 1) dX6_hour_45 (by decide) ?_
      refine r_iald dX6_hour_46 hql hqk (vp_in_nI (by decide) (by decide)) (fun z76 hz76 => ?_)
      rw [nI_clamp (by omega)] at hz76
      obtain rfl : z76 = nI (r 1) := (hz76.trans ((congrFun (upo_s) _).trans (pk_un (by decide)))).trans (hM 1 (by decide))
      refine r_icmp_eq (tgt := 84) dX6_hour_47 (by decide) (fun c47 => ?_) (fun c47 => ?_)
      · skip
        rw [nI_eq (by omega) (by omega)] at c47
        exact r_lv [(0, .ref (B + 219)), (1, .ref (B + q))] (List.forall_mem_cons.mpr ⟨rfl, List.forall_mem_cons.mpr ⟨rfl, fun _ h => absurd h List.not_mem_nil⟩⟩) (J _ (by first | exact mv_half hM c25 | (exfalso; omega)))
      · skip
        rw [nI_eq (by omega) (by omega)] at c47
        refine r_aload_n dX6_hour_50 rfl ?_
        refine r_bipush (nI 9) dX6_hour_51 (by decide) ?_
        refine r_aload_n dX6_hour_53 rfl ?_
        refine r_bipush (nI 9) dX6_hour_54 (by decide) ?_
        refine r_iald dX6_hour_56 hql hqk (vp_in_nI (by decide) (by decide)) (fun z77 hz77 => ?_)
        rw [nI_clamp (by omega)] at hz77
        obtain rfl : z77 = nI (r 9) := (hz77.trans ((congrFun (upo_s) _).trans (pk_un (by decide)))).trans (hM 9 (by decide))
        refine r_iconst (nI 1) dX6_hour_57 (by decide) ?_
        refine r_aload_n dX6_hour_58 rfl ?_
        refine r_iconst (nI 1) dX6_hour_59 (by decide) ?_
        refine r_iald dX6_hour_60 hql hqk (vp_in_nI (by decide) (by decide)) (fun z78 hz78 => ?_)
        rw [nI_clamp (by omega)] at hz78
        obtain rfl : z78 = nI (r 1) := (hz78.trans ((congrFun (upo_s) _).trans (pk_un (by decide)))).trans (hM 1 (by decide))
        refine r_ishl dX6_hour_61 (fun z79 hz79 => ?_)
        obtain rfl : z79 = nI (2 ^ r 1) := hz79.trans (shl_1 (by omega))
        refine r_ior dX6_hour_62 (fun z80 hz80 => ?_)
        obtain rfl : z80 = nI (r 9 ||| 2 ^ r 1) := hz80.trans (nI_or _ _)
        refine r_iconst (nI 1) dX6_hour_63 (by decide) ?_
        refine r_iload dX6_hour_64 rfl ?_
        refine r_ishl dX6_hour_66 (fun z81 hz81 => ?_)
        obtain rfl : z81 = nI (2 ^ s_goes wy r) := hz81.trans (shl_1 (by omega))
        refine r_iconst ((-1)) dX6_hour_67 (by decide) ?_
        refine r_ixor dX6_hour_68 (fun z82 hz82 => ?_)
        subst hz82
        refine r_iand dX6_hour_69 (fun z83 hz83 => ?_)
        obtain rfl : z83 = nI (s_milk (r 9) (r 1) (s_goes wy r)) := hz83.trans (milk_n _ (or_lt64 b8 (pw_lt64 (by omega))) _ (by omega))
        refine r_iast dX6_hour_70 hql hqk (vp_in_nI (by decide) (by decide)) (fun D84 hD84 => ?_)
        rw [nI_clamp (by omega)] at hD84
        obtain rfl : D84 = upo (upo D 229 g5) q (upd (upd (D q) 8 (nI ((r 8) + 1))) 9 (nI (s_milk (r 9) (r 1) (s_goes wy r)))) := hD84.trans up2_upo
        refine r_aload_n dX6_hour_71 rfl ?_
        refine r_iconst (nI 1) dX6_hour_72 (by decide) ?_
        refine r_iload dX6_hour_73 rfl ?_
        refine r_iast dX6_hour_75 hql hqk (vp_in_nI (by decide) (by decide)) (fun D85 hD85 => ?_)
        rw [nI_clamp (by omega)] at hD85
        obtain rfl : D85 = upo (upo D 229 g5) q (upd (upd (upd (D q) 8 (nI ((r 8) + 1))) 9 (nI (s_milk (r 9) (r 1) (s_goes wy r)))) 1 (nI (s_goes wy r))) := hD85.trans up2_upo
        refine r_aload_n dX6_hour_76 rfl ?_
        refine r_bipush (nI 7) dX6_hour_77 (by decide) ?_
        refine r_dup2 dX6_hour_79 rfl rfl ?_
        refine r_iald dX6_hour_80 hql hqk (vp_in_nI (by decide) (by decide)) (fun z86 hz86 => ?_)
        rw [nI_clamp (by omega)] at hz86
        obtain rfl : z86 = nI (r 7) := (hz86.trans ((congrFun (upo_s) _).trans ((pk_un (by decide)).trans ((pk_un (by decide)).trans (pk_un (by decide)))))).trans (hM 7 (by decide))
        refine r_iconst (nI 1) dX6_hour_81 (by decide) ?_
        refine r_iadd dX6_hour_82 (fun z87 hz87 => ?_)
        obtain rfl : z87 = nI ((r 7) + 1) := (hz87.trans (nI_add _ _))
        refine r_iast dX6_hour_83 hql hqk (vp_in_nI (by decide) (by decide)) (fun D88 hD88 => ?_)
        rw [nI_clamp (by omega)] at hD88
        obtain rfl : D88 = upo (upo D 229 g5) q (upd (upd (upd (upd (D q) 8 (nI ((r 8) + 1))) 9 (nI (s_milk (r 9) (r 1) (s_goes wy r)))) 1 (nI (s_goes wy r))) 7 (nI ((r 7) + 1))) := hD88.trans up2_upo
        exact r_lv [(0, .ref (B + 219)), (1, .ref (B + q))] (List.forall_mem_cons.mpr ⟨rfl, List.forall_mem_cons.mpr ⟨rfl, fun _ h => absurd h List.not_mem_nil⟩⟩) (J _ (by first | exact mv_move hM c25 c47 | (exfalso; omega)))
