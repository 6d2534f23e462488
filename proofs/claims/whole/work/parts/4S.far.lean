set_option maxRecDepth 100000 in
set_option maxHeartbeats 4000000 in
theorem c_X1_measure (B : Nat) (D : DD) (E : EE) (r : Row) (hr : ∀ j, j < 6 → D 180 j = nI (r (10 + j)) ∧ r (10 + j) < 64) : MR yX1_measure cX1_measure 5 none rX1_measure B [.ref (B + 179)] Z0 D E (Q2 Z0 (pV (fun D' E' => ((∀ q, q ≠ 181 → D' q = D q) ∧ ∀ j, j < 36 → D' 181 j = nI (s_far r j)) ∧ E' = E))) := by
  refine r_enter [(0, .ref (B + 179))] hv_X1_measure.1.2.2.2.2 (Nat.le_of_ble_eq_true rfl) rfl ?_
  refine r_iconst (nI 0) dX1_measure_0 (by decide) ?_
  refine r_istore_n [(1, .int (nI 0)), (0, .ref (B + 179))] dX1_measure_1 (by decide) rfl ?_
  have L : ∀ (fu a : Nat) (Dk : DD), a ≤ 6 → 6 - a < fu → (W0I D Dk r (6 * a)) → RW yX1_measure cX1_measure 5 none rX1_measure B (Q2 Z0 (pV (fun D' E' => ((∀ q, q ≠ 181 → D' q = D q) ∧ ∀ j, j < 36 → D' 181 j = nI (s_far r j)) ∧ E' = E))) Z0 Dk E 0 0 2 [(1, .int (nI a)), (0, .ref (B + 179))] [] := by
    intro fu
    induction fu with
    | zero => intro a Dk hku hfu _; omega
    | succ fu ih =>
      intro a Dk hku hfu hI
      refine r_iload_n dX1_measure_2 rfl ?_
      refine r_bipush (nI 6) dX1_measure_3 (by decide) ?_
      refine r_icmp_ge (tgt := 70) dX1_measure_5 (by decide) (fun c5 => ?_) (fun c5 => ?_)
      · skip
        rw [nI_leI (by omega) (by omega)] at c5
        have ha6 : a = 6 := by omega
        have hW0 : W0I D Dk r 36 := by rw [ha6] at hI; exact hI
        refine r_iconst (nI 0) dX1_measure_70 (by decide) ?_
        refine r_istore_n [(1, .int (nI 0)), (0, .ref (B + 179))] dX1_measure_71 (by decide) rfl ?_
        have L3 : ∀ (fu m : Nat) (Dm : DD), m ≤ 6 → 6 - m < fu → (WMI D Dm r m 0) → RW yX1_measure cX1_measure 5 none rX1_measure B (Q2 Z0 (pV (fun D' E' => ((∀ q, q ≠ 181 → D' q = D q) ∧ ∀ j, j < 36 → D' 181 j = nI (s_far r j)) ∧ E' = E))) Z0 Dm E 0 0 72 [(1, .int (nI m)), (0, .ref (B + 179))] [] := by
          intro fu
          induction fu with
          | zero => intro m Dm hku hfu _; omega
          | succ fu ihL3 =>
            intro m Dm hku hfu hI
            refine r_iload_n dX1_measure_72 rfl ?_
            refine r_bipush (nI 6) dX1_measure_73 (by decide) ?_
            refine r_icmp_ge (tgt := 149) dX1_measure_75 (by decide) (fun c75 => ?_) (fun c75 => ?_)
            · skip
              rw [nI_leI (by omega) (by omega)] at c75
              refine r_vret2 dX1_measure_149 rfl ⟨Nat.zero_le _, Nat.zero_le _⟩ ?_
              have hm6 : m = 6 := by omega
              rw [hm6] at hI
              exact ⟨WMI_e hI, rfl⟩
            · skip
              rw [nI_leI (by omega) (by omega)] at c75
              refine r_iconst (nI 0) dX1_measure_78 (by decide) ?_
              refine r_istore_n [(2, .int (nI 0)), (1, .int (nI m)), (0, .ref (B + 179))] dX1_measure_79 (by decide) rfl ?_
              have L4 : ∀ (fu a : Nat) (Da : DD), a ≤ 6 → 6 - a < fu → (WMI D Da r m (6 * a)) → RW yX1_measure cX1_measure 5 none rX1_measure B (Q2 Z0 (pV (fun D' E' => ((∀ q, q ≠ 181 → D' q = D q) ∧ ∀ j, j < 36 → D' 181 j = nI (s_far r j)) ∧ E' = E))) Z0 Da E 0 0 80 [(2, .int (nI a)), (1, .int (nI m)), (0, .ref (B + 179))] [] := by
                intro fu
                induction fu with
                | zero => intro a Da hku hfu _; omega
                | succ fu ihL4 =>
                  intro a Da hku hfu hI
                  have hB := hI
                  refine r_iload_n dX1_measure_80 rfl ?_
                  refine r_bipush (nI 6) dX1_measure_81 (by decide) ?_
                  refine r_icmp_ge (tgt := 143) dX1_measure_83 (by decide) (fun c83 => ?_) (fun c83 => ?_)
                  · skip
                    rw [nI_leI (by omega) (by omega)] at c83
                    have ha6 : 6 * a = 36 := by omega
                    refine r_iinc (nI (m + 1)) [(1, .int (nI (m + 1))), (2, .int (nI a)), (0, .ref (B + 179))] dX1_measure_143 rfl (nI_1 _) (by decide) rfl ?_
                    refine r_goto (tgt := 72) dX1_measure_146 (by decide) ?_
                    exact r_lv [(1, .int (nI (m + 1))), (0, .ref (B + 179))] (List.forall_mem_cons.mpr ⟨rfl, List.forall_mem_cons.mpr ⟨rfl, fun _ h => absurd h List.not_mem_nil⟩⟩) (ihL3 (m + 1) Da (by omega) (by omega) (WMI_n (by rw [← ha6]; exact hB)))
                  · skip
                    rw [nI_leI (by omega) (by omega)] at c83
                    refine r_iconst (nI 0) dX1_measure_86 (by decide) ?_
                    refine r_istore_n [(3, .int (nI 0)), (2, .int (nI a)), (1, .int (nI m)), (0, .ref (B + 179))] dX1_measure_87 (by decide) rfl ?_
                    have L5 : ∀ (fu b : Nat) (Dj : DD), b ≤ 6 → 6 - b < fu → (WMI D Dj r m (6 * a + b)) → RW yX1_measure cX1_measure 5 none rX1_measure B (Q2 Z0 (pV (fun D' E' => ((∀ q, q ≠ 181 → D' q = D q) ∧ ∀ j, j < 36 → D' 181 j = nI (s_far r j)) ∧ E' = E))) Z0 Dj E 0 0 88 [(3, .int (nI b)), (2, .int (nI a)), (1, .int (nI m)), (0, .ref (B + 179))] [] := by
                      intro fu
                      induction fu with
                      | zero => intro b Dj hku hfu _; omega
                      | succ fu ihL5 =>
                        intro b Dj hku hfu hI
                        have hJ := hI
                        refine r_iload_n dX1_measure_88 rfl ?_
                        refine r_bipush (nI 6) dX1_measure_89 (by decide) ?_
                        refine r_icmp_ge (tgt := 137) dX1_measure_91 (by decide) (fun c91 => ?_) (fun c91 => ?_)
                        · skip
                          rw [nI_leI (by omega) (by omega)] at c91
                          have hb6 : b = 6 := by omega
                          refine r_iinc (nI (a + 1)) [(2, .int (nI (a + 1))), (3, .int (nI b)), (1, .int (nI m)), (0, .ref (B + 179))] dX1_measure_137 rfl (nI_1 _) (by decide) rfl ?_
                          refine r_goto (tgt := 80) dX1_measure_140 (by decide) ?_
                          exact r_lv [(2, .int (nI (a + 1))), (1, .int (nI m)), (0, .ref (B + 179))] (List.forall_mem_cons.mpr ⟨rfl, List.forall_mem_cons.mpr ⟨rfl, List.forall_mem_cons.mpr ⟨rfl, fun _ h => absurd h List.not_mem_nil⟩⟩⟩) (ihL4 (a + 1) Dj (by omega) (by omega) ((by rw [show 6 * (a + 1) = 6 * a + b by omega]; exact hJ)))
                        · skip
                          rw [nI_leI (by omega) (by omega)] at c91
                          refine r_aload_n dX1_measure_94 rfl ?_
                          refine r_iload_n dX1_measure_95 rfl ?_
                          refine r_iload_n dX1_measure_96 rfl ?_
                          refine r_callVI (As := [.int (nI a), .int (nI m)]) (o := 179) (c_X1_way B Dj E 179 a m (isL_in 179 (by decide)) (by omega)) hv_X1_way wm_X1_53 dX1_measure_97 rfl rfl z_179 k_179 (by decide) rfl (Nat.le_of_ble_eq_true rfl) ⟨Nat.le_of_ble_eq_true rfl, Nat.le_of_ble_eq_true rfl, Nat.zero_le _, Nat.zero_le _⟩ ⟨rfl, rfl⟩ (fun z1 D2 E3 hz1 => ?_)
                          obtain ⟨hq1, hqD, hqE⟩ := hz1
                          obtain rfl := hqD.symm
                          obtain rfl := hqE.symm
                          obtain rfl : z1 = nI (s_fw r m a m) := hq1.trans (WMI_at hJ (by omega) (by omega) (by omega))
                          have hw_am := fw_9 (r := r) m a m
                          refine r_aload_n dX1_measure_100 rfl ?_
                          refine r_iload_n dX1_measure_101 rfl ?_
                          refine r_iload_n dX1_measure_102 rfl ?_
                          refine r_callVI (As := [.int (nI m), .int (nI b)]) (o := 179) (c_X1_way B Dj E 179 m b (isL_in 179 (by decide)) (by omega)) hv_X1_way wm_X1_53 dX1_measure_103 rfl rfl z_179 k_179 (by decide) rfl (Nat.le_of_ble_eq_true rfl) ⟨Nat.le_of_ble_eq_true rfl, Nat.le_of_ble_eq_true rfl, Nat.zero_le _, Nat.zero_le _⟩ ⟨rfl, rfl⟩ (fun z4 D5 E6 hz4 => ?_)
                          obtain ⟨hq1, hqD, hqE⟩ := hz4
                          obtain rfl := hqD.symm
                          obtain rfl := hqE.symm
                          obtain rfl : z4 = nI (s_fw r m m b) := hq1.trans (WMI_at hJ (by omega) (by omega) (by omega))
                          have hw_mb := fw_9 (r := r) m m b
                          refine r_iadd dX1_measure_106 (fun z7 hz7 => ?_)
                          obtain rfl : z7 = nI ((s_fw r m a m) + (s_fw r m m b)) := (hz7.trans (nI_add _ _))
                          refine r_istore [(4, .int (nI ((s_fw r m a m) + (s_fw r m m b)))), (3, .int (nI b)), (2, .int (nI a)), (1, .int (nI m)), (0, .ref (B + 179))] dX1_measure_107 (by decide) rfl ?_
                          refine r_aload_n dX1_measure_109 rfl ?_
                          refine r_getR (ci := 1) (k := 6) wf_X1_15 dX1_measure_110 z_179 k_179 (by decide) (by decide) (fun _ _ => rfl) f_179_6 ?_
                          refine r_bipush (nI 6) dX1_measure_113 (by decide) ?_
                          refine r_iload_n dX1_measure_115 rfl ?_
                          refine r_imul dX1_measure_116 (fun z8 hz8 => ?_)
                          obtain rfl : z8 = nI (6 * a) := (hz8.trans (pk_mul _ _))
                          refine r_iload_n dX1_measure_117 rfl ?_
                          refine r_iadd dX1_measure_118 (fun z9 hz9 => ?_)
                          obtain rfl : z9 = nI ((6 * a) + b) := (hz9.trans (nI_add _ _))
                          refine r_aload_n dX1_measure_119 rfl ?_
                          refine r_iload_n dX1_measure_120 rfl ?_
                          refine r_iload_n dX1_measure_121 rfl ?_
                          refine r_callVI (As := [.int (nI a), .int (nI b)]) (o := 179) (c_X1_way B Dj E 179 a b (isL_in 179 (by decide)) (by omega)) hv_X1_way wm_X1_53 dX1_measure_122 rfl rfl z_179 k_179 (by decide) rfl (Nat.le_of_ble_eq_true rfl) ⟨Nat.le_of_ble_eq_true rfl, Nat.le_of_ble_eq_true rfl, Nat.zero_le _, Nat.zero_le _⟩ ⟨rfl, rfl⟩ (fun z10 D11 E12 hz10 => ?_)
                          obtain ⟨hq1, hqD, hqE⟩ := hz10
                          obtain rfl := hqD.symm
                          obtain rfl := hqE.symm
                          obtain rfl : z10 = nI (s_fw r m a b) := hq1.trans (WMI_at hJ (by omega) (by omega) (by omega))
                          have hw_ab := fw_9 (r := r) m a b
                          refine r_iload dX1_measure_125 rfl ?_
                          refine r_mmin wm_X1_56 dX1_measure_127 (Nat.le_of_ble_eq_true rfl) (Nat.le_of_ble_eq_true rfl) (Nat.zero_le _) (Nat.zero_le _) (fun z13 hz13 => ?_)
                          obtain rfl : z13 = nI (s_fw r (m + 1) a b) := hz13.trans (mn_n (by omega) (by omega))
                          refine r_iast dX1_measure_130 z_181 k_181 (vp_in_nI (by omega) (by decide)) (fun D14 hD14 => ?_)
                          rw [nI_clamp (by omega)] at hD14
                          have hJ9 := WMI_s hJ (by omega) rfl hD14
                          refine r_iinc (nI (b + 1)) [(3, .int (nI (b + 1))), (4, .int (nI ((s_fw r m a m) + (s_fw r m m b)))), (2, .int (nI a)), (1, .int (nI m)), (0, .ref (B + 179))] dX1_measure_131 rfl (nI_1 _) (by decide) rfl ?_
                          refine r_goto (tgt := 88) dX1_measure_134 (by decide) ?_
                          exact r_lv [(3, .int (nI (b + 1))), (2, .int (nI a)), (1, .int (nI m)), (0, .ref (B + 179))] (List.forall_mem_cons.mpr ⟨rfl, List.forall_mem_cons.mpr ⟨rfl, List.forall_mem_cons.mpr ⟨rfl, List.forall_mem_cons.mpr ⟨rfl, fun _ h => absurd h List.not_mem_nil⟩⟩⟩⟩) (ihL5 (b + 1) D14 (by omega) (by omega) hJ9)
                    exact r_lv [(3, .int (nI 0)), (2, .int (nI a)), (1, .int (nI m)), (0, .ref (B + 179))] (List.forall_mem_cons.mpr ⟨rfl, List.forall_mem_cons.mpr ⟨rfl, List.forall_mem_cons.mpr ⟨rfl, List.forall_mem_cons.mpr ⟨rfl, fun _ h => absurd h List.not_mem_nil⟩⟩⟩⟩) (L5 (6 + 1) 0 Da (by omega) (by omega) hI)
              exact r_lv [(2, .int (nI 0)), (1, .int (nI m)), (0, .ref (B + 179))] (List.forall_mem_cons.mpr ⟨rfl, List.forall_mem_cons.mpr ⟨rfl, List.forall_mem_cons.mpr ⟨rfl, fun _ h => absurd h List.not_mem_nil⟩⟩⟩) (L4 (6 + 1) 0 Dm (by omega) (by omega) hI)
        exact r_lv [(1, .int (nI 0)), (0, .ref (B + 179))] (List.forall_mem_cons.mpr ⟨rfl, List.forall_mem_cons.mpr ⟨rfl, fun _ h => absurd h List.not_mem_nil⟩⟩) (L3 (6 + 1) 0 Dk (by omega) (by omega) (WMI_0 hW0))
      · skip
        rw [nI_leI (by omega) (by omega)] at c5
        refine r_iconst (nI 0) dX1_measure_8 (by decide) ?_
        refine r_istore_n [(2, .int (nI 0)), (1, .int (nI a)), (0, .ref (B + 179))] dX1_measure_9 (by decide) rfl ?_
        have L2 : ∀ (fu b : Nat) (Dj : DD), b ≤ 6 → 6 - b < fu → (W0I D Dj r (6 * a + b)) → RW yX1_measure cX1_measure 5 none rX1_measure B (Q2 Z0 (pV (fun D' E' => ((∀ q, q ≠ 181 → D' q = D q) ∧ ∀ j, j < 36 → D' 181 j = nI (s_far r j)) ∧ E' = E))) Z0 Dj E 0 0 10 [(2, .int (nI b)), (1, .int (nI a)), (0, .ref (B + 179))] [] := by
          intro fu
          induction fu with
          | zero => intro b Dj hku hfu _; omega
          | succ fu ihL2 =>
            intro b Dj hku hfu hI
            have hJ := hI
            have ha64 := (hr a (by omega)).2
            refine r_iload_n dX1_measure_10 rfl ?_
            refine r_bipush (nI 6) dX1_measure_11 (by decide) ?_
            refine r_icmp_ge (tgt := 64) dX1_measure_13 (by decide) (fun c13 => ?_) (fun c13 => ?_)
            · skip
              rw [nI_leI (by omega) (by omega)] at c13
              have hb6 : b = 6 := by omega
              refine r_iinc (nI (a + 1)) [(1, .int (nI (a + 1))), (2, .int (nI b)), (0, .ref (B + 179))] dX1_measure_64 rfl (nI_1 _) (by decide) rfl ?_
              refine r_goto (tgt := 2) dX1_measure_67 (by decide) ?_
              exact r_lv [(1, .int (nI (a + 1))), (0, .ref (B + 179))] (List.forall_mem_cons.mpr ⟨rfl, List.forall_mem_cons.mpr ⟨rfl, fun _ h => absurd h List.not_mem_nil⟩⟩) (ih (a + 1) Dj (by omega) (by omega) ((by rw [show 6 * (a + 1) = 6 * a + b by omega]; exact hJ)))
            · skip
              rw [nI_leI (by omega) (by omega)] at c13
              refine r_aload_n dX1_measure_16 rfl ?_
              refine r_getR (ci := 1) (k := 5) wf_X1_9 dX1_measure_17 z_179 k_179 (by decide) (by decide) (fun _ _ => rfl) f_179_5 ?_
              refine r_iload_n dX1_measure_20 rfl ?_
              refine r_iald dX1_measure_21 z_180 k_180 (vp_in_nI (by omega) (by decide)) (fun z15 hz15 => ?_)
              rw [nI_clamp (by omega)] at hz15
              obtain rfl : z15 = nI (r (10 + a)) := hz15.trans ((congrFun (hJ.1 180 (by decide)) a).trans (hr a (by omega)).1)
              refine r_iload_n dX1_measure_22 rfl ?_
              refine r_callSNI (As := [.int (nI (r (10 + a))), .int (nI b)]) (c_X5_bit B Dj E (nI (r (10 + a))) (nI b)) hs_X5_bit (by decide) dX1_measure_23 rfl rfl (Nat.le_of_ble_eq_true rfl) ⟨Nat.le_of_ble_eq_true rfl, Nat.le_of_ble_eq_true rfl, Nat.zero_le _, Nat.zero_le _⟩ ⟨rfl, rfl⟩ (fun z16 D17 E18 hz16 => ?_)
              obtain ⟨hq1, hqD, hqE⟩ := hz16
              obtain rfl := hqD.symm
              obtain rfl := hqE.symm
              obtain rfl : z16 = nI (r (10 + a) / 2 ^ b % 2) := hq1.trans (bit_n (by omega) (by omega))
              refine r_iconst (nI 1) dX1_measure_26 (by decide) ?_
              refine r_icmp_ne (tgt := 34) dX1_measure_27 (by decide) (fun c27 => ?_) (fun c27 => ?_)
              · skip
                rw [nI_eq (by omega) (by omega)] at c27
                refine r_bipush (nI 9) dX1_measure_34 (by decide) ?_
                refine r_istore_n [(3, .int (nI 9)), (2, .int (nI b)), (1, .int (nI a)), (0, .ref (B + 179))] dX1_measure_36 (by decide) rfl ?_
                refine r_aload_n dX1_measure_37 rfl ?_
                refine r_getR (ci := 1) (k := 6) wf_X1_15 dX1_measure_38 z_179 k_179 (by decide) (by decide) (fun _ _ => rfl) f_179_6 ?_
                refine r_bipush (nI 6) dX1_measure_41 (by decide) ?_
                refine r_iload_n dX1_measure_43 rfl ?_
                refine r_imul dX1_measure_44 (fun z19 hz19 => ?_)
                obtain rfl : z19 = nI (6 * a) := (hz19.trans (pk_mul _ _))
                refine r_iload_n dX1_measure_45 rfl ?_
                refine r_iadd dX1_measure_46 (fun z20 hz20 => ?_)
                obtain rfl : z20 = nI ((6 * a) + b) := (hz20.trans (nI_add _ _))
                refine r_iload_n dX1_measure_47 rfl ?_
                refine r_iload_n dX1_measure_48 rfl ?_
                refine r_icmp_ne (tgt := 56) dX1_measure_49 (by decide) (fun c49 => ?_) (fun c49 => ?_)
                · skip
                  rw [nI_eq (by omega) (by omega)] at c49
                  refine r_iload_n dX1_measure_56 rfl ?_
                  refine r_iast dX1_measure_57 z_181 k_181 (vp_in_nI (by omega) (by decide)) (fun D21 hD21 => ?_)
                  rw [nI_clamp (by omega)] at hD21
                  have hJ9 := W0I_s hJ (by omega) (by unfold s_w0; first | exact congrArg nI (if_pos c49).symm | exact congrArg nI ((if_neg c49).trans (if_pos ⟨by omega, c27⟩)).symm | exact congrArg nI ((if_neg c49).trans (if_neg (fun q => c27 q.2))).symm) hD21
                  refine r_iinc (nI (b + 1)) [(2, .int (nI (b + 1))), (3, .int (nI 9)), (1, .int (nI a)), (0, .ref (B + 179))] dX1_measure_58 rfl (nI_1 _) (by decide) rfl ?_
                  refine r_goto (tgt := 10) dX1_measure_61 (by decide) ?_
                  exact r_lv [(2, .int (nI (b + 1))), (1, .int (nI a)), (0, .ref (B + 179))] (List.forall_mem_cons.mpr ⟨rfl, List.forall_mem_cons.mpr ⟨rfl, List.forall_mem_cons.mpr ⟨rfl, fun _ h => absurd h List.not_mem_nil⟩⟩⟩) (ihL2 (b + 1) D21 (by omega) (by omega) hJ9)
                · skip
                  rw [nI_eq (by omega) (by omega)] at c49
                  refine r_iconst (nI 0) dX1_measure_52 (by decide) ?_
                  refine r_goto (tgt := 57) dX1_measure_53 (by decide) ?_
                  refine r_iast dX1_measure_57 z_181 k_181 (vp_in_nI (by omega) (by decide)) (fun D22 hD22 => ?_)
                  rw [nI_clamp (by omega)] at hD22
                  have hJ9 := W0I_s hJ (by omega) (by unfold s_w0; first | exact congrArg nI (if_pos c49).symm | exact congrArg nI ((if_neg c49).trans (if_pos ⟨by omega, c27⟩)).symm | exact congrArg nI ((if_neg c49).trans (if_neg (fun q => c27 q.2))).symm) hD22
                  refine r_iinc (nI (b + 1)) [(2, .int (nI (b + 1))), (3, .int (nI 9)), (1, .int (nI a)), (0, .ref (B + 179))] dX1_measure_58 rfl (nI_1 _) (by decide) rfl ?_
                  refine r_goto (tgt := 10) dX1_measure_61 (by decide) ?_
                  exact r_lv [(2, .int (nI (b + 1))), (1, .int (nI a)), (0, .ref (B + 179))] (List.forall_mem_cons.mpr ⟨rfl, List.forall_mem_cons.mpr ⟨rfl, List.forall_mem_cons.mpr ⟨rfl, fun _ h => absurd h List.not_mem_nil⟩⟩⟩) (ihL2 (b + 1) D22 (by omega) (by omega) hJ9)
              · skip
                rw [nI_eq (by omega) (by omega)] at c27
                refine r_iconst (nI 1) dX1_measure_30 (by decide) ?_
                refine r_goto (tgt := 36) dX1_measure_31 (by decide) ?_
                refine r_istore_n [(3, .int (nI 1)), (2, .int (nI b)), (1, .int (nI a)), (0, .ref (B + 179))] dX1_measure_36 (by decide) rfl ?_
                refine r_aload_n dX1_measure_37 rfl ?_
                refine r_getR (ci := 1) (k := 6) wf_X1_15 dX1_measure_38 z_179 k_179 (by decide) (by decide) (fun _ _ => rfl) f_179_6 ?_
                refine r_bipush (nI 6) dX1_measure_41 (by decide) ?_
                refine r_iload_n dX1_measure_43 rfl ?_
                refine r_imul dX1_measure_44 (fun z23 hz23 => ?_)
                obtain rfl : z23 = nI (6 * a) := (hz23.trans (pk_mul _ _))
                refine r_iload_n dX1_measure_45 rfl ?_
                refine r_iadd dX1_measure_46 (fun z24 hz24 => ?_)
                obtain rfl : z24 = nI ((6 * a) + b) := (hz24.trans (nI_add _ _))
                refine r_iload_n dX1_measure_47 rfl ?_
                refine r_iload_n dX1_measure_48 rfl ?_
                refine r_icmp_ne (tgt := 56) dX1_measure_49 (by decide) (fun c49 => ?_) (fun c49 => ?_)
                · skip
                  rw [nI_eq (by omega) (by omega)] at c49
                  refine r_iload_n dX1_measure_56 rfl ?_
                  refine r_iast dX1_measure_57 z_181 k_181 (vp_in_nI (by omega) (by decide)) (fun D25 hD25 => ?_)
                  rw [nI_clamp (by omega)] at hD25
                  have hJ9 := W0I_s hJ (by omega) (by unfold s_w0; first | exact congrArg nI (if_pos c49).symm | exact congrArg nI ((if_neg c49).trans (if_pos ⟨by omega, c27⟩)).symm | exact congrArg nI ((if_neg c49).trans (if_neg (fun q => c27 q.2))).symm) hD25
                  refine r_iinc (nI (b + 1)) [(2, .int (nI (b + 1))), (3, .int (nI 1)), (1, .int (nI a)), (0, .ref (B + 179))] dX1_measure_58 rfl (nI_1 _) (by decide) rfl ?_
                  refine r_goto (tgt := 10) dX1_measure_61 (by decide) ?_
                  exact r_lv [(2, .int (nI (b + 1))), (1, .int (nI a)), (0, .ref (B + 179))] (List.forall_mem_cons.mpr ⟨rfl, List.forall_mem_cons.mpr ⟨rfl, List.forall_mem_cons.mpr ⟨rfl, fun _ h => absurd h List.not_mem_nil⟩⟩⟩) (ihL2 (b + 1) D25 (by omega) (by omega) hJ9)
                · skip
                  rw [nI_eq (by omega) (by omega)] at c49
                  refine r_iconst (nI 0) dX1_measure_52 (by decide) ?_
                  refine r_goto (tgt := 57) dX1_measure_53 (by decide) ?_
                  refine r_iast dX1_measure_57 z_181 k_181 (vp_in_nI (by omega) (by decide)) (fun D26 hD26 => ?_)
                  rw [nI_clamp (by omega)] at hD26
                  have hJ9 := W0I_s hJ (by omega) (by unfold s_w0; first | exact congrArg nI (if_pos c49).symm | exact congrArg nI ((if_neg c49).trans (if_pos ⟨by omega, c27⟩)).symm | exact congrArg nI ((if_neg c49).trans (if_neg (fun q => c27 q.2))).symm) hD26
                  refine r_iinc (nI (b + 1)) [(2, .int (nI (b + 1))), (3, .int (nI 1)), (1, .int (nI a)), (0, .ref (B + 179))] dX1_measure_58 rfl (nI_1 _) (by decide) rfl ?_
                  refine r_goto (tgt := 10) dX1_measure_61 (by decide) ?_
                  exact r_lv [(2, .int (nI (b + 1))), (1, .int (nI a)), (0, .ref (B + 179))] (List.forall_mem_cons.mpr ⟨rfl, List.forall_mem_cons.mpr ⟨rfl, List.forall_mem_cons.mpr ⟨rfl, fun _ h => absurd h List.not_mem_nil⟩⟩⟩) (ihL2 (b + 1) D26 (by omega) (by omega) hJ9)
        exact r_lv [(2, .int (nI 0)), (1, .int (nI a)), (0, .ref (B + 179))] (List.forall_mem_cons.mpr ⟨rfl, List.forall_mem_cons.mpr ⟨rfl, List.forall_mem_cons.mpr ⟨rfl, fun _ h => absurd h List.not_mem_nil⟩⟩⟩) (L2 (6 + 1) 0 Dk (by omega) (by omega) hI)
  exact r_lv [(1, .int (nI 0)), (0, .ref (B + 179))] (List.forall_mem_cons.mpr ⟨rfl, List.forall_mem_cons.mpr ⟨rfl, fun _ h => absurd h List.not_mem_nil⟩⟩) (L (6 + 1) 0 D (by omega) (by omega) W0I_0)
set_option maxRecDepth 100000 in
set_option maxHeartbeats 4000000 in
theorem c_X6_layFar (B : Nat) (D : DD) (E : EE) (r : Row) (hR : RG r) (hM : MA D 223 r) : MR yX6_layFar cX6_layFar 6 none rX6_layFar B [.ref (B + 219)] Z0 D E (Q2 Z0 (pV (fun D' E' => (∀ q, q ≠ 228 → D' q = D q) ∧ (∀ j, j < 6 * r 0 → D' 228 j = nI (s_far r j)) ∧ E' = E))) := by
  have h06 := hR.1
  refine r_enter [(0, .ref (B + 219))] hv_X6_layFar.1.2.2.2.2 (Nat.le_of_ble_eq_true rfl) rfl ?_
  refine r_iconst (nI 0) dX6_layFar_0 (by decide) ?_
  refine r_istore_n [(1, .int (nI 0)), (0, .ref (B + 219))] dX6_layFar_1 (by decide) rfl ?_
  have L : ∀ (fu a : Nat) (Dk : DD), a ≤ r 0 → r 0 - a < fu → (LFI D Dk r a) → RW yX6_layFar cX6_layFar 6 none rX6_layFar B (Q2 Z0 (pV (fun D' E' => (∀ q, q ≠ 228 → D' q = D q) ∧ (∀ j, j < 6 * r 0 → D' 228 j = nI (s_far r j)) ∧ E' = E))) Z0 Dk E 0 0 2 [(1, .int (nI a)), (0, .ref (B + 219))] [] := by
    intro fu
    induction fu with
    | zero => intro a Dk hku hfu _; omega
    | succ fu ih =>
      intro a Dk hku hfu hI
      have hF := hI.1
      refine r_iload_n dX6_layFar_2 rfl ?_
      refine r_aload_n dX6_layFar_3 rfl ?_
      refine r_getR (ci := 6) (k := 5) wf_X6_19 dX6_layFar_4 z_219 k_219 (by decide) (by decide) (fun _ _ => rfl) f_219_5 ?_
      refine r_iconst (nI 0) dX6_layFar_7 (by decide) ?_
      refine r_iald dX6_layFar_8 z_223 k_223 (vp_in_nI (by decide) (by decide)) (fun z1 hz1 => ?_)
      rw [nI_clamp (by omega)] at hz1
      obtain rfl : z1 = nI (r 0) := hz1.trans ((congrFun (hF 223 (by decide)) 0).trans (hM 0 (by decide)))
      refine r_icmp_ge (tgt := 191) dX6_layFar_9 (by decide) (fun c9 => ?_) (fun c9 => ?_)
      · skip
        rw [nI_leI (by omega) (by omega)] at c9
        refine r_vret2 dX6_layFar_191 rfl ⟨Nat.zero_le _, Nat.zero_le _⟩ ?_
        obtain rfl : a = r 0 := by omega
        exact ⟨hI.1, hI.2, rfl⟩
      · skip
        rw [nI_leI (by omega) (by omega)] at c9
        refine r_iconst (nI 1) dX6_layFar_12 (by decide) ?_
        refine r_iload_n dX6_layFar_13 rfl ?_
        refine r_ishl dX6_layFar_14 (fun z2 hz2 => ?_)
        obtain rfl : z2 = nI (s_ba r a 0) := hz2.trans (shl_1 (by omega))
        refine r_istore_n [(2, .int (nI (s_ba r a 0))), (1, .int (nI a)), (0, .ref (B + 219))] dX6_layFar_15 (by decide) rfl ?_
        refine r_iconst (nI 0) dX6_layFar_16 (by decide) ?_
        refine r_istore_n [(3, .int (nI 0)), (2, .int (nI (s_ba r a 0))), (1, .int (nI a)), (0, .ref (B + 219))] dX6_layFar_17 (by decide) rfl ?_
        have L2 : ∀ (fu b : Nat) (Dj : DD), b ≤ 6 → 6 - b < fu → (LFB D Dj r a b) → RW yX6_layFar cX6_layFar 6 none rX6_layFar B (Q2 Z0 (pV (fun D' E' => (∀ q, q ≠ 228 → D' q = D q) ∧ (∀ j, j < 6 * r 0 → D' 228 j = nI (s_far r j)) ∧ E' = E))) Z0 Dj E 0 0 18 [(3, .int (nI b)), (2, .int (nI (s_ba r a 0))), (1, .int (nI a)), (0, .ref (B + 219))] [] := by
          intro fu
          induction fu with
          | zero => intro b Dj hku hfu _; omega
          | succ fu ihL2 =>
            intro b Dj hku hfu hI
            refine r_iload_n dX6_layFar_18 rfl ?_
            refine r_bipush (nI 6) dX6_layFar_19 (by decide) ?_
            refine r_icmp_ge (tgt := 52) dX6_layFar_21 (by decide) (fun c21 => ?_) (fun c21 => ?_)
            · skip
              rw [nI_leI (by omega) (by omega)] at c21
              have hb6 : b = 6 := by omega
              have hK0 : LFI D Dj r a ∧ ∀ u, u < 6 → Dj 228 (6 * a + u) = nI (s_bv r a u 0) := ⟨hI.1, fun u hu => hI.2 u (by omega)⟩
              refine r_iconst (nI 1) dX6_layFar_52 (by decide) ?_
              refine r_istore_n [(3, .int (nI 1)), (2, .int (nI (s_ba r a 0))), (1, .int (nI a)), (0, .ref (B + 219))] dX6_layFar_53 (by decide) rfl ?_
              refine r_lv [(3, .int (nI (0 + 1))), (2, .int (nI (s_ba r a 0))), (1, .int (nI a)), (0, .ref (B + 219))] (List.forall_mem_cons.mpr ⟨congrArg (fun x => some (Value.int x)) rfl, List.forall_mem_cons.mpr ⟨rfl, List.forall_mem_cons.mpr ⟨rfl, List.forall_mem_cons.mpr ⟨rfl, fun _ h => absurd h List.not_mem_nil⟩⟩⟩⟩) ?_
              have L3 : ∀ (fu k : Nat) (Dm : DD), k ≤ 5 → 5 - k < fu → (LFI D Dm r a ∧ ∀ u, u < 6 → Dm 228 (6 * a + u) = nI (s_bv r a u k)) → RW yX6_layFar cX6_layFar 6 none rX6_layFar B (Q2 Z0 (pV (fun D' E' => (∀ q, q ≠ 228 → D' q = D q) ∧ (∀ j, j < 6 * r 0 → D' 228 j = nI (s_far r j)) ∧ E' = E))) Z0 Dm E 0 0 54 [(3, .int (nI (k + 1))), (2, .int (nI (s_ba r a k))), (1, .int (nI a)), (0, .ref (B + 219))] [] := by
                intro fu
                induction fu with
                | zero => intro k Dm hku hfu _; omega
                | succ fu ihL3 =>
                  intro k Dm hku hfu hI
                  have hKI := hI
                  have hF := hI.1.1
                  have hba := ba_lt hR (a := a) (by omega) k
                  refine r_iload_n dX6_layFar_54 rfl ?_
                  refine r_bipush (nI 6) dX6_layFar_55 (by decide) ?_
                  refine r_icmp_ge (tgt := 185) dX6_layFar_57 (by decide) (fun c57 => ?_) (fun c57 => ?_)
                  · skip
                    rw [nI_leI (by omega) (by omega)] at c57
                    have hk5 : k = 5 := by omega
                    have hK5 : LFI D Dm r a ∧ ∀ u, u < 6 → Dm 228 (6 * a + u) = nI (s_bv r a u 5) := by rw [← hk5]; exact hKI
                    refine r_iinc (nI (a + 1)) [(1, .int (nI (a + 1))), (3, .int (nI (k + 1))), (2, .int (nI (s_ba r a k))), (0, .ref (B + 219))] dX6_layFar_185 rfl (nI_1 _) (by decide) rfl ?_
                    refine r_goto (tgt := 2) dX6_layFar_188 (by decide) ?_
                    exact r_lv [(1, .int (nI (a + 1))), (0, .ref (B + 219))] (List.forall_mem_cons.mpr ⟨rfl, List.forall_mem_cons.mpr ⟨rfl, fun _ h => absurd h List.not_mem_nil⟩⟩) (ih (a + 1) Dm (by omega) (by omega) (LFI_s hR (by omega) hK5))
                  · skip
                    rw [nI_leI (by omega) (by omega)] at c57
                    refine r_iconst (nI 0) dX6_layFar_60 (by decide) ?_
                    refine r_istore [(4, .int (nI 0)), (3, .int (nI (k + 1))), (2, .int (nI (s_ba r a k))), (1, .int (nI a)), (0, .ref (B + 219))] dX6_layFar_61 (by decide) rfl ?_
                    refine r_lv [(4, .int (nI (s_mo r (s_ba r a k) 0))), (3, .int (nI (k + 1))), (2, .int (nI (s_ba r a k))), (1, .int (nI a)), (0, .ref (B + 219))] (List.forall_mem_cons.mpr ⟨congrArg (fun x => some (Value.int x)) rfl, List.forall_mem_cons.mpr ⟨rfl, List.forall_mem_cons.mpr ⟨rfl, List.forall_mem_cons.mpr ⟨rfl, List.forall_mem_cons.mpr ⟨rfl, fun _ h => absurd h List.not_mem_nil⟩⟩⟩⟩⟩) ?_
                    refine r_iconst (nI 0) dX6_layFar_63 (by decide) ?_
                    refine r_istore [(5, .int (nI 0)), (4, .int (nI (s_mo r (s_ba r a k) 0))), (3, .int (nI (k + 1))), (2, .int (nI (s_ba r a k))), (1, .int (nI a)), (0, .ref (B + 219))] dX6_layFar_64 (by decide) rfl ?_
                    have L4 : ∀ fu b : Nat, b ≤ r 0 → r 0 - b < fu → RW yX6_layFar cX6_layFar 6 none rX6_layFar B (Q2 Z0 (pV (fun D' E' => (∀ q, q ≠ 228 → D' q = D q) ∧ (∀ j, j < 6 * r 0 → D' 228 j = nI (s_far r j)) ∧ E' = E))) Z0 Dm E 0 0 66 [(5, .int (nI b)), (4, .int (nI (s_mo r (s_ba r a k) b))), (3, .int (nI (k + 1))), (2, .int (nI (s_ba r a k))), (1, .int (nI a)), (0, .ref (B + 219))] [] := by
                      intro fu
                      induction fu with
                      | zero => intro b hku hfu; omega
                      | succ fu ihL4 =>
                        intro b hku hfu 
                        refine r_iload dX6_layFar_66 rfl ?_
                        refine r_aload_n dX6_layFar_68 rfl ?_
                        refine r_getR (ci := 6) (k := 5) wf_X6_19 dX6_layFar_69 z_219 k_219 (by decide) (by decide) (fun _ _ => rfl) f_219_5 ?_
                        refine r_iconst (nI 0) dX6_layFar_72 (by decide) ?_
                        refine r_iald dX6_layFar_73 z_223 k_223 (vp_in_nI (by decide) (by decide)) (fun z3 hz3 => ?_)
                        rw [nI_clamp (by omega)] at hz3
                        obtain rfl : z3 = nI (r 0) := hz3.trans ((congrFun (hF 223 (by decide)) 0).trans (hM 0 (by decide)))
                        refine r_icmp_ge (tgt := 112) dX6_layFar_74 (by decide) (fun c74 => ?_) (fun c74 => ?_)
                        · skip
                          rw [nI_leI (by omega) (by omega)] at c74
                          have hbr : b = r 0 := by omega
                          have hml := mo_lt hR (s := s_ba r a k) (r 0) h06
                          refine r_iconst (nI 0) dX6_layFar_112 (by decide) ?_
                          refine r_istore [(5, .int (nI 0)), (4, .int (nI (s_mo r (s_ba r a k) b))), (3, .int (nI (k + 1))), (2, .int (nI (s_ba r a k))), (1, .int (nI a)), (0, .ref (B + 219))] dX6_layFar_113 (by decide) rfl ?_
                          refine r_lv [(5, .int (nI 0)), (4, .int (nI (s_mo r (s_ba r a k) (r 0)))), (3, .int (nI (k + 1))), (2, .int (nI (s_ba r a k))), (1, .int (nI a)), (0, .ref (B + 219))] (List.forall_mem_cons.mpr ⟨rfl, List.forall_mem_cons.mpr ⟨congrArg (fun x => some (Value.int x)) (by rw [hbr]), List.forall_mem_cons.mpr ⟨rfl, List.forall_mem_cons.mpr ⟨rfl, List.forall_mem_cons.mpr ⟨rfl, List.forall_mem_cons.mpr ⟨rfl, fun _ h => absurd h List.not_mem_nil⟩⟩⟩⟩⟩⟩) ?_
                          have L5 : ∀ (fu t : Nat) (Dl : DD), t ≤ r 0 → r 0 - t < fu → (LFT D Dl r a t (fun u => s_bv r a u (k + 1)) (fun u => s_bv r a u k)) → RW yX6_layFar cX6_layFar 6 none rX6_layFar B (Q2 Z0 (pV (fun D' E' => (∀ q, q ≠ 228 → D' q = D q) ∧ (∀ j, j < 6 * r 0 → D' 228 j = nI (s_far r j)) ∧ E' = E))) Z0 Dl E 0 0 115 [(5, .int (nI t)), (4, .int (nI (s_mo r (s_ba r a k) (r 0)))), (3, .int (nI (k + 1))), (2, .int (nI (s_ba r a k))), (1, .int (nI a)), (0, .ref (B + 219))] [] := by
                            intro fu
                            induction fu with
                            | zero => intro t Dl hku hfu _; omega
                            | succ fu ihL5 =>
                              intro t Dl hku hfu hI
                              have hF := hI.1.1
                              refine r_iload dX6_layFar_115 rfl ?_
                              refine r_aload_n dX6_layFar_117 rfl ?_
                              refine r_getR (ci := 6) (k := 5) wf_X6_19 dX6_layFar_118 z_219 k_219 (by decide) (by decide) (fun _ _ => rfl) f_219_5 ?_
                              refine r_iconst (nI 0) dX6_layFar_121 (by decide) ?_
                              refine r_iald dX6_layFar_122 z_223 k_223 (vp_in_nI (by decide) (by decide)) (fun z4 hz4 => ?_)
                              rw [nI_clamp (by omega)] at hz4
                              obtain rfl : z4 = nI (r 0) := hz4.trans ((congrFun (hF 223 (by decide)) 0).trans (hM 0 (by decide)))
                              refine r_icmp_ge (tgt := 174) dX6_layFar_123 (by decide) (fun c123 => ?_) (fun c123 => ?_)
                              · skip
                                rw [nI_leI (by omega) (by omega)] at c123
                                have htr : t = r 0 := by omega
                                have hK9 := LFT_e hR (htr ▸ hI)
                                refine r_iload_n dX6_layFar_174 rfl ?_
                                refine r_iload dX6_layFar_175 rfl ?_
                                refine r_ior dX6_layFar_177 (fun z5 hz5 => ?_)
                                obtain rfl : z5 = nI (s_ba r a (k + 1)) := hz5.trans (nI_or _ _)
                                refine r_istore_n [(2, .int (nI (s_ba r a (k + 1)))), (5, .int (nI t)), (4, .int (nI (s_mo r (s_ba r a k) (r 0)))), (3, .int (nI (k + 1))), (1, .int (nI a)), (0, .ref (B + 219))] dX6_layFar_178 (by decide) rfl ?_
                                refine r_iinc (nI ((k + 1) + 1)) [(3, .int (nI ((k + 1) + 1))), (2, .int (nI (s_ba r a (k + 1)))), (5, .int (nI t)), (4, .int (nI (s_mo r (s_ba r a k) (r 0)))), (1, .int (nI a)), (0, .ref (B + 219))] dX6_layFar_179 rfl (nI_1 _) (by decide) rfl ?_
                                refine r_goto (tgt := 54) dX6_layFar_182 (by decide) ?_
                                exact r_lv [(3, .int (nI ((k + 1) + 1))), (2, .int (nI (s_ba r a (k + 1)))), (1, .int (nI a)), (0, .ref (B + 219))] (List.forall_mem_cons.mpr ⟨rfl, List.forall_mem_cons.mpr ⟨rfl, List.forall_mem_cons.mpr ⟨rfl, List.forall_mem_cons.mpr ⟨rfl, fun _ h => absurd h List.not_mem_nil⟩⟩⟩⟩) (ihL3 (k + 1) Dl (by omega) (by omega) hK9)
                              · skip
                                rw [nI_leI (by omega) (by omega)] at c123
                                refine r_aload_n dX6_layFar_126 rfl ?_
                                refine r_getR (ci := 6) (k := 19) wf_X6_34 dX6_layFar_127 z_219 k_219 (by decide) (by decide) (fun _ _ => rfl) f_219_19 ?_
                                refine r_bipush (nI 6) dX6_layFar_130 (by decide) ?_
                                refine r_iload_n dX6_layFar_132 rfl ?_
                                refine r_imul dX6_layFar_133 (fun z6 hz6 => ?_)
                                obtain rfl : z6 = nI (6 * a) := (hz6.trans (pk_mul _ _))
                                refine r_iload dX6_layFar_134 rfl ?_
                                refine r_iadd dX6_layFar_136 (fun z7 hz7 => ?_)
                                obtain rfl : z7 = nI ((6 * a) + t) := (hz7.trans (nI_add _ _))
                                refine r_iload dX6_layFar_137 rfl ?_
                                refine r_iload_n dX6_layFar_139 rfl ?_
                                refine r_iconst ((-1)) dX6_layFar_140 (by decide) ?_
                                refine r_ixor dX6_layFar_141 (fun z8 hz8 => ?_)
                                subst hz8
                                refine r_iand dX6_layFar_142 (fun z9 hz9 => ?_)
                                obtain rfl : z9 = nI ((s_mo r (s_ba r a k) (r 0)) &&& (63 ^^^ s_ba r a k)) := hz9.trans (mask_n _ hba _ hml)
                                have hxl := Nat.lt_of_le_of_lt (Nat.and_le_left (n := s_mo r (s_ba r a k) (r 0)) (m := 63 ^^^ s_ba r a k)) hml
                                refine r_iload dX6_layFar_143 rfl ?_
                                refine r_ishr dX6_layFar_145 (fun z10 hz10 => ?_)
                                obtain rfl : z10 = nI ((s_mo r (s_ba r a k) (r 0)) &&& (63 ^^^ s_ba r a k)) >>> (nI t &&& 31) := hz10
                                refine r_iconst (nI 1) dX6_layFar_146 (by decide) ?_
                                refine r_iand dX6_layFar_147 (fun z11 hz11 => ?_)
                                obtain rfl : z11 = nI (((s_mo r (s_ba r a k) (r 0)) &&& (63 ^^^ s_ba r a k)) / 2 ^ t % 2) := hz11.trans (bit_n (by omega) (by omega))
                                refine r_if_ne (tgt := 166) dX6_layFar_148 (by decide) (fun c148 => ?_) (fun c148 => ?_)
                                · skip
                                  rw [nI_z (by omega)] at c148
                                  refine r_iload_n dX6_layFar_166 rfl ?_
                                  refine r_iast dX6_layFar_167 z_228 k_228 (vp_in_nI (by omega) (by decide)) (fun D12 hD12 => ?_)
                                  rw [nI_clamp (by omega)] at hD12
                                  have hT9 := LFT_s hI (by first | exact congrArg nI (if_neg c148).symm | exact congrArg nI (if_pos c148).symm) hD12
                                  refine r_iinc (nI (t + 1)) [(5, .int (nI (t + 1))), (4, .int (nI (s_mo r (s_ba r a k) (r 0)))), (3, .int (nI (k + 1))), (2, .int (nI (s_ba r a k))), (1, .int (nI a)), (0, .ref (B + 219))] dX6_layFar_168 rfl (nI_1 _) (by decide) rfl ?_
                                  refine r_goto (tgt := 115) dX6_layFar_171 (by decide) ?_
                                  exact r_lv [(5, .int (nI (t + 1))), (4, .int (nI (s_mo r (s_ba r a k) (r 0)))), (3, .int (nI (k + 1))), (2, .int (nI (s_ba r a k))), (1, .int (nI a)), (0, .ref (B + 219))] (List.forall_mem_cons.mpr ⟨rfl, List.forall_mem_cons.mpr ⟨rfl, List.forall_mem_cons.mpr ⟨rfl, List.forall_mem_cons.mpr ⟨rfl, List.forall_mem_cons.mpr ⟨rfl, List.forall_mem_cons.mpr ⟨rfl, fun _ h => absurd h List.not_mem_nil⟩⟩⟩⟩⟩⟩) (ihL5 (t + 1) D12 (by omega) (by omega) hT9)
                                · skip
                                  rw [nI_z (by omega)] at c148
                                  refine r_aload_n dX6_layFar_151 rfl ?_
                                  refine r_getR (ci := 6) (k := 19) wf_X6_34 dX6_layFar_152 z_219 k_219 (by decide) (by decide) (fun _ _ => rfl) f_219_19 ?_
                                  refine r_bipush (nI 6) dX6_layFar_155 (by decide) ?_
                                  refine r_iload_n dX6_layFar_157 rfl ?_
                                  refine r_imul dX6_layFar_158 (fun z13 hz13 => ?_)
                                  obtain rfl : z13 = nI (6 * a) := (hz13.trans (pk_mul _ _))
                                  refine r_iload dX6_layFar_159 rfl ?_
                                  refine r_iadd dX6_layFar_161 (fun z14 hz14 => ?_)
                                  obtain rfl : z14 = nI ((6 * a) + t) := (hz14.trans (nI_add _ _))
                                  refine r_iald dX6_layFar_162 z_228 k_228 (vp_in_nI (by omega) (by decide)) (fun z15 hz15 => ?_)
                                  rw [nI_clamp (by omega)] at hz15
                                  obtain rfl : z15 = nI (s_bv r a t k) := hz15.trans ((hI.2 t (by omega)).trans (congrArg nI (if_neg (Nat.lt_irrefl t))))
                                  refine r_goto (tgt := 167) dX6_layFar_163 (by decide) ?_
                                  refine r_iast dX6_layFar_167 z_228 k_228 (vp_in_nI (by omega) (by decide)) (fun D16 hD16 => ?_)
                                  rw [nI_clamp (by omega)] at hD16
                                  have hT9 := LFT_s hI (by first | exact congrArg nI (if_neg c148).symm | exact congrArg nI (if_pos c148).symm) hD16
                                  refine r_iinc (nI (t + 1)) [(5, .int (nI (t + 1))), (4, .int (nI (s_mo r (s_ba r a k) (r 0)))), (3, .int (nI (k + 1))), (2, .int (nI (s_ba r a k))), (1, .int (nI a)), (0, .ref (B + 219))] dX6_layFar_168 rfl (nI_1 _) (by decide) rfl ?_
                                  refine r_goto (tgt := 115) dX6_layFar_171 (by decide) ?_
                                  exact r_lv [(5, .int (nI (t + 1))), (4, .int (nI (s_mo r (s_ba r a k) (r 0)))), (3, .int (nI (k + 1))), (2, .int (nI (s_ba r a k))), (1, .int (nI a)), (0, .ref (B + 219))] (List.forall_mem_cons.mpr ⟨rfl, List.forall_mem_cons.mpr ⟨rfl, List.forall_mem_cons.mpr ⟨rfl, List.forall_mem_cons.mpr ⟨rfl, List.forall_mem_cons.mpr ⟨rfl, List.forall_mem_cons.mpr ⟨rfl, fun _ h => absurd h List.not_mem_nil⟩⟩⟩⟩⟩⟩) (ihL5 (t + 1) D16 (by omega) (by omega) hT9)
                          exact r_lv [(5, .int (nI 0)), (4, .int (nI (s_mo r (s_ba r a k) (r 0)))), (3, .int (nI (k + 1))), (2, .int (nI (s_ba r a k))), (1, .int (nI a)), (0, .ref (B + 219))] (List.forall_mem_cons.mpr ⟨rfl, List.forall_mem_cons.mpr ⟨rfl, List.forall_mem_cons.mpr ⟨rfl, List.forall_mem_cons.mpr ⟨rfl, List.forall_mem_cons.mpr ⟨rfl, List.forall_mem_cons.mpr ⟨rfl, fun _ h => absurd h List.not_mem_nil⟩⟩⟩⟩⟩⟩) (L5 (r 0 + 1) 0 Dm (by omega) (by omega) (LFT_0 hKI))
                        · skip
                          rw [nI_leI (by omega) (by omega)] at c74
                          refine r_iload dX6_layFar_77 rfl ?_
                          refine r_iload_n dX6_layFar_79 rfl ?_
                          refine r_iload dX6_layFar_80 rfl ?_
                          refine r_ishr dX6_layFar_82 (fun z17 hz17 => ?_)
                          obtain rfl : z17 = nI (s_ba r a k) >>> (nI b &&& 31) := hz17
                          refine r_iconst (nI 1) dX6_layFar_83 (by decide) ?_
                          refine r_iand dX6_layFar_84 (fun z18 hz18 => ?_)
                          obtain rfl : z18 = nI (s_ba r a k / 2 ^ b % 2) := hz18.trans (bit_n (by omega) (by omega))
                          refine r_iconst (nI 1) dX6_layFar_85 (by decide) ?_
                          refine r_icmp_ne (tgt := 102) dX6_layFar_86 (by decide) (fun c86 => ?_) (fun c86 => ?_)
                          · skip
                            rw [nI_eq (by omega) (by omega)] at c86
                            refine r_iconst (nI 0) dX6_layFar_102 (by decide) ?_
                            refine r_ior dX6_layFar_103 (fun z19 hz19 => ?_)
                            obtain rfl : z19 = nI (s_mo r (s_ba r a k) (b + 1)) := hz19.trans ((nI_or _ _).trans (congrArg nI (by show _ = s_mo r (s_ba r a k) b ||| (if s_ba r a k / 2 ^ b % 2 = 1 then r (10 + b) else 0); first | rw [if_pos c86] | rw [if_neg c86])))
                            refine r_istore [(4, .int (nI (s_mo r (s_ba r a k) (b + 1)))), (5, .int (nI b)), (3, .int (nI (k + 1))), (2, .int (nI (s_ba r a k))), (1, .int (nI a)), (0, .ref (B + 219))] dX6_layFar_104 (by decide) rfl ?_
                            refine r_iinc (nI (b + 1)) [(5, .int (nI (b + 1))), (4, .int (nI (s_mo r (s_ba r a k) (b + 1)))), (3, .int (nI (k + 1))), (2, .int (nI (s_ba r a k))), (1, .int (nI a)), (0, .ref (B + 219))] dX6_layFar_106 rfl (nI_1 _) (by decide) rfl ?_
                            refine r_goto (tgt := 66) dX6_layFar_109 (by decide) ?_
                            exact r_lv [(5, .int (nI (b + 1))), (4, .int (nI (s_mo r (s_ba r a k) (b + 1)))), (3, .int (nI (k + 1))), (2, .int (nI (s_ba r a k))), (1, .int (nI a)), (0, .ref (B + 219))] (List.forall_mem_cons.mpr ⟨rfl, List.forall_mem_cons.mpr ⟨rfl, List.forall_mem_cons.mpr ⟨rfl, List.forall_mem_cons.mpr ⟨rfl, List.forall_mem_cons.mpr ⟨rfl, List.forall_mem_cons.mpr ⟨rfl, fun _ h => absurd h List.not_mem_nil⟩⟩⟩⟩⟩⟩) (ihL4 (b + 1) (by omega) (by omega))
                          · skip
                            rw [nI_eq (by omega) (by omega)] at c86
                            refine r_aload_n dX6_layFar_89 rfl ?_
                            refine r_getR (ci := 6) (k := 5) wf_X6_19 dX6_layFar_90 z_219 k_219 (by decide) (by decide) (fun _ _ => rfl) f_219_5 ?_
                            refine r_bipush (nI 10) dX6_layFar_93 (by decide) ?_
                            refine r_iload dX6_layFar_95 rfl ?_
                            refine r_iadd dX6_layFar_97 (fun z20 hz20 => ?_)
                            obtain rfl : z20 = nI (10 + b) := (hz20.trans (nI_add _ _))
                            refine r_iald dX6_layFar_98 z_223 k_223 (vp_in_nI (by omega) (by decide)) (fun z21 hz21 => ?_)
                            rw [nI_clamp (by omega)] at hz21
                            obtain rfl : z21 = nI (r (10 + b)) := hz21.trans ((congrFun (hF 223 (by decide)) _).trans (hM _ (by omega)))
                            refine r_goto (tgt := 103) dX6_layFar_99 (by decide) ?_
                            refine r_ior dX6_layFar_103 (fun z22 hz22 => ?_)
                            obtain rfl : z22 = nI (s_mo r (s_ba r a k) (b + 1)) := hz22.trans ((nI_or _ _).trans (congrArg nI (by show _ = s_mo r (s_ba r a k) b ||| (if s_ba r a k / 2 ^ b % 2 = 1 then r (10 + b) else 0); first | rw [if_pos c86] | rw [if_neg c86])))
                            refine r_istore [(4, .int (nI (s_mo r (s_ba r a k) (b + 1)))), (5, .int (nI b)), (3, .int (nI (k + 1))), (2, .int (nI (s_ba r a k))), (1, .int (nI a)), (0, .ref (B + 219))] dX6_layFar_104 (by decide) rfl ?_
                            refine r_iinc (nI (b + 1)) [(5, .int (nI (b + 1))), (4, .int (nI (s_mo r (s_ba r a k) (b + 1)))), (3, .int (nI (k + 1))), (2, .int (nI (s_ba r a k))), (1, .int (nI a)), (0, .ref (B + 219))] dX6_layFar_106 rfl (nI_1 _) (by decide) rfl ?_
                            refine r_goto (tgt := 66) dX6_layFar_109 (by decide) ?_
                            exact r_lv [(5, .int (nI (b + 1))), (4, .int (nI (s_mo r (s_ba r a k) (b + 1)))), (3, .int (nI (k + 1))), (2, .int (nI (s_ba r a k))), (1, .int (nI a)), (0, .ref (B + 219))] (List.forall_mem_cons.mpr ⟨rfl, List.forall_mem_cons.mpr ⟨rfl, List.forall_mem_cons.mpr ⟨rfl, List.forall_mem_cons.mpr ⟨rfl, List.forall_mem_cons.mpr ⟨rfl, List.forall_mem_cons.mpr ⟨rfl, fun _ h => absurd h List.not_mem_nil⟩⟩⟩⟩⟩⟩) (ihL4 (b + 1) (by omega) (by omega))
                    exact r_lv [(5, .int (nI 0)), (4, .int (nI (s_mo r (s_ba r a k) 0))), (3, .int (nI (k + 1))), (2, .int (nI (s_ba r a k))), (1, .int (nI a)), (0, .ref (B + 219))] (List.forall_mem_cons.mpr ⟨rfl, List.forall_mem_cons.mpr ⟨rfl, List.forall_mem_cons.mpr ⟨rfl, List.forall_mem_cons.mpr ⟨rfl, List.forall_mem_cons.mpr ⟨rfl, List.forall_mem_cons.mpr ⟨rfl, fun _ h => absurd h List.not_mem_nil⟩⟩⟩⟩⟩⟩) (L4 (r 0 + 1) 0 (by omega) (by omega))
              exact r_lv [(3, .int (nI (0 + 1))), (2, .int (nI (s_ba r a 0))), (1, .int (nI a)), (0, .ref (B + 219))] (List.forall_mem_cons.mpr ⟨rfl, List.forall_mem_cons.mpr ⟨rfl, List.forall_mem_cons.mpr ⟨rfl, List.forall_mem_cons.mpr ⟨rfl, fun _ h => absurd h List.not_mem_nil⟩⟩⟩⟩) (L3 (5 + 1) 0 Dj (by omega) (by omega) hK0)
            · skip
              rw [nI_leI (by omega) (by omega)] at c21
              refine r_aload_n dX6_layFar_24 rfl ?_
              refine r_getR (ci := 6) (k := 19) wf_X6_34 dX6_layFar_25 z_219 k_219 (by decide) (by decide) (fun _ _ => rfl) f_219_19 ?_
              refine r_bipush (nI 6) dX6_layFar_28 (by decide) ?_
              refine r_iload_n dX6_layFar_30 rfl ?_
              refine r_imul dX6_layFar_31 (fun z23 hz23 => ?_)
              obtain rfl : z23 = nI (6 * a) := (hz23.trans (pk_mul _ _))
              refine r_iload_n dX6_layFar_32 rfl ?_
              refine r_iadd dX6_layFar_33 (fun z24 hz24 => ?_)
              obtain rfl : z24 = nI ((6 * a) + b) := (hz24.trans (nI_add _ _))
              refine r_iload_n dX6_layFar_34 rfl ?_
              refine r_iload_n dX6_layFar_35 rfl ?_
              refine r_icmp_ne (tgt := 43) dX6_layFar_36 (by decide) (fun c36 => ?_) (fun c36 => ?_)
              · skip
                rw [nI_eq (by omega) (by omega)] at c36
                refine r_bipush (nI 9) dX6_layFar_43 (by decide) ?_
                refine r_iast dX6_layFar_45 z_228 k_228 (vp_in_nI (by omega) (by decide)) (fun D25 hD25 => ?_)
                rw [nI_clamp (by omega)] at hD25
                have hJ9 := LFB_s hI (by first | exact congrArg nI (if_pos c36).symm | exact congrArg nI (if_neg c36).symm) hD25
                refine r_iinc (nI (b + 1)) [(3, .int (nI (b + 1))), (2, .int (nI (s_ba r a 0))), (1, .int (nI a)), (0, .ref (B + 219))] dX6_layFar_46 rfl (nI_1 _) (by decide) rfl ?_
                refine r_goto (tgt := 18) dX6_layFar_49 (by decide) ?_
                exact r_lv [(3, .int (nI (b + 1))), (2, .int (nI (s_ba r a 0))), (1, .int (nI a)), (0, .ref (B + 219))] (List.forall_mem_cons.mpr ⟨rfl, List.forall_mem_cons.mpr ⟨rfl, List.forall_mem_cons.mpr ⟨rfl, List.forall_mem_cons.mpr ⟨rfl, fun _ h => absurd h List.not_mem_nil⟩⟩⟩⟩) (ihL2 (b + 1) D25 (by omega) (by omega) hJ9)
              · skip
                rw [nI_eq (by omega) (by omega)] at c36
                refine r_iconst (nI 0) dX6_layFar_39 (by decide) ?_
                refine r_goto (tgt := 45) dX6_layFar_40 (by decide) ?_
                refine r_iast dX6_layFar_45 z_228 k_228 (vp_in_nI (by omega) (by decide)) (fun D26 hD26 => ?_)
                rw [nI_clamp (by omega)] at hD26
                have hJ9 := LFB_s hI (by first | exact congrArg nI (if_pos c36).symm | exact congrArg nI (if_neg c36).symm) hD26
                refine r_iinc (nI (b + 1)) [(3, .int (nI (b + 1))), (2, .int (nI (s_ba r a 0))), (1, .int (nI a)), (0, .ref (B + 219))] dX6_layFar_46 rfl (nI_1 _) (by decide) rfl ?_
                refine r_goto (tgt := 18) dX6_layFar_49 (by decide) ?_
                exact r_lv [(3, .int (nI (b + 1))), (2, .int (nI (s_ba r a 0))), (1, .int (nI a)), (0, .ref (B + 219))] (List.forall_mem_cons.mpr ⟨rfl, List.forall_mem_cons.mpr ⟨rfl, List.forall_mem_cons.mpr ⟨rfl, List.forall_mem_cons.mpr ⟨rfl, fun _ h => absurd h List.not_mem_nil⟩⟩⟩⟩) (ihL2 (b + 1) D26 (by omega) (by omega) hJ9)
        exact r_lv [(3, .int (nI 0)), (2, .int (nI (s_ba r a 0))), (1, .int (nI a)), (0, .ref (B + 219))] (List.forall_mem_cons.mpr ⟨rfl, List.forall_mem_cons.mpr ⟨rfl, List.forall_mem_cons.mpr ⟨rfl, List.forall_mem_cons.mpr ⟨rfl, fun _ h => absurd h List.not_mem_nil⟩⟩⟩⟩) (L2 (6 + 1) 0 Dk (by omega) (by omega) (⟨hI, fun u hu => absurd hu (Nat.not_lt_zero u)⟩))
  exact r_lv [(1, .int (nI 0)), (0, .ref (B + 219))] (List.forall_mem_cons.mpr ⟨rfl, List.forall_mem_cons.mpr ⟨rfl, fun _ h => absurd h List.not_mem_nil⟩⟩) (L (r 0 + 1) 0 D (by omega) (by omega) LFI_0)
