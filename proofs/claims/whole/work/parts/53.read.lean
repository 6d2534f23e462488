set_option maxRecDepth 100000 in
set_option maxHeartbeats 4000000 in
theorem c_X5_readText (B : Nat) (D : DD) (E : EE) (hDB : DB D) (t : TPt) (hT : TP D t) : MR yX5_readText cX5_readText 3 none rX5_readText B [.ref (B + 0)] Z0 D E (Q2 Z0 (pV (fun D' E' => (TS D' t (s_pk t 120).1 ∧ ((s_pk t 120).1.2.1 = 0 → LA D' 179 (s_far (s_pk t 120).2) (s_pk t 120).2 ∧ CA D' 185 (s_pk t 120).2) ∧ FRD D D' ∧ DB D') ∧ E' = E))) := by
  obtain ⟨e1, e2, e3⟩ := id hT
  have ht : ∀ j, j < t.1 → t.2 j ≤ 255 := fun j hj => (e3 j hj).2
  refine r_enter [(0, .ref (B + 0))] hv_X5_readText.1.2.2.2.2 (Nat.le_of_ble_eq_true rfl) rfl ?_
  refine r_aload_n dX5_readText_0 rfl ?_
  refine r_getR (ci := 5) (k := 1) wf_X5_19 dX5_readText_1 z_0 k_0 (by decide) (by decide) (fun _ _ => rfl) f_0_1 ?_
  refine r_callVV (As := []) (o := 13) (c_X4_begin B D E t hT) hv_X4_begin wm_X5_319 dX5_readText_4 rfl rfl z_13 k_13 (by decide) rfl (Nat.le_of_ble_eq_true rfl) ⟨Nat.le_of_ble_eq_true rfl, Nat.le_of_ble_eq_true rfl, Nat.zero_le _, Nat.zero_le _⟩ ⟨rfl, rfl⟩ (fun D2 E3 hz1 => ?_)
  obtain ⟨hq1, hq2, hqE⟩ := hz1
  obtain rfl := hqE.symm
  have hf1 : FRD D D2 := FRD.rf.f hq2
  have hS1 := hq1
  have hDB1 := DB_f hDB (hq2 185 (by decide)) (hq2 189 (by decide))
  refine r_aload_n dX5_readText_7 rfl ?_
  refine r_getR (ci := 5) (k := 6) wf_X5_47 dX5_readText_8 z_0 k_0 (by decide) (by decide) (fun _ _ => rfl) f_0_6 ?_
  refine r_callVV (As := []) (o := 179) (c_X1_clear B D2 E) hv_X1_clear wm_X5_322 dX5_readText_11 rfl rfl z_179 k_179 (by decide) rfl (Nat.le_of_ble_eq_true rfl) ⟨Nat.le_of_ble_eq_true rfl, Nat.le_of_ble_eq_true rfl, Nat.zero_le _, Nat.zero_le _⟩ ⟨rfl, rfl⟩ (fun D5 E6 hz4 => ?_)
  obtain ⟨⟨hc1, hc2, hc3, hc4⟩, hqE⟩ := hz4
  obtain rfl := hqE.symm
  have hS2 := TS_eq (D' := D5) hS1 (hc4 13 (by decide) (by decide)) (hc4 14 (by decide) (by decide))
  have hf2 : FRD D D5 := hf1.trans (fun q a b => hc4 q (by omega) (by omega))
  have hDB2 := DB_f hDB1 (hc4 185 (by decide) (by decide)) (hc4 189 (by decide) (by decide))
  refine r_aload_n dX5_readText_14 rfl ?_
  refine r_callVV (As := []) (o := 0) (c_X5_readLaw B D5 E hDB2 t hS2 hc1 hc2 hc3) hv_X5_readLaw wm_X5_325 dX5_readText_15 rfl rfl z_0 k_0 (by decide) rfl (Nat.le_of_ble_eq_true rfl) ⟨Nat.le_of_ble_eq_true rfl, Nat.le_of_ble_eq_true rfl, Nat.zero_le _, Nat.zero_le _⟩ ⟨rfl, rfl⟩ (fun D8 E9 hz7 => ?_)
  obtain ⟨hq1, hq2, hqE⟩ := hz7
  obtain rfl := hqE.symm
  have hf3 := hf2.trans hq2
  have hC0 : CS D8 t (s_pk t 0) := hq1
  refine r_iconst (nI 0) dX5_readText_18 (by decide) ?_
  refine r_istore_n [(1, .int (nI 0)), (0, .ref (B + 0))] dX5_readText_19 (by decide) rfl ?_
  have L : ∀ (fu k : Nat) (Dk : DD), k ≤ 120 → 120 - k < fu → (CS Dk t (s_pk t k) ∧ FRD D Dk) → RW yX5_readText cX5_readText 3 none rX5_readText B (Q2 Z0 (pV (fun D' E' => (TS D' t (s_pk t 120).1 ∧ ((s_pk t 120).1.2.1 = 0 → LA D' 179 (s_far (s_pk t 120).2) (s_pk t 120).2 ∧ CA D' 185 (s_pk t 120).2) ∧ FRD D D' ∧ DB D') ∧ E' = E))) Z0 Dk E 0 0 20 [(1, .int (nI k)), (0, .ref (B + 0))] [] := by
    intro fu
    induction fu with
    | zero => intro k Dk hku hfu _; omega
    | succ fu ih =>
      intro k Dk hku hfu hI
      have hP := (PI_pk e2 k).1
      refine r_iload_n dX5_readText_20 rfl ?_
      refine r_bipush (nI 120) dX5_readText_21 (by decide) ?_
      refine r_icmp_ge (tgt := 81) dX5_readText_23 (by decide) (fun c23 => ?_) (fun c23 => ?_)
      · skip
        rw [nI_leI (by omega) (by omega)] at c23
        have hE : s_pk t 120 = s_pk t k := by
          first
            | exact pk_e (by omega) c33
            | rw [show k = 120 by omega]
        obtain ⟨r9, hr9, hr8⟩ := mk_rows hI.1 hP
        refine r_aload_n dX5_readText_81 rfl ?_
        refine r_getR (ci := 5) (k := 6) wf_X5_47 dX5_readText_82 z_0 k_0 (by decide) (by decide) (fun _ _ => rfl) f_0_6 ?_
        refine r_callVV (As := []) (o := 179) (c_X1_measure B Dk E r9 hr9) hv_X1_measure wm_X5_344 dX5_readText_85 rfl rfl z_179 k_179 (by decide) rfl (Nat.le_of_ble_eq_true rfl) ⟨Nat.le_of_ble_eq_true rfl, Nat.le_of_ble_eq_true rfl, Nat.zero_le _, Nat.zero_le _⟩ ⟨rfl, rfl⟩ (fun D11 E12 hz10 => ?_)
        obtain ⟨⟨hm1, hm2⟩, hqE⟩ := hz10
        obtain rfl := hqE.symm
        refine r_vret2 dX5_readText_88 rfl ⟨Nat.zero_le _, Nat.zero_le _⟩ ?_
        rw [hE]
        refine ⟨⟨TS_eq hI.1.1 (hm1 13 (by decide)) (hm1 14 (by decide)), fun q => ?_, hI.2.trans (fun q a b => hm1 q (by omega)), DB_f hI.1.2.1.2 (hm1 185 (by decide)) (hm1 189 (by decide))⟩, rfl⟩
        have hLC := hI.1.2.2 q
        have hO := hP.2 q
        rw [hr8 q] at hm2
        exact text_end hLC.1 hLC.2 hO.2.1 hm1 hm2
      · skip
        rw [nI_leI (by omega) (by omega)] at c23
        refine r_aload_n dX5_readText_26 rfl ?_
        refine r_getR (ci := 5) (k := 1) wf_X5_19 dX5_readText_27 z_0 k_0 (by decide) (by decide) (fun _ _ => rfl) f_0_1 ?_
        refine r_callVI (As := []) (o := 13) (c_X4_goesOn B Dk E t (s_pk t k).1 hI.1.1) hv_X4_goesOn wm_X5_328 dX5_readText_30 rfl rfl z_13 k_13 (by decide) rfl (Nat.le_of_ble_eq_true rfl) ⟨Nat.le_of_ble_eq_true rfl, Nat.le_of_ble_eq_true rfl, Nat.zero_le _, Nat.zero_le _⟩ ⟨rfl, rfl⟩ (fun z13 D14 E15 hz13 => ?_)
        obtain ⟨hqV, hqD, hqE⟩ := hz13
        obtain rfl : z13 = bI ((s_pk t k).1.2.1 = 0 ∧ (s_pk t k).1.1 < t.1) := hqV
        obtain rfl := hqD.symm
        obtain rfl := hqE.symm
        refine r_if_eq (tgt := 81) dX5_readText_33 (by decide) (fun c33 => ?_) (fun c33 => ?_)
        · skip
          rw [bI_0] at c33
          have hE : s_pk t 120 = s_pk t k := by
            first
              | exact pk_e (by omega) c33
              | rw [show k = 120 by omega]
          obtain ⟨r9, hr9, hr8⟩ := mk_rows hI.1 hP
          refine r_aload_n dX5_readText_81 rfl ?_
          refine r_getR (ci := 5) (k := 6) wf_X5_47 dX5_readText_82 z_0 k_0 (by decide) (by decide) (fun _ _ => rfl) f_0_6 ?_
          refine r_callVV (As := []) (o := 179) (c_X1_measure B Dk E r9 hr9) hv_X1_measure wm_X5_344 dX5_readText_85 rfl rfl z_179 k_179 (by decide) rfl (Nat.le_of_ble_eq_true rfl) ⟨Nat.le_of_ble_eq_true rfl, Nat.le_of_ble_eq_true rfl, Nat.zero_le _, Nat.zero_le _⟩ ⟨rfl, rfl⟩ (fun D17 E18 hz16 => ?_)
          obtain ⟨⟨hm1, hm2⟩, hqE⟩ := hz16
          obtain rfl := hqE.symm
          refine r_vret2 dX5_readText_88 rfl ⟨Nat.zero_le _, Nat.zero_le _⟩ ?_
          rw [hE]
          refine ⟨⟨TS_eq hI.1.1 (hm1 13 (by decide)) (hm1 14 (by decide)), fun q => ?_, hI.2.trans (fun q a b => hm1 q (by omega)), DB_f hI.1.2.1.2 (hm1 185 (by decide)) (hm1 189 (by decide))⟩, rfl⟩
          have hLC := hI.1.2.2 q
          have hO := hP.2 q
          rw [hr8 q] at hm2
          exact text_end hLC.1 hLC.2 hO.2.1 hm1 hm2
        · skip
          rw [bI_n0] at c33
          have hO := hP.2 c33.1
          have hb5 := by_255 ht c33.2
          have hb6 := hO.1.1.1.2.2.2.2.2.2.1
          refine r_aload_n dX5_readText_36 rfl ?_
          refine r_getR (ci := 5) (k := 1) wf_X5_19 dX5_readText_37 z_0 k_0 (by decide) (by decide) (fun _ _ => rfl) f_0_1 ?_
          refine r_callVI (As := []) (o := 13) (c_X4_next B Dk E t (s_pk t k).1 hI.1.1) hv_X4_next wm_X5_331 dX5_readText_40 rfl rfl z_13 k_13 (by decide) rfl (Nat.le_of_ble_eq_true rfl) ⟨Nat.le_of_ble_eq_true rfl, Nat.le_of_ble_eq_true rfl, Nat.zero_le _, Nat.zero_le _⟩ ⟨rfl, rfl⟩ (fun z19 D20 E21 hz19 => ?_)
          obtain ⟨hq1, hqD, hqE⟩ := hz19
          obtain rfl := hqD.symm
          obtain rfl := hqE.symm
          obtain rfl : z19 = nI (s_by t (s_pk t k).1.1) := hq1.trans (byI_n c33.2)
          refine r_istore_n [(2, .int (nI (s_by t (s_pk t k).1.1))), (1, .int (nI k)), (0, .ref (B + 0))] dX5_readText_43 (by decide) rfl ?_
          refine r_iload_n dX5_readText_44 rfl ?_
          refine r_bipush (nI 114) dX5_readText_45 (by decide) ?_
          refine r_icmp_ne (tgt := 67) dX5_readText_47 (by decide) (fun c47 => ?_) (fun c47 => ?_)
          · skip
            rw [nI_eq (by omega) (by omega)] at c47
            refine r_aload_n dX5_readText_67 rfl ?_
            refine r_iload_n dX5_readText_68 rfl ?_
            refine r_callSI (As := [.int (nI (s_by t (s_pk t k).1.1))]) (c_X5_sortOf B Dk E (s_by t (s_pk t k).1.1) hb5) hs_X5_sortOf wm_X5_337 rfl dX5_readText_69 rfl rfl (Nat.le_of_ble_eq_true rfl) ⟨Nat.le_of_ble_eq_true rfl, Nat.le_of_ble_eq_true rfl, Nat.zero_le _, Nat.zero_le _⟩ ⟨rfl, rfl⟩ (fun z22 D23 E24 hz22 => ?_)
            obtain ⟨hqV, hqD, hqE⟩ := hz22
            obtain rfl : z22 = nI (s_kb (s_by t (s_pk t k).1.1)) := hqV
            obtain rfl := hqD.symm
            obtain rfl := hqE.symm
            refine r_callVV (As := [.int (nI (s_kb (s_by t (s_pk t k).1.1)))]) (o := 0) (c_X5_readWisher B Dk E t (s_pk t k).1 (s_pk t k).2 hI.1 c33.1 hO c33.2 (s_kb (s_by t (s_pk t k).1.1)) s_kb_le) hv_X5_readWisher wm_X5_340 dX5_readText_72 rfl rfl z_0 k_0 (by decide) rfl (Nat.le_of_ble_eq_true rfl) ⟨Nat.le_of_ble_eq_true rfl, Nat.le_of_ble_eq_true rfl, Nat.zero_le _, Nat.zero_le _⟩ ⟨rfl, rfl⟩ (fun D26 E27 hz25 => ?_)
            obtain ⟨hq1, hq2, hqE⟩ := hz25
            obtain rfl := hqE.symm
            have hN1 : CS D26 t (s_pk t (k + 1)) := by
              rw [pk_s c33]
              first
                | (rw [pt_w (fun q => c47 q.1)]; exact hq1)
                | (rw [pt_w (fun q => c57 q.2)]; exact hq1)
            have hN2 := hI.2.trans hq2
            refine r_iinc (nI (k + 1)) [(1, .int (nI (k + 1))), (2, .int (nI (s_by t (s_pk t k).1.1))), (0, .ref (B + 0))] dX5_readText_75 rfl (nI_1 _) (by decide) rfl ?_
            refine r_goto (tgt := 20) dX5_readText_78 (by decide) ?_
            exact r_lv [(1, .int (nI (k + 1))), (0, .ref (B + 0))] (List.forall_mem_cons.mpr ⟨rfl, List.forall_mem_cons.mpr ⟨rfl, fun _ h => absurd h List.not_mem_nil⟩⟩) (ih (k + 1) D26 (by omega) (by omega) (⟨hN1, hN2⟩))
          · skip
            rw [nI_eq (by omega) (by omega)] at c47
            refine r_aload_n dX5_readText_50 rfl ?_
            refine r_getR (ci := 5) (k := 6) wf_X5_47 dX5_readText_51 z_0 k_0 (by decide) (by decide) (fun _ _ => rfl) f_0_6 ?_
            refine r_getI (ci := 1) (k := 4) wf_X5_146 dX5_readText_54 z_179 k_179 (by decide) (by decide) rfl (fun z28 hz28 => ?_)
            obtain rfl : z28 = nI ((s_pk t k).2 5) := hz28.trans (hI.1.2.2 c33.1).1.1.2.2.2.2
            refine r_if_ne (tgt := 67) dX5_readText_57 (by decide) (fun c57 => ?_) (fun c57 => ?_)
            · skip
              rw [nI_z (by omega)] at c57
              refine r_aload_n dX5_readText_67 rfl ?_
              refine r_iload_n dX5_readText_68 rfl ?_
              refine r_callSI (As := [.int (nI (s_by t (s_pk t k).1.1))]) (c_X5_sortOf B Dk E (s_by t (s_pk t k).1.1) hb5) hs_X5_sortOf wm_X5_337 rfl dX5_readText_69 rfl rfl (Nat.le_of_ble_eq_true rfl) ⟨Nat.le_of_ble_eq_true rfl, Nat.le_of_ble_eq_true rfl, Nat.zero_le _, Nat.zero_le _⟩ ⟨rfl, rfl⟩ (fun z29 D30 E31 hz29 => ?_)
              obtain ⟨hqV, hqD, hqE⟩ := hz29
              obtain rfl : z29 = nI (s_kb (s_by t (s_pk t k).1.1)) := hqV
              obtain rfl := hqD.symm
              obtain rfl := hqE.symm
              refine r_callVV (As := [.int (nI (s_kb (s_by t (s_pk t k).1.1)))]) (o := 0) (c_X5_readWisher B Dk E t (s_pk t k).1 (s_pk t k).2 hI.1 c33.1 hO c33.2 (s_kb (s_by t (s_pk t k).1.1)) s_kb_le) hv_X5_readWisher wm_X5_340 dX5_readText_72 rfl rfl z_0 k_0 (by decide) rfl (Nat.le_of_ble_eq_true rfl) ⟨Nat.le_of_ble_eq_true rfl, Nat.le_of_ble_eq_true rfl, Nat.zero_le _, Nat.zero_le _⟩ ⟨rfl, rfl⟩ (fun D33 E34 hz32 => ?_)
              obtain ⟨hq1, hq2, hqE⟩ := hz32
              obtain rfl := hqE.symm
              have hN1 : CS D33 t (s_pk t (k + 1)) := by
                rw [pk_s c33]
                first
                  | (rw [pt_w (fun q => c47 q.1)]; exact hq1)
                  | (rw [pt_w (fun q => c57 q.2)]; exact hq1)
              have hN2 := hI.2.trans hq2
              refine r_iinc (nI (k + 1)) [(1, .int (nI (k + 1))), (2, .int (nI (s_by t (s_pk t k).1.1))), (0, .ref (B + 0))] dX5_readText_75 rfl (nI_1 _) (by decide) rfl ?_
              refine r_goto (tgt := 20) dX5_readText_78 (by decide) ?_
              exact r_lv [(1, .int (nI (k + 1))), (0, .ref (B + 0))] (List.forall_mem_cons.mpr ⟨rfl, List.forall_mem_cons.mpr ⟨rfl, fun _ h => absurd h List.not_mem_nil⟩⟩) (ih (k + 1) D33 (by omega) (by omega) (⟨hN1, hN2⟩))
            · skip
              rw [nI_z (by omega)] at c57
              refine r_aload_n dX5_readText_60 rfl ?_
              refine r_callVV (As := []) (o := 0) (c_X5_readRoad B Dk E t (s_pk t k).1 (s_pk t k).2 hI.1 c33.1 hO) hv_X5_readRoad wm_X5_334 dX5_readText_61 rfl rfl z_0 k_0 (by decide) rfl (Nat.le_of_ble_eq_true rfl) ⟨Nat.le_of_ble_eq_true rfl, Nat.le_of_ble_eq_true rfl, Nat.zero_le _, Nat.zero_le _⟩ ⟨rfl, rfl⟩ (fun D36 E37 hz35 => ?_)
              obtain ⟨hq1, hq2, hqE⟩ := hz35
              obtain rfl := hqE.symm
              have hN1 : CS D36 t (s_pk t (k + 1)) := by rw [pk_s c33, pt_r ⟨c47, c57⟩]; exact hq1
              have hN2 := hI.2.trans hq2
              refine r_goto (tgt := 75) dX5_readText_64 (by decide) ?_
              refine r_iinc (nI (k + 1)) [(1, .int (nI (k + 1))), (2, .int (nI (s_by t (s_pk t k).1.1))), (0, .ref (B + 0))] dX5_readText_75 rfl (nI_1 _) (by decide) rfl ?_
              refine r_goto (tgt := 20) dX5_readText_78 (by decide) ?_
              exact r_lv [(1, .int (nI (k + 1))), (0, .ref (B + 0))] (List.forall_mem_cons.mpr ⟨rfl, List.forall_mem_cons.mpr ⟨rfl, fun _ h => absurd h List.not_mem_nil⟩⟩) (ih (k + 1) D36 (by omega) (by omega) (⟨hN1, hN2⟩))
  exact r_lv [(1, .int (nI 0)), (0, .ref (B + 0))] (List.forall_mem_cons.mpr ⟨rfl, List.forall_mem_cons.mpr ⟨rfl, fun _ h => absurd h List.not_mem_nil⟩⟩) (L (120 + 1) 0 D8 (by omega) (by omega) (⟨hC0, hf3⟩))
