set_option maxRecDepth 100000 in
set_option maxHeartbeats 4000000 in
theorem c_X5_readRoad (B : Nat) (D : DD) (E : EE) (t : TPt) (s : PSt) (r : Row) (hC : CS D t (s, r)) (h0 : s.2.1 = 0) (hO : OKR r) : MR yX5_readRoad cX5_readRoad 4 none rX5_readRoad B [.ref (B + 0)] Z0 D E (Q2 Z0 (pV (fun D' E' => CS D' t (p_road t (s, r)) ∧ FRD D D' ∧ E' = E))) := by
  obtain ⟨hS, hJ, hLC⟩ := id hC
  have hS : TS D t s := hS
  have hL : DLr D r := (hLC h0).1
  have hCA : CA D 185 r := (hLC h0).2
  obtain ⟨⟨L0, L1, L2, L3, L4⟩, L5, L6⟩ := id hL
  obtain ⟨⟨e1, e2, e3⟩, e4, e5, e6, e7, e8, e9⟩ := id hS
  obtain ⟨b02, b06, b1, b2, b3, b4, b5, b9⟩ := id hO.1.1.1
  have hS_D := hS
  have hg_D : F13 D D := F13.rf
  refine r_enter [(0, .ref (B + 0))] hv_X5_readRoad.1.2.2.2.2 (Nat.le_of_ble_eq_true rfl) rfl ?_
  refine r_aload_n dX5_readRoad_0 rfl ?_
  refine r_getR (ci := 5) (k := 6) wf_X5_47 dX5_readRoad_1 z_0 k_0 (by decide) (by decide) (fun _ _ => rfl) f_0_6 ?_
  refine r_getI (ci := 1) (k := 3) wf_X5_312 dX5_readRoad_4 z_179 k_179 (by decide) (by decide) rfl (fun z1 hz1 => ?_)
  obtain rfl : z1 = nI (r 4) := hz1.trans L3
  refine r_bipush (nI 10) dX5_readRoad_7 (by decide) ?_
  refine r_icmp_lt (tgt := 28) dX5_readRoad_9 (by decide) (fun c9 => ?_) (fun c9 => ?_)
  · skip
    rw [nI_ltI (by omega) (by omega)] at c9
    refine r_aload_n dX5_readRoad_28 rfl ?_
    refine r_getR (ci := 5) (k := 1) wf_X5_19 dX5_readRoad_29 z_0 k_0 (by decide) (by decide) (fun _ _ => rfl) f_0_1 ?_
    refine r_bipush (nI 114) dX5_readRoad_32 (by decide) ?_
    refine r_callVV (As := [.int (nI 114)]) (o := 13) (c_X4_expect B D E t (s) hS_D 114 (by decide)) hv_X4_expect wm_X5_347 dX5_readRoad_34 rfl rfl z_13 k_13 (by decide) rfl (Nat.le_of_ble_eq_true rfl) ⟨Nat.le_of_ble_eq_true rfl, Nat.le_of_ble_eq_true rfl, Nat.zero_le _, Nat.zero_le _⟩ ⟨rfl, rfl⟩ (fun D3 E4 hz2 => ?_)
    obtain ⟨hq1, hq2, hqE⟩ := hz2
    obtain rfl := hqE.symm
    have hS_D3 : TS D3 t (d_1 t s) := hq1
    have hg_D3 := hg_D.trans hq2
    refine r_aload_n dX5_readRoad_37 rfl ?_
    refine r_getR (ci := 5) (k := 1) wf_X5_19 dX5_readRoad_38 z_0 k_0 (by decide) (by decide) (fun _ _ => rfl) f_0_1 ?_
    refine r_iconst (nI 0) dX5_readRoad_41 (by decide) ?_
    refine r_aload_n dX5_readRoad_42 rfl ?_
    refine r_getR (ci := 5) (k := 6) wf_X5_47 dX5_readRoad_43 z_0 k_0 (by decide) (by decide) (fun _ _ => rfl) f_0_6 ?_
    refine r_getI (ci := 1) (k := 0) wf_X5_244 dX5_readRoad_46 z_179 k_179 (by decide) (by decide) rfl (fun z5 hz5 => ?_)
    obtain rfl : z5 = nI (r 0) := hz5.trans ((congrFun (hg_D3 179 (by decide)) 0).trans L0)
    refine r_iconst (nI 1) dX5_readRoad_49 (by decide) ?_
    refine r_isub dX5_readRoad_50 (fun z6 hz6 => ?_)
    obtain rfl : z6 = nI (r 0 - 1) := hz6.trans (nI_sub (by omega))
    refine r_callVI (As := [.int (nI 0), .int (nI (r 0 - 1))]) (o := 13) (c_X4_number B D3 E t (d_1 t s) hS_D3 (nI 0) (nI (r 0 - 1)) 0 (r 0 - 1) (fun _ => ⟨rfl, rfl⟩) (by omega) (by omega)) hv_X4_number wm_X5_350 dX5_readRoad_51 rfl rfl z_13 k_13 (by decide) rfl (Nat.le_of_ble_eq_true rfl) ⟨Nat.le_of_ble_eq_true rfl, Nat.le_of_ble_eq_true rfl, Nat.zero_le _, Nat.zero_le _⟩ ⟨rfl, rfl⟩ (fun z7 D8 E9 hz7 => ?_)
    obtain ⟨hq1, hq2, hq3, hqE⟩ := hz7
    obtain rfl := hqE.symm
    obtain rfl := hq1.symm
    have hS_D8 : TS D8 t (p_nm t 0 (r 0 - 1) (d_1 t s)) := hq2
    have hg_D8 := hg_D3.trans hq3
    refine r_istore_n [(1, .int ((if (p_nm t 0 (r 0 - 1) (d_1 t s)).2.1 = 0 then nI (p_vl t (d_1 t s)) else nI 0))), (0, .ref (B + 0))] dX5_readRoad_54 (by decide) rfl ?_
    refine r_aload_n dX5_readRoad_55 rfl ?_
    refine r_getR (ci := 5) (k := 1) wf_X5_19 dX5_readRoad_56 z_0 k_0 (by decide) (by decide) (fun _ _ => rfl) f_0_1 ?_
    refine r_bipush (nI 44) dX5_readRoad_59 (by decide) ?_
    refine r_callVV (As := [.int (nI 44)]) (o := 13) (c_X4_expect B D8 E t (p_nm t 0 (r 0 - 1) (d_1 t s)) hS_D8 44 (by decide)) hv_X4_expect wm_X5_347 dX5_readRoad_61 rfl rfl z_13 k_13 (by decide) rfl (Nat.le_of_ble_eq_true rfl) ⟨Nat.le_of_ble_eq_true rfl, Nat.le_of_ble_eq_true rfl, Nat.zero_le _, Nat.zero_le _⟩ ⟨rfl, rfl⟩ (fun D11 E12 hz10 => ?_)
    obtain ⟨hq1, hq2, hqE⟩ := hz10
    obtain rfl := hqE.symm
    have hS_D11 : TS D11 t (d_2 t (r 0) s) := hq1
    have hg_D11 := hg_D8.trans hq2
    refine r_aload_n dX5_readRoad_64 rfl ?_
    refine r_getR (ci := 5) (k := 1) wf_X5_19 dX5_readRoad_65 z_0 k_0 (by decide) (by decide) (fun _ _ => rfl) f_0_1 ?_
    refine r_getI (ci := 4) (k := 2) wf_X5_359 dX5_readRoad_68 z_13 k_13 (by decide) (by decide) rfl (fun z13 hz13 => ?_)
    obtain rfl : z13 = nI ((d_2 t (r 0) s).1) := hz13.trans hS_D11.2.1
    have hst : (d_2 t (r 0) s).1 ≤ 120 := Nat.le_trans hS_D11.2.2.2.2.1 e2
    refine r_istore_n [(2, .int (nI ((d_2 t (r 0) s).1))), (1, .int ((if (p_nm t 0 (r 0 - 1) (d_1 t s)).2.1 = 0 then nI (p_vl t (d_1 t s)) else nI 0))), (0, .ref (B + 0))] dX5_readRoad_71 (by decide) rfl ?_
    refine r_aload_n dX5_readRoad_72 rfl ?_
    refine r_getR (ci := 5) (k := 1) wf_X5_19 dX5_readRoad_73 z_0 k_0 (by decide) (by decide) (fun _ _ => rfl) f_0_1 ?_
    refine r_iconst (nI 0) dX5_readRoad_76 (by decide) ?_
    refine r_aload_n dX5_readRoad_77 rfl ?_
    refine r_getR (ci := 5) (k := 6) wf_X5_47 dX5_readRoad_78 z_0 k_0 (by decide) (by decide) (fun _ _ => rfl) f_0_6 ?_
    refine r_getI (ci := 1) (k := 0) wf_X5_244 dX5_readRoad_81 z_179 k_179 (by decide) (by decide) rfl (fun z14 hz14 => ?_)
    obtain rfl : z14 = nI (r 0) := hz14.trans ((congrFun (hg_D11 179 (by decide)) 0).trans L0)
    refine r_iconst (nI 1) dX5_readRoad_84 (by decide) ?_
    refine r_isub dX5_readRoad_85 (fun z15 hz15 => ?_)
    obtain rfl : z15 = nI (r 0 - 1) := hz15.trans (nI_sub (by omega))
    refine r_callVI (As := [.int (nI 0), .int (nI (r 0 - 1))]) (o := 13) (c_X4_number B D11 E t (d_2 t (r 0) s) hS_D11 (nI 0) (nI (r 0 - 1)) 0 (r 0 - 1) (fun _ => ⟨rfl, rfl⟩) (by omega) (by omega)) hv_X4_number wm_X5_350 dX5_readRoad_86 rfl rfl z_13 k_13 (by decide) rfl (Nat.le_of_ble_eq_true rfl) ⟨Nat.le_of_ble_eq_true rfl, Nat.le_of_ble_eq_true rfl, Nat.zero_le _, Nat.zero_le _⟩ ⟨rfl, rfl⟩ (fun z16 D17 E18 hz16 => ?_)
    obtain ⟨hq1, hq2, hq3, hqE⟩ := hz16
    obtain rfl := hqE.symm
    obtain rfl := hq1.symm
    have hS_D17 : TS D17 t (d_3 t (r 0) s) := hq2
    have hg_D17 := hg_D11.trans hq3
    refine r_istore_n [(3, .int ((if (p_nm t 0 (r 0 - 1) (d_2 t (r 0) s)).2.1 = 0 then nI (p_vl t (d_2 t (r 0) s)) else nI 0))), (2, .int (nI ((d_2 t (r 0) s).1))), (1, .int ((if (p_nm t 0 (r 0 - 1) (d_1 t s)).2.1 = 0 then nI (p_vl t (d_1 t s)) else nI 0))), (0, .ref (B + 0))] dX5_readRoad_89 (by decide) rfl ?_
    refine r_aload_n dX5_readRoad_90 rfl ?_
    refine r_getR (ci := 5) (k := 1) wf_X5_19 dX5_readRoad_91 z_0 k_0 (by decide) (by decide) (fun _ _ => rfl) f_0_1 ?_
    refine r_getI (ci := 4) (k := 3) wf_X5_126 dX5_readRoad_94 z_13 k_13 (by decide) (by decide) rfl (fun z19 hz19 => ?_)
    obtain rfl : z19 = nI ((d_3 t (r 0) s).2.1) := hz19.trans hS_D17.2.2.1
    have hb3 : (d_3 t (r 0) s).2.1 ≤ 3 := hS_D17.2.2.2.2.2.1
    refine r_if_ne (tgt := 121) dX5_readRoad_97 (by decide) (fun c97 => ?_) (fun c97 => ?_)
    · skip
      rw [nI_z (by omega)] at c97
      have hS4 : TS D17 t (d_4 t r s) := by
        first
          | (rw [d4_n (fun q => c97 q.1)]; exact hS_D17)
          | (rw [d4_n (fun q => c109 q.2)]; exact hS_D17)
          | (rw [d4_t ⟨c97, Classical.not_not.mp c109⟩]; exact hS_D17)
      have hFM : FRD D D17 := by
        first
          | exact fun q a _ => hg_D17 q a
          | exact fun q a b => (hj1 q (by omega) (by omega)).trans (hg0 q a)
      refine r_aload_n dX5_readRoad_121 rfl ?_
      refine r_getR (ci := 5) (k := 1) wf_X5_19 dX5_readRoad_122 z_0 k_0 (by decide) (by decide) (fun _ _ => rfl) f_0_1 ?_
      refine r_bipush (nI 59) dX5_readRoad_125 (by decide) ?_
      refine r_callVV (As := [.int (nI 59)]) (o := 13) (c_X4_expect B D17 E t (d_4 t r s) hS4 59 (by decide)) hv_X4_expect wm_X5_347 dX5_readRoad_127 rfl rfl z_13 k_13 (by decide) rfl (Nat.le_of_ble_eq_true rfl) ⟨Nat.le_of_ble_eq_true rfl, Nat.le_of_ble_eq_true rfl, Nat.zero_le _, Nat.zero_le _⟩ ⟨rfl, rfl⟩ (fun D21 E22 hz20 => ?_)
      obtain ⟨hq1, hq2, hqE⟩ := hz20
      obtain rfl := hqE.symm
      have hFF : FRD D D21 := hFM.f hq2
      have hSF : TS D21 t (p_rdS t r s) := hq1
      have hJF : JR D21 := by
        first
          | exact JR_f hJ ((hq2 180 (by decide)).trans (hg_D17 180 (by decide))) ((hq2 185 (by decide)).trans (hg_D17 185 (by decide))) ((hq2 189 (by decide)).trans (hg_D17 189 (by decide)))
          | exact ⟨⟨fun j => s_road r (p_vl t (d_1 t s)) (p_vl t (d_2 t (r 0) s)) (10 + j), fun j hj => ⟨(congrFun (hq2 180 (by decide)) j).trans ((hj3 c109).1 j hj), rg_64 (OKR_road hO (by omega) (by omega) (fun e => c109 (Or.inl e)) (by omega)).2 hj⟩⟩, DB_f hBX ((hq2 185 (by decide)).trans (hj1 185 (by decide) (by decide))) ((hq2 189 (by decide)).trans (hj1 189 (by decide) (by decide)))⟩
      refine r_vret2 dX5_readRoad_130 rfl ⟨Nat.zero_le _, Nat.zero_le _⟩ ?_
      refine ⟨?_, hFF, rfl⟩
      first
        | (have hnf : ¬ (p_rdS t r s).2.1 = 0 := fun q => c97 (rd_ok q).2.2.2.2.2.2
           rw [road_f (x := (s, r)) (show ¬ 10 ≤ r 4 by omega) hnf]
           exact CS_mk hSF hJF (fun q => absurd q hnf))
        | (have hnf : ¬ (p_rdS t r s).2.1 = 0 := fun q => (rd_ok q).2.2.1 (Classical.not_not.mp c109)
           rw [road_f (x := (s, r)) (show ¬ 10 ≤ r 4 by omega) hnf]
           exact CS_mk hSF hJF (fun q => absurd q hnf))
        | (have hJN := hj3 c109
           have hE := road_end hO (show r 4 < 10 by omega) (show p_vl t (d_1 t s) < r 0 by omega) (show p_vl t (d_2 t (r 0) s) < r 0 by omega) (fun e => c109 (Or.inl e)) hLX hCX ⟨fun j hj => (congrFun (hq2 180 (by decide)) j).trans (hJN.1 j hj), (congrFun (hq2 179 (by decide)) 3).trans hJN.2.1, fun k hk => (congrFun (hq2 179 (by decide)) k).trans (hJN.2.2 k hk)⟩ (fun q a b c => (hq2 q a).trans (hj1 q b c)) hBX hSF
           by_cases u : (p_rdS t r s).2.1 = 0
           · rw [road_t (x := (s, r)) (show ¬ 10 ≤ r 4 by omega) u]; exact hE.2
           · rw [road_f (x := (s, r)) (show ¬ 10 ≤ r 4 by omega) u]; exact (hE.1 r).resolve_right u)
    · skip
      rw [nI_z (by omega)] at c97
      obtain ⟨g1, -, gb, -, -⟩ := nm_ok' (show d_3 t (r 0) s = p_nm t 0 (r 0 - 1) (d_2 t (r 0) s) from rfl) c97
      obtain ⟨g2, -, -⟩ := ex_ok' (show d_2 t (r 0) s = p_ex t 44 (p_nm t 0 (r 0 - 1) (d_1 t s)) from rfl) g1
      obtain ⟨-, -, ga, -, -⟩ := nm_ok g2
      refine r_lv [(3, .int (nI (p_vl t (d_2 t (r 0) s)))), (2, .int (nI ((d_2 t (r 0) s).1))), (1, .int (nI (p_vl t (d_1 t s)))), (0, .ref (B + 0))] (List.forall_mem_cons.mpr ⟨congrArg (fun x => some (Value.int x)) (if_pos c97), List.forall_mem_cons.mpr ⟨rfl, List.forall_mem_cons.mpr ⟨congrArg (fun x => some (Value.int x)) (if_pos g2), List.forall_mem_cons.mpr ⟨rfl, fun _ h => absurd h List.not_mem_nil⟩⟩⟩⟩) ?_
      refine r_aload_n dX5_readRoad_100 rfl ?_
      refine r_getR (ci := 5) (k := 6) wf_X5_47 dX5_readRoad_101 z_0 k_0 (by decide) (by decide) (fun _ _ => rfl) f_0_6 ?_
      refine r_iload_n dX5_readRoad_104 rfl ?_
      refine r_iload_n dX5_readRoad_105 rfl ?_
      refine r_callVI (As := [.int (nI (p_vl t (d_1 t s))), .int (nI (p_vl t (d_2 t (r 0) s)))]) (o := 179) (c_X1_joins B D17 E r (p_vl t (d_1 t s)) (p_vl t (d_2 t (r 0) s)) (by omega) (by omega) (fun j hj => ⟨(congrFun (hg_D17 180 (by decide)) j).trans (L5 j hj), rg_64 hO.2 hj⟩) ((congrFun (hg_D17 179 (by decide)) 3).trans L3)) hv_X1_joins wm_X5_365 dX5_readRoad_106 rfl rfl z_179 k_179 (by decide) rfl (Nat.le_of_ble_eq_true rfl) ⟨Nat.le_of_ble_eq_true rfl, Nat.le_of_ble_eq_true rfl, Nat.zero_le _, Nat.zero_le _⟩ ⟨rfl, rfl⟩ (fun z23 D24 E25 hz23 => ?_)
      obtain ⟨hq1, hj1, hj2, hj3, hqE⟩ := hz23
      obtain rfl := hqE.symm
      obtain rfl := hq1.symm
      have hS_D24 := TS_eq (D' := D24) hS_D17 (hj1 13 (by decide) (by decide)) (hj1 14 (by decide) (by decide))
      have hg0 := hg_D17
      have hLX : DLr D17 r := DLr_f hL (fun q _ _ => hg_D17 q (by omega))
      have hCX : CA D17 185 r := CA_f hCA (fun q _ _ => hg_D17 q (by omega))
      have hBX : DB D17 := DB_f hJ.2 (hg_D17 185 (by decide)) (hg_D17 189 (by decide))
      refine r_if_ne (tgt := 121) dX5_readRoad_109 (by decide) (fun c109 => ?_) (fun c109 => ?_)
      · skip
        rw [bI_n0] at c109
        have hS4 : TS D24 t (d_4 t r s) := by
          first
            | (rw [d4_n (fun q => c97 q.1)]; exact hS_D24)
            | (rw [d4_n (fun q => c109 q.2)]; exact hS_D24)
            | (rw [d4_t ⟨c97, Classical.not_not.mp c109⟩]; exact hS_D24)
        have hFM : FRD D D24 := by
          first
            | exact fun q a _ => hg_D24 q a
            | exact fun q a b => (hj1 q (by omega) (by omega)).trans (hg0 q a)
        refine r_aload_n dX5_readRoad_121 rfl ?_
        refine r_getR (ci := 5) (k := 1) wf_X5_19 dX5_readRoad_122 z_0 k_0 (by decide) (by decide) (fun _ _ => rfl) f_0_1 ?_
        refine r_bipush (nI 59) dX5_readRoad_125 (by decide) ?_
        refine r_callVV (As := [.int (nI 59)]) (o := 13) (c_X4_expect B D24 E t (d_4 t r s) hS4 59 (by decide)) hv_X4_expect wm_X5_347 dX5_readRoad_127 rfl rfl z_13 k_13 (by decide) rfl (Nat.le_of_ble_eq_true rfl) ⟨Nat.le_of_ble_eq_true rfl, Nat.le_of_ble_eq_true rfl, Nat.zero_le _, Nat.zero_le _⟩ ⟨rfl, rfl⟩ (fun D27 E28 hz26 => ?_)
        obtain ⟨hq1, hq2, hqE⟩ := hz26
        obtain rfl := hqE.symm
        have hFF : FRD D D27 := hFM.f hq2
        have hSF : TS D27 t (p_rdS t r s) := hq1
        have hJF : JR D27 := by
          first
            | exact JR_f hJ ((hq2 180 (by decide)).trans (hg_D24 180 (by decide))) ((hq2 185 (by decide)).trans (hg_D24 185 (by decide))) ((hq2 189 (by decide)).trans (hg_D24 189 (by decide)))
            | exact ⟨⟨fun j => s_road r (p_vl t (d_1 t s)) (p_vl t (d_2 t (r 0) s)) (10 + j), fun j hj => ⟨(congrFun (hq2 180 (by decide)) j).trans ((hj3 c109).1 j hj), rg_64 (OKR_road hO (by omega) (by omega) (fun e => c109 (Or.inl e)) (by omega)).2 hj⟩⟩, DB_f hBX ((hq2 185 (by decide)).trans (hj1 185 (by decide) (by decide))) ((hq2 189 (by decide)).trans (hj1 189 (by decide) (by decide)))⟩
        refine r_vret2 dX5_readRoad_130 rfl ⟨Nat.zero_le _, Nat.zero_le _⟩ ?_
        refine ⟨?_, hFF, rfl⟩
        first
          | (have hnf : ¬ (p_rdS t r s).2.1 = 0 := fun q => c97 (rd_ok q).2.2.2.2.2.2
             rw [road_f (x := (s, r)) (show ¬ 10 ≤ r 4 by omega) hnf]
             exact CS_mk hSF hJF (fun q => absurd q hnf))
          | (have hnf : ¬ (p_rdS t r s).2.1 = 0 := fun q => (rd_ok q).2.2.1 (Classical.not_not.mp c109)
             rw [road_f (x := (s, r)) (show ¬ 10 ≤ r 4 by omega) hnf]
             exact CS_mk hSF hJF (fun q => absurd q hnf))
          | (have hJN := hj3 c109
             have hE := road_end hO (show r 4 < 10 by omega) (show p_vl t (d_1 t s) < r 0 by omega) (show p_vl t (d_2 t (r 0) s) < r 0 by omega) (fun e => c109 (Or.inl e)) hLX hCX ⟨fun j hj => (congrFun (hq2 180 (by decide)) j).trans (hJN.1 j hj), (congrFun (hq2 179 (by decide)) 3).trans hJN.2.1, fun k hk => (congrFun (hq2 179 (by decide)) k).trans (hJN.2.2 k hk)⟩ (fun q a b c => (hq2 q a).trans (hj1 q b c)) hBX hSF
             by_cases u : (p_rdS t r s).2.1 = 0
             · rw [road_t (x := (s, r)) (show ¬ 10 ≤ r 4 by omega) u]; exact hE.2
             · rw [road_f (x := (s, r)) (show ¬ 10 ≤ r 4 by omega) u]; exact (hE.1 r).resolve_right u)
      · skip
        rw [bI_0] at c109
        refine r_aload_n dX5_readRoad_112 rfl ?_
        refine r_getR (ci := 5) (k := 1) wf_X5_19 dX5_readRoad_113 z_0 k_0 (by decide) (by decide) (fun _ _ => rfl) f_0_1 ?_
        refine r_iconst (nI 2) dX5_readRoad_116 (by decide) ?_
        refine r_iload_n dX5_readRoad_117 rfl ?_
        refine r_callVV (As := [.int (nI 2), .int (nI ((d_2 t (r 0) s).1))]) (o := 13) (c_X4_fail B D24 E t (d_3 t (r 0) s) hS_D24 2 (d_2 t (r 0) s).1 (by decide) hst) hv_X4_fail wm_X5_362 dX5_readRoad_118 rfl rfl z_13 k_13 (by decide) rfl (Nat.le_of_ble_eq_true rfl) ⟨Nat.le_of_ble_eq_true rfl, Nat.le_of_ble_eq_true rfl, Nat.zero_le _, Nat.zero_le _⟩ ⟨rfl, rfl⟩ (fun D30 E31 hz29 => ?_)
        obtain ⟨hq1, hq2, hqE⟩ := hz29
        obtain rfl := hqE.symm
        have hS_D30 : TS D30 t (p_fp 2 (d_2 t (r 0) s).1 (d_3 t (r 0) s)) := hq1
        have hg_D30 : F13 D D30 := F13.trans (by rw [hj2 (Classical.not_not.mp c109)]; exact hg0) hq2
        have hS4 : TS D30 t (d_4 t r s) := by
          first
            | (rw [d4_n (fun q => c97 q.1)]; exact hS_D30)
            | (rw [d4_n (fun q => c109 q.2)]; exact hS_D30)
            | (rw [d4_t ⟨c97, Classical.not_not.mp c109⟩]; exact hS_D30)
        have hFM : FRD D D30 := by
          first
            | exact fun q a _ => hg_D30 q a
            | exact fun q a b => (hj1 q (by omega) (by omega)).trans (hg0 q a)
        refine r_aload_n dX5_readRoad_121 rfl ?_
        refine r_getR (ci := 5) (k := 1) wf_X5_19 dX5_readRoad_122 z_0 k_0 (by decide) (by decide) (fun _ _ => rfl) f_0_1 ?_
        refine r_bipush (nI 59) dX5_readRoad_125 (by decide) ?_
        refine r_callVV (As := [.int (nI 59)]) (o := 13) (c_X4_expect B D30 E t (d_4 t r s) hS4 59 (by decide)) hv_X4_expect wm_X5_347 dX5_readRoad_127 rfl rfl z_13 k_13 (by decide) rfl (Nat.le_of_ble_eq_true rfl) ⟨Nat.le_of_ble_eq_true rfl, Nat.le_of_ble_eq_true rfl, Nat.zero_le _, Nat.zero_le _⟩ ⟨rfl, rfl⟩ (fun D33 E34 hz32 => ?_)
        obtain ⟨hq1, hq2, hqE⟩ := hz32
        obtain rfl := hqE.symm
        have hFF : FRD D D33 := hFM.f hq2
        have hSF : TS D33 t (p_rdS t r s) := hq1
        have hJF : JR D33 := by
          first
            | exact JR_f hJ ((hq2 180 (by decide)).trans (hg_D30 180 (by decide))) ((hq2 185 (by decide)).trans (hg_D30 185 (by decide))) ((hq2 189 (by decide)).trans (hg_D30 189 (by decide)))
            | exact ⟨⟨fun j => s_road r (p_vl t (d_1 t s)) (p_vl t (d_2 t (r 0) s)) (10 + j), fun j hj => ⟨(congrFun (hq2 180 (by decide)) j).trans ((hj3 c109).1 j hj), rg_64 (OKR_road hO (by omega) (by omega) (fun e => c109 (Or.inl e)) (by omega)).2 hj⟩⟩, DB_f hBX ((hq2 185 (by decide)).trans (hj1 185 (by decide) (by decide))) ((hq2 189 (by decide)).trans (hj1 189 (by decide) (by decide)))⟩
        refine r_vret2 dX5_readRoad_130 rfl ⟨Nat.zero_le _, Nat.zero_le _⟩ ?_
        refine ⟨?_, hFF, rfl⟩
        first
          | (have hnf : ¬ (p_rdS t r s).2.1 = 0 := fun q => c97 (rd_ok q).2.2.2.2.2.2
             rw [road_f (x := (s, r)) (show ¬ 10 ≤ r 4 by omega) hnf]
             exact CS_mk hSF hJF (fun q => absurd q hnf))
          | (have hnf : ¬ (p_rdS t r s).2.1 = 0 := fun q => (rd_ok q).2.2.1 (Classical.not_not.mp c109)
             rw [road_f (x := (s, r)) (show ¬ 10 ≤ r 4 by omega) hnf]
             exact CS_mk hSF hJF (fun q => absurd q hnf))
          | (have hJN := hj3 c109
             have hE := road_end hO (show r 4 < 10 by omega) (show p_vl t (d_1 t s) < r 0 by omega) (show p_vl t (d_2 t (r 0) s) < r 0 by omega) (fun e => c109 (Or.inl e)) hLX hCX ⟨fun j hj => (congrFun (hq2 180 (by decide)) j).trans (hJN.1 j hj), (congrFun (hq2 179 (by decide)) 3).trans hJN.2.1, fun k hk => (congrFun (hq2 179 (by decide)) k).trans (hJN.2.2 k hk)⟩ (fun q a b c => (hq2 q a).trans (hj1 q b c)) hBX hSF
             by_cases u : (p_rdS t r s).2.1 = 0
             · rw [road_t (x := (s, r)) (show ¬ 10 ≤ r 4 by omega) u]; exact hE.2
             · rw [road_f (x := (s, r)) (show ¬ 10 ≤ r 4 by omega) u]; exact (hE.1 r).resolve_right u)
  · skip
    rw [nI_ltI (by omega) (by omega)] at c9
    refine r_aload_n dX5_readRoad_12 rfl ?_
    refine r_getR (ci := 5) (k := 1) wf_X5_19 dX5_readRoad_13 z_0 k_0 (by decide) (by decide) (fun _ _ => rfl) f_0_1 ?_
    refine r_iconst (nI 3) dX5_readRoad_16 (by decide) ?_
    refine r_aload_n dX5_readRoad_17 rfl ?_
    refine r_getR (ci := 5) (k := 1) wf_X5_19 dX5_readRoad_18 z_0 k_0 (by decide) (by decide) (fun _ _ => rfl) f_0_1 ?_
    refine r_getI (ci := 4) (k := 2) wf_X5_359 dX5_readRoad_21 z_13 k_13 (by decide) (by decide) rfl (fun z35 hz35 => ?_)
    obtain rfl : z35 = nI s.1 := hz35.trans e4
    refine r_callVV (As := [.int (nI 3), .int (nI s.1)]) (o := 13) (c_X4_fail B D E t s hS 3 s.1 (by decide) (by omega)) hv_X4_fail wm_X5_362 dX5_readRoad_24 rfl rfl z_13 k_13 (by decide) rfl (Nat.le_of_ble_eq_true rfl) ⟨Nat.le_of_ble_eq_true rfl, Nat.le_of_ble_eq_true rfl, Nat.zero_le _, Nat.zero_le _⟩ ⟨rfl, rfl⟩ (fun D37 E38 hz36 => ?_)
    obtain ⟨hq1, hq2, hqE⟩ := hz36
    obtain rfl := hqE.symm
    refine r_vret2 dX5_readRoad_27 rfl ⟨Nat.zero_le _, Nat.zero_le _⟩ ?_
    rw [road_3 (x := (s, r)) (show 10 ≤ r 4 by omega)]
    refine ⟨CS_mk hq1 (JR_f hJ (hq2 180 (by decide)) (hq2 185 (by decide)) (hq2 189 (by decide))) (fun q => ?_), FRD.rf.f hq2, rfl⟩
    rw [fp_f h0] at q
    exact absurd (show (3 : Nat) = 0 from q) (by decide)
set_option maxRecDepth 100000 in
set_option maxHeartbeats 4000000 in
theorem c_X5_readWisher (B : Nat) (D : DD) (E : EE) (t : TPt) (s : PSt) (r : Row) (hC : CS D t (s, r)) (h0 : s.2.1 = 0) (hO : OKR r) (hs : s.1 < t.1) (kd : Nat) (hkd : kd ≤ 5) : MR yX5_readWisher cX5_readWisher 3 none rX5_readWisher B [.ref (B + 0), .int (nI kd)] Z0 D E (Q2 Z0 (pV (fun D' E' => CS D' t (p_wi2 t kd s r) ∧ FRD D D' ∧ E' = E))) := by
  obtain ⟨hS, hJ, hLC⟩ := id hC
  have hS : TS D t s := hS
  have hL : DLr D r := (hLC h0).1
  have hCA : CA D 185 r := (hLC h0).2
  obtain ⟨⟨L0, L1, L2, L3, L4⟩, L5, L6⟩ := id hL
  obtain ⟨⟨e1, e2, e3⟩, e4, e5, e6, e7, e8, e9⟩ := id hS
  obtain ⟨b02, b06, b1, b2, b3, b4, b5, b9⟩ := id hO.1.1.1
  refine r_enter [(0, .ref (B + 0)), (1, .int (nI kd))] hv_X5_readWisher.1.2.2.2.2 (Nat.le_of_ble_eq_true rfl) rfl ?_
  refine r_iload_n dX5_readWisher_0 rfl ?_
  refine r_if_ne (tgt := 20) dX5_readWisher_1 (by decide) (fun c1 => ?_) (fun c1 => ?_)
  · skip
    rw [nI_z (by omega)] at c1
    refine r_aload_n dX5_readWisher_20 rfl ?_
    refine r_getR (ci := 5) (k := 6) wf_X5_47 dX5_readWisher_21 z_0 k_0 (by decide) (by decide) (fun _ _ => rfl) f_0_6 ?_
    refine r_getI (ci := 1) (k := 4) wf_X5_146 dX5_readWisher_24 z_179 k_179 (by decide) (by decide) rfl (fun z1 hz1 => ?_)
    obtain rfl : z1 = nI (r 5) := hz1.trans L4
    refine r_istore_n [(2, .int (nI (r 5))), (0, .ref (B + 0)), (1, .int (nI kd))] dX5_readWisher_27 (by decide) rfl ?_
    refine r_iload_n dX5_readWisher_28 rfl ?_
    refine r_bipush (nI 6) dX5_readWisher_29 (by decide) ?_
    refine r_icmp_lt (tgt := 50) dX5_readWisher_31 (by decide) (fun c31 => ?_) (fun c31 => ?_)
    · skip
      rw [nI_ltI (by omega) (by omega)] at c31
      refine r_aload_n dX5_readWisher_50 rfl ?_
      refine r_getR (ci := 5) (k := 1) wf_X5_19 dX5_readWisher_51 z_0 k_0 (by decide) (by decide) (fun _ _ => rfl) f_0_1 ?_
      refine r_dup dX5_readWisher_54 rfl ?_
      refine r_getI (ci := 4) (k := 2) wf_X5_359 dX5_readWisher_55 z_13 k_13 (by decide) (by decide) rfl (fun z2 hz2 => ?_)
      obtain rfl : z2 = nI s.1 := hz2.trans e4
      refine r_iconst (nI 1) dX5_readWisher_58 (by decide) ?_
      refine r_iadd dX5_readWisher_59 (fun z3 hz3 => ?_)
      obtain rfl : z3 = nI (s.1 + 1) := (hz3.trans (nI_add _ _))
      refine r_putI (ci := 4) (k := 2) wf_X5_359 dX5_readWisher_60 z_13 k_13 (by decide) (by decide) rfl rfl (fun D4 hD4 => ?_)
      have hS_D4 : TS D4 t (w_1 s) := TS_at hS (show s.1 + 1 ≤ t.1 by omega) hD4
      have hg_D4 : F13 D D4 := by rw [hD4]; exact F13.rf.up
      refine r_aload_n dX5_readWisher_63 rfl ?_
      refine r_getR (ci := 5) (k := 7) wf_X5_50 dX5_readWisher_64 z_0 k_0 (by decide) (by decide) (fun _ _ => rfl) f_0_7 ?_
      refine r_getR (ci := 0) (k := 6) wf_X5_287 dX5_readWisher_67 z_185 k_185 (by decide) (by decide) (fun _ _ => rfl) f_185_6 ?_
      refine r_iload_n dX5_readWisher_70 rfl ?_
      refine r_iload_n dX5_readWisher_71 rfl ?_
      refine r_iast dX5_readWisher_72 z_186 k_186 (vp_in_nI (by omega) (by decide)) (fun D5 hD5 => ?_)
      rw [nI_clamp (by omega)] at hD5
      have hS_D5 := TS_eq (D' := D5) hS_D4 (by rw [hD5, up2_o (by decide)]) (by rw [hD5, up2_o (by decide)])
      have hg_D5 := F13_up hg_D4 hD5
      refine r_aload_n dX5_readWisher_73 rfl ?_
      refine r_getR (ci := 5) (k := 6) wf_X5_47 dX5_readWisher_74 z_0 k_0 (by decide) (by decide) (fun _ _ => rfl) f_0_6 ?_
      refine r_getR (ci := 1) (k := 7) wf_X5_196 dX5_readWisher_77 z_179 k_179 (by decide) (by decide) (fun _ _ => rfl) f_179_7 ?_
      refine r_iload_n dX5_readWisher_80 rfl ?_
      refine r_aload_n dX5_readWisher_81 rfl ?_
      refine r_getR (ci := 5) (k := 1) wf_X5_19 dX5_readWisher_82 z_0 k_0 (by decide) (by decide) (fun _ _ => rfl) f_0_1 ?_
      refine r_iconst (nI 0) dX5_readWisher_85 (by decide) ?_
      refine r_aload_n dX5_readWisher_86 rfl ?_
      refine r_getR (ci := 5) (k := 6) wf_X5_47 dX5_readWisher_87 z_0 k_0 (by decide) (by decide) (fun _ _ => rfl) f_0_6 ?_
      refine r_getI (ci := 1) (k := 0) wf_X5_244 dX5_readWisher_90 z_179 k_179 (by decide) (by decide) rfl (fun z6 hz6 => ?_)
      obtain rfl : z6 = nI (r 0) := hz6.trans ((congrFun (hg_D5 179 (by decide)) 0).trans ((congrFun ((up2_o (by decide)).trans rfl) 0).trans L0))
      refine r_iconst (nI 1) dX5_readWisher_93 (by decide) ?_
      refine r_isub dX5_readWisher_94 (fun z7 hz7 => ?_)
      obtain rfl : z7 = nI (r 0 - 1) := hz7.trans (nI_sub (by omega))
      refine r_callVI (As := [.int (nI 0), .int (nI (r 0 - 1))]) (o := 13) (c_X4_number B D5 E t (w_1 s) hS_D5 (nI 0) (nI (r 0 - 1)) 0 (r 0 - 1) (fun _ => ⟨rfl, rfl⟩) (by omega) (by omega)) hv_X4_number wm_X5_350 dX5_readWisher_95 rfl rfl z_13 k_13 (by decide) rfl (Nat.le_of_ble_eq_true rfl) ⟨Nat.le_of_ble_eq_true rfl, Nat.le_of_ble_eq_true rfl, Nat.zero_le _, Nat.zero_le _⟩ ⟨rfl, rfl⟩ (fun z8 D9 E10 hz8 => ?_)
      obtain ⟨hq1, hq2, hq3, hqE⟩ := hz8
      obtain rfl := hqE.symm
      obtain rfl := hq1.symm
      have hS_D9 : TS D9 t (p_nm t 0 (r 0 - 1) (w_1 s)) := hq2
      have hg_D9 := hg_D5.trans hq3
      refine r_iast dX5_readWisher_98 z_182 k_182 (vp_in_nI (by omega) (by decide)) (fun D11 hD11 => ?_)
      rw [nI_clamp (by omega)] at hD11
      have hS_D11 := TS_eq (D' := D11) hS_D9 (by rw [hD11, up2_o (by decide)]) (by rw [hD11, up2_o (by decide)])
      have hg_D11 := F13_up hg_D9 hD11
      refine r_aload_n dX5_readWisher_99 rfl ?_
      refine r_getR (ci := 5) (k := 1) wf_X5_19 dX5_readWisher_100 z_0 k_0 (by decide) (by decide) (fun _ _ => rfl) f_0_1 ?_
      refine r_bipush (nI 44) dX5_readWisher_103 (by decide) ?_
      refine r_callVV (As := [.int (nI 44)]) (o := 13) (c_X4_expect B D11 E t (p_nm t 0 (r 0 - 1) (w_1 s)) hS_D11 44 (by decide)) hv_X4_expect wm_X5_347 dX5_readWisher_105 rfl rfl z_13 k_13 (by decide) rfl (Nat.le_of_ble_eq_true rfl) ⟨Nat.le_of_ble_eq_true rfl, Nat.le_of_ble_eq_true rfl, Nat.zero_le _, Nat.zero_le _⟩ ⟨rfl, rfl⟩ (fun D13 E14 hz12 => ?_)
      obtain ⟨hq1, hq2, hqE⟩ := hz12
      obtain rfl := hqE.symm
      have hS_D13 : TS D13 t (w_2 t (r 0) s) := hq1
      have hg_D13 := hg_D11.trans hq2
      refine r_aload_n dX5_readWisher_108 rfl ?_
      refine r_getR (ci := 5) (k := 7) wf_X5_50 dX5_readWisher_109 z_0 k_0 (by decide) (by decide) (fun _ _ => rfl) f_0_7 ?_
      refine r_getR (ci := 0) (k := 7) wf_X5_178 dX5_readWisher_112 z_185 k_185 (by decide) (by decide) (fun _ _ => rfl) f_185_7 ?_
      refine r_iload_n dX5_readWisher_115 rfl ?_
      refine r_aload_n dX5_readWisher_116 rfl ?_
      refine r_getR (ci := 5) (k := 1) wf_X5_19 dX5_readWisher_117 z_0 k_0 (by decide) (by decide) (fun _ _ => rfl) f_0_1 ?_
      refine r_iconst (nI 0) dX5_readWisher_120 (by decide) ?_
      refine r_aload_n dX5_readWisher_121 rfl ?_
      refine r_getR (ci := 5) (k := 6) wf_X5_47 dX5_readWisher_122 z_0 k_0 (by decide) (by decide) (fun _ _ => rfl) f_0_6 ?_
      refine r_getI (ci := 1) (k := 0) wf_X5_244 dX5_readWisher_125 z_179 k_179 (by decide) (by decide) rfl (fun z15 hz15 => ?_)
      obtain rfl : z15 = nI (r 0) := hz15.trans ((congrFun (hg_D13 179 (by decide)) 0).trans ((congrFun ((up2_o (by decide)).trans ((up2_o (by decide)).trans rfl)) 0).trans L0))
      refine r_iconst (nI 1) dX5_readWisher_128 (by decide) ?_
      refine r_isub dX5_readWisher_129 (fun z16 hz16 => ?_)
      obtain rfl : z16 = nI (r 0 - 1) := hz16.trans (nI_sub (by omega))
      refine r_callVI (As := [.int (nI 0), .int (nI (r 0 - 1))]) (o := 13) (c_X4_number B D13 E t (w_2 t (r 0) s) hS_D13 (nI 0) (nI (r 0 - 1)) 0 (r 0 - 1) (fun _ => ⟨rfl, rfl⟩) (by omega) (by omega)) hv_X4_number wm_X5_350 dX5_readWisher_130 rfl rfl z_13 k_13 (by decide) rfl (Nat.le_of_ble_eq_true rfl) ⟨Nat.le_of_ble_eq_true rfl, Nat.le_of_ble_eq_true rfl, Nat.zero_le _, Nat.zero_le _⟩ ⟨rfl, rfl⟩ (fun z17 D18 E19 hz17 => ?_)
      obtain ⟨hq1, hq2, hq3, hqE⟩ := hz17
      obtain rfl := hqE.symm
      obtain rfl := hq1.symm
      have hS_D18 : TS D18 t (p_nm t 0 (r 0 - 1) (w_2 t (r 0) s)) := hq2
      have hg_D18 := hg_D13.trans hq3
      refine r_iast dX5_readWisher_133 z_187 k_187 (vp_in_nI (by omega) (by decide)) (fun D20 hD20 => ?_)
      rw [nI_clamp (by omega)] at hD20
      have hS_D20 := TS_eq (D' := D20) hS_D18 (by rw [hD20, up2_o (by decide)]) (by rw [hD20, up2_o (by decide)])
      have hg_D20 := F13_up hg_D18 hD20
      refine r_aload_n dX5_readWisher_134 rfl ?_
      refine r_getR (ci := 5) (k := 1) wf_X5_19 dX5_readWisher_135 z_0 k_0 (by decide) (by decide) (fun _ _ => rfl) f_0_1 ?_
      refine r_bipush (nI 44) dX5_readWisher_138 (by decide) ?_
      refine r_callVV (As := [.int (nI 44)]) (o := 13) (c_X4_expect B D20 E t (p_nm t 0 (r 0 - 1) (w_2 t (r 0) s)) hS_D20 44 (by decide)) hv_X4_expect wm_X5_347 dX5_readWisher_140 rfl rfl z_13 k_13 (by decide) rfl (Nat.le_of_ble_eq_true rfl) ⟨Nat.le_of_ble_eq_true rfl, Nat.le_of_ble_eq_true rfl, Nat.zero_le _, Nat.zero_le _⟩ ⟨rfl, rfl⟩ (fun D22 E23 hz21 => ?_)
      obtain ⟨hq1, hq2, hqE⟩ := hz21
      obtain rfl := hqE.symm
      have hS_D22 : TS D22 t (w_3 t (r 0) s) := hq1
      have hg_D22 := hg_D20.trans hq2
      refine r_aload_n dX5_readWisher_143 rfl ?_
      refine r_getR (ci := 5) (k := 7) wf_X5_50 dX5_readWisher_144 z_0 k_0 (by decide) (by decide) (fun _ _ => rfl) f_0_7 ?_
      refine r_getR (ci := 0) (k := 8) wf_X5_181 dX5_readWisher_147 z_185 k_185 (by decide) (by decide) (fun _ _ => rfl) f_185_8 ?_
      refine r_iload_n dX5_readWisher_150 rfl ?_
      refine r_aload_n dX5_readWisher_151 rfl ?_
      refine r_getR (ci := 5) (k := 1) wf_X5_19 dX5_readWisher_152 z_0 k_0 (by decide) (by decide) (fun _ _ => rfl) f_0_1 ?_
      refine r_iconst (nI 0) dX5_readWisher_155 (by decide) ?_
      refine r_bipush (nI 40) dX5_readWisher_156 (by decide) ?_
      refine r_callVI (As := [.int (nI 0), .int (nI 40)]) (o := 13) (c_X4_number B D22 E t (w_3 t (r 0) s) hS_D22 (nI 0) (nI 40) 0 40 (fun _ => ⟨rfl, rfl⟩) (by omega) (by omega)) hv_X4_number wm_X5_350 dX5_readWisher_158 rfl rfl z_13 k_13 (by decide) rfl (Nat.le_of_ble_eq_true rfl) ⟨Nat.le_of_ble_eq_true rfl, Nat.le_of_ble_eq_true rfl, Nat.zero_le _, Nat.zero_le _⟩ ⟨rfl, rfl⟩ (fun z24 D25 E26 hz24 => ?_)
      obtain ⟨hq1, hq2, hq3, hqE⟩ := hz24
      obtain rfl := hqE.symm
      obtain rfl := hq1.symm
      have hS_D25 : TS D25 t (p_nm t 0 40 (w_3 t (r 0) s)) := hq2
      have hg_D25 := hg_D22.trans hq3
      refine r_iast dX5_readWisher_161 z_188 k_188 (vp_in_nI (by omega) (by decide)) (fun D27 hD27 => ?_)
      rw [nI_clamp (by omega)] at hD27
      have hS_D27 := TS_eq (D' := D27) hS_D25 (by rw [hD27, up2_o (by decide)]) (by rw [hD27, up2_o (by decide)])
      have hg_D27 := F13_up hg_D25 hD27
      refine r_aload_n dX5_readWisher_162 rfl ?_
      refine r_getR (ci := 5) (k := 1) wf_X5_19 dX5_readWisher_163 z_0 k_0 (by decide) (by decide) (fun _ _ => rfl) f_0_1 ?_
      refine r_bipush (nI 44) dX5_readWisher_166 (by decide) ?_
      refine r_callVV (As := [.int (nI 44)]) (o := 13) (c_X4_expect B D27 E t (p_nm t 0 40 (w_3 t (r 0) s)) hS_D27 44 (by decide)) hv_X4_expect wm_X5_347 dX5_readWisher_168 rfl rfl z_13 k_13 (by decide) rfl (Nat.le_of_ble_eq_true rfl) ⟨Nat.le_of_ble_eq_true rfl, Nat.le_of_ble_eq_true rfl, Nat.zero_le _, Nat.zero_le _⟩ ⟨rfl, rfl⟩ (fun D29 E30 hz28 => ?_)
      obtain ⟨hq1, hq2, hqE⟩ := hz28
      obtain rfl := hqE.symm
      have hS_D29 : TS D29 t (w_4 t (r 0) s) := hq1
      have hg_D29 := hg_D27.trans hq2
      refine r_aload_n dX5_readWisher_171 rfl ?_
      refine r_getR (ci := 5) (k := 6) wf_X5_47 dX5_readWisher_172 z_0 k_0 (by decide) (by decide) (fun _ _ => rfl) f_0_6 ?_
      refine r_getR (ci := 1) (k := 8) wf_X5_368 dX5_readWisher_175 z_179 k_179 (by decide) (by decide) (fun _ _ => rfl) f_179_8 ?_
      refine r_iload_n dX5_readWisher_178 rfl ?_
      refine r_aload_n dX5_readWisher_179 rfl ?_
      refine r_getR (ci := 5) (k := 1) wf_X5_19 dX5_readWisher_180 z_0 k_0 (by decide) (by decide) (fun _ _ => rfl) f_0_1 ?_
      refine r_iconst (nI 0) dX5_readWisher_183 (by decide) ?_
      refine r_iconst (nI 5) dX5_readWisher_184 (by decide) ?_
      refine r_callVI (As := [.int (nI 0), .int (nI 5)]) (o := 13) (c_X4_number B D29 E t (w_4 t (r 0) s) hS_D29 (nI 0) (nI 5) 0 5 (fun _ => ⟨rfl, rfl⟩) (by omega) (by omega)) hv_X4_number wm_X5_350 dX5_readWisher_185 rfl rfl z_13 k_13 (by decide) rfl (Nat.le_of_ble_eq_true rfl) ⟨Nat.le_of_ble_eq_true rfl, Nat.le_of_ble_eq_true rfl, Nat.zero_le _, Nat.zero_le _⟩ ⟨rfl, rfl⟩ (fun z31 D32 E33 hz31 => ?_)
      obtain ⟨hq1, hq2, hq3, hqE⟩ := hz31
      obtain rfl := hqE.symm
      obtain rfl := hq1.symm
      have hS_D32 : TS D32 t (p_nm t 0 5 (w_4 t (r 0) s)) := hq2
      have hg_D32 := hg_D29.trans hq3
      refine r_iast dX5_readWisher_188 z_183 k_183 (vp_in_nI (by omega) (by decide)) (fun D34 hD34 => ?_)
      rw [nI_clamp (by omega)] at hD34
      have hS_D34 := TS_eq (D' := D34) hS_D32 (by rw [hD34, up2_o (by decide)]) (by rw [hD34, up2_o (by decide)])
      have hg_D34 := F13_up hg_D32 hD34
      refine r_aload_n dX5_readWisher_189 rfl ?_
      refine r_getR (ci := 5) (k := 1) wf_X5_19 dX5_readWisher_190 z_0 k_0 (by decide) (by decide) (fun _ _ => rfl) f_0_1 ?_
      refine r_bipush (nI 44) dX5_readWisher_193 (by decide) ?_
      refine r_callVV (As := [.int (nI 44)]) (o := 13) (c_X4_expect B D34 E t (p_nm t 0 5 (w_4 t (r 0) s)) hS_D34 44 (by decide)) hv_X4_expect wm_X5_347 dX5_readWisher_195 rfl rfl z_13 k_13 (by decide) rfl (Nat.le_of_ble_eq_true rfl) ⟨Nat.le_of_ble_eq_true rfl, Nat.le_of_ble_eq_true rfl, Nat.zero_le _, Nat.zero_le _⟩ ⟨rfl, rfl⟩ (fun D36 E37 hz35 => ?_)
      obtain ⟨hq1, hq2, hqE⟩ := hz35
      obtain rfl := hqE.symm
      have hS_D36 : TS D36 t (w_5 t (r 0) s) := hq1
      have hg_D36 := hg_D34.trans hq2
      refine r_aload_n dX5_readWisher_198 rfl ?_
      refine r_getR (ci := 5) (k := 6) wf_X5_47 dX5_readWisher_199 z_0 k_0 (by decide) (by decide) (fun _ _ => rfl) f_0_6 ?_
      refine r_getR (ci := 1) (k := 9) wf_X5_371 dX5_readWisher_202 z_179 k_179 (by decide) (by decide) (fun _ _ => rfl) f_179_9 ?_
      refine r_iload_n dX5_readWisher_205 rfl ?_
      refine r_aload_n dX5_readWisher_206 rfl ?_
      refine r_getR (ci := 5) (k := 1) wf_X5_19 dX5_readWisher_207 z_0 k_0 (by decide) (by decide) (fun _ _ => rfl) f_0_1 ?_
      refine r_iconst (nI 1) dX5_readWisher_210 (by decide) ?_
      refine r_bipush (nI 6) dX5_readWisher_211 (by decide) ?_
      refine r_callVI (As := [.int (nI 1), .int (nI 6)]) (o := 13) (c_X4_number B D36 E t (w_5 t (r 0) s) hS_D36 (nI 1) (nI 6) 1 6 (fun _ => ⟨rfl, rfl⟩) (by omega) (by omega)) hv_X4_number wm_X5_350 dX5_readWisher_213 rfl rfl z_13 k_13 (by decide) rfl (Nat.le_of_ble_eq_true rfl) ⟨Nat.le_of_ble_eq_true rfl, Nat.le_of_ble_eq_true rfl, Nat.zero_le _, Nat.zero_le _⟩ ⟨rfl, rfl⟩ (fun z38 D39 E40 hz38 => ?_)
      obtain ⟨hq1, hq2, hq3, hqE⟩ := hz38
      obtain rfl := hqE.symm
      obtain rfl := hq1.symm
      have hS_D39 : TS D39 t (p_nm t 1 6 (w_5 t (r 0) s)) := hq2
      have hg_D39 := hg_D36.trans hq3
      refine r_iast dX5_readWisher_216 z_184 k_184 (vp_in_nI (by omega) (by decide)) (fun D41 hD41 => ?_)
      rw [nI_clamp (by omega)] at hD41
      have hS_D41 := TS_eq (D' := D41) hS_D39 (by rw [hD41, up2_o (by decide)]) (by rw [hD41, up2_o (by decide)])
      have hg_D41 := F13_up hg_D39 hD41
      refine r_aload_n dX5_readWisher_217 rfl ?_
      refine r_getR (ci := 5) (k := 1) wf_X5_19 dX5_readWisher_218 z_0 k_0 (by decide) (by decide) (fun _ _ => rfl) f_0_1 ?_
      refine r_bipush (nI 59) dX5_readWisher_221 (by decide) ?_
      refine r_callVV (As := [.int (nI 59)]) (o := 13) (c_X4_expect B D41 E t (p_nm t 1 6 (w_5 t (r 0) s)) hS_D41 59 (by decide)) hv_X4_expect wm_X5_347 dX5_readWisher_223 rfl rfl z_13 k_13 (by decide) rfl (Nat.le_of_ble_eq_true rfl) ⟨Nat.le_of_ble_eq_true rfl, Nat.le_of_ble_eq_true rfl, Nat.zero_le _, Nat.zero_le _⟩ ⟨rfl, rfl⟩ (fun D43 E44 hz42 => ?_)
      obtain ⟨hq1, hq2, hqE⟩ := hz42
      obtain rfl := hqE.symm
      have hS_D43 : TS D43 t (w_6 t (r 0) s) := hq1
      have hg_D43 := hg_D41.trans hq2
      refine r_aload_n dX5_readWisher_226 rfl ?_
      refine r_getR (ci := 5) (k := 6) wf_X5_47 dX5_readWisher_227 z_0 k_0 (by decide) (by decide) (fun _ _ => rfl) f_0_6 ?_
      refine r_dup dX5_readWisher_230 rfl ?_
      refine r_getI (ci := 1) (k := 4) wf_X5_146 dX5_readWisher_231 z_179 k_179 (by decide) (by decide) rfl (fun z45 hz45 => ?_)
      obtain rfl : z45 = nI (r 5) := hz45.trans ((congrFun (hg_D43 179 (by decide)) 4).trans ((congrFun ((up2_o (by decide)).trans ((up2_o (by decide)).trans ((up2_o (by decide)).trans ((up2_o (by decide)).trans ((up2_o (by decide)).trans ((up2_o (by decide)).trans rfl)))))) 4).trans L4))
      refine r_iconst (nI 1) dX5_readWisher_234 (by decide) ?_
      refine r_iadd dX5_readWisher_235 (fun z46 hz46 => ?_)
      obtain rfl : z46 = nI ((r 5) + 1) := (hz46.trans (nI_add _ _))
      refine r_putI (ci := 1) (k := 4) wf_X5_146 dX5_readWisher_236 z_179 k_179 (by decide) (by decide) rfl rfl (fun D47 hD47 => ?_)
      have hS_D47 := TS_eq (D' := D47) hS_D43 (by rw [hD47, up2_o (by decide)]) (by rw [hD47, up2_o (by decide)])
      have hg_D47 := F13_up hg_D43 hD47
      refine r_vret2 dX5_readWisher_239 rfl ⟨Nat.zero_le _, Nat.zero_le _⟩ ?_
      have hw5 : ¬ 6 ≤ r 5 := by omega
      have hFF : FRD D D47 := fun q a b => (hg_D47 q a).trans ((up2_o (by omega)).trans ((up2_o (by omega)).trans ((up2_o (by omega)).trans ((up2_o (by omega)).trans ((up2_o (by omega)).trans ((up2_o (by omega)).trans ((up2_o (by omega)).trans rfl)))))))
      have hJF : JR D47 := JR_f hJ ((hg_D47 180 (by decide)).trans ((up2_o (by decide)).trans ((up2_o (by decide)).trans ((up2_o (by decide)).trans ((up2_o (by decide)).trans ((up2_o (by decide)).trans ((up2_o (by decide)).trans ((up2_o (by decide)).trans rfl)))))))) ((hg_D47 185 (by decide)).trans ((up2_o (by decide)).trans ((up2_o (by decide)).trans ((up2_o (by decide)).trans ((up2_o (by decide)).trans ((up2_o (by decide)).trans ((up2_o (by decide)).trans ((up2_o (by decide)).trans rfl)))))))) ((hg_D47 189 (by decide)).trans ((up2_o (by decide)).trans ((up2_o (by decide)).trans ((up2_o (by decide)).trans ((up2_o (by decide)).trans ((up2_o (by decide)).trans ((up2_o (by decide)).trans ((up2_o (by decide)).trans rfl))))))))
      refine ⟨?_, hFF, rfl⟩
      by_cases u : (w_6 t (r 0) s).2.1 = 0
      · rw [wi2_t c1 hw5 u]
        obtain ⟨h11, -, -⟩ := ex_ok' (show w_6 t (r 0) s = p_ex t 59 (p_nm t 1 6 (w_5 t (r 0) s)) from rfl) u
        obtain ⟨h10, -, -⟩ := nm_ok h11
        obtain ⟨h9, -, -⟩ := ex_ok' (show w_5 t (r 0) s = p_ex t 44 (p_nm t 0 5 (w_4 t (r 0) s)) from rfl) h10
        obtain ⟨h8, -, -⟩ := nm_ok h9
        obtain ⟨h7, -, -⟩ := ex_ok' (show w_4 t (r 0) s = p_ex t 44 (p_nm t 0 40 (w_3 t (r 0) s)) from rfl) h8
        obtain ⟨h6, -, -⟩ := nm_ok h7
        obtain ⟨h5, -, -⟩ := ex_ok' (show w_3 t (r 0) s = p_ex t 44 (p_nm t 0 (r 0 - 1) (w_2 t (r 0) s)) from rfl) h6
        obtain ⟨h4, -, -⟩ := nm_ok h5
        obtain ⟨h3, -, -⟩ := ex_ok' (show w_2 t (r 0) s = p_ex t 44 (p_nm t 0 (r 0 - 1) (w_1 s)) from rfl) h4
        have hG : F13 (wiC D (r 5) (nI kd) (if (p_nm t 0 (r 0 - 1) (w_1 s)).2.1 = 0 then nI (p_vl t (w_1 s)) else nI 0) (if (p_nm t 0 (r 0 - 1) (w_2 t (r 0) s)).2.1 = 0 then nI (p_vl t (w_2 t (r 0) s)) else nI 0) (if (p_nm t 0 40 (w_3 t (r 0) s)).2.1 = 0 then nI (p_vl t (w_3 t (r 0) s)) else nI 0) (if (p_nm t 0 5 (w_4 t (r 0) s)).2.1 = 0 then nI (p_vl t (w_4 t (r 0) s)) else nI 0) (if (p_nm t 1 6 (w_5 t (r 0) s)).2.1 = 0 then nI (p_vl t (w_5 t (r 0) s)) else nI 0)) D47 := hg_D47
        exact CS_mk hS_D47 hJF (fun _ => wis_end2 hO (by omega) hL hCA hG (if_pos h3) (if_pos h5) (if_pos h7) (if_pos h9) (if_pos h11))
      · rw [wi2_f c1 hw5 u]
        exact CS_mk hS_D47 hJF (fun q => absurd q u)
    · skip
      rw [nI_ltI (by omega) (by omega)] at c31
      refine r_aload_n dX5_readWisher_34 rfl ?_
      refine r_getR (ci := 5) (k := 1) wf_X5_19 dX5_readWisher_35 z_0 k_0 (by decide) (by decide) (fun _ _ => rfl) f_0_1 ?_
      refine r_iconst (nI 3) dX5_readWisher_38 (by decide) ?_
      refine r_aload_n dX5_readWisher_39 rfl ?_
      refine r_getR (ci := 5) (k := 1) wf_X5_19 dX5_readWisher_40 z_0 k_0 (by decide) (by decide) (fun _ _ => rfl) f_0_1 ?_
      refine r_getI (ci := 4) (k := 2) wf_X5_359 dX5_readWisher_43 z_13 k_13 (by decide) (by decide) rfl (fun z48 hz48 => ?_)
      obtain rfl : z48 = nI s.1 := hz48.trans e4
      refine r_callVV (As := [.int (nI 3), .int (nI s.1)]) (o := 13) (c_X4_fail B D E t s hS 3 s.1 (by decide) (by omega)) hv_X4_fail wm_X5_362 dX5_readWisher_46 rfl rfl z_13 k_13 (by decide) rfl (Nat.le_of_ble_eq_true rfl) ⟨Nat.le_of_ble_eq_true rfl, Nat.le_of_ble_eq_true rfl, Nat.zero_le _, Nat.zero_le _⟩ ⟨rfl, rfl⟩ (fun D50 E51 hz49 => ?_)
      obtain ⟨hq1, hq2, hqE⟩ := hz49
      obtain rfl := hqE.symm
      refine r_vret2 dX5_readWisher_49 rfl ⟨Nat.zero_le _, Nat.zero_le _⟩ ?_
      rw [wi2_3 c1 (show 6 ≤ r 5 by omega)]
      refine ⟨CS_mk hq1 (JR_f hJ (hq2 180 (by decide)) (hq2 185 (by decide)) (hq2 189 (by decide))) (fun q => ?_), FRD.rf.f hq2, rfl⟩
      rw [fp_f h0] at q
      exact absurd (show (3 : Nat) = 0 from q) (by decide)
  · skip
    rw [nI_z (by omega)] at c1
    refine r_aload_n dX5_readWisher_4 rfl ?_
    refine r_getR (ci := 5) (k := 1) wf_X5_19 dX5_readWisher_5 z_0 k_0 (by decide) (by decide) (fun _ _ => rfl) f_0_1 ?_
    refine r_iconst (nI 1) dX5_readWisher_8 (by decide) ?_
    refine r_aload_n dX5_readWisher_9 rfl ?_
    refine r_getR (ci := 5) (k := 1) wf_X5_19 dX5_readWisher_10 z_0 k_0 (by decide) (by decide) (fun _ _ => rfl) f_0_1 ?_
    refine r_getI (ci := 4) (k := 2) wf_X5_359 dX5_readWisher_13 z_13 k_13 (by decide) (by decide) rfl (fun z52 hz52 => ?_)
    obtain rfl : z52 = nI s.1 := hz52.trans e4
    refine r_callVV (As := [.int (nI 1), .int (nI s.1)]) (o := 13) (c_X4_fail B D E t s hS 1 s.1 (by decide) (by omega)) hv_X4_fail wm_X5_362 dX5_readWisher_16 rfl rfl z_13 k_13 (by decide) rfl (Nat.le_of_ble_eq_true rfl) ⟨Nat.le_of_ble_eq_true rfl, Nat.le_of_ble_eq_true rfl, Nat.zero_le _, Nat.zero_le _⟩ ⟨rfl, rfl⟩ (fun D54 E55 hz53 => ?_)
    obtain ⟨hq1, hq2, hqE⟩ := hz53
    obtain rfl := hqE.symm
    refine r_vret2 dX5_readWisher_19 rfl ⟨Nat.zero_le _, Nat.zero_le _⟩ ?_
    rw [wi2_0 c1]
    refine ⟨CS_mk hq1 (JR_f hJ (hq2 180 (by decide)) (hq2 185 (by decide)) (hq2 189 (by decide))) (fun q => ?_), FRD.rf.f hq2, rfl⟩
    rw [fp_f h0] at q
    exact absurd (show (1 : Nat) = 0 from q) (by decide)
