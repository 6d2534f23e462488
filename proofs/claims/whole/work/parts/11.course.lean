set_option maxRecDepth 100000 in
set_option maxHeartbeats 4000000 in
theorem c_X0_weigh (B : Nat) (D : DD) (E : EE) (o p : Nat) (ho : isC o) (hp : isL p) (hd : DJ o p) (r : Row) (wy : Nat → Nat) (hW : WF r) (b : Nat) (hH : HB r b) (hb : b < 2 ^ 20) (hC : CA D o r) (hL : LA D p wy r) (hY : WY wy r) (hT : T2 r) : MR yX0_weigh cX0_weigh 3 none rX0_weigh B [.ref (B + o), .ref (B + p)] Z0 D E (Q2 Z0 (pV (fun D' E' => (∃ g, D' = upo D (o + 5) g ∧ ∀ q, q < r 0 → g q = s_pull wy r 63 0 (nI 0) q) ∧ E' = E))) := by
  obtain ⟨⟨b1, b2, b3, b4, b5, b6, b7, b8⟩, b9, b10, b11⟩ := id hW
  obtain ⟨hb1, hb2, hb3⟩ := id hH
  have e0 := hd 5 0 (by decide) (by decide)
  have e1 := hd 5 1 (by decide) (by decide)
  have e2 := hd 5 2 (by decide) (by decide)
  have e3 := hd 5 3 (by decide) (by decide)
  have e4 := hd 5 4 (by decide) (by decide)
  have e5 := hd 5 5 (by decide) (by decide)
  have g0 := hd 4 0 (by decide) (by decide)
  have g1 := hd 4 1 (by decide) (by decide)
  have g2 := hd 4 2 (by decide) (by decide)
  have g3 := hd 4 3 (by decide) (by decide)
  have g4 := hd 4 4 (by decide) (by decide)
  have g5 := hd 4 5 (by decide) (by decide)
  have hC5 : ∀ f, CA (upo D (o + 5) f) o r := fun f => CA_upo hC (fun j hj => by omega)
  have hL5 : ∀ f, LA (upo D (o + 5) f) p wy r := fun f => LA_upo hL (fun j hj => (hd 5 j (by decide) hj).symm)
  refine r_enter [(0, .ref (B + o)), (1, .ref (B + p))] hv_X0_weigh.1.2.2.2.2 (Nat.le_of_ble_eq_true rfl) rfl ?_
  refine r_iconst (nI 0) dX0_weigh_0 (by decide) ?_
  refine r_istore_n [(2, .int (nI 0)), (0, .ref (B + o)), (1, .ref (B + p))] dX0_weigh_1 (by decide) rfl ?_
  have L : ∀ fu k : Nat, k ≤ r 0 → r 0 - k < fu → RW yX0_weigh cX0_weigh 3 none rX0_weigh B (Q2 Z0 (pV (fun D' E' => (∃ g, D' = upo D (o + 5) g ∧ ∀ q, q < r 0 → g q = s_pull wy r 63 0 (nI 0) q) ∧ E' = E))) Z0 (upo D (o + 5) (w1 D o wy r k)) E 0 0 2 [(2, .int (nI k)), (0, .ref (B + o)), (1, .ref (B + p))] [] := by
    intro fu
    induction fu with
    | zero => intro k hku hfu; omega
    | succ fu ih =>
      intro k hku hfu 
      refine r_iload_n dX0_weigh_2 rfl ?_
      refine r_aload_n dX0_weigh_3 rfl ?_
      refine r_getI (ci := 1) (k := 0) wf_X0_82 dX0_weigh_4 hp.1.1 hp.2.1.1 (by decide) (by decide) rfl (fun z1 hz1 => ?_)
      obtain rfl : z1 = nI (r 0) := hz1.trans ((congrFun (upo_n (by omega)) _).trans (hL.1.1))
      refine r_icmp_ge (tgt := 34) dX0_weigh_7 (by decide) (fun c7 => ?_) (fun c7 => ?_)
      · skip
        rw [nI_leI (by omega) (by omega)] at c7
        have hk0 : k = r 0 := by omega
        refine r_aload_n dX0_weigh_34 rfl ?_
        refine r_getR (ci := 0) (k := 10) wf_X0_24 dX0_weigh_35 ho.1.1 ho.2.1.1 (by decide) (by decide) (fun _ _ => rfl) ho.2.2.2.2.2.2 ?_
        refine r_aload_n dX0_weigh_38 rfl ?_
        refine r_getI (ci := 0) (k := 1) wf_X0_31 dX0_weigh_39 ho.1.1 ho.2.1.1 (by decide) (by decide) rfl (fun z2 hz2 => ?_)
        obtain rfl : z2 = nI (r 1) := hz2.trans ((congrFun (upo_n (by omega)) _).trans (hC.1.2.1))
        refine r_dup2 dX0_weigh_42 rfl rfl ?_
        refine r_iald dX0_weigh_43 ho.1.2.2.2.2.2 ho.2.1.2.2.2.2.2 (vp_in_nI (by omega) (by decide)) (fun z3 hz3 => ?_)
        rw [nI_clamp (by omega)] at hz3
        obtain rfl : z3 = nI 0 := hz3.trans ((congrFun upo_s _).trans ((if_pos (by omega)).trans (by rw [hY.2 _ b3]; decide)))
        refine r_aload_n dX0_weigh_44 rfl ?_
        refine r_getI (ci := 1) (k := 1) wf_X0_85 dX0_weigh_45 hp.1.1 hp.2.1.1 (by decide) (by decide) rfl (fun z4 hz4 => ?_)
        obtain rfl : z4 = nI (r 2) := hz4.trans ((congrFun (upo_n (by omega)) _).trans (hL.1.2.1))
        refine r_iadd dX0_weigh_48 (fun z5 hz5 => ?_)
        obtain rfl : z5 = nI (0 + r 2) := hz5.trans (nI_add _ _)
        refine r_iast dX0_weigh_49 ho.1.2.2.2.2.2 ho.2.1.2.2.2.2.2 (vp_in_nI (by omega) (by decide)) (fun D6 hD6 => ?_)
        rw [nI_clamp (by omega)] at hD6
        obtain rfl : D6 = upo D (o + 5) (w2 D o wy r) := hD6.trans (up2_upo.trans (congrArg (upo D (o + 5)) (by rw [hk0]; exact w1_2 b3)))
        refine r_iconst (nI 0) dX0_weigh_50 (by decide) ?_
        refine r_istore_n [(2, .int (nI 0)), (0, .ref (B + o)), (1, .ref (B + p))] dX0_weigh_51 (by decide) rfl ?_
        have L2 : ∀ fu k : Nat, k ≤ r 5 → r 5 - k < fu → RW yX0_weigh cX0_weigh 3 none rX0_weigh B (Q2 Z0 (pV (fun D' E' => (∃ g, D' = upo D (o + 5) g ∧ ∀ q, q < r 0 → g q = s_pull wy r 63 0 (nI 0) q) ∧ E' = E))) Z0 (upo D (o + 5) (s_pl wy r 63 (w2 D o wy r) k)) E 0 0 52 [(2, .int (nI k)), (0, .ref (B + o)), (1, .ref (B + p))] [] := by
          intro fu
          induction fu with
          | zero => intro k hku hfu; omega
          | succ fu ihL2 =>
            intro k hku hfu 
            refine r_iload_n dX0_weigh_52 rfl ?_
            refine r_aload_n dX0_weigh_53 rfl ?_
            refine r_getI (ci := 1) (k := 4) wf_X0_64 dX0_weigh_54 hp.1.1 hp.2.1.1 (by decide) (by decide) rfl (fun z7 hz7 => ?_)
            obtain rfl : z7 = nI (r 5) := hz7.trans ((congrFun (upo_n (by omega)) _).trans (hL.1.2.2.2.2))
            refine r_icmp_ge (tgt := 95) dX0_weigh_57 (by decide) (fun c57 => ?_) (fun c57 => ?_)
            · skip
              rw [nI_leI (by omega) (by omega)] at c57
              refine r_vret2 dX0_weigh_95 rfl ⟨Nat.zero_le _, Nat.zero_le _⟩ ?_
              refine ⟨⟨_, rfl, fun q hq => ?_⟩, rfl⟩
              rw [show k = r 5 by omega]
              exact s_pl_congr (fun p hp => if_pos hp) _ (fun w hw => (b10 w hw).2.2.1) q hq
            · skip
              rw [nI_leI (by omega) (by omega)] at c57
              refine r_aload_n dX0_weigh_60 rfl ?_
              refine r_aload_n dX0_weigh_61 rfl ?_
              refine r_iload_n dX0_weigh_62 rfl ?_
              refine r_callVI (As := [.ref (B + p), .int (nI k)]) (o := o) (c_X0_wishes B (upo D (o + 5) (s_pl wy r 63 (w2 D o wy r) k)) E o p ho hp hd r wy hW b hH hb (hC5 _).w (hL5 _) hY k (by omega)) hv_X0_wishes wm_X0_67 dX0_weigh_63 rfl rfl ho.1.1 ho.2.1.1 (by decide) rfl (Nat.le_of_ble_eq_true rfl) ⟨Nat.le_of_ble_eq_true rfl, Nat.le_of_ble_eq_true rfl, Nat.zero_le _, Nat.zero_le _⟩ ⟨rfl, rfl⟩ (fun z8 D9 E10 hz8 => ?_)
              obtain ⟨hqV, hqD, hqE⟩ := hz8
              obtain rfl : z8 = bI (s_wiB r k = true) := hqV
              obtain rfl := hqD.symm
              obtain rfl := hqE.symm
              refine r_if_eq (tgt := 89) dX0_weigh_66 (by decide) (fun c66 => ?_) (fun c66 => ?_)
              · skip
                rw [bI_0] at c66
                refine r_D (D' := upo D (o + 5) (s_pl wy r 63 (w2 D o wy r) (k + 1))) (congrArg (upo D (o + 5)) (by show _ = (if _ then _ else _); rw [if_neg (fun q => c66 q.2)])) ?_
                refine r_iinc (nI (k + 1)) [(2, .int (nI (k + 1))), (0, .ref (B + o)), (1, .ref (B + p))] dX0_weigh_89 rfl (nI_1 _) (by decide) rfl ?_
                refine r_goto (tgt := 52) dX0_weigh_92 (by decide) ?_
                exact r_lv [(2, .int (nI (k + 1))), (0, .ref (B + o)), (1, .ref (B + p))] (List.forall_mem_cons.mpr ⟨rfl, List.forall_mem_cons.mpr ⟨rfl, List.forall_mem_cons.mpr ⟨rfl, fun _ h => absurd h List.not_mem_nil⟩⟩⟩) (ihL2 (k + 1) (by omega) (by omega))
              · skip
                rw [bI_n0] at c66
                refine r_aload_n dX0_weigh_69 rfl ?_
                refine r_getR (ci := 0) (k := 10) wf_X0_24 dX0_weigh_70 ho.1.1 ho.2.1.1 (by decide) (by decide) (fun _ _ => rfl) ho.2.2.2.2.2.2 ?_
                refine r_aload_n dX0_weigh_73 rfl ?_
                refine r_getR (ci := 0) (k := 7) wf_X0_15 dX0_weigh_74 ho.1.1 ho.2.1.1 (by decide) (by decide) (fun _ _ => rfl) ho.2.2.2.1 ?_
                refine r_iload_n dX0_weigh_77 rfl ?_
                refine r_iald dX0_weigh_78 ho.1.2.2.1 ho.2.1.2.2.1 (vp_in_nI (by omega) (by decide)) (fun z11 hz11 => ?_)
                rw [nI_clamp (by omega)] at hz11
                obtain rfl : z11 = nI (r (18 + 8 * k)) := hz11.trans ((congrFun (upo_n (by omega)) _).trans ((hC.2.1 k (by omega)).2.1))
                refine r_dup2 dX0_weigh_79 rfl rfl ?_
                have hq18 := (b10 k (by omega)).2.2.1
                refine r_iald dX0_weigh_80 ho.1.2.2.2.2.2 ho.2.1.2.2.2.2.2 (vp_in_nI (by have := (b10 k (by omega)).2.2.1; omega) (by decide)) (fun z12 hz12 => ?_)
                rw [nI_clamp (by omega)] at hz12
                obtain rfl : z12 = s_pl wy r 63 (w2 D o wy r) k (r (18 + 8 * k)) := hz12.trans (congrFun upo_s _)
                refine r_aload_n dX0_weigh_81 rfl ?_
                refine r_aload_n dX0_weigh_82 rfl ?_
                refine r_iload_n dX0_weigh_83 rfl ?_
                refine r_callVI (As := [.ref (B + p), .int (nI k)]) (o := o) (c_X0_force B (upo D (o + 5) (s_pl wy r 63 (w2 D o wy r) k)) E o p ho hp hd r wy hW b hH hb (hC5 _) (hL5 _) hY hT k (by omega)) hv_X0_force wm_X0_88 dX0_weigh_84 rfl rfl ho.1.1 ho.2.1.1 (by decide) rfl (Nat.le_of_ble_eq_true rfl) ⟨Nat.le_of_ble_eq_true rfl, Nat.le_of_ble_eq_true rfl, Nat.zero_le _, Nat.zero_le _⟩ ⟨rfl, rfl⟩ (fun z13 D14 E15 hz13 => ?_)
                obtain ⟨hqV, hqD, hqE⟩ := hz13
                obtain rfl : z13 = nI (s_wish wy r k) := hqV
                obtain rfl := hqD.symm
                obtain rfl := hqE.symm
                refine r_iadd dX0_weigh_87 (fun z16 hz16 => ?_)
                subst hz16
                refine r_iast dX0_weigh_88 ho.1.2.2.2.2.2 ho.2.1.2.2.2.2.2 (vp_in_nI (by omega) (by decide)) (fun D17 hD17 => ?_)
                rw [nI_clamp (by omega)] at hD17
                obtain rfl : D17 = upo D (o + 5) (s_pl wy r 63 (w2 D o wy r) (k + 1)) := hD17.trans (up2_upo.trans (congrArg (upo D (o + 5)) (by show _ = (if _ then _ else _); rw [if_pos ⟨b63 k (by omega), c66⟩])))
                refine r_iinc (nI (k + 1)) [(2, .int (nI (k + 1))), (0, .ref (B + o)), (1, .ref (B + p))] dX0_weigh_89 rfl (nI_1 _) (by decide) rfl ?_
                refine r_goto (tgt := 52) dX0_weigh_92 (by decide) ?_
                exact r_lv [(2, .int (nI (k + 1))), (0, .ref (B + o)), (1, .ref (B + p))] (List.forall_mem_cons.mpr ⟨rfl, List.forall_mem_cons.mpr ⟨rfl, List.forall_mem_cons.mpr ⟨rfl, fun _ h => absurd h List.not_mem_nil⟩⟩⟩) (ihL2 (k + 1) (by omega) (by omega))
        have L29 := L2 (r 5 + 1) 0 (by omega) (by omega)
        rw [show s_pl wy r 63 (w2 D o wy r) 0 = w2 D o wy r from rfl] at L29
        exact r_lv [(2, .int (nI 0)), (0, .ref (B + o)), (1, .ref (B + p))] (List.forall_mem_cons.mpr ⟨rfl, List.forall_mem_cons.mpr ⟨rfl, List.forall_mem_cons.mpr ⟨rfl, fun _ h => absurd h List.not_mem_nil⟩⟩⟩) (L29)
      · skip
        rw [nI_leI (by omega) (by omega)] at c7
        refine r_aload_n dX0_weigh_10 rfl ?_
        refine r_getR (ci := 0) (k := 10) wf_X0_24 dX0_weigh_11 ho.1.1 ho.2.1.1 (by decide) (by decide) (fun _ _ => rfl) ho.2.2.2.2.2.2 ?_
        refine r_iload_n dX0_weigh_14 rfl ?_
        refine r_bipush ((-2)) dX0_weigh_15 (by decide) ?_
        refine r_aload_n dX0_weigh_17 rfl ?_
        refine r_aload_n dX0_weigh_18 rfl ?_
        refine r_getI (ci := 0) (k := 1) wf_X0_31 dX0_weigh_19 ho.1.1 ho.2.1.1 (by decide) (by decide) rfl (fun z18 hz18 => ?_)
        obtain rfl : z18 = nI (r 1) := hz18.trans ((congrFun (upo_n (by omega)) _).trans (hC.1.2.1))
        refine r_iload_n dX0_weigh_22 rfl ?_
        refine r_callVI (As := [.int (nI (r 1)), .int (nI k)]) (o := p) (c_X1_way B (upo D (o + 5) (w1 D o wy r k)) E p (r 1) k hp (by omega)) hv_X1_way wm_X0_79 dX0_weigh_23 rfl rfl hp.1.1 hp.2.1.1 (by decide) rfl (Nat.le_of_ble_eq_true rfl) ⟨Nat.le_of_ble_eq_true rfl, Nat.le_of_ble_eq_true rfl, Nat.zero_le _, Nat.zero_le _⟩ ⟨rfl, rfl⟩ (fun z19 D20 E21 hz19 => ?_)
        obtain ⟨hq1, hqD, hqE⟩ := hz19
        obtain rfl := hqD.symm
        obtain rfl := hqE.symm
        obtain rfl : z19 = nI (wy (6 * r 1 + k)) := hq1.trans ((congrFun (upo_n (by omega)) _).trans (hL.2.2.1 _ (by omega)))
        refine r_imul dX0_weigh_26 (fun z22 hz22 => ?_)
        subst hz22
        refine r_iast dX0_weigh_27 ho.1.2.2.2.2.2 ho.2.1.2.2.2.2.2 (vp_in_nI (by omega) (by decide)) (fun D23 hD23 => ?_)
        rw [nI_clamp (by omega)] at hD23
        obtain rfl : D23 = upo D (o + 5) (w1 D o wy r (k + 1)) := hD23.trans (up2_upo.trans (congrArg (upo D (o + 5)) w1_s))
        refine r_iinc (nI (k + 1)) [(2, .int (nI (k + 1))), (0, .ref (B + o)), (1, .ref (B + p))] dX0_weigh_28 rfl (nI_1 _) (by decide) rfl ?_
        refine r_goto (tgt := 2) dX0_weigh_31 (by decide) ?_
        exact r_lv [(2, .int (nI (k + 1))), (0, .ref (B + o)), (1, .ref (B + p))] (List.forall_mem_cons.mpr ⟨rfl, List.forall_mem_cons.mpr ⟨rfl, List.forall_mem_cons.mpr ⟨rfl, fun _ h => absurd h List.not_mem_nil⟩⟩⟩) (ih (k + 1) (by omega) (by omega))
  have L9 := L (r 0 + 1) 0 (by omega) (by omega)
  rw [w1_0] at L9
  exact r_lv [(2, .int (nI 0)), (0, .ref (B + o)), (1, .ref (B + p))] (List.forall_mem_cons.mpr ⟨rfl, List.forall_mem_cons.mpr ⟨rfl, List.forall_mem_cons.mpr ⟨rfl, fun _ h => absurd h List.not_mem_nil⟩⟩⟩) (L9)
