set_option maxRecDepth 100000 in
set_option maxHeartbeats 4000000 in
theorem c_X0_decide (B : Nat) (D : DD) (E : EE) (o p : Nat) (ho : isC o) (hp : isL p) (hd : DJ o p) (r : Row) (wy : Nat → Nat) (hW : WF r) (b : Nat) (hH : HB r b) (hb : b < 2 ^ 20) (hC : CA D o r) (hL : LA D p wy r) (hY : WY wy r) (f : Nat → Int32) (hf : ∀ q, q < r 0 → D (o + 5) q = f q) : MR yX0_decide cX0_decide 5 (some .int) rX0_decide B [.ref (B + o), .ref (B + p)] Z0 D E (Q2 Z0 (pI (fun v D' E' => v = (if s_to f (r 1) (r 0) = 9 then (-1) else nI (s_to f (r 1) (r 0))) ∧ D' = D ∧ E' = E))) := by
  obtain ⟨⟨b1, b2, b3, b4, b5, b6, b7, b8⟩, b9, b10, b11⟩ := id hW
  obtain ⟨hb1, hb2, hb3⟩ := id hH
  refine r_enter [(0, .ref (B + o)), (1, .ref (B + p))] hv_X0_decide.1.2.2.2.2 (Nat.le_of_ble_eq_true rfl) rfl ?_
  refine r_aload_n dX0_decide_0 rfl ?_
  refine r_getI (ci := 0) (k := 1) wf_X0_31 dX0_decide_1 ho.1.1 ho.2.1.1 (by decide) (by decide) rfl (fun z1 hz1 => ?_)
  obtain rfl : z1 = nI (r 1) := hz1.trans (hC.1.2.1)
  refine r_istore_n [(2, .int (nI (r 1))), (0, .ref (B + o)), (1, .ref (B + p))] dX0_decide_4 (by decide) rfl ?_
  refine r_iconst (nI 0) dX0_decide_5 (by decide) ?_
  refine r_istore_n [(3, .int (nI 0)), (2, .int (nI (r 1))), (0, .ref (B + o)), (1, .ref (B + p))] dX0_decide_6 (by decide) rfl ?_
  refine r_iconst (nI 0) dX0_decide_7 (by decide) ?_
  refine r_istore [(4, .int (nI 0)), (3, .int (nI 0)), (2, .int (nI (r 1))), (0, .ref (B + o)), (1, .ref (B + p))] dX0_decide_8 (by decide) rfl ?_
  refine r_lv [(4, .int (nI 0)), (3, .int (bI ((s_best f (r 1) 0).2 ≠ 1))), (2, .int (nI ((s_best f (r 1) 0).1))), (0, .ref (B + o)), (1, .ref (B + p))] (List.forall_mem_cons.mpr ⟨rfl, List.forall_mem_cons.mpr ⟨congrArg (fun x => some (Value.int x)) (bI_f (fun q => q rfl)), List.forall_mem_cons.mpr ⟨congrArg (fun x => some (Value.int x)) rfl, List.forall_mem_cons.mpr ⟨rfl, List.forall_mem_cons.mpr ⟨rfl, fun _ h => absurd h List.not_mem_nil⟩⟩⟩⟩⟩) ?_
  have L : ∀ fu k : Nat, k ≤ r 0 → r 0 - k < fu → RW yX0_decide cX0_decide 5 (some .int) rX0_decide B (Q2 Z0 (pI (fun v D' E' => v = (if s_to f (r 1) (r 0) = 9 then (-1) else nI (s_to f (r 1) (r 0))) ∧ D' = D ∧ E' = E))) Z0 D E 0 0 10 [(4, .int (nI k)), (3, .int (bI ((s_best f (r 1) k).2 ≠ 1))), (2, .int (nI ((s_best f (r 1) k).1))), (0, .ref (B + o)), (1, .ref (B + p))] [] := by
    intro fu
    induction fu with
    | zero => intro k hku hfu; omega
    | succ fu ih =>
      intro k hku hfu 
      refine r_iload dX0_decide_10 rfl ?_
      refine r_aload_n dX0_decide_12 rfl ?_
      refine r_getI (ci := 1) (k := 0) wf_X0_82 dX0_decide_13 hp.1.1 hp.2.1.1 (by decide) (by decide) rfl (fun z2 hz2 => ?_)
      obtain rfl : z2 = nI (r 0) := hz2.trans (hL.1.1)
      refine r_icmp_ge (tgt := 73) dX0_decide_16 (by decide) (fun c16 => ?_) (fun c16 => ?_)
      · skip
        rw [nI_leI (by omega) (by omega)] at c16
        have hbl : (s_best f (r 1) k).1 < r 0 := by rcases (s_best_ok (f := f) (at' := r 1) k).1 with h | h <;> omega
        refine r_iload_n dX0_decide_73 rfl ?_
        refine r_if_eq (tgt := 89) dX0_decide_74 (by decide) (fun c74 => ?_) (fun c74 => ?_)
        · skip
          rw [bI_0] at c74
          refine r_iload_n dX0_decide_89 rfl ?_
          refine r_iret2 dX0_decide_90 rfl ⟨Nat.zero_le _, Nat.zero_le _⟩ ?_
          have hk0 : k = r 0 := by omega
          rw [← hk0]
          refine ⟨?_, rfl, rfl⟩
          first
            | rw [s_to_1 (by omega), if_neg (by omega)]
            | rw [s_to_9 (by omega), if_pos rfl]
        · skip
          rw [bI_n0] at c74
          refine r_iload_n dX0_decide_77 rfl ?_
          refine r_aload_n dX0_decide_78 rfl ?_
          refine r_getI (ci := 0) (k := 1) wf_X0_31 dX0_decide_79 ho.1.1 ho.2.1.1 (by decide) (by decide) rfl (fun z3 hz3 => ?_)
          obtain rfl : z3 = nI (r 1) := hz3.trans (hC.1.2.1)
          refine r_icmp_eq (tgt := 89) dX0_decide_82 (by decide) (fun c82 => ?_) (fun c82 => ?_)
          · skip
            rw [nI_eq (by omega) (by omega)] at c82
            refine r_iload_n dX0_decide_89 rfl ?_
            refine r_iret2 dX0_decide_90 rfl ⟨Nat.zero_le _, Nat.zero_le _⟩ ?_
            have hk0 : k = r 0 := by omega
            rw [← hk0]
            refine ⟨?_, rfl, rfl⟩
            first
              | rw [s_to_1 (by omega), if_neg (by omega)]
              | rw [s_to_9 (by omega), if_pos rfl]
          · skip
            rw [nI_eq (by omega) (by omega)] at c82
            refine r_iconst ((-1)) dX0_decide_85 (by decide) ?_
            refine r_goto (tgt := 90) dX0_decide_86 (by decide) ?_
            refine r_iret2 dX0_decide_90 rfl ⟨Nat.zero_le _, Nat.zero_le _⟩ ?_
            have hk0 : k = r 0 := by omega
            rw [← hk0]
            refine ⟨?_, rfl, rfl⟩
            first
              | rw [s_to_1 (by omega), if_neg (by omega)]
              | rw [s_to_9 (by omega), if_pos rfl]
      · skip
        rw [nI_leI (by omega) (by omega)] at c16
        have hbl : (s_best f (r 1) k).1 < r 0 := by rcases (s_best_ok (f := f) (at' := r 1) k).1 with h | h <;> omega
        refine r_aload_n dX0_decide_19 rfl ?_
        refine r_getR (ci := 0) (k := 10) wf_X0_24 dX0_decide_20 ho.1.1 ho.2.1.1 (by decide) (by decide) (fun _ _ => rfl) ho.2.2.2.2.2.2 ?_
        refine r_iload dX0_decide_23 rfl ?_
        refine r_iald dX0_decide_25 ho.1.2.2.2.2.2 ho.2.1.2.2.2.2.2 (vp_in_nI (by omega) (by decide)) (fun z4 hz4 => ?_)
        rw [nI_clamp (by omega)] at hz4
        obtain rfl : z4 = f k := hz4.trans (hf k (by omega))
        refine r_aload_n dX0_decide_26 rfl ?_
        refine r_getR (ci := 0) (k := 10) wf_X0_24 dX0_decide_27 ho.1.1 ho.2.1.1 (by decide) (by decide) (fun _ _ => rfl) ho.2.2.2.2.2.2 ?_
        refine r_iload_n dX0_decide_30 rfl ?_
        refine r_iald dX0_decide_31 ho.1.2.2.2.2.2 ho.2.1.2.2.2.2.2 (vp_in_nI (by omega) (by decide)) (fun z5 hz5 => ?_)
        rw [nI_clamp (by omega)] at hz5
        obtain rfl : z5 = f (s_best f (r 1) k).1 := hz5.trans (hf _ (by omega))
        refine r_icmp_le (tgt := 43) dX0_decide_32 (by decide) (fun c32 => ?_) (fun c32 => ?_)
        · skip
          refine r_iload dX0_decide_43 rfl ?_
          refine r_iload_n dX0_decide_45 rfl ?_
          refine r_icmp_eq (tgt := 67) dX0_decide_46 (by decide) (fun c46 => ?_) (fun c46 => ?_)
          · skip
            rw [nI_eq (by omega) (by omega)] at c46
            have hs : s_best f (r 1) (k + 1) = s_best f (r 1) k := (if_neg (Int32.not_lt.mpr c32)).trans (if_neg (fun q => q.1 c46))
            refine r_lv [(4, .int (nI k)), (3, .int (bI ((s_best f (r 1) (k + 1)).2 ≠ 1))), (2, .int (nI ((s_best f (r 1) (k + 1)).1))), (0, .ref (B + o)), (1, .ref (B + p))] (List.forall_mem_cons.mpr ⟨rfl, List.forall_mem_cons.mpr ⟨congrArg (fun x => some (Value.int x)) (bI_c (by rw [hs])), List.forall_mem_cons.mpr ⟨congrArg (fun x => some (Value.int x)) (congrArg nI (congrArg Prod.fst hs).symm), List.forall_mem_cons.mpr ⟨rfl, List.forall_mem_cons.mpr ⟨rfl, fun _ h => absurd h List.not_mem_nil⟩⟩⟩⟩⟩) ?_
            refine r_iinc (nI (k + 1)) [(4, .int (nI (k + 1))), (3, .int (bI ((s_best f (r 1) (k + 1)).2 ≠ 1))), (2, .int (nI ((s_best f (r 1) (k + 1)).1))), (0, .ref (B + o)), (1, .ref (B + p))] dX0_decide_67 rfl (nI_1 _) (by decide) rfl ?_
            refine r_goto (tgt := 10) dX0_decide_70 (by decide) ?_
            exact r_lv [(4, .int (nI (k + 1))), (3, .int (bI ((s_best f (r 1) (k + 1)).2 ≠ 1))), (2, .int (nI ((s_best f (r 1) (k + 1)).1))), (0, .ref (B + o)), (1, .ref (B + p))] (List.forall_mem_cons.mpr ⟨rfl, List.forall_mem_cons.mpr ⟨rfl, List.forall_mem_cons.mpr ⟨rfl, List.forall_mem_cons.mpr ⟨rfl, List.forall_mem_cons.mpr ⟨rfl, fun _ h => absurd h List.not_mem_nil⟩⟩⟩⟩⟩) (ih (k + 1) (by omega) (by omega))
          · skip
            rw [nI_eq (by omega) (by omega)] at c46
            refine r_aload_n dX0_decide_49 rfl ?_
            refine r_getR (ci := 0) (k := 10) wf_X0_24 dX0_decide_50 ho.1.1 ho.2.1.1 (by decide) (by decide) (fun _ _ => rfl) ho.2.2.2.2.2.2 ?_
            refine r_iload dX0_decide_53 rfl ?_
            refine r_iald dX0_decide_55 ho.1.2.2.2.2.2 ho.2.1.2.2.2.2.2 (vp_in_nI (by omega) (by decide)) (fun z6 hz6 => ?_)
            rw [nI_clamp (by omega)] at hz6
            obtain rfl : z6 = f k := hz6.trans (hf k (by omega))
            refine r_aload_n dX0_decide_56 rfl ?_
            refine r_getR (ci := 0) (k := 10) wf_X0_24 dX0_decide_57 ho.1.1 ho.2.1.1 (by decide) (by decide) (fun _ _ => rfl) ho.2.2.2.2.2.2 ?_
            refine r_iload_n dX0_decide_60 rfl ?_
            refine r_iald dX0_decide_61 ho.1.2.2.2.2.2 ho.2.1.2.2.2.2.2 (vp_in_nI (by omega) (by decide)) (fun z7 hz7 => ?_)
            rw [nI_clamp (by omega)] at hz7
            obtain rfl : z7 = f (s_best f (r 1) k).1 := hz7.trans (hf _ (by omega))
            refine r_icmp_ne (tgt := 67) dX0_decide_62 (by decide) (fun c62 => ?_) (fun c62 => ?_)
            · skip
              have hs : s_best f (r 1) (k + 1) = s_best f (r 1) k := (if_neg (Int32.not_lt.mpr c32)).trans (if_neg (fun q => c62 q.2))
              refine r_lv [(4, .int (nI k)), (3, .int (bI ((s_best f (r 1) (k + 1)).2 ≠ 1))), (2, .int (nI ((s_best f (r 1) (k + 1)).1))), (0, .ref (B + o)), (1, .ref (B + p))] (List.forall_mem_cons.mpr ⟨rfl, List.forall_mem_cons.mpr ⟨congrArg (fun x => some (Value.int x)) (bI_c (by rw [hs])), List.forall_mem_cons.mpr ⟨congrArg (fun x => some (Value.int x)) (congrArg nI (congrArg Prod.fst hs).symm), List.forall_mem_cons.mpr ⟨rfl, List.forall_mem_cons.mpr ⟨rfl, fun _ h => absurd h List.not_mem_nil⟩⟩⟩⟩⟩) ?_
              refine r_iinc (nI (k + 1)) [(4, .int (nI (k + 1))), (3, .int (bI ((s_best f (r 1) (k + 1)).2 ≠ 1))), (2, .int (nI ((s_best f (r 1) (k + 1)).1))), (0, .ref (B + o)), (1, .ref (B + p))] dX0_decide_67 rfl (nI_1 _) (by decide) rfl ?_
              refine r_goto (tgt := 10) dX0_decide_70 (by decide) ?_
              exact r_lv [(4, .int (nI (k + 1))), (3, .int (bI ((s_best f (r 1) (k + 1)).2 ≠ 1))), (2, .int (nI ((s_best f (r 1) (k + 1)).1))), (0, .ref (B + o)), (1, .ref (B + p))] (List.forall_mem_cons.mpr ⟨rfl, List.forall_mem_cons.mpr ⟨rfl, List.forall_mem_cons.mpr ⟨rfl, List.forall_mem_cons.mpr ⟨rfl, List.forall_mem_cons.mpr ⟨rfl, fun _ h => absurd h List.not_mem_nil⟩⟩⟩⟩⟩) (ih (k + 1) (by omega) (by omega))
            · skip
              refine r_iconst (nI 1) dX0_decide_65 (by decide) ?_
              have hs : s_best f (r 1) (k + 1) = ((s_best f (r 1) k).1, (s_best f (r 1) k).2 + 1) := (if_neg (Int32.not_lt.mpr c32)).trans (if_pos ⟨c46, c62⟩)
              have hb2 := (s_best_ok (f := f) (at' := r 1) k).2
              refine r_istore_n [(3, .int (nI 1)), (4, .int (nI k)), (2, .int (nI ((s_best f (r 1) k).1))), (0, .ref (B + o)), (1, .ref (B + p))] dX0_decide_66 (by decide) rfl ?_
              refine r_lv [(3, .int (bI ((s_best f (r 1) (k + 1)).2 ≠ 1))), (4, .int (nI k)), (2, .int (nI ((s_best f (r 1) (k + 1)).1))), (0, .ref (B + o)), (1, .ref (B + p))] (List.forall_mem_cons.mpr ⟨congrArg (fun x => some (Value.int x)) (bI_t (fun q => by rw [hs] at q; have q9 : (s_best f (r 1) k).2 + 1 = 1 := q; omega)), List.forall_mem_cons.mpr ⟨rfl, List.forall_mem_cons.mpr ⟨congrArg (fun x => some (Value.int x)) (congrArg nI (congrArg Prod.fst hs).symm), List.forall_mem_cons.mpr ⟨rfl, List.forall_mem_cons.mpr ⟨rfl, fun _ h => absurd h List.not_mem_nil⟩⟩⟩⟩⟩) ?_
              refine r_iinc (nI (k + 1)) [(4, .int (nI (k + 1))), (3, .int (bI ((s_best f (r 1) (k + 1)).2 ≠ 1))), (2, .int (nI ((s_best f (r 1) (k + 1)).1))), (0, .ref (B + o)), (1, .ref (B + p))] dX0_decide_67 rfl (nI_1 _) (by decide) rfl ?_
              refine r_goto (tgt := 10) dX0_decide_70 (by decide) ?_
              exact r_lv [(4, .int (nI (k + 1))), (3, .int (bI ((s_best f (r 1) (k + 1)).2 ≠ 1))), (2, .int (nI ((s_best f (r 1) (k + 1)).1))), (0, .ref (B + o)), (1, .ref (B + p))] (List.forall_mem_cons.mpr ⟨rfl, List.forall_mem_cons.mpr ⟨rfl, List.forall_mem_cons.mpr ⟨rfl, List.forall_mem_cons.mpr ⟨rfl, List.forall_mem_cons.mpr ⟨rfl, fun _ h => absurd h List.not_mem_nil⟩⟩⟩⟩⟩) (ih (k + 1) (by omega) (by omega))
        · skip
          have hs : s_best f (r 1) (k + 1) = (k, 1) := if_pos (Int32.not_le.mp c32)
          refine r_iload dX0_decide_35 rfl ?_
          refine r_istore_n [(2, .int (nI k)), (4, .int (nI k)), (3, .int (bI ((s_best f (r 1) k).2 ≠ 1))), (0, .ref (B + o)), (1, .ref (B + p))] dX0_decide_37 (by decide) rfl ?_
          refine r_iconst (nI 0) dX0_decide_38 (by decide) ?_
          refine r_istore_n [(3, .int (nI 0)), (2, .int (nI k)), (4, .int (nI k)), (0, .ref (B + o)), (1, .ref (B + p))] dX0_decide_39 (by decide) rfl ?_
          refine r_goto (tgt := 67) dX0_decide_40 (by decide) ?_
          refine r_lv [(3, .int (bI ((s_best f (r 1) (k + 1)).2 ≠ 1))), (2, .int (nI ((s_best f (r 1) (k + 1)).1))), (4, .int (nI k)), (0, .ref (B + o)), (1, .ref (B + p))] (List.forall_mem_cons.mpr ⟨congrArg (fun x => some (Value.int x)) (bI_f (fun q => q (congrArg Prod.snd hs))), List.forall_mem_cons.mpr ⟨congrArg (fun x => some (Value.int x)) (congrArg nI (congrArg Prod.fst hs).symm), List.forall_mem_cons.mpr ⟨rfl, List.forall_mem_cons.mpr ⟨rfl, List.forall_mem_cons.mpr ⟨rfl, fun _ h => absurd h List.not_mem_nil⟩⟩⟩⟩⟩) ?_
          refine r_iinc (nI (k + 1)) [(4, .int (nI (k + 1))), (3, .int (bI ((s_best f (r 1) (k + 1)).2 ≠ 1))), (2, .int (nI ((s_best f (r 1) (k + 1)).1))), (0, .ref (B + o)), (1, .ref (B + p))] dX0_decide_67 rfl (nI_1 _) (by decide) rfl ?_
          refine r_goto (tgt := 10) dX0_decide_70 (by decide) ?_
          exact r_lv [(4, .int (nI (k + 1))), (3, .int (bI ((s_best f (r 1) (k + 1)).2 ≠ 1))), (2, .int (nI ((s_best f (r 1) (k + 1)).1))), (0, .ref (B + o)), (1, .ref (B + p))] (List.forall_mem_cons.mpr ⟨rfl, List.forall_mem_cons.mpr ⟨rfl, List.forall_mem_cons.mpr ⟨rfl, List.forall_mem_cons.mpr ⟨rfl, List.forall_mem_cons.mpr ⟨rfl, fun _ h => absurd h List.not_mem_nil⟩⟩⟩⟩⟩) (ih (k + 1) (by omega) (by omega))
  exact r_lv [(4, .int (nI 0)), (3, .int (bI ((s_best f (r 1) 0).2 ≠ 1))), (2, .int (nI ((s_best f (r 1) 0).1))), (0, .ref (B + o)), (1, .ref (B + p))] (List.forall_mem_cons.mpr ⟨rfl, List.forall_mem_cons.mpr ⟨rfl, List.forall_mem_cons.mpr ⟨rfl, List.forall_mem_cons.mpr ⟨rfl, List.forall_mem_cons.mpr ⟨rfl, fun _ h => absurd h List.not_mem_nil⟩⟩⟩⟩⟩) (L (r 0 + 1) 0 (by omega) (by omega))
set_option maxRecDepth 100000 in
set_option maxHeartbeats 4000000 in
theorem c_X0_goesTo (B : Nat) (D : DD) (E : EE) (o p : Nat) (ho : isC o) (hp : isL p) (hd : DJ o p) (r : Row) (wy : Nat → Nat) (hW : WF r) (b : Nat) (hH : HB r b) (hb : b < 2 ^ 20) (hC : CA D o r) (hL : LA D p wy r) (hY : WY wy r) (f : Nat → Int32) (hf : ∀ q, q < r 0 → D (o + 5) q = f q) : MR yX0_goesTo cX0_goesTo 3 (some .int) rX0_goesTo B [.ref (B + o), .ref (B + p)] Z0 D E (Q2 Z0 (pI (fun v D' E' => v = (nI (if s_to f (r 1) (r 0) = 9 then r 1 else s_to f (r 1) (r 0))) ∧ D' = D ∧ E' = E))) := by
  obtain ⟨⟨b1, b2, b3, b4, b5, b6, b7, b8⟩, b9, b10, b11⟩ := id hW
  obtain ⟨hb1, hb2, hb3⟩ := id hH
  have ht9 : s_to f (r 1) (r 0) ≤ 9 := by rcases s_to_ok (f := f) b3 with h | h <;> omega
  refine r_enter [(0, .ref (B + o)), (1, .ref (B + p))] hv_X0_goesTo.1.2.2.2.2 (Nat.le_of_ble_eq_true rfl) rfl ?_
  refine r_aload_n dX0_goesTo_0 rfl ?_
  refine r_aload_n dX0_goesTo_1 rfl ?_
  refine r_callVI (As := [.ref (B + p)]) (o := o) (c_X0_decide B D E o p ho hp hd r wy hW b hH hb hC hL hY f hf) hv_X0_decide wm_X0_92 dX0_goesTo_2 rfl rfl ho.1.1 ho.2.1.1 (by decide) rfl (Nat.le_of_ble_eq_true rfl) ⟨Nat.le_of_ble_eq_true rfl, Nat.le_of_ble_eq_true rfl, Nat.zero_le _, Nat.zero_le _⟩ ⟨rfl, rfl⟩ (fun z1 D2 E3 hz1 => ?_)
  obtain ⟨hqV, hqD, hqE⟩ := hz1
  obtain rfl : z1 = if s_to f (r 1) (r 0) = 9 then (-1) else nI (s_to f (r 1) (r 0)) := hqV
  obtain rfl := hqD.symm
  obtain rfl := hqE.symm
  refine r_istore_n [(2, .int (if s_to f (r 1) (r 0) = 9 then (-1) else nI (s_to f (r 1) (r 0)))), (0, .ref (B + o)), (1, .ref (B + p))] dX0_goesTo_5 (by decide) rfl ?_
  refine r_iload_n dX0_goesTo_6 rfl ?_
  refine r_iconst ((-1)) dX0_goesTo_7 (by decide) ?_
  refine r_icmp_ne (tgt := 18) dX0_goesTo_8 (by decide) (fun c8 => ?_) (fun c8 => ?_)
  · skip
    rw [code_m1 ht9] at c8
    refine r_iload_n dX0_goesTo_18 rfl ?_
    refine r_iret2 dX0_goesTo_19 rfl ⟨Nat.zero_le _, Nat.zero_le _⟩ ?_
    refine ⟨?_, rfl, rfl⟩
    first
      | rw [if_pos c8]
      | rw [if_neg c8, if_neg c8]
  · skip
    rw [code_m1 ht9] at c8
    refine r_aload_n dX0_goesTo_11 rfl ?_
    refine r_getI (ci := 0) (k := 1) wf_X0_31 dX0_goesTo_12 ho.1.1 ho.2.1.1 (by decide) (by decide) rfl (fun z4 hz4 => ?_)
    obtain rfl : z4 = nI (r 1) := hz4.trans (hC.1.2.1)
    refine r_goto (tgt := 19) dX0_goesTo_15 (by decide) ?_
    refine r_iret2 dX0_goesTo_19 rfl ⟨Nat.zero_le _, Nat.zero_le _⟩ ?_
    refine ⟨?_, rfl, rfl⟩
    first
      | rw [if_pos c8]
      | rw [if_neg c8, if_neg c8]
set_option maxRecDepth 100000 in
set_option maxHeartbeats 4000000 in
theorem c_X0_tire (B : Nat) (D : DD) (E : EE) (o p : Nat) (ho : isC o) (hp : isL p) (hd : DJ o p) (r : Row) (wy : Nat → Nat) (hW : WF r) (b : Nat) (hH : HB r b) (hb : b < 2 ^ 20) (hC : CW D o r) (hL : LA D p wy r) (hY : WY wy r) (hT : CT D o r) (hT2 : T2 r) : MR yX0_tire cX0_tire 4 none rX0_tire B [.ref (B + o), .ref (B + p)] Z0 D E (Q2 Z0 (pV (fun D' E' => (∃ g, D' = upo D (o + 4) g ∧ (∀ w, w < r 5 → g w = nI (s_tire r w)) ∧ ∀ w, r 5 ≤ w → g w = D (o + 4) w) ∧ E' = E))) := by
  obtain ⟨⟨b1, b2, b3, b4, b5, b6, b7, b8⟩, b9, b10, b11⟩ := id hW
  obtain ⟨hb1, hb2, hb3⟩ := id hH
  have e0 := hd 5 0 (by decide) (by decide)
  have e1 := hd 5 1 (by decide) (by decide)
  have e2 := hd 5 2 (by decide) (by decide)
  have e3 := hd 5 3 (by decide) (by decide)
  have e4 := hd 5 4 (by decide) (by decide)
  have e5 := hd 5 5 (by decide) (by decide)
  have g0 := hd 4 0 (by decide) (by decide)
  have g1 := hd 4 1 (by decide) (by decide)
  have g2 := hd 4 2 (by decide) (by decide)
  have g3 := hd 4 3 (by decide) (by decide)
  have g4 := hd 4 4 (by decide) (by decide)
  have g5 := hd 4 5 (by decide) (by decide)
  have hC4 : ∀ f, CW (upo D (o + 4) f) o r := fun f => ⟨(congrFun (upo_n (by omega)) _).trans hC.1, (congrFun (upo_n (by omega)) _).trans hC.2⟩
  have hL4 : ∀ f, LA (upo D (o + 4) f) p wy r := fun f => LA_upo hL (fun j hj => (hd 4 j (by decide) hj).symm)
  refine r_enter [(0, .ref (B + o)), (1, .ref (B + p))] hv_X0_tire.1.2.2.2.2 (Nat.le_of_ble_eq_true rfl) rfl ?_
  refine r_iconst (nI 0) dX0_tire_0 (by decide) ?_
  refine r_istore_n [(2, .int (nI 0)), (0, .ref (B + o)), (1, .ref (B + p))] dX0_tire_1 (by decide) rfl ?_
  have L : ∀ fu k : Nat, k ≤ r 5 → r 5 - k < fu → RW yX0_tire cX0_tire 4 none rX0_tire B (Q2 Z0 (pV (fun D' E' => (∃ g, D' = upo D (o + 4) g ∧ (∀ w, w < r 5 → g w = nI (s_tire r w)) ∧ ∀ w, r 5 ≤ w → g w = D (o + 4) w) ∧ E' = E))) Z0 (upo D (o + 4) (t1 D o r k)) E 0 0 2 [(2, .int (nI k)), (0, .ref (B + o)), (1, .ref (B + p))] [] := by
    intro fu
    induction fu with
    | zero => intro k hku hfu; omega
    | succ fu ih =>
      intro k hku hfu 
      refine r_iload_n dX0_tire_2 rfl ?_
      refine r_aload_n dX0_tire_3 rfl ?_
      refine r_getI (ci := 1) (k := 4) wf_X0_64 dX0_tire_4 hp.1.1 hp.2.1.1 (by decide) (by decide) rfl (fun z1 hz1 => ?_)
      obtain rfl : z1 = nI (r 5) := hz1.trans ((congrFun (upo_n (by omega)) _).trans (hL.1.2.2.2.2))
      refine r_icmp_ge (tgt := 67) dX0_tire_7 (by decide) (fun c7 => ?_) (fun c7 => ?_)
      · skip
        rw [nI_leI (by omega) (by omega)] at c7
        refine r_vret2 dX0_tire_67 rfl ⟨Nat.zero_le _, Nat.zero_le _⟩ ?_
        exact ⟨⟨_, rfl, fun w hw => if_pos (by omega), fun w hw => if_neg (by omega)⟩, rfl⟩
      · skip
        rw [nI_leI (by omega) (by omega)] at c7
        obtain ⟨⟨d1, d2⟩, d3, d4, d5, d6, ⟨d7, d8⟩, d9, d10⟩ := b10 k (by omega)
        refine r_aload_n dX0_tire_10 rfl ?_
        refine r_aload_n dX0_tire_11 rfl ?_
        refine r_iload_n dX0_tire_12 rfl ?_
        refine r_callVI (As := [.ref (B + p), .int (nI k)]) (o := o) (c_X0_wishes B (upo D (o + 4) (t1 D o r k)) E o p ho hp hd r wy hW b hH hb (hC4 _) (hL4 _) hY k (by omega)) hv_X0_wishes wm_X0_67 dX0_tire_13 rfl rfl ho.1.1 ho.2.1.1 (by decide) rfl (Nat.le_of_ble_eq_true rfl) ⟨Nat.le_of_ble_eq_true rfl, Nat.le_of_ble_eq_true rfl, Nat.zero_le _, Nat.zero_le _⟩ ⟨rfl, rfl⟩ (fun z2 D3 E4 hz2 => ?_)
        obtain ⟨hqV, hqD, hqE⟩ := hz2
        obtain rfl : z2 = bI (s_wiB r k = true) := hqV
        obtain rfl := hqD.symm
        obtain rfl := hqE.symm
        refine r_if_eq (tgt := 26) dX0_tire_16 (by decide) (fun c16 => ?_) (fun c16 => ?_)
        · skip
          rw [bI_0] at c16
          refine r_iconst ((-1)) dX0_tire_26 (by decide) ?_
          refine r_istore_n [(3, .int ((-1))), (2, .int (nI k)), (0, .ref (B + o)), (1, .ref (B + p))] dX0_tire_27 (by decide) rfl ?_
          refine r_aload_n dX0_tire_28 rfl ?_
          refine r_getR (ci := 0) (k := 6) wf_X0_9 dX0_tire_29 ho.1.1 ho.2.1.1 (by decide) (by decide) (fun _ _ => rfl) ho.2.2.1 ?_
          refine r_iload_n dX0_tire_32 rfl ?_
          refine r_iald dX0_tire_33 ho.1.2.1 ho.2.1.2.1 (vp_in_nI (by omega) (by decide)) (fun z5 hz5 => ?_)
          rw [nI_clamp (by omega)] at hz5
          obtain rfl : z5 = nI (r (16 + 8 * k)) := hz5.trans ((congrFun (upo_n (by omega)) _).trans ((hT k (by omega)).1))
          refine r_iconst (nI 2) dX0_tire_34 (by decide) ?_
          refine r_icmp_eq (tgt := 61) dX0_tire_35 (by decide) (fun c35 => ?_) (fun c35 => ?_)
          · skip
            rw [nI_eq (by omega) (by omega)] at c35
            refine r_D (D' := upo D (o + 4) (t1 D o r (k + 1))) (congrArg (upo D (o + 4)) (t1_w (hT k (by omega)).2 (hT2 k (by omega) c35) c35).symm) ?_
            refine r_iinc (nI (k + 1)) [(2, .int (nI (k + 1))), (3, .int ((-1))), (0, .ref (B + o)), (1, .ref (B + p))] dX0_tire_61 rfl (nI_1 _) (by decide) rfl ?_
            refine r_goto (tgt := 2) dX0_tire_64 (by decide) ?_
            exact r_lv [(2, .int (nI (k + 1))), (0, .ref (B + o)), (1, .ref (B + p))] (List.forall_mem_cons.mpr ⟨rfl, List.forall_mem_cons.mpr ⟨rfl, List.forall_mem_cons.mpr ⟨rfl, fun _ h => absurd h List.not_mem_nil⟩⟩⟩) (ih (k + 1) (by omega) (by omega))
          · skip
            rw [nI_eq (by omega) (by omega)] at c35
            refine r_aload_n dX0_tire_38 rfl ?_
            refine r_getR (ci := 0) (k := 9) wf_X0_21 dX0_tire_39 ho.1.1 ho.2.1.1 (by decide) (by decide) (fun _ _ => rfl) ho.2.2.2.2.2.1 ?_
            refine r_iload_n dX0_tire_42 rfl ?_
            refine r_iconst (nI 0) dX0_tire_43 (by decide) ?_
            refine r_bipush (nI 20) dX0_tire_44 (by decide) ?_
            refine r_aload_n dX0_tire_46 rfl ?_
            refine r_getR (ci := 0) (k := 9) wf_X0_21 dX0_tire_47 ho.1.1 ho.2.1.1 (by decide) (by decide) (fun _ _ => rfl) ho.2.2.2.2.2.1 ?_
            refine r_iload_n dX0_tire_50 rfl ?_
            refine r_iald dX0_tire_51 ho.1.2.2.2.2.1 ho.2.1.2.2.2.2.1 (vp_in_nI (by omega) (by decide)) (fun z6 hz6 => ?_)
            rw [nI_clamp (by omega)] at hz6
            obtain rfl : z6 = nI (r (22 + 8 * k)) := hz6.trans ((congrFun upo_s _).trans ((if_neg (Nat.lt_irrefl k)).trans (hT k (by omega)).2))
            refine r_iload_n dX0_tire_52 rfl ?_
            refine r_iadd dX0_tire_53 (fun z7 hz7 => ?_)
            subst hz7
            refine r_mmin wm_X0_109 dX0_tire_54 (Nat.le_of_ble_eq_true rfl) (Nat.le_of_ble_eq_true rfl) (Nat.zero_le _) (Nat.zero_le _) (fun z8 hz8 => ?_)
            obtain rfl : z8 = ti_z (r (22 + 8 * k)) := hz8.trans (ti_zd (by omega))
            refine r_mmax wm_X0_71 dX0_tire_57 (Nat.le_of_ble_eq_true rfl) (Nat.le_of_ble_eq_true rfl) (Nat.zero_le _) (Nat.zero_le _) (fun z9 hz9 => ?_)
            obtain rfl : z9 = nI (s_tire r k) := hz9.trans (ti_2 c35 c16 (by omega))
            refine r_iast dX0_tire_60 ho.1.2.2.2.2.1 ho.2.1.2.2.2.2.1 (vp_in_nI (by omega) (by decide)) (fun D10 hD10 => ?_)
            rw [nI_clamp (by omega)] at hD10
            obtain rfl : D10 = upo D (o + 4) (t1 D o r (k + 1)) := hD10.trans (up2_upo.trans (congrArg (upo D (o + 4)) (t1_s rfl)))
            refine r_iinc (nI (k + 1)) [(2, .int (nI (k + 1))), (3, .int ((-1))), (0, .ref (B + o)), (1, .ref (B + p))] dX0_tire_61 rfl (nI_1 _) (by decide) rfl ?_
            refine r_goto (tgt := 2) dX0_tire_64 (by decide) ?_
            exact r_lv [(2, .int (nI (k + 1))), (0, .ref (B + o)), (1, .ref (B + p))] (List.forall_mem_cons.mpr ⟨rfl, List.forall_mem_cons.mpr ⟨rfl, List.forall_mem_cons.mpr ⟨rfl, fun _ h => absurd h List.not_mem_nil⟩⟩⟩) (ih (k + 1) (by omega) (by omega))
        · skip
          rw [bI_n0] at c16
          refine r_aload_n dX0_tire_19 rfl ?_
          refine r_getI (ci := 1) (k := 2) wf_X0_106 dX0_tire_20 hp.1.1 hp.2.1.1 (by decide) (by decide) rfl (fun z11 hz11 => ?_)
          obtain rfl : z11 = nI (r 3) := hz11.trans ((congrFun (upo_n (by omega)) _).trans (hL.1.2.2.1))
          refine r_goto (tgt := 27) dX0_tire_23 (by decide) ?_
          refine r_istore_n [(3, .int (nI (r 3))), (2, .int (nI k)), (0, .ref (B + o)), (1, .ref (B + p))] dX0_tire_27 (by decide) rfl ?_
          refine r_aload_n dX0_tire_28 rfl ?_
          refine r_getR (ci := 0) (k := 6) wf_X0_9 dX0_tire_29 ho.1.1 ho.2.1.1 (by decide) (by decide) (fun _ _ => rfl) ho.2.2.1 ?_
          refine r_iload_n dX0_tire_32 rfl ?_
          refine r_iald dX0_tire_33 ho.1.2.1 ho.2.1.2.1 (vp_in_nI (by omega) (by decide)) (fun z12 hz12 => ?_)
          rw [nI_clamp (by omega)] at hz12
          obtain rfl : z12 = nI (r (16 + 8 * k)) := hz12.trans ((congrFun (upo_n (by omega)) _).trans ((hT k (by omega)).1))
          refine r_iconst (nI 2) dX0_tire_34 (by decide) ?_
          refine r_icmp_eq (tgt := 61) dX0_tire_35 (by decide) (fun c35 => ?_) (fun c35 => ?_)
          · skip
            rw [nI_eq (by omega) (by omega)] at c35
            refine r_D (D' := upo D (o + 4) (t1 D o r (k + 1))) (congrArg (upo D (o + 4)) (t1_w (hT k (by omega)).2 (hT2 k (by omega) c35) c35).symm) ?_
            refine r_iinc (nI (k + 1)) [(2, .int (nI (k + 1))), (3, .int (nI (r 3))), (0, .ref (B + o)), (1, .ref (B + p))] dX0_tire_61 rfl (nI_1 _) (by decide) rfl ?_
            refine r_goto (tgt := 2) dX0_tire_64 (by decide) ?_
            exact r_lv [(2, .int (nI (k + 1))), (0, .ref (B + o)), (1, .ref (B + p))] (List.forall_mem_cons.mpr ⟨rfl, List.forall_mem_cons.mpr ⟨rfl, List.forall_mem_cons.mpr ⟨rfl, fun _ h => absurd h List.not_mem_nil⟩⟩⟩) (ih (k + 1) (by omega) (by omega))
          · skip
            rw [nI_eq (by omega) (by omega)] at c35
            refine r_aload_n dX0_tire_38 rfl ?_
            refine r_getR (ci := 0) (k := 9) wf_X0_21 dX0_tire_39 ho.1.1 ho.2.1.1 (by decide) (by decide) (fun _ _ => rfl) ho.2.2.2.2.2.1 ?_
            refine r_iload_n dX0_tire_42 rfl ?_
            refine r_iconst (nI 0) dX0_tire_43 (by decide) ?_
            refine r_bipush (nI 20) dX0_tire_44 (by decide) ?_
            refine r_aload_n dX0_tire_46 rfl ?_
            refine r_getR (ci := 0) (k := 9) wf_X0_21 dX0_tire_47 ho.1.1 ho.2.1.1 (by decide) (by decide) (fun _ _ => rfl) ho.2.2.2.2.2.1 ?_
            refine r_iload_n dX0_tire_50 rfl ?_
            refine r_iald dX0_tire_51 ho.1.2.2.2.2.1 ho.2.1.2.2.2.2.1 (vp_in_nI (by omega) (by decide)) (fun z13 hz13 => ?_)
            rw [nI_clamp (by omega)] at hz13
            obtain rfl : z13 = nI (r (22 + 8 * k)) := hz13.trans ((congrFun upo_s _).trans ((if_neg (Nat.lt_irrefl k)).trans (hT k (by omega)).2))
            refine r_iload_n dX0_tire_52 rfl ?_
            refine r_iadd dX0_tire_53 (fun z14 hz14 => ?_)
            obtain rfl : z14 = nI ((r (22 + 8 * k)) + (r 3)) := (hz14.trans (nI_add _ _))
            refine r_mmin wm_X0_109 dX0_tire_54 (Nat.le_of_ble_eq_true rfl) (Nat.le_of_ble_eq_true rfl) (Nat.zero_le _) (Nat.zero_le _) (fun z15 hz15 => ?_)
            obtain rfl : z15 = nI (min 20 (r (22 + 8 * k) + r 3)) := hz15.trans (mn_1 (by omega) (by omega))
            refine r_mmax wm_X0_71 dX0_tire_57 (Nat.le_of_ble_eq_true rfl) (Nat.le_of_ble_eq_true rfl) (Nat.zero_le _) (Nat.zero_le _) (fun z16 hz16 => ?_)
            obtain rfl : z16 = nI (s_tire r k) := hz16.trans (ti_1 c35 c16)
            refine r_iast dX0_tire_60 ho.1.2.2.2.2.1 ho.2.1.2.2.2.2.1 (vp_in_nI (by omega) (by decide)) (fun D17 hD17 => ?_)
            rw [nI_clamp (by omega)] at hD17
            obtain rfl : D17 = upo D (o + 4) (t1 D o r (k + 1)) := hD17.trans (up2_upo.trans (congrArg (upo D (o + 4)) (t1_s rfl)))
            refine r_iinc (nI (k + 1)) [(2, .int (nI (k + 1))), (3, .int (nI (r 3))), (0, .ref (B + o)), (1, .ref (B + p))] dX0_tire_61 rfl (nI_1 _) (by decide) rfl ?_
            refine r_goto (tgt := 2) dX0_tire_64 (by decide) ?_
            exact r_lv [(2, .int (nI (k + 1))), (0, .ref (B + o)), (1, .ref (B + p))] (List.forall_mem_cons.mpr ⟨rfl, List.forall_mem_cons.mpr ⟨rfl, List.forall_mem_cons.mpr ⟨rfl, fun _ h => absurd h List.not_mem_nil⟩⟩⟩) (ih (k + 1) (by omega) (by omega))
  have L9 := L (r 5 + 1) 0 (by omega) (by omega)
  rw [t1_0] at L9
  exact r_lv [(2, .int (nI 0)), (0, .ref (B + o)), (1, .ref (B + p))] (List.forall_mem_cons.mpr ⟨rfl, List.forall_mem_cons.mpr ⟨rfl, List.forall_mem_cons.mpr ⟨rfl, fun _ h => absurd h List.not_mem_nil⟩⟩⟩) (L9)
