set_option maxRecDepth 100000 in
set_option maxHeartbeats 4000000 in
theorem c_X0_pass (B : Nat) (D : DD) (E : EE) (o p : Nat) (ho : isC o) (hp : isL p) (hd : DJ o p) (r : Row) (wy : Nat → Nat) (hW : WF r) (b : Nat) (hH : HB r b) (hb : b < 2 ^ 20) (hC : CA D o r) (hL : LA D p wy r) (hY : WY wy r) (hT : T2 r) : MR yX0_pass cX0_pass 3 none rX0_pass B [.ref (B + o), .ref (B + p)] Z0 D E (Q2 Z0 (pV (fun D' E' => (∀ q, q ≠ o → q ≠ o + 4 → q ≠ o + 5 → D' q = D q) ∧ CA D' o (s_hour wy r) ∧ E' = E))) := by
  obtain ⟨⟨b1, b2, b3, b4, b5, b6, b7, b8⟩, b9, b10, b11⟩ := id hW
  obtain ⟨hb1, hb2, hb3⟩ := id hH
  have e0 := hd 5 0 (by decide) (by decide)
  have e1 := hd 5 1 (by decide) (by decide)
  have e2 := hd 5 2 (by decide) (by decide)
  have e3 := hd 5 3 (by decide) (by decide)
  have e4 := hd 5 4 (by decide) (by decide)
  have e5 := hd 5 5 (by decide) (by decide)
  have g0 := hd 4 0 (by decide) (by decide)
  have g1 := hd 4 1 (by decide) (by decide)
  have g2 := hd 4 2 (by decide) (by decide)
  have g3 := hd 4 3 (by decide) (by decide)
  have g4 := hd 4 4 (by decide) (by decide)
  have g5 := hd 4 5 (by decide) (by decide)
  have x0 := hd 0 0 (by decide) (by decide)
  have x1 := hd 0 1 (by decide) (by decide)
  have x2 := hd 0 2 (by decide) (by decide)
  have x3 := hd 0 3 (by decide) (by decide)
  have x4 := hd 0 4 (by decide) (by decide)
  have x5 := hd 0 5 (by decide) (by decide)
  have hC5 : ∀ f, CA (upo D (o + 5) f) o r := fun f => CA_upo hC (fun j hj => by omega)
  have hL5 : ∀ f, LA (upo D (o + 5) f) p wy r := fun f => LA_upo hL (fun j hj => (hd 5 j (by decide) hj).symm)
  have hg9 := s_goes_ok (wy := wy) hW
  have hg99 : s_goes wy r ≤ 9 := by omega
  refine r_enter [(0, .ref (B + o)), (1, .ref (B + p))] hv_X0_pass.1.2.2.2.2 (Nat.le_of_ble_eq_true rfl) rfl ?_
  refine r_aload_n dX0_pass_0 rfl ?_
  refine r_aload_n dX0_pass_1 rfl ?_
  refine r_callVV (As := [.ref (B + p)]) (o := o) (c_X0_weigh B D E o p ho hp hd r wy hW b hH hb hC hL hY hT) hv_X0_weigh wm_X0_96 dX0_pass_2 rfl rfl ho.1.1 ho.2.1.1 (by decide) rfl (Nat.le_of_ble_eq_true rfl) ⟨Nat.le_of_ble_eq_true rfl, Nat.le_of_ble_eq_true rfl, Nat.zero_le _, Nat.zero_le _⟩ ⟨rfl, rfl⟩ (fun D2 E3 hz1 => ?_)
  obtain ⟨⟨g5, hqD, hg⟩, hqE⟩ := hz1
  obtain rfl := hqE.symm
  subst hqD
  refine r_aload_n dX0_pass_5 rfl ?_
  refine r_aload_n dX0_pass_6 rfl ?_
  refine r_callVI (As := [.ref (B + p)]) (o := o) (c_X0_decide B (upo D (o + 5) g5) E o p ho hp hd r wy hW b hH hb (hC5 g5) (hL5 g5) hY (s_pull wy r 63 0 (nI 0)) (fun q hq => (congrFun upo_s q).trans (hg q hq))) hv_X0_decide wm_X0_92 dX0_pass_7 rfl rfl ho.1.1 ho.2.1.1 (by decide) rfl (Nat.le_of_ble_eq_true rfl) ⟨Nat.le_of_ble_eq_true rfl, Nat.le_of_ble_eq_true rfl, Nat.zero_le _, Nat.zero_le _⟩ ⟨rfl, rfl⟩ (fun z4 D5 E6 hz4 => ?_)
  obtain ⟨hq1, hqD, hqE⟩ := hz4
  obtain rfl := hqD.symm
  obtain rfl := hqE.symm
  obtain rfl : z4 = (if s_goes wy r = 9 then (-1) else nI (s_goes wy r)) := hq1
  refine r_istore_n [(2, .int (if s_goes wy r = 9 then (-1) else nI (s_goes wy r))), (0, .ref (B + o)), (1, .ref (B + p))] dX0_pass_10 (by decide) rfl ?_
  have J : ∀ fr : Nat → Int32, FRP wy r D o fr → RW yX0_pass cX0_pass 3 none rX0_pass B (Q2 Z0 (pV (fun D' E' => (∀ q, q ≠ o → q ≠ o + 4 → q ≠ o + 5 → D' q = D q) ∧ CA D' o (s_hour wy r) ∧ E' = E))) Z0 (upo (upo D (o + 5) g5) o fr) E 0 0 73 [(0, .ref (B + o)), (1, .ref (B + p))] [] := by
    intro fr hJ
    have hCJ : CW (upo (upo D (o + 5) g5) o fr) o r := ⟨(congrFun upo_s 0).trans hJ.1, (congrFun upo_s 5).trans (hJ.2.2.2.2.2.trans hC.1.2.2.2.2.2)⟩
    have hTJ : CT (upo (upo D (o + 5) g5) o fr) o r := fun w hw => ⟨(congrFun ((upo_n (by omega)).trans (upo_n (by omega))) w).trans (hC.t w hw).1, (congrFun ((upo_n (by omega)).trans (upo_n (by omega))) w).trans (hC.t w hw).2⟩
    have hLJ : LA (upo (upo D (o + 5) g5) o fr) p wy r := LA_upo (hL5 _) (fun j hj => (hd 0 j (by decide) hj).symm)
    have hJ4 : (upo (upo D (o + 5) g5) o fr) (o + 4) = D (o + 4) := (upo_n (by omega)).trans (upo_n (by omega))
    refine r_aload_n dX0_pass_73 rfl ?_
    refine r_aload_n dX0_pass_74 rfl ?_
    refine r_callVV (As := [.ref (B + p)]) (o := o) (c_X0_tire B (upo (upo D (o + 5) g5) o fr) E o p ho hp hd r wy hW b hH hb hCJ hLJ hY hTJ hT) hv_X0_tire wm_X0_100 dX0_pass_75 rfl rfl ho.1.1 ho.2.1.1 (by decide) rfl (Nat.le_of_ble_eq_true rfl) ⟨Nat.le_of_ble_eq_true rfl, Nat.le_of_ble_eq_true rfl, Nat.zero_le _, Nat.zero_le _⟩ ⟨rfl, rfl⟩ (fun D8 E9 hz7 => ?_)
    obtain ⟨⟨g4, hqD, hg4, hg42⟩, hqE⟩ := hz7
    obtain rfl := hqE.symm
    subst hqD
    refine r_aload_n dX0_pass_78 rfl ?_
    refine r_dup dX0_pass_79 rfl ?_
    refine r_getI (ci := 0) (k := 0) wf_X0_27 dX0_pass_80 ho.1.1 ho.2.1.1 (by decide) (by decide) rfl (fun z10 hz10 => ?_)
    obtain rfl : z10 = nI (r 6) := hz10.trans ((congrFun (upo_n (by omega)) 0).trans ((congrFun upo_s 0).trans hJ.1))
    refine r_iconst (nI 1) dX0_pass_83 (by decide) ?_
    refine r_iadd dX0_pass_84 (fun z11 hz11 => ?_)
    obtain rfl : z11 = nI ((r 6) + 1) := (hz11.trans (nI_add _ _))
    refine r_putI (ci := 0) (k := 0) wf_X0_27 dX0_pass_85 ho.1.1 ho.2.1.1 (by decide) (by decide) rfl rfl (fun D12 hD12 => ?_)
    subst hD12
    refine r_vret2 dX0_pass_88 rfl ⟨Nat.zero_le _, Nat.zero_le _⟩ ?_
    exact ⟨(pass_end hC b7 hJ hg4 (fun w hw => (hg42 w hw).trans (congrFun hJ4 w))).1, (pass_end hC b7 hJ hg4 (fun w hw => (hg42 w hw).trans (congrFun hJ4 w))).2, rfl⟩
  refine r_iload_n dX0_pass_11 rfl ?_
  refine r_iconst ((-1)) dX0_pass_12 (by decide) ?_
  refine r_icmp_ne (tgt := 29) dX0_pass_13 (by decide) (fun c13 => ?_) (fun c13 => ?_)
  · skip
    rw [code_m1 hg99] at c13
    refine r_lv [(2, .int (nI (s_goes wy r))), (0, .ref (B + o)), (1, .ref (B + p))] (List.forall_mem_cons.mpr ⟨congrArg (fun x => some (Value.int x)) (if_neg c13), List.forall_mem_cons.mpr ⟨rfl, List.forall_mem_cons.mpr ⟨rfl, fun _ h => absurd h List.not_mem_nil⟩⟩⟩) ?_
    refine r_iload_n dX0_pass_29 rfl ?_
    refine r_aload_n dX0_pass_30 rfl ?_
    refine r_getI (ci := 0) (k := 1) wf_X0_31 dX0_pass_31 ho.1.1 ho.2.1.1 (by decide) (by decide) rfl (fun z13 hz13 => ?_)
    obtain rfl : z13 = nI (r 1) := hz13.trans ((congrFun (upo_n (by omega)) _).trans (hC.1.2.1))
    refine r_icmp_eq (tgt := 73) dX0_pass_34 (by decide) (fun c34 => ?_) (fun c34 => ?_)
    · skip
      rw [nI_eq (by omega) (by omega)] at c34
      refine r_D (D' := upo (upo D (o + 5) g5) o (D o)) (upo_self (upo_n (by omega))) ?_
      exact r_lv [(0, .ref (B + o)), (1, .ref (B + p))] (List.forall_mem_cons.mpr ⟨rfl, List.forall_mem_cons.mpr ⟨rfl, fun _ h => absurd h List.not_mem_nil⟩⟩) (J _ (fr_stay hC c13 c34))
    · skip
      rw [nI_eq (by omega) (by omega)] at c34
      refine r_aload_n dX0_pass_37 rfl ?_
      refine r_aload_n dX0_pass_38 rfl ?_
      refine r_getI (ci := 0) (k := 4) wf_X0_40 dX0_pass_39 ho.1.1 ho.2.1.1 (by decide) (by decide) rfl (fun z14 hz14 => ?_)
      obtain rfl : z14 = nI (r 9) := hz14.trans ((congrFun (upo_n (by omega)) _).trans (hC.1.2.2.2.2.1))
      refine r_iconst (nI 1) dX0_pass_42 (by decide) ?_
      refine r_aload_n dX0_pass_43 rfl ?_
      refine r_getI (ci := 0) (k := 1) wf_X0_31 dX0_pass_44 ho.1.1 ho.2.1.1 (by decide) (by decide) rfl (fun z15 hz15 => ?_)
      obtain rfl : z15 = nI (r 1) := hz15.trans ((congrFun (upo_n (by omega)) _).trans (hC.1.2.1))
      refine r_ishl dX0_pass_47 (fun z16 hz16 => ?_)
      obtain rfl : z16 = nI (2 ^ r 1) := hz16.trans (shl_1 (by omega))
      refine r_ior dX0_pass_48 (fun z17 hz17 => ?_)
      obtain rfl : z17 = nI (r 9 ||| 2 ^ r 1) := hz17.trans (nI_or _ _)
      refine r_iconst (nI 1) dX0_pass_49 (by decide) ?_
      refine r_iload_n dX0_pass_50 rfl ?_
      refine r_ishl dX0_pass_51 (fun z18 hz18 => ?_)
      obtain rfl : z18 = nI (2 ^ s_goes wy r) := hz18.trans (shl_1 (by omega))
      refine r_iconst ((-1)) dX0_pass_52 (by decide) ?_
      refine r_ixor dX0_pass_53 (fun z19 hz19 => ?_)
      subst hz19
      refine r_iand dX0_pass_54 (fun z20 hz20 => ?_)
      obtain rfl : z20 = nI (s_milk (r 9) (r 1) (s_goes wy r)) := hz20.trans (milk_n _ (or_lt64 b8 (pw_lt64 (by omega))) _ (by omega))
      refine r_putI (ci := 0) (k := 4) wf_X0_40 dX0_pass_55 ho.1.1 ho.2.1.1 (by decide) (by decide) rfl rfl (fun D21 hD21 => ?_)
      obtain rfl : D21 = upo (upo D (o + 5) g5) o (upd (D o) 4 (nI (s_milk (r 9) (r 1) (s_goes wy r)))) := hD21.trans (up2_eq.trans (congrArg (upo (upo D (o + 5) g5) o) (by rw [upo_n (show o ≠ o + 5 by omega)])))
      refine r_aload_n dX0_pass_58 rfl ?_
      refine r_iload_n dX0_pass_59 rfl ?_
      refine r_putI (ci := 0) (k := 1) wf_X0_31 dX0_pass_60 ho.1.1 ho.2.1.1 (by decide) (by decide) rfl rfl (fun D22 hD22 => ?_)
      obtain rfl : D22 = upo (upo D (o + 5) g5) o (upd (upd (D o) 4 (nI (s_milk (r 9) (r 1) (s_goes wy r)))) 1 (nI (s_goes wy r))) := hD22.trans up2_upo
      refine r_aload_n dX0_pass_63 rfl ?_
      refine r_dup dX0_pass_64 rfl ?_
      refine r_getI (ci := 0) (k := 2) wf_X0_34 dX0_pass_65 ho.1.1 ho.2.1.1 (by decide) (by decide) rfl (fun z23 hz23 => ?_)
      obtain rfl : z23 = nI (r 7) := hz23.trans ((congrFun upo_s 2).trans ((pk_un (by decide)).trans ((pk_un (by decide)).trans hC.1.2.2.1)))
      refine r_iconst (nI 1) dX0_pass_68 (by decide) ?_
      refine r_iadd dX0_pass_69 (fun z24 hz24 => ?_)
      obtain rfl : z24 = nI ((r 7) + 1) := (hz24.trans (nI_add _ _))
      refine r_putI (ci := 0) (k := 2) wf_X0_34 dX0_pass_70 ho.1.1 ho.2.1.1 (by decide) (by decide) rfl rfl (fun D25 hD25 => ?_)
      obtain rfl : D25 = upo (upo D (o + 5) g5) o (upd (upd (upd (D o) 4 (nI (s_milk (r 9) (r 1) (s_goes wy r)))) 1 (nI (s_goes wy r))) 2 (nI (r 7 + 1))) := hD25.trans up2_upo
      exact r_lv [(0, .ref (B + o)), (1, .ref (B + p))] (List.forall_mem_cons.mpr ⟨rfl, List.forall_mem_cons.mpr ⟨rfl, fun _ h => absurd h List.not_mem_nil⟩⟩) (J _ (fr_move hC c13 c34))
  · skip
    rw [code_m1 hg99] at c13
    refine r_aload_n dX0_pass_16 rfl ?_
    refine r_dup dX0_pass_17 rfl ?_
    refine r_getI (ci := 0) (k := 3) wf_X0_37 dX0_pass_18 ho.1.1 ho.2.1.1 (by decide) (by decide) rfl (fun z26 hz26 => ?_)
    obtain rfl : z26 = nI (r 8) := hz26.trans ((congrFun (upo_n (by omega)) _).trans (hC.1.2.2.2.1))
    refine r_iconst (nI 1) dX0_pass_21 (by decide) ?_
    refine r_iadd dX0_pass_22 (fun z27 hz27 => ?_)
    obtain rfl : z27 = nI ((r 8) + 1) := (hz27.trans (nI_add _ _))
    refine r_putI (ci := 0) (k := 3) wf_X0_37 dX0_pass_23 ho.1.1 ho.2.1.1 (by decide) (by decide) rfl rfl (fun D28 hD28 => ?_)
    obtain rfl : D28 = upo (upo D (o + 5) g5) o (upd (D o) 3 (nI (r 8 + 1))) := hD28.trans (up2_eq.trans (congrArg (upo (upo D (o + 5) g5) o) (by rw [upo_n (show o ≠ o + 5 by omega)])))
    refine r_goto (tgt := 73) dX0_pass_26 (by decide) ?_
    exact r_lv [(0, .ref (B + o)), (1, .ref (B + p))] (List.forall_mem_cons.mpr ⟨rfl, List.forall_mem_cons.mpr ⟨rfl, fun _ h => absurd h List.not_mem_nil⟩⟩) (J _ (fr_half hC c13))
set_option maxRecDepth 100000 in
set_option maxHeartbeats 4000000 in
theorem c_X0_passMany (B : Nat) (D : DD) (E : EE) (o p : Nat) (ho : isC o) (hp : isL p) (hd : DJ o p) (r : Row) (wy : Nat → Nat) (hW : WF r) (b : Nat) (hH : HB r b) (n : Nat) (hn : n ≤ 1000) (hb : b + n < 2 ^ 20) (hC : CA D o r) (hL : LA D p wy r) (hY : WY wy r) (hT : T2 r) : MR yX0_passMany cX0_passMany 4 none rX0_passMany B [.ref (B + o), .ref (B + p), .int (nI n)] Z0 D E (Q2 Z0 (pV (fun D' E' => (∀ q, q ≠ o → q ≠ o + 4 → q ≠ o + 5 → D' q = D q) ∧ CA D' o (s_hours wy n r) ∧ E' = E))) := by
  obtain ⟨⟨b1, b2, b3, b4, b5, b6, b7, b8⟩, b9, b10, b11⟩ := id hW
  obtain ⟨hb1, hb2, hb3⟩ := id hH
  refine r_enter [(0, .ref (B + o)), (1, .ref (B + p)), (2, .int (nI n))] hv_X0_passMany.1.2.2.2.2 (Nat.le_of_ble_eq_true rfl) rfl ?_
  refine r_iconst (nI 0) dX0_passMany_0 (by decide) ?_
  refine r_istore_n [(3, .int (nI 0)), (0, .ref (B + o)), (1, .ref (B + p)), (2, .int (nI n))] dX0_passMany_1 (by decide) rfl ?_
  have L : ∀ (fu k : Nat) (Dk : DD), k ≤ n → n - k < fu → (CA Dk o (s_hours wy k r) ∧ (∀ q, q ≠ o → q ≠ o + 4 → q ≠ o + 5 → Dk q = D q)) → RW yX0_passMany cX0_passMany 4 none rX0_passMany B (Q2 Z0 (pV (fun D' E' => (∀ q, q ≠ o → q ≠ o + 4 → q ≠ o + 5 → D' q = D q) ∧ CA D' o (s_hours wy n r) ∧ E' = E))) Z0 Dk E 0 0 2 [(3, .int (nI k)), (0, .ref (B + o)), (1, .ref (B + p)), (2, .int (nI n))] [] := by
    intro fu
    induction fu with
    | zero => intro k Dk hku hfu _; omega
    | succ fu ih =>
      intro k Dk hku hfu hI
      refine r_iload_n dX0_passMany_2 rfl ?_
      refine r_iload_n dX0_passMany_3 rfl ?_
      refine r_icmp_ge (tgt := 18) dX0_passMany_4 (by decide) (fun c4 => ?_) (fun c4 => ?_)
      · skip
        rw [nI_leI (by omega) (by omega)] at c4
        refine r_vret2 dX0_passMany_18 rfl ⟨Nat.zero_le _, Nat.zero_le _⟩ ?_
        have hk0 : k = n := by omega
        exact ⟨hI.2, hk0 ▸ hI.1, rfl⟩
      · skip
        rw [nI_leI (by omega) (by omega)] at c4
        obtain ⟨hW9, hT9, hH9, hY9⟩ := s_hours_k hW hT hH hY k
        have hL9 : LA Dk p wy (s_hours wy k r) := LA_eq (LA_hours hL k) (fun j hj => hI.2 _ (fun q => hd 0 j (by decide) hj q.symm) (hd 4 j (by decide) hj).symm (hd 5 j (by decide) hj).symm)
        refine r_aload_n dX0_passMany_7 rfl ?_
        refine r_aload_n dX0_passMany_8 rfl ?_
        refine r_callVV (As := [.ref (B + p)]) (o := o) (c_X0_pass B Dk E o p ho hp hd (s_hours wy k r) wy hW9 (b + k) hH9 (by omega) hI.1 hL9 hY9 hT9) hv_X0_pass wm_X0_103 dX0_passMany_9 rfl rfl ho.1.1 ho.2.1.1 (by decide) rfl (Nat.le_of_ble_eq_true rfl) ⟨Nat.le_of_ble_eq_true rfl, Nat.le_of_ble_eq_true rfl, Nat.zero_le _, Nat.zero_le _⟩ ⟨rfl, rfl⟩ (fun D2 E3 hz1 => ?_)
        obtain ⟨hF9, hCn, hqE⟩ := hz1
        obtain rfl := hqE.symm
        have hFn : (∀ q, q ≠ o → q ≠ o + 4 → q ≠ o + 5 → D2 q = D q) := fun q h1 h2 h3 => (hF9 q h1 h2 h3).trans (hI.2 q h1 h2 h3)
        refine r_iinc (nI (k + 1)) [(3, .int (nI (k + 1))), (0, .ref (B + o)), (1, .ref (B + p)), (2, .int (nI n))] dX0_passMany_12 rfl (nI_1 _) (by decide) rfl ?_
        refine r_goto (tgt := 2) dX0_passMany_15 (by decide) ?_
        exact r_lv [(3, .int (nI (k + 1))), (0, .ref (B + o)), (1, .ref (B + p)), (2, .int (nI n))] (List.forall_mem_cons.mpr ⟨rfl, List.forall_mem_cons.mpr ⟨rfl, List.forall_mem_cons.mpr ⟨rfl, List.forall_mem_cons.mpr ⟨rfl, fun _ h => absurd h List.not_mem_nil⟩⟩⟩⟩) (ih (k + 1) D2 (by omega) (by omega) (⟨hCn, hFn⟩))
  exact r_lv [(3, .int (nI 0)), (0, .ref (B + o)), (1, .ref (B + p)), (2, .int (nI n))] (List.forall_mem_cons.mpr ⟨rfl, List.forall_mem_cons.mpr ⟨rfl, List.forall_mem_cons.mpr ⟨rfl, List.forall_mem_cons.mpr ⟨rfl, fun _ h => absurd h List.not_mem_nil⟩⟩⟩⟩) (L (n + 1) 0 D (by omega) (by omega) (⟨hC, fun _ _ _ _ => rfl⟩))
