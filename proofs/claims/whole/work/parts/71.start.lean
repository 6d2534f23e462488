/-! the law's start -/
theorem st_K {s : State} {b : Nat} (hts : ∀ w ∈ lw_tbl, w.before #[Value.ref b] s = true) : ∃ (G : va_G) (dA : Nat → ClassId), q_K G dA s := by
  have t1 : ∀ w ∈ BW, w.before #[Value.ref b] s = true := fun w h => hts w (List.mem_filter.mp h).1
  have t2 : ∀ w ∈ tables_1, w.before #[Value.ref b] s = true := fun w h => hts w (List.mem_append_right _ h)
  obtain ⟨c0, i0, k0⟩ := u_known (C := RX0) (T := TX0) (N := 11) t1 inlX0 (t1 _ wn_X0)
  obtain ⟨c1, i1, k1⟩ := u_known (C := RX1) (T := TX1) (N := 10) t1 inlX1 (t1 _ wn_X1)
  obtain ⟨c2, i2, k2⟩ := u_known (C := RX2) (T := TX2) (N := 3) t1 inlX2 (t1 _ wn_X2)
  obtain ⟨c3, i3, k3⟩ := u_known (C := RX3) (T := TX3) (N := 3) t1 inlX3 (t1 _ wn_X3)
  obtain ⟨c4, i4, k4⟩ := u_known (C := RX4) (T := TX4) (N := 5) t1 inlX4 (t1 _ wn_X4)
  obtain ⟨c5, i5, k5⟩ := u_known (C := RX5) (T := TX5) (N := 16) t1 inlX5 (t1 _ wn_X5)
  obtain ⟨c6, i6, k6⟩ := u_known (C := RX6) (T := TX6) (N := 26) t1 inlX6 (t1 _ wn_X6)
  obtain ⟨cI, kI, pI, a1, a2, a3⟩ := Cond.arrayClass_spec (t1 _ wa_int)
  obtain ⟨cJ, kJ, pJ, b1, b2, b3⟩ := Cond.arrayClass_spec (t1 _ wa_long)
  obtain ⟨cZ, kZ, pZ, d1, d2, d3⟩ := Cond.arrayClass_spec (t1 _ wa_boolean)
  obtain ⟨pL, cL, kL, e1, e2, e3, e4, e5⟩ := Cond.arrayOver_spec (t2 _ no_X1)
  obtain ⟨pC, cC, kC, f1, f2, f3, f4, f5⟩ := Cond.arrayOver_spec (t2 _ no_X0)
  obtain ⟨pA, cA, kA, g1, g2, g3, g4, g5⟩ := va_AOA_spec (t2 _ no_I)
  refine ⟨(fun k => match k with | 0 => c0 | 1 => c1 | 2 => c2 | 3 => c3 | 4 => c4 | 5 => c5 | _ => c6, fun k => match k with | 0 => i0 | 1 => i1 | 2 => i2 | 3 => i3 | 4 => i4 | 5 => i5 | _ => i6), fun k => match k with | 10 => cI | 11 => cJ | 12 => cZ | 13 => cL | 14 => cC | _ => cA, ⟨fun k q hq => ?_, fun k q hk => ?_⟩, fun w hw => ?_, t2 _ no_X1, t2 _ no_X0, t2 _ no_I⟩
  · match k, hq with
    | 0, hq => cases hq; exact k0
    | 1, hq => cases hq; exact k1
    | 2, hq => cases hq; exact k2
    | 3, hq => cases hq; exact k3
    | 4, hq => cases hq; exact k4
    | 5, hq => cases hq; exact k5
    | 6, hq => cases hq; exact k6
    | n + 7, hq => simp [vwCl] at hq
  · match k, hk with
    | 0, hk => cases hk; exact ⟨fun N z => ⟨fun k h => by (cases h), kI, a2, pI, a3⟩, a1⟩
    | 1, hk => cases hk; exact ⟨fun N z => ⟨fun k h => by (cases h), kJ, b2, pJ, b3⟩, b1⟩
    | 2, hk => cases hk; exact ⟨fun N z => ⟨fun k h => by (cases h), kZ, d2, pZ, d3⟩, d1⟩
    | 3, hk => cases hk; exact ⟨fun N z => ⟨fun k h => by (cases h), kL, e3, pL, e4⟩, kL, pL, e3, e4, e1, e5⟩
    | 4, hk => cases hk; exact ⟨fun N z => ⟨fun k h => by (cases h), kC, f3, pC, f4⟩, kC, pC, f3, f4, f1, f5⟩
    | 5, hk => cases hk; exact ⟨fun N z => ⟨fun k h => by (cases h), kA, g3, pA, g4⟩, g5⟩
    | n + 6, hk => simp [q_tys] at hk
  · simp only [q_nest, List.mem_cons, List.not_mem_nil, or_false] at hw
    rcases hw with rfl | rfl | rfl | rfl | rfl | rfl | rfl
    · exact va_Nw.of rfl (t2 _ nw_X5_18)
    · exact va_Nw.of rfl (t2 _ nw_X5_25)
    · exact va_Nw.of rfl (t2 _ nw_X5_32)
    · exact va_Nw.of rfl (t2 _ nw_X0_60)
    · exact va_Nw.of rfl (t2 _ nw_X1_49)
    · exact va_Nw.of rfl (t2 _ nw_X2_17)
    · exact va_Nw.of rfl (t2 _ nw_X4_32)
def zR : Row := fun _ => 0
def a0 : AS := mkA (fun _ => none, fun _ _ => 0, 0) (0, fun _ => 0) (zR, 0, fun _ => zR) (fun _ => none) (0, fun _ => 0) 0
theorem Dq_0 {q : Nat} (h1 : q ≠ 3) (h2 : q ≠ 220) : Dq q = fun _ => 0 := (upo_n h2).trans (upo_n h1)
theorem Dq_z {q k : Nat} (h1 : q ≠ 3) (h2 : q ≠ 220) : Dq q k = nI 0 := congrFun (Dq_0 h1 h2) k
theorem Dq_3 {k : Nat} (h : k < 8) : Dq 3 k = -1 := (congrFun ((upo_n (by decide)).trans upo_s) k).trans (if_pos h)
theorem Dq_220 {k : Nat} (h : k < 8) : Dq 220 k = -1 := (congrFun upo_s k).trans (if_pos h)
theorem WF_z (h : WF zR) : False := absurd h.1.1 (by decide)
theorem XS0_0 : XS0 Dq a0 := by
  refine ⟨⟨fun i hi => Dq_3 hi, Dq_z (by decide) (by decide)⟩, ⟨Dq_z (by decide) (by decide), by decide, fun j hj => absurd hj (Nat.not_lt_zero j)⟩, ⟨Or.inl rfl, ⟨⟨Dq_z (by decide) (by decide), Dq_z (by decide) (by decide), Dq_z (by decide) (by decide), Dq_z (by decide) (by decide), Dq_z (by decide) (by decide), Dq_z (by decide) (by decide)⟩, fun w hw => absurd hw (Nat.not_lt_zero w), fun w _ _ => Dq_z (by decide) (by decide)⟩, ⟨⟨Dq_z (by decide) (by decide), Dq_z (by decide) (by decide), Dq_z (by decide) (by decide), Dq_z (by decide) (by decide), Dq_z (by decide) (by decide)⟩, fun j _ => Dq_z (by decide) (by decide), fun j hj => absurd hj (Nat.not_lt_zero j), fun w hw => absurd hw (Nat.not_lt_zero w)⟩, fun h => (WF_z h).elim, 0, Dq_z (by decide) (by decide), Dq_z (by decide) (by decide), by decide, by decide, fun i hi => absurd hi (Nat.not_lt_zero i)⟩, ⟨Dq_z (by decide) (by decide), fun k _ => trivial⟩, ⟨Dq_z (by decide) (by decide), by decide, fun j hj => absurd hj (Nat.not_lt_zero j)⟩, Dq_z (by decide) (by decide)⟩
theorem XS_0 : XS Dq a0 := ⟨XS0_0, nI 0, Dq_z (by decide) (by decide), Dq_z (by decide) (by decide), Dq_z (by decide) (by decide), Dq_z (by decide) (by decide), Dq_z (by decide) (by decide), Dq_z (by decide) (by decide), fun w _ => Dq_z (by decide) (by decide)⟩
theorem YS_0 : YS Dq a0 := by
  refine ⟨⟨fun i hi => Dq_220 hi, Dq_z (by decide) (by decide)⟩, ⟨Dq_z (by decide) (by decide), by decide, fun j hj => absurd hj (Nat.not_lt_zero j)⟩, ⟨Or.inl rfl, fun k _ => Dq_z (by decide) (by decide), fun j hj => absurd hj (Nat.not_lt_zero j), fun h => (WF_z h).elim, ⟨Dq_z (by decide) (by decide), by decide, fun i hi => absurd hi (Nat.not_lt_zero i)⟩, fun i hi => absurd hi (Nat.not_lt_zero i)⟩, fun k _ => Dq_z (by decide) (by decide), ⟨Dq_z (by decide) (by decide), by decide, fun j hj => absurd hj (Nat.not_lt_zero j)⟩, Dq_z (by decide) (by decide)⟩
theorem OKS_0 : OKS a0 := ⟨⟨⟨by decide, fun a _ => ⟨by show 0 < 2 ^ 0; decide, fun _ => rfl⟩⟩, fun i hi => absurd hi (Nat.not_lt_zero i)⟩, fun k p _ h => by cases h⟩
set_option maxRecDepth 100000 in
theorem lw_begin {X : LX} (hL : X.L ≤ 3072) : LW X (ZC 0 R0) Dz Ez 0 0 0 [(0, .ref X.b)] [] := by
  refine lw_a_new (c := 5) (f' := upo R0 0 nR) wk_L_7 wn_X5 wi_X5 dL_0 (by decide) (Nat.le_of_ble_eq_true rfl) (Nat.le_of_ble_eq_true rfl) k_0 upo_s (fun i hi => upo_n (show i ≠ 0 by omega)) rfl rfl ?_
  refine lw_r_dup dL_3 rfl ?_
  refine lw_r_callI (As := []) (o := 0) (c_X5_init X.B) hi_X5_init wm_L_9 dL_4 rfl rfl (Nat.le_of_ble_eq_true rfl) ⟨Nat.le_of_ble_eq_true rfl, Nat.le_of_ble_eq_true rfl, Nat.le_of_ble_eq_true rfl, Nat.le_of_ble_eq_true rfl⟩ (fun v9 Z9 D9 E9 h9 => by obtain ⟨rfl, -⟩ := h9; exact Nat.le_refl _) (fun v9 Z9 D9 E9 h9 => ?_)
  obtain ⟨hz9, hv9, hd9, he9⟩ := h9
  obtain rfl := hz9.symm
  obtain rfl := hv9.symm
  obtain rfl := hd9.symm
  obtain rfl := he9.symm
  refine lw_r_astore_n [(1, .ref (X.B + 0)), (0, .ref X.b)] dL_7 (by decide) rfl ?_
  refine lw_a_new (c := 6) (f' := upo R0 219 nR) wk_L_10 wn_X6 wi_X6 dL_8 (by decide) (Nat.le_of_ble_eq_true rfl) (Nat.le_of_ble_eq_true rfl) k_219 upo_s (fun i hi => upo_n (show i ≠ 219 by omega)) (upo_n (by decide)) rfl ?_
  refine lw_r_dup dL_11 rfl ?_
  refine lw_r_callI (As := []) (o := 219) (c_X6_init X.B) hi_X6_init wm_L_12 dL_12 rfl rfl (Nat.le_of_ble_eq_true rfl) ⟨Nat.le_of_ble_eq_true rfl, Nat.le_of_ble_eq_true rfl, Nat.le_of_ble_eq_true rfl, Nat.le_of_ble_eq_true rfl⟩ (fun v9 Z9 D9 E9 h9 => by obtain ⟨rfl, -⟩ := h9; exact Nat.le_refl _) (fun v9 Z9 D9 E9 h9 => ?_)
  obtain ⟨hz9, hv9, hd9, he9⟩ := h9
  obtain rfl := hz9.symm
  obtain rfl := hv9.symm
  obtain rfl := hd9.symm
  obtain rfl := he9.symm
  refine lw_r_astore_n [(2, .ref (X.B + 219)), (1, .ref (X.B + 0)), (0, .ref X.b)] dL_15 (by decide) rfl ?_
  refine lw_r_iconst (nI 0) dL_16 (by decide) ?_
  refine lw_r_istore_n (LV X 0) dL_17 (by decide) rfl ?_
  exact lw_loop hL X.L 0 (by omega) (Nat.zero_le _) Dq Ez a0 XS_0 YS_0 OKS_0
