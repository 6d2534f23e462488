set_option maxRecDepth 100000 in
set_option maxHeartbeats 4000000 in
theorem c_X6_seen (B : Nat) (D : DD) (E : EE) (wy : Nat → Nat) (r : Row) (hX0 : XM D wy r) (w : RWS) (hR0 : MRW D w) (x y t what : Int32) : MR yX6_seen cX6_seen 9 (some .int) rX6_seen B [.ref (B + 219), .int x, .int y, .int t, .int what] Z0 D E (Q2 Z0 (pI (fun v D' E' => v = (if 0 < r 0 then g_seen wy r x y t what w else (-1000002, w.2.2)).1 ∧ D' 219 1 = (if 0 < r 0 then g_seen wy r x y t what w else (-1000002, w.2.2)).2 ∧ MXs D D' ∧ E' = E))) := by
  have hX := hX0.th
  obtain ⟨hO, hM, hwy, hYY⟩ := id hX
  obtain ⟨l0, l5, l4, l6, l7, l8, l1⟩ := hO.le
  have hwy0 := hX0.2.2.1
  have hM0 := hX0.2.1
  have hR := MX.th.mrw hR0
  refine r_enter [(0, .ref (B + 219)), (1, .int x), (2, .int y), (3, .int t), (4, .int what)] hv_X6_seen.1.2.2.2.2 (Nat.le_of_ble_eq_true rfl) rfl ?_
  refine r_aload_n dX6_seen_0 rfl ?_
  refine r_iconst (nI 0) dX6_seen_1 (by decide) ?_
  refine r_putI (ci := 6) (k := 0) wf_X6_54 dX6_seen_2 z_219 k_219 (by decide) (by decide) rfl rfl (fun D1 hD1 => ?_)
  obtain rfl : D1 = thD D := hD1.trans up2_eq
  refine r_aload_n dX6_seen_5 rfl ?_
  refine r_callVI (As := []) (o := 219) (c_X6_isThere B (thD D) E (r 0) (hM 0 (by decide)) l0) hv_X6_isThere wm_X6_193 dX6_seen_6 rfl rfl z_219 k_219 (by decide) rfl (Nat.le_of_ble_eq_true rfl) ⟨Nat.le_of_ble_eq_true rfl, Nat.le_of_ble_eq_true rfl, Nat.zero_le _, Nat.zero_le _⟩ ⟨rfl, rfl⟩ (fun z2 D3 E4 hz2 => ?_)
  obtain ⟨hqV, hqD, hqE⟩ := hz2
  obtain rfl : z2 = bI (0 < r 0) := hqV
  obtain rfl := hqD.symm
  obtain rfl := hqE.symm
  refine r_if_ne (tgt := 15) dX6_seen_9 (by decide) (fun c9 => ?_) (fun c9 => ?_)
  · skip
    rw [bI_n0] at c9
    obtain ⟨hW, hT, hH⟩ := hO.p c9
    have hY := hYY hW
    obtain ⟨b1, b2, b3, b4, b5, b6, b7, b8⟩ := hW.1
    refine r_iload_n dX6_seen_15 rfl ?_
    refine r_callSI (As := [.int x]) (c_X6_isRow B (thD D) E x) hs_X6_isRow wm_X6_68 rfl dX6_seen_16 rfl rfl (Nat.le_of_ble_eq_true rfl) ⟨Nat.le_of_ble_eq_true rfl, Nat.le_of_ble_eq_true rfl, Nat.zero_le _, Nat.zero_le _⟩ ⟨rfl, rfl⟩ (fun z5 D6 E7 hz5 => ?_)
    obtain ⟨hqV, hqD, hqE⟩ := hz5
    obtain rfl : z5 = bI (nI 0 ≤ x ∧ x ≤ nI 7) := hqV
    obtain rfl := hqD.symm
    obtain rfl := hqE.symm
    refine r_if_eq (tgt := 45) dX6_seen_19 (by decide) (fun c19 => ?_) (fun c19 => ?_)
    · skip
      rw [bI_0] at c19
      refine r_ldc wc_X6_74 dX6_seen_45 ?_
      refine r_iret2 dX6_seen_47 rfl ⟨Nat.zero_le _, Nat.zero_le _⟩ ?_
      rw [if_pos c9]
      have e : ∀ a b : Int32 × Int32, a = b → b = (-1000001, w.2.2) → (-1000001 : Int32) = a.1 ∧ thD D 219 1 = a.2 ∧ MXs D (thD D) ∧ E = E := fun a b h1 h2 => by rw [h1, h2]; exact ⟨rfl, (MX.th.2 1 (by decide)).trans hR0.2, MXs.of MX.th, rfl⟩
      refine e _ _ rfl ?_
      unfold g_seen
      first | rw [if_neg c19] | rw [if_pos c19, if_neg c31] | rw [if_pos c19, if_pos c31, if_neg c42]
    · skip
      rw [bI_n0] at c19
      obtain ⟨ρ, ρh1, ρh2, rfl⟩ := rg (by decide) (by decide) c19
      have hρ : ρ < 8 := by omega
      have hw0 := hR.1 ρ hρ
      refine r_iload_n dX6_seen_22 rfl ?_
      refine r_i2l dX6_seen_23 (fun z8 hz8 => ?_)
      subst hz8
      refine r_lconst ((nI 1).toInt64) dX6_seen_24 (by decide) ?_
      refine r_ldc2v ((nI 12).toInt64) wg_X6_221 dX6_seen_25 (by decide) ?_
      refine r_callSI (As := [.long t.toInt64, .long ((nI 1).toInt64), .long ((nI 12).toInt64)]) (c_X6_in B (thD D) E t (nI 1) (nI 12)) hs_X6_in wm_X6_64 rfl dX6_seen_28 rfl rfl (Nat.le_of_ble_eq_true rfl) ⟨Nat.le_of_ble_eq_true rfl, Nat.le_of_ble_eq_true rfl, Nat.zero_le _, Nat.zero_le _⟩ ⟨rfl, rfl⟩ (fun z9 D10 E11 hz9 => ?_)
      obtain ⟨hqV, hqD, hqE⟩ := hz9
      obtain rfl : z9 = bI (nI 1 ≤ t ∧ t ≤ nI 12) := hqV
      obtain rfl := hqD.symm
      obtain rfl := hqE.symm
      refine r_if_eq (tgt := 45) dX6_seen_31 (by decide) (fun c31 => ?_) (fun c31 => ?_)
      · skip
        rw [bI_0] at c31
        refine r_ldc wc_X6_74 dX6_seen_45 ?_
        refine r_iret2 dX6_seen_47 rfl ⟨Nat.zero_le _, Nat.zero_le _⟩ ?_
        rw [if_pos c9]
        have e : ∀ a b : Int32 × Int32, a = b → b = (-1000001, w.2.2) → (-1000001 : Int32) = a.1 ∧ thD D 219 1 = a.2 ∧ MXs D (thD D) ∧ E = E := fun a b h1 h2 => by rw [h1, h2]; exact ⟨rfl, (MX.th.2 1 (by decide)).trans hR0.2, MXs.of MX.th, rfl⟩
        refine e _ _ rfl ?_
        unfold g_seen
        first | rw [if_neg c19] | rw [if_pos c19, if_neg c31] | rw [if_pos c19, if_pos c31, if_neg c42]
      · skip
        rw [bI_n0] at c31
        obtain ⟨n, hn1, hn2, rfl⟩ := rg (by decide) (by decide) c31
        refine r_iload dX6_seen_34 rfl ?_
        refine r_i2l dX6_seen_36 (fun z12 hz12 => ?_)
        subst hz12
        refine r_lconst ((nI 0).toInt64) dX6_seen_37 (by decide) ?_
        refine r_lconst ((nI 1).toInt64) dX6_seen_38 (by decide) ?_
        refine r_callSI (As := [.long what.toInt64, .long ((nI 0).toInt64), .long ((nI 1).toInt64)]) (c_X6_in B (thD D) E what (nI 0) (nI 1)) hs_X6_in wm_X6_64 rfl dX6_seen_39 rfl rfl (Nat.le_of_ble_eq_true rfl) ⟨Nat.le_of_ble_eq_true rfl, Nat.le_of_ble_eq_true rfl, Nat.zero_le _, Nat.zero_le _⟩ ⟨rfl, rfl⟩ (fun z13 D14 E15 hz13 => ?_)
        obtain ⟨hqV, hqD, hqE⟩ := hz13
        obtain rfl : z13 = bI (nI 0 ≤ what ∧ what ≤ nI 1) := hqV
        obtain rfl := hqD.symm
        obtain rfl := hqE.symm
        refine r_if_ne (tgt := 48) dX6_seen_42 (by decide) (fun c42 => ?_) (fun c42 => ?_)
        · skip
          rw [bI_n0] at c42
          obtain ⟨wh, hwh1, hwh2, rfl⟩ := rg (by decide) (by decide) c42
          have he : g_seen wy r (nI ρ) y (nI n) (nI wh) w = (match w.1 ρ with
              | none => ((-1000011 : Int32), nI 1)
              | some (_, s) => if okInB s y (nI n) = true then (if nI wh = 0 then nI (s_sn wy r (fun k => w.2.1 ρ (y.toNatClampNeg + k)) n (r 0)).1 else s_opt (s_sn wy r (fun k => w.2.1 ρ (y.toNatClampNeg + k)) n (r 0)).2, nI 0) else (-1000012, nI 2)) := by
            unfold g_seen
            rw [if_pos c19, if_pos c31, if_pos c42, nI_clamp (show ρ < 2 ^ 31 by omega), nI_clamp (show n < 2 ^ 31 by omega)]
            try rfl
          refine r_aload_n dX6_seen_48 rfl ?_
          refine r_getR (ci := 6) (k := 2) wf_X6_7 dX6_seen_49 z_219 k_219 (by decide) (by decide) (fun _ _ => rfl) f_219_2 ?_
          refine r_iload_n dX6_seen_52 rfl ?_
          refine r_iald dX6_seen_53 z_220 k_220 (vp_in_nI (by omega) (by decide)) (fun z16 hz16 => ?_)
          rw [nI_clamp (by omega)] at hz16
          obtain rfl : z16 = thD D 220 ρ := hz16
          refine r_if_ge (tgt := 63) dX6_seen_54 (by decide) (fun c54 => ?_) (fun c54 => ?_)
          · skip
            obtain ⟨l, s, hls⟩ := mlane_s hw0 (Int32.not_lt.mpr c54)
            rw [hls] at hw0 he
            obtain ⟨hs1, hs2, hs3, hs4, hs5⟩ := hw0
            refine r_iload_n dX6_seen_63 rfl ?_
            refine r_if_lt (tgt := 83) dX6_seen_64 (by decide) (fun c64 => ?_) (fun c64 => ?_)
            · skip
              have hno : ¬ okInB s y (nI n) = true := fun q => Int32.not_lt.mpr (okInB_iff.mp q).1 c64
              refine r_aload_n dX6_seen_83 rfl ?_
              refine r_iconst (nI 2) dX6_seen_84 (by decide) ?_
              refine r_callVI (As := [.int (nI 2)]) (o := 219) (c_X6_finding B (thD D) E (nI 2)) hv_X6_finding wm_X6_75 dX6_seen_85 rfl rfl z_219 k_219 (by decide) rfl (Nat.le_of_ble_eq_true rfl) ⟨Nat.le_of_ble_eq_true rfl, Nat.le_of_ble_eq_true rfl, Nat.zero_le _, Nat.zero_le _⟩ ⟨rfl, rfl⟩ (fun z17 D18 E19 hz17 => ?_)
              obtain ⟨hq1, hqD, hqE⟩ := hz17
              obtain rfl := hqE.symm
              subst hqD
              subst hq1
              refine r_iret2 dX6_seen_88 rfl ⟨Nat.zero_le _, Nat.zero_le _⟩ ?_
              have he3 := he.trans (if_neg hno)
              rw [if_pos c9, he3]
              exact ⟨fd_2, stM_at, (MXs.of MX.th).st, rfl⟩
            · skip
              refine r_iload_n dX6_seen_67 rfl ?_
              refine r_i2l dX6_seen_68 (fun z20 hz20 => ?_)
              subst hz20
              refine r_iload_n dX6_seen_69 rfl ?_
              refine r_i2l dX6_seen_70 (fun z21 hz21 => ?_)
              subst hz21
              refine r_ladd dX6_seen_71 (fun z22 hz22 => ?_)
              subst hz22
              refine r_aload_n dX6_seen_72 rfl ?_
              refine r_getR (ci := 6) (k := 3) wf_X6_13 dX6_seen_73 z_219 k_219 (by decide) (by decide) (fun _ _ => rfl) f_219_3 ?_
              refine r_iload_n dX6_seen_76 rfl ?_
              refine r_iald dX6_seen_77 z_221 k_221 (vp_in_nI (by omega) (by decide)) (fun z23 hz23 => ?_)
              rw [nI_clamp (by omega)] at hz23
              obtain rfl : z23 = nI s := hz23.trans hs4
              refine r_i2l dX6_seen_78 (fun z24 hz24 => ?_)
              subst hz24
              refine r_lcmp dX6_seen_79 (fun z25 hz25 => ?_)
              subst hz25
              refine r_if_le (tgt := 89) dX6_seen_80 (by decide) (fun c80 => ?_) (fun c80 => ?_)
              · skip
                rw [lgs hs2 c64 (nI_pos (by omega))] at c80
                obtain ⟨a, b, rfl, hb2, hab⟩ := okIn_n (by omega) (okInB_iff.mp c80)
                have hbn : n = b := (nI_eq (by omega) (by omega)).mp hb2
                have he2 : g_seen wy r (nI ρ) (nI a) (nI n) (nI wh) w = (if nI wh = 0 then nI (s_sn wy r (fun k => w.2.1 ρ (a + k)) n (r 0)).1 else s_opt (s_sn wy r (fun k => w.2.1 ρ (a + k)) n (r 0)).2, nI 0) := by
                  rw [he]
                  show (if _ then _ else _) = _
                  rw [if_pos c80, nI_clamp (show a < 2 ^ 31 by omega)]
                refine r_aload_n dX6_seen_89 rfl ?_
                refine r_iconst (nI 0) dX6_seen_90 (by decide) ?_
                refine r_putI (ci := 6) (k := 1) wf_X6_58 dX6_seen_91 z_219 k_219 (by decide) (by decide) rfl rfl (fun D26 hD26 => ?_)
                obtain rfl : D26 = stM (thD D) (nI 0) := hD26.trans up2_eq
                have hM1 : MA (stM (thD D) (nI 0)) 223 r := fun k hk => (congrFun (stM_q (by decide)) k).trans (hM k hk)
                have hwy1 : ∀ j, j < 6 * r 0 → (stM (thD D) (nI 0)) 228 j = nI (wy j) := fun j hj => (congrFun (stM_q (by decide)) j).trans (hwy j hj)
                have hMs : MXs D (stM (thD D) (nI 0)) := (MXs.of MX.th).st
                have hIt : ∀ j, j < s → (stM (thD D) (nI 0)) 222 (40 * ρ + j) = w.2.1 ρ j := fun j hj => (congrFun (stM_q (by decide)) _).trans (hs5 j hj)
                refine r_iconst (nI 0) dX6_seen_94 (by decide) ?_
                refine r_istore [(5, .int (nI 0)), (0, .ref (B + 219)), (1, .int (nI ρ)), (2, .int (nI a)), (3, .int (nI n)), (4, .int (nI wh))] dX6_seen_95 (by decide) rfl ?_
                refine r_lv [(5, .int (nI ((s_sn wy r (fun k => w.2.1 ρ (a + k)) n 0).1))), (0, .ref (B + 219)), (1, .int (nI ρ)), (2, .int (nI a)), (3, .int (nI n)), (4, .int (nI wh))] (List.forall_mem_cons.mpr ⟨congrArg (fun x => some (Value.int x)) rfl, List.forall_mem_cons.mpr ⟨rfl, List.forall_mem_cons.mpr ⟨rfl, List.forall_mem_cons.mpr ⟨rfl, List.forall_mem_cons.mpr ⟨rfl, List.forall_mem_cons.mpr ⟨rfl, fun _ h => absurd h List.not_mem_nil⟩⟩⟩⟩⟩⟩) ?_
                refine r_ldc wc_X6_97 dX6_seen_97 ?_
                refine r_istore [(6, .int ((-1000000))), (5, .int (nI ((s_sn wy r (fun k => w.2.1 ρ (a + k)) n 0).1))), (0, .ref (B + 219)), (1, .int (nI ρ)), (2, .int (nI a)), (3, .int (nI n)), (4, .int (nI wh))] dX6_seen_99 (by decide) rfl ?_
                refine r_lv [(6, .int (s_opt (s_sn wy r (fun k => w.2.1 ρ (a + k)) n 0).2)), (5, .int (nI ((s_sn wy r (fun k => w.2.1 ρ (a + k)) n 0).1))), (0, .ref (B + 219)), (1, .int (nI ρ)), (2, .int (nI a)), (3, .int (nI n)), (4, .int (nI wh))] (List.forall_mem_cons.mpr ⟨congrArg (fun x => some (Value.int x)) rfl, List.forall_mem_cons.mpr ⟨rfl, List.forall_mem_cons.mpr ⟨rfl, List.forall_mem_cons.mpr ⟨rfl, List.forall_mem_cons.mpr ⟨rfl, List.forall_mem_cons.mpr ⟨rfl, List.forall_mem_cons.mpr ⟨rfl, fun _ h => absurd h List.not_mem_nil⟩⟩⟩⟩⟩⟩⟩) ?_
                refine r_aload_n dX6_seen_101 rfl ?_
                refine r_getR (ci := 6) (k := 5) wf_X6_19 dX6_seen_102 z_219 k_219 (by decide) (by decide) (fun _ _ => rfl) f_219_5 ?_
                refine r_iconst (nI 0) dX6_seen_105 (by decide) ?_
                refine r_iald dX6_seen_106 z_223 k_223 (vp_in_nI (by decide) (by decide)) (fun z27 hz27 => ?_)
                rw [nI_clamp (by omega)] at hz27
                obtain rfl : z27 = nI (r 0) := hz27.trans (hM1 0 (by decide))
                refine r_iconst (nI 1) dX6_seen_107 (by decide) ?_
                refine r_isub dX6_seen_108 (fun z28 hz28 => ?_)
                subst hz28
                refine r_istore [(7, .int ((nI (r 0)) - (nI 1))), (6, .int (s_opt (s_sn wy r (fun k => w.2.1 ρ (a + k)) n 0).2)), (5, .int (nI ((s_sn wy r (fun k => w.2.1 ρ (a + k)) n 0).1))), (0, .ref (B + 219)), (1, .int (nI ρ)), (2, .int (nI a)), (3, .int (nI n)), (4, .int (nI wh))] dX6_seen_109 (by decide) rfl ?_
                refine r_lv [(7, .int (nI (r 0) - nI 1 - nI 0)), (6, .int (s_opt (s_sn wy r (fun k => w.2.1 ρ (a + k)) n 0).2)), (5, .int (nI ((s_sn wy r (fun k => w.2.1 ρ (a + k)) n 0).1))), (0, .ref (B + 219)), (1, .int (nI ρ)), (2, .int (nI a)), (3, .int (nI n)), (4, .int (nI wh))] (List.forall_mem_cons.mpr ⟨congrArg (fun x => some (Value.int x)) (by rw [nI_0, Int32.sub_zero]), List.forall_mem_cons.mpr ⟨rfl, List.forall_mem_cons.mpr ⟨rfl, List.forall_mem_cons.mpr ⟨rfl, List.forall_mem_cons.mpr ⟨rfl, List.forall_mem_cons.mpr ⟨rfl, List.forall_mem_cons.mpr ⟨rfl, List.forall_mem_cons.mpr ⟨rfl, fun _ h => absurd h List.not_mem_nil⟩⟩⟩⟩⟩⟩⟩⟩) ?_
                have L : ∀ (fu k : Nat) (Dk : DD), k ≤ r 0 → r 0 - k < fu → (MX (stM (thD D) (nI 0)) Dk) → RW yX6_seen cX6_seen 9 (some .int) rX6_seen B (Q2 Z0 (pI (fun v D' E' => v = (if 0 < r 0 then g_seen wy r (nI ρ) (nI a) (nI n) (nI wh) w else (-1000002, w.2.2)).1 ∧ D' 219 1 = (if 0 < r 0 then g_seen wy r (nI ρ) (nI a) (nI n) (nI wh) w else (-1000002, w.2.2)).2 ∧ MXs D D' ∧ E' = E))) Z0 Dk E 0 0 111 [(7, .int (nI (r 0) - nI 1 - nI k)), (6, .int (s_opt (s_sn wy r (fun k => w.2.1 ρ (a + k)) n k).2)), (5, .int (nI ((s_sn wy r (fun k => w.2.1 ρ (a + k)) n k).1))), (0, .ref (B + 219)), (1, .int (nI ρ)), (2, .int (nI a)), (3, .int (nI n)), (4, .int (nI wh))] [] := by
                  intro fu
                  induction fu with
                  | zero => intro k Dk hku hfu _; omega
                  | succ fu ih =>
                    intro k Dk hku hfu hI
                    refine r_iload dX6_seen_111 rfl ?_
                    refine r_if_lt (tgt := 176) dX6_seen_113 (by decide) (fun c113 => ?_) (fun c113 => ?_)
                    · skip
                      rw [dn_lt (by omega) (by omega)] at c113
                      refine r_iload dX6_seen_176 rfl ?_
                      refine r_if_ne (tgt := 186) dX6_seen_178 (by decide) (fun c178 => ?_) (fun c178 => ?_)
                      · skip
                        refine r_iload dX6_seen_186 rfl ?_
                        refine r_iret2 dX6_seen_188 rfl ⟨Nat.zero_le _, Nat.zero_le _⟩ ?_
                        have hkr : k = r 0 := by omega
                        rw [if_pos c9, he2, ← hkr]
                        first
                          | exact ⟨(if_pos c178).symm, (hI.2 1 (by decide)).trans stM_at, hMs.mx hI, rfl⟩
                          | exact ⟨(if_neg c178).symm, (hI.2 1 (by decide)).trans stM_at, hMs.mx hI, rfl⟩
                      · skip
                        refine r_iload dX6_seen_181 rfl ?_
                        refine r_goto (tgt := 188) dX6_seen_183 (by decide) ?_
                        refine r_iret2 dX6_seen_188 rfl ⟨Nat.zero_le _, Nat.zero_le _⟩ ?_
                        have hkr : k = r 0 := by omega
                        rw [if_pos c9, he2, ← hkr]
                        first
                          | exact ⟨(if_pos c178).symm, (hI.2 1 (by decide)).trans stM_at, hMs.mx hI, rfl⟩
                          | exact ⟨(if_neg c178).symm, (hI.2 1 (by decide)).trans stM_at, hMs.mx hI, rfl⟩
                    · skip
                      rw [dn_lt (by omega) (by omega)] at c113
                      have hsl := s_sn_le (wy := wy) (r := r) (it := fun k => w.2.1 ρ (a + k)) (n := n) k
                      refine r_lv [(7, .int (nI (r 0 - 1 - k))), (6, .int (s_opt (s_sn wy r (fun k => w.2.1 ρ (a + k)) n k).2)), (5, .int (nI ((s_sn wy r (fun k => w.2.1 ρ (a + k)) n k).1))), (0, .ref (B + 219)), (1, .int (nI ρ)), (2, .int (nI a)), (3, .int (nI n)), (4, .int (nI wh))] (List.forall_mem_cons.mpr ⟨congrArg (fun x => some (Value.int x)) (dn_n (by omega)), List.forall_mem_cons.mpr ⟨rfl, List.forall_mem_cons.mpr ⟨rfl, List.forall_mem_cons.mpr ⟨rfl, List.forall_mem_cons.mpr ⟨rfl, List.forall_mem_cons.mpr ⟨rfl, List.forall_mem_cons.mpr ⟨rfl, List.forall_mem_cons.mpr ⟨rfl, fun _ h => absurd h List.not_mem_nil⟩⟩⟩⟩⟩⟩⟩⟩) ?_
                      refine r_aload_n dX6_seen_116 rfl ?_
                      refine r_callVV (As := []) (o := 219) (c_X6_layThen B Dk E r (hI.ma hM1)) hv_X6_layThen wm_X6_212 dX6_seen_117 rfl rfl z_219 k_219 (by decide) rfl (Nat.le_of_ble_eq_true rfl) ⟨Nat.le_of_ble_eq_true rfl, Nat.le_of_ble_eq_true rfl, Nat.zero_le _, Nat.zero_le _⟩ ⟨rfl, rfl⟩ (fun D30 E31 hz29 => ?_)
                      obtain ⟨hL1, hL2, hqE⟩ := hz29
                      obtain rfl := hqE.symm
                      have hXt : MX (stM (thD D) (nI 0)) D30 := hI.trans (MX.of (fun q a _ => hL1 q a))
                      refine r_aload_n dX6_seen_120 rfl ?_
                      refine r_getR (ci := 6) (k := 7) wf_X6_25 dX6_seen_121 z_219 k_219 (by decide) (by decide) (fun _ _ => rfl) f_219_7 ?_
                      refine r_iconst (nI 1) dX6_seen_124 (by decide) ?_
                      refine r_iload dX6_seen_125 rfl ?_
                      refine r_iast dX6_seen_127 z_225 k_225 (vp_in_nI (by decide) (by decide)) (fun D32 hD32 => ?_)
                      rw [nI_clamp (by omega)] at hD32
                      have hM5 : MA D32 225 (rset r 1 (r 0 - 1 - k)) := by rw [hD32]; exact MA_set hL2 rfl
                      have hX5 : MX (stM (thD D) (nI 0)) D32 := hXt.trans (MX.of (fun q h1 h2 => by rw [hD32]; exact up2_o h1))
                      refine r_aload_n dX6_seen_128 rfl ?_
                      refine r_bipush (nI 40) dX6_seen_129 (by decide) ?_
                      refine r_iload_n dX6_seen_131 rfl ?_
                      refine r_imul dX6_seen_132 (fun z33 hz33 => ?_)
                      obtain rfl : z33 = nI (40 * ρ) := (hz33.trans (pk_mul _ _))
                      refine r_iload_n dX6_seen_133 rfl ?_
                      refine r_iadd dX6_seen_134 (fun z34 hz34 => ?_)
                      obtain rfl : z34 = nI ((40 * ρ) + a) := (hz34.trans (nI_add _ _))
                      refine r_iload_n dX6_seen_135 rfl ?_
                      refine r_callVI (As := [.int (nI ((40 * ρ) + a)), .int (nI n)]) (o := 219) (c_X6_comesSo B D32 E wy (rset r 1 (r 0 - 1 - k)) (WF_set hW (Or.inl ⟨rfl, by omega⟩)) (HB_set hH (by omega)) (WY_set hY (by omega)) hM5 (hX5.wy (by rw [rset_n (by omega)]; exact hwy1)) (40 * ρ + a) n (fun k => w.2.1 ρ (a + k)) (fun j hj => (congrFun (hX5.1 222 (by decide) (by decide) (by decide)) _).trans (by rw [Nat.add_assoc]; exact hIt (a + j) (by omega))) (by omega) (by omega)) hv_X6_comesSo wm_X6_223 dX6_seen_136 rfl rfl z_219 k_219 (by decide) rfl (Nat.le_of_ble_eq_true rfl) ⟨Nat.le_of_ble_eq_true rfl, Nat.le_of_ble_eq_true rfl, Nat.zero_le _, Nat.zero_le _⟩ ⟨rfl, rfl⟩ (fun z35 D36 E37 hz35 => ?_)
                      obtain ⟨hq1, hF9, hqE⟩ := hz35
                      obtain rfl := hqE.symm
                      obtain rfl := hq1.symm
                      have hX9 : MX (stM (thD D) (nI 0)) D36 := hX5.trans (MX.of hF9)
                      refine r_istore [(8, .int (bI (s_fits wy (rset r 1 (r 0 - 1 - k)) (fun j => w.2.1 ρ (a + j)) n = true))), (7, .int (nI (r 0 - 1 - k))), (6, .int (s_opt (s_sn wy r (fun k => w.2.1 ρ (a + k)) n k).2)), (5, .int (nI ((s_sn wy r (fun k => w.2.1 ρ (a + k)) n k).1))), (0, .ref (B + 219)), (1, .int (nI ρ)), (2, .int (nI a)), (3, .int (nI n)), (4, .int (nI wh))] dX6_seen_139 (by decide) rfl ?_
                      refine r_iload dX6_seen_141 rfl ?_
                      refine r_iload dX6_seen_143 rfl ?_
                      refine r_if_eq (tgt := 152) dX6_seen_145 (by decide) (fun c145 => ?_) (fun c145 => ?_)
                      · skip
                        rw [bI_0] at c145
                        have hs : s_sn wy r (fun k => w.2.1 ρ (a + k)) n (k + 1) = s_sn wy r (fun k => w.2.1 ρ (a + k)) n k := if_neg c145
                        refine r_iconst (nI 0) dX6_seen_152 (by decide) ?_
                        refine r_iadd dX6_seen_153 (fun z38 hz38 => ?_)
                        obtain rfl : z38 = nI (((s_sn wy r (fun k => w.2.1 ρ (a + k)) n k).1) + 0) := (hz38.trans (nI_add _ _))
                        refine r_istore [(5, .int (nI (((s_sn wy r (fun k => w.2.1 ρ (a + k)) n k).1) + 0))), (8, .int (bI (s_fits wy (rset r 1 (r 0 - 1 - k)) (fun j => w.2.1 ρ (a + j)) n = true))), (7, .int (nI (r 0 - 1 - k))), (6, .int (s_opt (s_sn wy r (fun k => w.2.1 ρ (a + k)) n k).2)), (0, .ref (B + 219)), (1, .int (nI ρ)), (2, .int (nI a)), (3, .int (nI n)), (4, .int (nI wh))] dX6_seen_154 (by decide) rfl ?_
                        refine r_lv [(5, .int (nI ((s_sn wy r (fun k => w.2.1 ρ (a + k)) n (k + 1)).1))), (8, .int (bI (s_fits wy (rset r 1 (r 0 - 1 - k)) (fun j => w.2.1 ρ (a + j)) n = true))), (7, .int (nI (r 0 - 1 - k))), (6, .int (s_opt (s_sn wy r (fun k => w.2.1 ρ (a + k)) n k).2)), (0, .ref (B + 219)), (1, .int (nI ρ)), (2, .int (nI a)), (3, .int (nI n)), (4, .int (nI wh))] (List.forall_mem_cons.mpr ⟨congrArg (fun x => some (Value.int x)) ((congrArg (fun p : Nat × Option Nat => nI p.1) hs).symm), List.forall_mem_cons.mpr ⟨rfl, List.forall_mem_cons.mpr ⟨rfl, List.forall_mem_cons.mpr ⟨rfl, List.forall_mem_cons.mpr ⟨rfl, List.forall_mem_cons.mpr ⟨rfl, List.forall_mem_cons.mpr ⟨rfl, List.forall_mem_cons.mpr ⟨rfl, List.forall_mem_cons.mpr ⟨rfl, fun _ h => absurd h List.not_mem_nil⟩⟩⟩⟩⟩⟩⟩⟩⟩) ?_
                        refine r_iload dX6_seen_156 rfl ?_
                        refine r_if_eq (tgt := 166) dX6_seen_158 (by decide) (fun c158 => ?_) (fun c158 => ?_)
                        · skip
                          rw [bI_0] at c158
                          refine r_iload dX6_seen_166 rfl ?_
                          refine r_istore [(6, .int (s_opt (s_sn wy r (fun k => w.2.1 ρ (a + k)) n k).2)), (5, .int (nI ((s_sn wy r (fun k => w.2.1 ρ (a + k)) n (k + 1)).1))), (8, .int (bI (s_fits wy (rset r 1 (r 0 - 1 - k)) (fun j => w.2.1 ρ (a + j)) n = true))), (7, .int (nI (r 0 - 1 - k))), (0, .ref (B + 219)), (1, .int (nI ρ)), (2, .int (nI a)), (3, .int (nI n)), (4, .int (nI wh))] dX6_seen_168 (by decide) rfl ?_
                          refine r_lv [(6, .int (s_opt (s_sn wy r (fun k => w.2.1 ρ (a + k)) n (k + 1)).2)), (5, .int (nI ((s_sn wy r (fun k => w.2.1 ρ (a + k)) n (k + 1)).1))), (8, .int (bI (s_fits wy (rset r 1 (r 0 - 1 - k)) (fun j => w.2.1 ρ (a + j)) n = true))), (7, .int (nI (r 0 - 1 - k))), (0, .ref (B + 219)), (1, .int (nI ρ)), (2, .int (nI a)), (3, .int (nI n)), (4, .int (nI wh))] (List.forall_mem_cons.mpr ⟨congrArg (fun x => some (Value.int x)) ((by first | exact absurd c145 c158 | exact absurd c158 c145 | exact (congrArg (fun p : Nat × Option Nat => s_opt p.2) hs).symm)), List.forall_mem_cons.mpr ⟨rfl, List.forall_mem_cons.mpr ⟨rfl, List.forall_mem_cons.mpr ⟨rfl, List.forall_mem_cons.mpr ⟨rfl, List.forall_mem_cons.mpr ⟨rfl, List.forall_mem_cons.mpr ⟨rfl, List.forall_mem_cons.mpr ⟨rfl, List.forall_mem_cons.mpr ⟨rfl, fun _ h => absurd h List.not_mem_nil⟩⟩⟩⟩⟩⟩⟩⟩⟩) ?_
                          refine r_iinc (nI (r 0) - nI 1 - nI (k + 1)) [(7, .int (nI (r 0) - nI 1 - nI (k + 1))), (6, .int (s_opt (s_sn wy r (fun k => w.2.1 ρ (a + k)) n (k + 1)).2)), (5, .int (nI ((s_sn wy r (fun k => w.2.1 ρ (a + k)) n (k + 1)).1))), (8, .int (bI (s_fits wy (rset r 1 (r 0 - 1 - k)) (fun j => w.2.1 ρ (a + j)) n = true))), (0, .ref (B + 219)), (1, .int (nI ρ)), (2, .int (nI a)), (3, .int (nI n)), (4, .int (nI wh))] dX6_seen_170 rfl (dn_s (by omega)) (by decide) rfl ?_
                          refine r_goto (tgt := 111) dX6_seen_173 (by decide) ?_
                          exact r_lv [(7, .int (nI (r 0) - nI 1 - nI (k + 1))), (6, .int (s_opt (s_sn wy r (fun k => w.2.1 ρ (a + k)) n (k + 1)).2)), (5, .int (nI ((s_sn wy r (fun k => w.2.1 ρ (a + k)) n (k + 1)).1))), (0, .ref (B + 219)), (1, .int (nI ρ)), (2, .int (nI a)), (3, .int (nI n)), (4, .int (nI wh))] (List.forall_mem_cons.mpr ⟨rfl, List.forall_mem_cons.mpr ⟨rfl, List.forall_mem_cons.mpr ⟨rfl, List.forall_mem_cons.mpr ⟨rfl, List.forall_mem_cons.mpr ⟨rfl, List.forall_mem_cons.mpr ⟨rfl, List.forall_mem_cons.mpr ⟨rfl, List.forall_mem_cons.mpr ⟨rfl, fun _ h => absurd h List.not_mem_nil⟩⟩⟩⟩⟩⟩⟩⟩) (ih (k + 1) D36 (by omega) (by omega) hX9)
                        · skip
                          rw [bI_n0] at c158
                          refine r_iload dX6_seen_161 rfl ?_
                          refine r_goto (tgt := 168) dX6_seen_163 (by decide) ?_
                          refine r_istore [(6, .int (nI (r 0 - 1 - k))), (5, .int (nI ((s_sn wy r (fun k => w.2.1 ρ (a + k)) n (k + 1)).1))), (8, .int (bI (s_fits wy (rset r 1 (r 0 - 1 - k)) (fun j => w.2.1 ρ (a + j)) n = true))), (7, .int (nI (r 0 - 1 - k))), (0, .ref (B + 219)), (1, .int (nI ρ)), (2, .int (nI a)), (3, .int (nI n)), (4, .int (nI wh))] dX6_seen_168 (by decide) rfl ?_
                          refine r_lv [(6, .int (s_opt (s_sn wy r (fun k => w.2.1 ρ (a + k)) n (k + 1)).2)), (5, .int (nI ((s_sn wy r (fun k => w.2.1 ρ (a + k)) n (k + 1)).1))), (8, .int (bI (s_fits wy (rset r 1 (r 0 - 1 - k)) (fun j => w.2.1 ρ (a + j)) n = true))), (7, .int (nI (r 0 - 1 - k))), (0, .ref (B + 219)), (1, .int (nI ρ)), (2, .int (nI a)), (3, .int (nI n)), (4, .int (nI wh))] (List.forall_mem_cons.mpr ⟨congrArg (fun x => some (Value.int x)) ((by first | exact absurd c145 c158 | exact absurd c158 c145 | exact (congrArg (fun p : Nat × Option Nat => s_opt p.2) hs).symm)), List.forall_mem_cons.mpr ⟨rfl, List.forall_mem_cons.mpr ⟨rfl, List.forall_mem_cons.mpr ⟨rfl, List.forall_mem_cons.mpr ⟨rfl, List.forall_mem_cons.mpr ⟨rfl, List.forall_mem_cons.mpr ⟨rfl, List.forall_mem_cons.mpr ⟨rfl, List.forall_mem_cons.mpr ⟨rfl, fun _ h => absurd h List.not_mem_nil⟩⟩⟩⟩⟩⟩⟩⟩⟩) ?_
                          refine r_iinc (nI (r 0) - nI 1 - nI (k + 1)) [(7, .int (nI (r 0) - nI 1 - nI (k + 1))), (6, .int (s_opt (s_sn wy r (fun k => w.2.1 ρ (a + k)) n (k + 1)).2)), (5, .int (nI ((s_sn wy r (fun k => w.2.1 ρ (a + k)) n (k + 1)).1))), (8, .int (bI (s_fits wy (rset r 1 (r 0 - 1 - k)) (fun j => w.2.1 ρ (a + j)) n = true))), (0, .ref (B + 219)), (1, .int (nI ρ)), (2, .int (nI a)), (3, .int (nI n)), (4, .int (nI wh))] dX6_seen_170 rfl (dn_s (by omega)) (by decide) rfl ?_
                          refine r_goto (tgt := 111) dX6_seen_173 (by decide) ?_
                          exact r_lv [(7, .int (nI (r 0) - nI 1 - nI (k + 1))), (6, .int (s_opt (s_sn wy r (fun k => w.2.1 ρ (a + k)) n (k + 1)).2)), (5, .int (nI ((s_sn wy r (fun k => w.2.1 ρ (a + k)) n (k + 1)).1))), (0, .ref (B + 219)), (1, .int (nI ρ)), (2, .int (nI a)), (3, .int (nI n)), (4, .int (nI wh))] (List.forall_mem_cons.mpr ⟨rfl, List.forall_mem_cons.mpr ⟨rfl, List.forall_mem_cons.mpr ⟨rfl, List.forall_mem_cons.mpr ⟨rfl, List.forall_mem_cons.mpr ⟨rfl, List.forall_mem_cons.mpr ⟨rfl, List.forall_mem_cons.mpr ⟨rfl, List.forall_mem_cons.mpr ⟨rfl, fun _ h => absurd h List.not_mem_nil⟩⟩⟩⟩⟩⟩⟩⟩) (ih (k + 1) D36 (by omega) (by omega) hX9)
                      · skip
                        rw [bI_n0] at c145
                        have hs : s_sn wy r (fun k => w.2.1 ρ (a + k)) n (k + 1) = ((s_sn wy r (fun k => w.2.1 ρ (a + k)) n k).1 + 1, some (r 0 - 1 - k)) := if_pos c145
                        refine r_iconst (nI 1) dX6_seen_148 (by decide) ?_
                        refine r_goto (tgt := 153) dX6_seen_149 (by decide) ?_
                        refine r_iadd dX6_seen_153 (fun z39 hz39 => ?_)
                        obtain rfl : z39 = nI (((s_sn wy r (fun k => w.2.1 ρ (a + k)) n k).1) + 1) := (hz39.trans (nI_add _ _))
                        refine r_istore [(5, .int (nI (((s_sn wy r (fun k => w.2.1 ρ (a + k)) n k).1) + 1))), (8, .int (bI (s_fits wy (rset r 1 (r 0 - 1 - k)) (fun j => w.2.1 ρ (a + j)) n = true))), (7, .int (nI (r 0 - 1 - k))), (6, .int (s_opt (s_sn wy r (fun k => w.2.1 ρ (a + k)) n k).2)), (0, .ref (B + 219)), (1, .int (nI ρ)), (2, .int (nI a)), (3, .int (nI n)), (4, .int (nI wh))] dX6_seen_154 (by decide) rfl ?_
                        refine r_lv [(5, .int (nI ((s_sn wy r (fun k => w.2.1 ρ (a + k)) n (k + 1)).1))), (8, .int (bI (s_fits wy (rset r 1 (r 0 - 1 - k)) (fun j => w.2.1 ρ (a + j)) n = true))), (7, .int (nI (r 0 - 1 - k))), (6, .int (s_opt (s_sn wy r (fun k => w.2.1 ρ (a + k)) n k).2)), (0, .ref (B + 219)), (1, .int (nI ρ)), (2, .int (nI a)), (3, .int (nI n)), (4, .int (nI wh))] (List.forall_mem_cons.mpr ⟨congrArg (fun x => some (Value.int x)) ((congrArg (fun p : Nat × Option Nat => nI p.1) hs).symm), List.forall_mem_cons.mpr ⟨rfl, List.forall_mem_cons.mpr ⟨rfl, List.forall_mem_cons.mpr ⟨rfl, List.forall_mem_cons.mpr ⟨rfl, List.forall_mem_cons.mpr ⟨rfl, List.forall_mem_cons.mpr ⟨rfl, List.forall_mem_cons.mpr ⟨rfl, List.forall_mem_cons.mpr ⟨rfl, fun _ h => absurd h List.not_mem_nil⟩⟩⟩⟩⟩⟩⟩⟩⟩) ?_
                        refine r_iload dX6_seen_156 rfl ?_
                        refine r_if_eq (tgt := 166) dX6_seen_158 (by decide) (fun c158 => ?_) (fun c158 => ?_)
                        · skip
                          rw [bI_0] at c158
                          refine r_iload dX6_seen_166 rfl ?_
                          refine r_istore [(6, .int (s_opt (s_sn wy r (fun k => w.2.1 ρ (a + k)) n k).2)), (5, .int (nI ((s_sn wy r (fun k => w.2.1 ρ (a + k)) n (k + 1)).1))), (8, .int (bI (s_fits wy (rset r 1 (r 0 - 1 - k)) (fun j => w.2.1 ρ (a + j)) n = true))), (7, .int (nI (r 0 - 1 - k))), (0, .ref (B + 219)), (1, .int (nI ρ)), (2, .int (nI a)), (3, .int (nI n)), (4, .int (nI wh))] dX6_seen_168 (by decide) rfl ?_
                          refine r_lv [(6, .int (s_opt (s_sn wy r (fun k => w.2.1 ρ (a + k)) n (k + 1)).2)), (5, .int (nI ((s_sn wy r (fun k => w.2.1 ρ (a + k)) n (k + 1)).1))), (8, .int (bI (s_fits wy (rset r 1 (r 0 - 1 - k)) (fun j => w.2.1 ρ (a + j)) n = true))), (7, .int (nI (r 0 - 1 - k))), (0, .ref (B + 219)), (1, .int (nI ρ)), (2, .int (nI a)), (3, .int (nI n)), (4, .int (nI wh))] (List.forall_mem_cons.mpr ⟨congrArg (fun x => some (Value.int x)) ((by first | exact absurd c145 c158 | exact absurd c158 c145 | exact (congrArg (fun p : Nat × Option Nat => s_opt p.2) hs).symm)), List.forall_mem_cons.mpr ⟨rfl, List.forall_mem_cons.mpr ⟨rfl, List.forall_mem_cons.mpr ⟨rfl, List.forall_mem_cons.mpr ⟨rfl, List.forall_mem_cons.mpr ⟨rfl, List.forall_mem_cons.mpr ⟨rfl, List.forall_mem_cons.mpr ⟨rfl, List.forall_mem_cons.mpr ⟨rfl, fun _ h => absurd h List.not_mem_nil⟩⟩⟩⟩⟩⟩⟩⟩⟩) ?_
                          refine r_iinc (nI (r 0) - nI 1 - nI (k + 1)) [(7, .int (nI (r 0) - nI 1 - nI (k + 1))), (6, .int (s_opt (s_sn wy r (fun k => w.2.1 ρ (a + k)) n (k + 1)).2)), (5, .int (nI ((s_sn wy r (fun k => w.2.1 ρ (a + k)) n (k + 1)).1))), (8, .int (bI (s_fits wy (rset r 1 (r 0 - 1 - k)) (fun j => w.2.1 ρ (a + j)) n = true))), (0, .ref (B + 219)), (1, .int (nI ρ)), (2, .int (nI a)), (3, .int (nI n)), (4, .int (nI wh))] dX6_seen_170 rfl (dn_s (by omega)) (by decide) rfl ?_
                          refine r_goto (tgt := 111) dX6_seen_173 (by decide) ?_
                          exact r_lv [(7, .int (nI (r 0) - nI 1 - nI (k + 1))), (6, .int (s_opt (s_sn wy r (fun k => w.2.1 ρ (a + k)) n (k + 1)).2)), (5, .int (nI ((s_sn wy r (fun k => w.2.1 ρ (a + k)) n (k + 1)).1))), (0, .ref (B + 219)), (1, .int (nI ρ)), (2, .int (nI a)), (3, .int (nI n)), (4, .int (nI wh))] (List.forall_mem_cons.mpr ⟨rfl, List.forall_mem_cons.mpr ⟨rfl, List.forall_mem_cons.mpr ⟨rfl, List.forall_mem_cons.mpr ⟨rfl, List.forall_mem_cons.mpr ⟨rfl, List.forall_mem_cons.mpr ⟨rfl, List.forall_mem_cons.mpr ⟨rfl, List.forall_mem_cons.mpr ⟨rfl, fun _ h => absurd h List.not_mem_nil⟩⟩⟩⟩⟩⟩⟩⟩) (ih (k + 1) D36 (by omega) (by omega) hX9)
                        · skip
                          rw [bI_n0] at c158
                          refine r_iload dX6_seen_161 rfl ?_
                          refine r_goto (tgt := 168) dX6_seen_163 (by decide) ?_
                          refine r_istore [(6, .int (nI (r 0 - 1 - k))), (5, .int (nI ((s_sn wy r (fun k => w.2.1 ρ (a + k)) n (k + 1)).1))), (8, .int (bI (s_fits wy (rset r 1 (r 0 - 1 - k)) (fun j => w.2.1 ρ (a + j)) n = true))), (7, .int (nI (r 0 - 1 - k))), (0, .ref (B + 219)), (1, .int (nI ρ)), (2, .int (nI a)), (3, .int (nI n)), (4, .int (nI wh))] dX6_seen_168 (by decide) rfl ?_
                          refine r_lv [(6, .int (s_opt (s_sn wy r (fun k => w.2.1 ρ (a + k)) n (k + 1)).2)), (5, .int (nI ((s_sn wy r (fun k => w.2.1 ρ (a + k)) n (k + 1)).1))), (8, .int (bI (s_fits wy (rset r 1 (r 0 - 1 - k)) (fun j => w.2.1 ρ (a + j)) n = true))), (7, .int (nI (r 0 - 1 - k))), (0, .ref (B + 219)), (1, .int (nI ρ)), (2, .int (nI a)), (3, .int (nI n)), (4, .int (nI wh))] (List.forall_mem_cons.mpr ⟨congrArg (fun x => some (Value.int x)) ((by first | exact absurd c145 c158 | exact absurd c158 c145 | exact (congrArg (fun p : Nat × Option Nat => s_opt p.2) hs).symm)), List.forall_mem_cons.mpr ⟨rfl, List.forall_mem_cons.mpr ⟨rfl, List.forall_mem_cons.mpr ⟨rfl, List.forall_mem_cons.mpr ⟨rfl, List.forall_mem_cons.mpr ⟨rfl, List.forall_mem_cons.mpr ⟨rfl, List.forall_mem_cons.mpr ⟨rfl, List.forall_mem_cons.mpr ⟨rfl, fun _ h => absurd h List.not_mem_nil⟩⟩⟩⟩⟩⟩⟩⟩⟩) ?_
                          refine r_iinc (nI (r 0) - nI 1 - nI (k + 1)) [(7, .int (nI (r 0) - nI 1 - nI (k + 1))), (6, .int (s_opt (s_sn wy r (fun k => w.2.1 ρ (a + k)) n (k + 1)).2)), (5, .int (nI ((s_sn wy r (fun k => w.2.1 ρ (a + k)) n (k + 1)).1))), (8, .int (bI (s_fits wy (rset r 1 (r 0 - 1 - k)) (fun j => w.2.1 ρ (a + j)) n = true))), (0, .ref (B + 219)), (1, .int (nI ρ)), (2, .int (nI a)), (3, .int (nI n)), (4, .int (nI wh))] dX6_seen_170 rfl (dn_s (by omega)) (by decide) rfl ?_
                          refine r_goto (tgt := 111) dX6_seen_173 (by decide) ?_
                          exact r_lv [(7, .int (nI (r 0) - nI 1 - nI (k + 1))), (6, .int (s_opt (s_sn wy r (fun k => w.2.1 ρ (a + k)) n (k + 1)).2)), (5, .int (nI ((s_sn wy r (fun k => w.2.1 ρ (a + k)) n (k + 1)).1))), (0, .ref (B + 219)), (1, .int (nI ρ)), (2, .int (nI a)), (3, .int (nI n)), (4, .int (nI wh))] (List.forall_mem_cons.mpr ⟨rfl, List.forall_mem_cons.mpr ⟨rfl, List.forall_mem_cons.mpr ⟨rfl, List.forall_mem_cons.mpr ⟨rfl, List.forall_mem_cons.mpr ⟨rfl, List.forall_mem_cons.mpr ⟨rfl, List.forall_mem_cons.mpr ⟨rfl, List.forall_mem_cons.mpr ⟨rfl, fun _ h => absurd h List.not_mem_nil⟩⟩⟩⟩⟩⟩⟩⟩) (ih (k + 1) D36 (by omega) (by omega) hX9)
                exact r_lv [(7, .int (nI (r 0) - nI 1 - nI 0)), (6, .int (s_opt (s_sn wy r (fun k => w.2.1 ρ (a + k)) n 0).2)), (5, .int (nI ((s_sn wy r (fun k => w.2.1 ρ (a + k)) n 0).1))), (0, .ref (B + 219)), (1, .int (nI ρ)), (2, .int (nI a)), (3, .int (nI n)), (4, .int (nI wh))] (List.forall_mem_cons.mpr ⟨rfl, List.forall_mem_cons.mpr ⟨rfl, List.forall_mem_cons.mpr ⟨rfl, List.forall_mem_cons.mpr ⟨rfl, List.forall_mem_cons.mpr ⟨rfl, List.forall_mem_cons.mpr ⟨rfl, List.forall_mem_cons.mpr ⟨rfl, List.forall_mem_cons.mpr ⟨rfl, fun _ h => absurd h List.not_mem_nil⟩⟩⟩⟩⟩⟩⟩⟩) (L (r 0 + 1) 0 (stM (thD D) (nI 0)) (by omega) (by omega) MX.rf)
              · skip
                rw [lgs hs2 c64 (nI_pos (by omega))] at c80
                have hno : ¬ okInB s y (nI n) = true := c80
                refine r_aload_n dX6_seen_83 rfl ?_
                refine r_iconst (nI 2) dX6_seen_84 (by decide) ?_
                refine r_callVI (As := [.int (nI 2)]) (o := 219) (c_X6_finding B (thD D) E (nI 2)) hv_X6_finding wm_X6_75 dX6_seen_85 rfl rfl z_219 k_219 (by decide) rfl (Nat.le_of_ble_eq_true rfl) ⟨Nat.le_of_ble_eq_true rfl, Nat.le_of_ble_eq_true rfl, Nat.zero_le _, Nat.zero_le _⟩ ⟨rfl, rfl⟩ (fun z40 D41 E42 hz40 => ?_)
                obtain ⟨hq1, hqD, hqE⟩ := hz40
                obtain rfl := hqE.symm
                subst hqD
                subst hq1
                refine r_iret2 dX6_seen_88 rfl ⟨Nat.zero_le _, Nat.zero_le _⟩ ?_
                have he3 := he.trans (if_neg hno)
                rw [if_pos c9, he3]
                exact ⟨fd_2, stM_at, (MXs.of MX.th).st, rfl⟩
          · skip
            have hn := mlane_n hw0 (Int32.not_le.mp c54)
            refine r_aload_n dX6_seen_57 rfl ?_
            refine r_iconst (nI 1) dX6_seen_58 (by decide) ?_
            refine r_callVI (As := [.int (nI 1)]) (o := 219) (c_X6_finding B (thD D) E (nI 1)) hv_X6_finding wm_X6_75 dX6_seen_59 rfl rfl z_219 k_219 (by decide) rfl (Nat.le_of_ble_eq_true rfl) ⟨Nat.le_of_ble_eq_true rfl, Nat.le_of_ble_eq_true rfl, Nat.zero_le _, Nat.zero_le _⟩ ⟨rfl, rfl⟩ (fun z43 D44 E45 hz43 => ?_)
            obtain ⟨hq1, hqD, hqE⟩ := hz43
            obtain rfl := hqE.symm
            subst hqD
            subst hq1
            refine r_iret2 dX6_seen_62 rfl ⟨Nat.zero_le _, Nat.zero_le _⟩ ?_
            rw [hn] at he
            rw [if_pos c9, he]
            exact ⟨fd_1, stM_at, (MXs.of MX.th).st, rfl⟩
        · skip
          rw [bI_0] at c42
          refine r_ldc wc_X6_74 dX6_seen_45 ?_
          refine r_iret2 dX6_seen_47 rfl ⟨Nat.zero_le _, Nat.zero_le _⟩ ?_
          rw [if_pos c9]
          have e : ∀ a b : Int32 × Int32, a = b → b = (-1000001, w.2.2) → (-1000001 : Int32) = a.1 ∧ thD D 219 1 = a.2 ∧ MXs D (thD D) ∧ E = E := fun a b h1 h2 => by rw [h1, h2]; exact ⟨rfl, (MX.th.2 1 (by decide)).trans hR0.2, MXs.of MX.th, rfl⟩
          refine e _ _ rfl ?_
          unfold g_seen
          first | rw [if_neg c19] | rw [if_pos c19, if_neg c31] | rw [if_pos c19, if_pos c31, if_neg c42]
  · skip
    rw [bI_0] at c9
    refine r_ldc wc_X6_196 dX6_seen_12 ?_
    refine r_iret2 dX6_seen_14 rfl ⟨Nat.zero_le _, Nat.zero_le _⟩ ?_
    rw [if_neg c9]
    exact ⟨rfl, (MX.th.2 1 (by decide)).trans hR0.2, MXs.of MX.th, rfl⟩
set_option maxRecDepth 100000 in
set_option maxHeartbeats 4000000 in
theorem c_X6_who (B : Nat) (D : DD) (E : EE) (wy : Nat → Nat) (r : Row) (hX0 : XM D wy r) (w : RWS) (hR0 : MRW D w) (v x y t : Int32) : MR yX6_who cX6_who 7 (some .int) rX6_who B [.ref (B + 219), .int v, .int x, .int y, .int t] Z0 D E (Q2 Z0 (pI (fun r9 D' E' => r9 = (g_who wy r v x y t w).1 ∧ D' 219 1 = (g_who wy r v x y t w).2 ∧ MXs D D' ∧ E' = E))) := by
  have hX := hX0.th
  obtain ⟨hO, hM, hwy, hYY⟩ := id hX
  obtain ⟨l0, l5, l4, l6, l7, l8, l1⟩ := hO.le
  have hwy0 := hX0.2.2.1
  have hM0 := hX0.2.1
  have hR := MX.th.mrw hR0
  refine r_enter [(0, .ref (B + 219)), (1, .int v), (2, .int x), (3, .int y), (4, .int t)] hv_X6_who.1.2.2.2.2 (Nat.le_of_ble_eq_true rfl) rfl ?_
  refine r_aload_n dX6_who_0 rfl ?_
  refine r_iconst (nI 0) dX6_who_1 (by decide) ?_
  refine r_putI (ci := 6) (k := 0) wf_X6_54 dX6_who_2 z_219 k_219 (by decide) (by decide) rfl rfl (fun D1 hD1 => ?_)
  obtain rfl : D1 = thD D := hD1.trans up2_eq
  refine r_aload_n dX6_who_5 rfl ?_
  refine r_iload_n dX6_who_6 rfl ?_
  refine r_callVI (As := [.int v]) (o := 219) (c_X6_isWisher B (thD D) E v (r 5) (hM 5 (by decide))) hv_X6_isWisher wm_X6_202 dX6_who_7 rfl rfl z_219 k_219 (by decide) rfl (Nat.le_of_ble_eq_true rfl) ⟨Nat.le_of_ble_eq_true rfl, Nat.le_of_ble_eq_true rfl, Nat.zero_le _, Nat.zero_le _⟩ ⟨rfl, rfl⟩ (fun z2 D3 E4 hz2 => ?_)
  obtain ⟨hqV, hqD, hqE⟩ := hz2
  obtain rfl : z2 = bI (nI 0 ≤ v ∧ v ≤ nI (r 5) - nI 1) := hqV
  obtain rfl := hqD.symm
  obtain rfl := hqE.symm
  refine r_if_eq (tgt := 33) dX6_who_10 (by decide) (fun c10 => ?_) (fun c10 => ?_)
  · skip
    rw [bI_0] at c10
    refine r_ldc wc_X6_74 dX6_who_33 ?_
    refine r_iret2 dX6_who_35 rfl ⟨Nat.zero_le _, Nat.zero_le _⟩ ?_
    have e : ∀ a b : Int32 × Int32, a = b → b = (-1000001, w.2.2) → (-1000001 : Int32) = a.1 ∧ thD D 219 1 = a.2 ∧ MXs D (thD D) ∧ E = E := fun a b h1 h2 => by rw [h1, h2]; exact ⟨rfl, (MX.th.2 1 (by decide)).trans hR0.2, MXs.of MX.th, rfl⟩
    refine e _ _ rfl ?_
    unfold g_who
    first | rw [if_neg c10] | rw [if_pos c10, if_neg c17] | rw [if_pos c10, if_pos c17, if_neg c30]
  · skip
    rw [bI_n0] at c10
    obtain ⟨wi, hwi, rfl⟩ := gd_n (by omega) c10
    obtain ⟨hW, hT, hH⟩ := hO.w hwi
    have hY := hYY hW
    obtain ⟨b1, b2, b3, b4, b5, b6, b7, b8⟩ := hW.1
    obtain ⟨⟨d1, d2⟩, d3, d4, d5, d6, ⟨d7, d8⟩, d9, d10⟩ := hW.2.2.1 wi hwi
    refine r_iload_n dX6_who_13 rfl ?_
    refine r_callSI (As := [.int x]) (c_X6_isRow B (thD D) E x) hs_X6_isRow wm_X6_68 rfl dX6_who_14 rfl rfl (Nat.le_of_ble_eq_true rfl) ⟨Nat.le_of_ble_eq_true rfl, Nat.le_of_ble_eq_true rfl, Nat.zero_le _, Nat.zero_le _⟩ ⟨rfl, rfl⟩ (fun z5 D6 E7 hz5 => ?_)
    obtain ⟨hqV, hqD, hqE⟩ := hz5
    obtain rfl : z5 = bI (nI 0 ≤ x ∧ x ≤ nI 7) := hqV
    obtain rfl := hqD.symm
    obtain rfl := hqE.symm
    refine r_if_eq (tgt := 33) dX6_who_17 (by decide) (fun c17 => ?_) (fun c17 => ?_)
    · skip
      rw [bI_0] at c17
      refine r_ldc wc_X6_74 dX6_who_33 ?_
      refine r_iret2 dX6_who_35 rfl ⟨Nat.zero_le _, Nat.zero_le _⟩ ?_
      have e : ∀ a b : Int32 × Int32, a = b → b = (-1000001, w.2.2) → (-1000001 : Int32) = a.1 ∧ thD D 219 1 = a.2 ∧ MXs D (thD D) ∧ E = E := fun a b h1 h2 => by rw [h1, h2]; exact ⟨rfl, (MX.th.2 1 (by decide)).trans hR0.2, MXs.of MX.th, rfl⟩
      refine e _ _ rfl ?_
      unfold g_who
      first | rw [if_neg c10] | rw [if_pos c10, if_neg c17] | rw [if_pos c10, if_pos c17, if_neg c30]
    · skip
      rw [bI_n0] at c17
      obtain ⟨ρ, ρh1, ρh2, rfl⟩ := rg (by decide) (by decide) c17
      have hρ : ρ < 8 := by omega
      have hw0 := hR.1 ρ hρ
      refine r_iload dX6_who_20 rfl ?_
      refine r_i2l dX6_who_22 (fun z8 hz8 => ?_)
      subst hz8
      refine r_lconst ((nI 1).toInt64) dX6_who_23 (by decide) ?_
      refine r_ldc2v ((nI 12).toInt64) wg_X6_221 dX6_who_24 (by decide) ?_
      refine r_callSI (As := [.long t.toInt64, .long ((nI 1).toInt64), .long ((nI 12).toInt64)]) (c_X6_in B (thD D) E t (nI 1) (nI 12)) hs_X6_in wm_X6_64 rfl dX6_who_27 rfl rfl (Nat.le_of_ble_eq_true rfl) ⟨Nat.le_of_ble_eq_true rfl, Nat.le_of_ble_eq_true rfl, Nat.zero_le _, Nat.zero_le _⟩ ⟨rfl, rfl⟩ (fun z9 D10 E11 hz9 => ?_)
      obtain ⟨hqV, hqD, hqE⟩ := hz9
      obtain rfl : z9 = bI (nI 1 ≤ t ∧ t ≤ nI 12) := hqV
      obtain rfl := hqD.symm
      obtain rfl := hqE.symm
      refine r_if_ne (tgt := 36) dX6_who_30 (by decide) (fun c30 => ?_) (fun c30 => ?_)
      · skip
        rw [bI_n0] at c30
        obtain ⟨n, hn1, hn2, rfl⟩ := rg (by decide) (by decide) c30
        have he : g_who wy r (nI wi) (nI ρ) y (nI n) w = (match w.1 ρ with
            | none => ((-1000011 : Int32), nI 1)
            | some (_, s) => if okInB s y (nI n) = true then (nI (s_wh wy r wi (fun k => w.2.1 ρ (y.toNatClampNeg + k)) n 5), nI 0) else (-1000012, nI 2)) := by
          unfold g_who
          rw [if_pos c10, if_pos c17, if_pos c30, nI_clamp (show ρ < 2 ^ 31 by omega), nI_clamp (show n < 2 ^ 31 by omega), nI_clamp (show wi < 2 ^ 31 by omega)]
          try rfl
        refine r_aload_n dX6_who_36 rfl ?_
        refine r_getR (ci := 6) (k := 2) wf_X6_7 dX6_who_37 z_219 k_219 (by decide) (by decide) (fun _ _ => rfl) f_219_2 ?_
        refine r_iload_n dX6_who_40 rfl ?_
        refine r_iald dX6_who_41 z_220 k_220 (vp_in_nI (by omega) (by decide)) (fun z12 hz12 => ?_)
        rw [nI_clamp (by omega)] at hz12
        obtain rfl : z12 = thD D 220 ρ := hz12
        refine r_if_ge (tgt := 51) dX6_who_42 (by decide) (fun c42 => ?_) (fun c42 => ?_)
        · skip
          obtain ⟨l, s, hls⟩ := mlane_s hw0 (Int32.not_lt.mpr c42)
          rw [hls] at hw0 he
          obtain ⟨hs1, hs2, hs3, hs4, hs5⟩ := hw0
          refine r_iload_n dX6_who_51 rfl ?_
          refine r_if_lt (tgt := 72) dX6_who_52 (by decide) (fun c52 => ?_) (fun c52 => ?_)
          · skip
            have hno : ¬ okInB s y (nI n) = true := fun q => Int32.not_lt.mpr (okInB_iff.mp q).1 c52
            refine r_aload_n dX6_who_72 rfl ?_
            refine r_iconst (nI 2) dX6_who_73 (by decide) ?_
            refine r_callVI (As := [.int (nI 2)]) (o := 219) (c_X6_finding B (thD D) E (nI 2)) hv_X6_finding wm_X6_75 dX6_who_74 rfl rfl z_219 k_219 (by decide) rfl (Nat.le_of_ble_eq_true rfl) ⟨Nat.le_of_ble_eq_true rfl, Nat.le_of_ble_eq_true rfl, Nat.zero_le _, Nat.zero_le _⟩ ⟨rfl, rfl⟩ (fun z13 D14 E15 hz13 => ?_)
            obtain ⟨hq1, hqD, hqE⟩ := hz13
            obtain rfl := hqE.symm
            subst hqD
            subst hq1
            refine r_iret2 dX6_who_77 rfl ⟨Nat.zero_le _, Nat.zero_le _⟩ ?_
            have he3 := he.trans (if_neg hno)
            rw [he3]
            exact ⟨fd_2, stM_at, (MXs.of MX.th).st, rfl⟩
          · skip
            refine r_iload_n dX6_who_55 rfl ?_
            refine r_i2l dX6_who_56 (fun z16 hz16 => ?_)
            subst hz16
            refine r_iload dX6_who_57 rfl ?_
            refine r_i2l dX6_who_59 (fun z17 hz17 => ?_)
            subst hz17
            refine r_ladd dX6_who_60 (fun z18 hz18 => ?_)
            subst hz18
            refine r_aload_n dX6_who_61 rfl ?_
            refine r_getR (ci := 6) (k := 3) wf_X6_13 dX6_who_62 z_219 k_219 (by decide) (by decide) (fun _ _ => rfl) f_219_3 ?_
            refine r_iload_n dX6_who_65 rfl ?_
            refine r_iald dX6_who_66 z_221 k_221 (vp_in_nI (by omega) (by decide)) (fun z19 hz19 => ?_)
            rw [nI_clamp (by omega)] at hz19
            obtain rfl : z19 = nI s := hz19.trans hs4
            refine r_i2l dX6_who_67 (fun z20 hz20 => ?_)
            subst hz20
            refine r_lcmp dX6_who_68 (fun z21 hz21 => ?_)
            subst hz21
            refine r_if_le (tgt := 78) dX6_who_69 (by decide) (fun c69 => ?_) (fun c69 => ?_)
            · skip
              rw [lgs hs2 c52 (nI_pos (by omega))] at c69
              obtain ⟨a, b, rfl, hb2, hab⟩ := okIn_n (by omega) (okInB_iff.mp c69)
              have hbn : n = b := (nI_eq (by omega) (by omega)).mp hb2
              have he2 : g_who wy r (nI wi) (nI ρ) (nI a) (nI n) w = (nI (s_wh wy r wi (fun k => w.2.1 ρ (a + k)) n 5), nI 0) := by
                rw [he]
                show (if _ then _ else _) = _
                rw [if_pos c69, nI_clamp (show a < 2 ^ 31 by omega)]
              refine r_aload_n dX6_who_78 rfl ?_
              refine r_iconst (nI 0) dX6_who_79 (by decide) ?_
              refine r_putI (ci := 6) (k := 1) wf_X6_58 dX6_who_80 z_219 k_219 (by decide) (by decide) rfl rfl (fun D22 hD22 => ?_)
              obtain rfl : D22 = stM (thD D) (nI 0) := hD22.trans up2_eq
              have hM1 : MA (stM (thD D) (nI 0)) 223 r := fun k hk => (congrFun (stM_q (by decide)) k).trans (hM k hk)
              have hwy1 : ∀ j, j < 6 * r 0 → (stM (thD D) (nI 0)) 228 j = nI (wy j) := fun j hj => (congrFun (stM_q (by decide)) j).trans (hwy j hj)
              have hMs : MXs D (stM (thD D) (nI 0)) := (MXs.of MX.th).st
              have hIt : ∀ j, j < s → (stM (thD D) (nI 0)) 222 (40 * ρ + j) = w.2.1 ρ j := fun j hj => (congrFun (stM_q (by decide)) _).trans (hs5 j hj)
              refine r_iconst (nI 0) dX6_who_83 (by decide) ?_
              refine r_istore [(5, .int (nI 0)), (0, .ref (B + 219)), (1, .int (nI wi)), (2, .int (nI ρ)), (3, .int (nI a)), (4, .int (nI n))] dX6_who_84 (by decide) rfl ?_
              refine r_lv [(5, .int (nI (s_wh wy r wi (fun k => w.2.1 ρ (a + k)) n 0))), (0, .ref (B + 219)), (1, .int (nI wi)), (2, .int (nI ρ)), (3, .int (nI a)), (4, .int (nI n))] (List.forall_mem_cons.mpr ⟨congrArg (fun x => some (Value.int x)) rfl, List.forall_mem_cons.mpr ⟨rfl, List.forall_mem_cons.mpr ⟨rfl, List.forall_mem_cons.mpr ⟨rfl, List.forall_mem_cons.mpr ⟨rfl, List.forall_mem_cons.mpr ⟨rfl, fun _ h => absurd h List.not_mem_nil⟩⟩⟩⟩⟩⟩) ?_
              refine r_iconst (nI 1) dX6_who_86 (by decide) ?_
              refine r_istore [(6, .int (nI 1)), (5, .int (nI (s_wh wy r wi (fun k => w.2.1 ρ (a + k)) n 0))), (0, .ref (B + 219)), (1, .int (nI wi)), (2, .int (nI ρ)), (3, .int (nI a)), (4, .int (nI n))] dX6_who_87 (by decide) rfl ?_
              refine r_lv [(6, .int (nI (0 + 1))), (5, .int (nI (s_wh wy r wi (fun k => w.2.1 ρ (a + k)) n 0))), (0, .ref (B + 219)), (1, .int (nI wi)), (2, .int (nI ρ)), (3, .int (nI a)), (4, .int (nI n))] (List.forall_mem_cons.mpr ⟨congrArg (fun x => some (Value.int x)) rfl, List.forall_mem_cons.mpr ⟨rfl, List.forall_mem_cons.mpr ⟨rfl, List.forall_mem_cons.mpr ⟨rfl, List.forall_mem_cons.mpr ⟨rfl, List.forall_mem_cons.mpr ⟨rfl, List.forall_mem_cons.mpr ⟨rfl, fun _ h => absurd h List.not_mem_nil⟩⟩⟩⟩⟩⟩⟩) ?_
              have L : ∀ (fu k : Nat) (Dk : DD), k ≤ 5 → 5 - k < fu → (MX (stM (thD D) (nI 0)) Dk) → RW yX6_who cX6_who 7 (some .int) rX6_who B (Q2 Z0 (pI (fun r9 D' E' => r9 = (g_who wy r (nI wi) (nI ρ) (nI a) (nI n) w).1 ∧ D' 219 1 = (g_who wy r (nI wi) (nI ρ) (nI a) (nI n) w).2 ∧ MXs D D' ∧ E' = E))) Z0 Dk E 0 0 89 [(6, .int (nI (k + 1))), (5, .int (nI (s_wh wy r wi (fun k => w.2.1 ρ (a + k)) n k))), (0, .ref (B + 219)), (1, .int (nI wi)), (2, .int (nI ρ)), (3, .int (nI a)), (4, .int (nI n))] [] := by
                intro fu
                induction fu with
                | zero => intro k Dk hku hfu _; omega
                | succ fu ih =>
                  intro k Dk hku hfu hI
                  refine r_iload dX6_who_89 rfl ?_
                  refine r_iconst (nI 5) dX6_who_91 (by decide) ?_
                  refine r_icmp_gt (tgt := 149) dX6_who_92 (by decide) (fun c92 => ?_) (fun c92 => ?_)
                  · skip
                    rw [nI_ltI (by omega) (by omega)] at c92
                    refine r_iload dX6_who_149 rfl ?_
                    refine r_iret2 dX6_who_151 rfl ⟨Nat.zero_le _, Nat.zero_le _⟩ ?_
                    have hkr : k = 5 := by omega
                    rw [he2]
                    exact ⟨by rw [hkr], (hI.2 1 (by decide)).trans stM_at, hMs.mx hI, rfl⟩
                  · skip
                    rw [nI_ltI (by omega) (by omega)] at c92
                    refine r_aload_n dX6_who_95 rfl ?_
                    refine r_callVV (As := []) (o := 219) (c_X6_layThen B Dk E r (hI.ma hM1)) hv_X6_layThen wm_X6_212 dX6_who_96 rfl rfl z_219 k_219 (by decide) rfl (Nat.le_of_ble_eq_true rfl) ⟨Nat.le_of_ble_eq_true rfl, Nat.le_of_ble_eq_true rfl, Nat.zero_le _, Nat.zero_le _⟩ ⟨rfl, rfl⟩ (fun D24 E25 hz23 => ?_)
                    obtain ⟨hL1, hL2, hqE⟩ := hz23
                    obtain rfl := hqE.symm
                    have hXt : MX (stM (thD D) (nI 0)) D24 := hI.trans (MX.of (fun q a _ => hL1 q a))
                    refine r_aload_n dX6_who_99 rfl ?_
                    refine r_getR (ci := 6) (k := 7) wf_X6_25 dX6_who_100 z_219 k_219 (by decide) (by decide) (fun _ _ => rfl) f_219_7 ?_
                    refine r_bipush (nI 16) dX6_who_103 (by decide) ?_
                    refine r_bipush (nI 8) dX6_who_105 (by decide) ?_
                    refine r_iload_n dX6_who_107 rfl ?_
                    refine r_imul dX6_who_108 (fun z26 hz26 => ?_)
                    obtain rfl : z26 = nI (8 * wi) := (hz26.trans (pk_mul _ _))
                    refine r_iadd dX6_who_109 (fun z27 hz27 => ?_)
                    obtain rfl : z27 = nI (16 + (8 * wi)) := (hz27.trans (nI_add _ _))
                    refine r_iconst (nI 0) dX6_who_110 (by decide) ?_
                    refine r_iadd dX6_who_111 (fun z28 hz28 => ?_)
                    obtain rfl : z28 = nI ((16 + (8 * wi)) + 0) := (hz28.trans (nI_add _ _))
                    refine r_iload dX6_who_112 rfl ?_
                    refine r_iast dX6_who_114 z_225 k_225 (vp_in_nI (by omega) (by decide)) (fun D29 hD29 => ?_)
                    rw [nI_clamp (by omega)] at hD29
                    have hM5 : MA D29 225 (rset r (16 + 8 * wi) (k + 1)) := by rw [hD29]; exact MA_set hL2 (by omega)
                    have hX5 : MX (stM (thD D) (nI 0)) D29 := hXt.trans (MX.of (fun q h1 h2 => by rw [hD29]; exact up2_o h1))
                    refine r_iload dX6_who_115 rfl ?_
                    refine r_aload_n dX6_who_117 rfl ?_
                    refine r_bipush (nI 40) dX6_who_118 (by decide) ?_
                    refine r_iload_n dX6_who_120 rfl ?_
                    refine r_imul dX6_who_121 (fun z30 hz30 => ?_)
                    obtain rfl : z30 = nI (40 * ρ) := (hz30.trans (pk_mul _ _))
                    refine r_iload_n dX6_who_122 rfl ?_
                    refine r_iadd dX6_who_123 (fun z31 hz31 => ?_)
                    obtain rfl : z31 = nI ((40 * ρ) + a) := (hz31.trans (nI_add _ _))
                    refine r_iload dX6_who_124 rfl ?_
                    refine r_callVI (As := [.int (nI ((40 * ρ) + a)), .int (nI n)]) (o := 219) (c_X6_comesSo B D29 E wy (rset r (16 + 8 * wi) (k + 1)) (WF_set hW (Or.inr ⟨wi, hwi, by omega⟩)) (HB_set hH (by omega)) (WY_set hY (by omega)) hM5 (hX5.wy (by rw [rset_n (by omega)]; exact hwy1)) (40 * ρ + a) n (fun k => w.2.1 ρ (a + k)) (fun j hj => (congrFun (hX5.1 222 (by decide) (by decide) (by decide)) _).trans (by rw [Nat.add_assoc]; exact hIt (a + j) (by omega))) (by omega) (by omega)) hv_X6_comesSo wm_X6_223 dX6_who_126 rfl rfl z_219 k_219 (by decide) rfl (Nat.le_of_ble_eq_true rfl) ⟨Nat.le_of_ble_eq_true rfl, Nat.le_of_ble_eq_true rfl, Nat.zero_le _, Nat.zero_le _⟩ ⟨rfl, rfl⟩ (fun z32 D33 E34 hz32 => ?_)
                    obtain ⟨hq1, hF9, hqE⟩ := hz32
                    obtain rfl := hqE.symm
                    obtain rfl : z32 = bI (s_fits wy (s_kd r wi (k + 1)) (fun j => w.2.1 ρ (a + j)) n = true) := hq1.trans (bI_c (by rw [fits_kd b7 hwi]))
                    have hX9 : MX (stM (thD D) (nI 0)) D33 := hX5.trans (MX.of hF9)
                    refine r_if_eq (tgt := 139) dX6_who_129 (by decide) (fun c129 => ?_) (fun c129 => ?_)
                    · skip
                      rw [bI_0] at c129
                      refine r_iconst (nI 0) dX6_who_139 (by decide) ?_
                      refine r_ior dX6_who_140 (fun z35 hz35 => ?_)
                      obtain rfl : z35 = nI (s_wh wy r wi (fun k => w.2.1 ρ (a + k)) n (k + 1)) := hz35.trans ((nI_or _ _).trans (congrArg nI (by first | exact (if_pos c129).symm | exact (Nat.or_zero _).trans (if_neg c129).symm)))
                      refine r_istore [(5, .int (nI (s_wh wy r wi (fun k => w.2.1 ρ (a + k)) n (k + 1)))), (6, .int (nI (k + 1))), (0, .ref (B + 219)), (1, .int (nI wi)), (2, .int (nI ρ)), (3, .int (nI a)), (4, .int (nI n))] dX6_who_141 (by decide) rfl ?_
                      refine r_iinc (nI ((k + 1) + 1)) [(6, .int (nI ((k + 1) + 1))), (5, .int (nI (s_wh wy r wi (fun k => w.2.1 ρ (a + k)) n (k + 1)))), (0, .ref (B + 219)), (1, .int (nI wi)), (2, .int (nI ρ)), (3, .int (nI a)), (4, .int (nI n))] dX6_who_143 rfl (nI_1 _) (by decide) rfl ?_
                      refine r_goto (tgt := 89) dX6_who_146 (by decide) ?_
                      exact r_lv [(6, .int (nI ((k + 1) + 1))), (5, .int (nI (s_wh wy r wi (fun k => w.2.1 ρ (a + k)) n (k + 1)))), (0, .ref (B + 219)), (1, .int (nI wi)), (2, .int (nI ρ)), (3, .int (nI a)), (4, .int (nI n))] (List.forall_mem_cons.mpr ⟨rfl, List.forall_mem_cons.mpr ⟨rfl, List.forall_mem_cons.mpr ⟨rfl, List.forall_mem_cons.mpr ⟨rfl, List.forall_mem_cons.mpr ⟨rfl, List.forall_mem_cons.mpr ⟨rfl, List.forall_mem_cons.mpr ⟨rfl, fun _ h => absurd h List.not_mem_nil⟩⟩⟩⟩⟩⟩⟩) (ih (k + 1) D33 (by omega) (by omega) hX9)
                    · skip
                      rw [bI_n0] at c129
                      refine r_iconst (nI 1) dX6_who_132 (by decide) ?_
                      refine r_iload dX6_who_133 rfl ?_
                      refine r_ishl dX6_who_135 (fun z36 hz36 => ?_)
                      obtain rfl : z36 = nI (2 ^ (k + 1)) := hz36.trans (shl_1 (by omega))
                      refine r_goto (tgt := 140) dX6_who_136 (by decide) ?_
                      refine r_ior dX6_who_140 (fun z37 hz37 => ?_)
                      obtain rfl : z37 = nI (s_wh wy r wi (fun k => w.2.1 ρ (a + k)) n (k + 1)) := hz37.trans ((nI_or _ _).trans (congrArg nI (by first | exact (if_pos c129).symm | exact (Nat.or_zero _).trans (if_neg c129).symm)))
                      refine r_istore [(5, .int (nI (s_wh wy r wi (fun k => w.2.1 ρ (a + k)) n (k + 1)))), (6, .int (nI (k + 1))), (0, .ref (B + 219)), (1, .int (nI wi)), (2, .int (nI ρ)), (3, .int (nI a)), (4, .int (nI n))] dX6_who_141 (by decide) rfl ?_
                      refine r_iinc (nI ((k + 1) + 1)) [(6, .int (nI ((k + 1) + 1))), (5, .int (nI (s_wh wy r wi (fun k => w.2.1 ρ (a + k)) n (k + 1)))), (0, .ref (B + 219)), (1, .int (nI wi)), (2, .int (nI ρ)), (3, .int (nI a)), (4, .int (nI n))] dX6_who_143 rfl (nI_1 _) (by decide) rfl ?_
                      refine r_goto (tgt := 89) dX6_who_146 (by decide) ?_
                      exact r_lv [(6, .int (nI ((k + 1) + 1))), (5, .int (nI (s_wh wy r wi (fun k => w.2.1 ρ (a + k)) n (k + 1)))), (0, .ref (B + 219)), (1, .int (nI wi)), (2, .int (nI ρ)), (3, .int (nI a)), (4, .int (nI n))] (List.forall_mem_cons.mpr ⟨rfl, List.forall_mem_cons.mpr ⟨rfl, List.forall_mem_cons.mpr ⟨rfl, List.forall_mem_cons.mpr ⟨rfl, List.forall_mem_cons.mpr ⟨rfl, List.forall_mem_cons.mpr ⟨rfl, List.forall_mem_cons.mpr ⟨rfl, fun _ h => absurd h List.not_mem_nil⟩⟩⟩⟩⟩⟩⟩) (ih (k + 1) D33 (by omega) (by omega) hX9)
              exact r_lv [(6, .int (nI (0 + 1))), (5, .int (nI (s_wh wy r wi (fun k => w.2.1 ρ (a + k)) n 0))), (0, .ref (B + 219)), (1, .int (nI wi)), (2, .int (nI ρ)), (3, .int (nI a)), (4, .int (nI n))] (List.forall_mem_cons.mpr ⟨rfl, List.forall_mem_cons.mpr ⟨rfl, List.forall_mem_cons.mpr ⟨rfl, List.forall_mem_cons.mpr ⟨rfl, List.forall_mem_cons.mpr ⟨rfl, List.forall_mem_cons.mpr ⟨rfl, List.forall_mem_cons.mpr ⟨rfl, fun _ h => absurd h List.not_mem_nil⟩⟩⟩⟩⟩⟩⟩) (L (5 + 1) 0 (stM (thD D) (nI 0)) (by omega) (by omega) MX.rf)
            · skip
              rw [lgs hs2 c52 (nI_pos (by omega))] at c69
              have hno : ¬ okInB s y (nI n) = true := c69
              refine r_aload_n dX6_who_72 rfl ?_
              refine r_iconst (nI 2) dX6_who_73 (by decide) ?_
              refine r_callVI (As := [.int (nI 2)]) (o := 219) (c_X6_finding B (thD D) E (nI 2)) hv_X6_finding wm_X6_75 dX6_who_74 rfl rfl z_219 k_219 (by decide) rfl (Nat.le_of_ble_eq_true rfl) ⟨Nat.le_of_ble_eq_true rfl, Nat.le_of_ble_eq_true rfl, Nat.zero_le _, Nat.zero_le _⟩ ⟨rfl, rfl⟩ (fun z38 D39 E40 hz38 => ?_)
              obtain ⟨hq1, hqD, hqE⟩ := hz38
              obtain rfl := hqE.symm
              subst hqD
              subst hq1
              refine r_iret2 dX6_who_77 rfl ⟨Nat.zero_le _, Nat.zero_le _⟩ ?_
              have he3 := he.trans (if_neg hno)
              rw [he3]
              exact ⟨fd_2, stM_at, (MXs.of MX.th).st, rfl⟩
        · skip
          have hn := mlane_n hw0 (Int32.not_le.mp c42)
          refine r_aload_n dX6_who_45 rfl ?_
          refine r_iconst (nI 1) dX6_who_46 (by decide) ?_
          refine r_callVI (As := [.int (nI 1)]) (o := 219) (c_X6_finding B (thD D) E (nI 1)) hv_X6_finding wm_X6_75 dX6_who_47 rfl rfl z_219 k_219 (by decide) rfl (Nat.le_of_ble_eq_true rfl) ⟨Nat.le_of_ble_eq_true rfl, Nat.le_of_ble_eq_true rfl, Nat.zero_le _, Nat.zero_le _⟩ ⟨rfl, rfl⟩ (fun z41 D42 E43 hz41 => ?_)
          obtain ⟨hq1, hqD, hqE⟩ := hz41
          obtain rfl := hqE.symm
          subst hqD
          subst hq1
          refine r_iret2 dX6_who_50 rfl ⟨Nat.zero_le _, Nat.zero_le _⟩ ?_
          rw [hn] at he
          rw [he]
          exact ⟨fd_1, stM_at, (MXs.of MX.th).st, rfl⟩
      · skip
        rw [bI_0] at c30
        refine r_ldc wc_X6_74 dX6_who_33 ?_
        refine r_iret2 dX6_who_35 rfl ⟨Nat.zero_le _, Nat.zero_le _⟩ ?_
        have e : ∀ a b : Int32 × Int32, a = b → b = (-1000001, w.2.2) → (-1000001 : Int32) = a.1 ∧ thD D 219 1 = a.2 ∧ MXs D (thD D) ∧ E = E := fun a b h1 h2 => by rw [h1, h2]; exact ⟨rfl, (MX.th.2 1 (by decide)).trans hR0.2, MXs.of MX.th, rfl⟩
        refine e _ _ rfl ?_
        unfold g_who
        first | rw [if_neg c10] | rw [if_pos c10, if_neg c17] | rw [if_pos c10, if_pos c17, if_neg c30]
