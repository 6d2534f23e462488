set_option maxRecDepth 100000 in
set_option maxHeartbeats 4000000 in
theorem c_X6_awake (B : Nat) (D : DD) (E : EE) (wy : Nat → Nat) (r : Row) (hX0 : XM D wy r) (x what : Int32) : MR yX6_awake cX6_awake 14 (some .long) rX6_awake B [.ref (B + 219), .int x, .int what] Z0 D E (Q2 Z0 (pL (fun v D' E' => v = (if 0 < r 0 then g_awake wy r x what else -1000002) ∧ MX D D' ∧ E' = E))) := by
  have hX := hX0.th
  obtain ⟨hO, hM, hwy, hYY⟩ := id hX
  obtain ⟨l0, l5, l4, l6, l7, l8, l1⟩ := hO.le
  have hwy0 := hX0.2.2.1
  have hM0 := hX0.2.1
  refine r_enter [(0, .ref (B + 219)), (1, .int x), (2, .int what)] hv_X6_awake.1.2.2.2.2 (Nat.le_of_ble_eq_true rfl) rfl ?_
  refine r_aload_n dX6_awake_0 rfl ?_
  refine r_iconst (nI 0) dX6_awake_1 (by decide) ?_
  refine r_putI (ci := 6) (k := 0) wf_X6_54 dX6_awake_2 z_219 k_219 (by decide) (by decide) rfl rfl (fun D1 hD1 => ?_)
  obtain rfl : D1 = thD D := hD1.trans up2_eq
  refine r_aload_n dX6_awake_5 rfl ?_
  refine r_callVI (As := []) (o := 219) (c_X6_isThere B (thD D) E (r 0) (hM 0 (by decide)) l0) hv_X6_isThere wm_X6_193 dX6_awake_6 rfl rfl z_219 k_219 (by decide) rfl (Nat.le_of_ble_eq_true rfl) ⟨Nat.le_of_ble_eq_true rfl, Nat.le_of_ble_eq_true rfl, Nat.zero_le _, Nat.zero_le _⟩ ⟨rfl, rfl⟩ (fun z2 D3 E4 hz2 => ?_)
  obtain ⟨hqV, hqD, hqE⟩ := hz2
  obtain rfl : z2 = bI (0 < r 0) := hqV
  obtain rfl := hqD.symm
  obtain rfl := hqE.symm
  refine r_if_ne (tgt := 16) dX6_awake_9 (by decide) (fun c9 => ?_) (fun c9 => ?_)
  · skip
    rw [bI_n0] at c9
    obtain ⟨hW, hT, hH⟩ := hO.p c9
    have hY := hYY hW
    obtain ⟨b1, b2, b3, b4, b5, b6, b7, b8⟩ := hW.1
    have hT6 := wg_lt (r := r) _ b7
    refine r_iload_n dX6_awake_16 rfl ?_
    refine r_i2l dX6_awake_17 (fun z5 hz5 => ?_)
    subst hz5
    refine r_lconst ((nI 0).toInt64) dX6_awake_18 (by decide) ?_
    refine r_ldc2v ((nI 10).toInt64) wg_X6_237 dX6_awake_19 (by decide) ?_
    refine r_callSI (As := [.long x.toInt64, .long ((nI 0).toInt64), .long ((nI 10).toInt64)]) (c_X6_in B (thD D) E x (nI 0) (nI 10)) hs_X6_in wm_X6_64 rfl dX6_awake_22 rfl rfl (Nat.le_of_ble_eq_true rfl) ⟨Nat.le_of_ble_eq_true rfl, Nat.le_of_ble_eq_true rfl, Nat.zero_le _, Nat.zero_le _⟩ ⟨rfl, rfl⟩ (fun z6 D7 E8 hz6 => ?_)
    obtain ⟨hqV, hqD, hqE⟩ := hz6
    obtain rfl : z6 = bI (nI 0 ≤ x ∧ x ≤ nI 10) := hqV
    obtain rfl := hqD.symm
    obtain rfl := hqE.symm
    refine r_if_eq (tgt := 38) dX6_awake_25 (by decide) (fun c25 => ?_) (fun c25 => ?_)
    · skip
      rw [bI_0] at c25
      refine r_ldc2v ((Int32.ofInt (-1000001)).toInt64) wg_X6_239 dX6_awake_38 (by decide) ?_
      refine r_lret2 dX6_awake_41 rfl ⟨Nat.zero_le _, Nat.zero_le _⟩ ?_
      refine ⟨?_, MX.th, rfl⟩
      unfold g_awake
      rw [if_pos c9]
      first | (rw [if_neg c25]; decide) | (rw [if_pos c25, if_neg c35]; decide)
    · skip
      rw [bI_n0] at c25
      obtain ⟨p, hp1, hp2, rfl⟩ := rg (by decide) (by decide) c25
      refine r_iload_n dX6_awake_28 rfl ?_
      refine r_i2l dX6_awake_29 (fun z9 hz9 => ?_)
      subst hz9
      refine r_lconst ((nI 0).toInt64) dX6_awake_30 (by decide) ?_
      refine r_lconst ((nI 1).toInt64) dX6_awake_31 (by decide) ?_
      refine r_callSI (As := [.long what.toInt64, .long ((nI 0).toInt64), .long ((nI 1).toInt64)]) (c_X6_in B (thD D) E what (nI 0) (nI 1)) hs_X6_in wm_X6_64 rfl dX6_awake_32 rfl rfl (Nat.le_of_ble_eq_true rfl) ⟨Nat.le_of_ble_eq_true rfl, Nat.le_of_ble_eq_true rfl, Nat.zero_le _, Nat.zero_le _⟩ ⟨rfl, rfl⟩ (fun z10 D11 E12 hz10 => ?_)
      obtain ⟨hqV, hqD, hqE⟩ := hz10
      obtain rfl : z10 = bI (nI 0 ≤ what ∧ what ≤ nI 1) := hqV
      obtain rfl := hqD.symm
      obtain rfl := hqE.symm
      refine r_if_ne (tgt := 42) dX6_awake_35 (by decide) (fun c35 => ?_) (fun c35 => ?_)
      · skip
        rw [bI_n0] at c35
        obtain ⟨wh, hw1, hw2, rfl⟩ := rg (by decide) (by decide) c35
        refine r_iconst (nI 0) dX6_awake_42 (by decide) ?_
        refine r_istore_n [(3, .int (nI 0)), (0, .ref (B + 219)), (1, .int (nI p)), (2, .int (nI wh))] dX6_awake_43 (by decide) rfl ?_
        refine r_lv [(3, .int (nI (s_wg r 0))), (0, .ref (B + 219)), (1, .int (nI p)), (2, .int (nI wh))] (List.forall_mem_cons.mpr ⟨congrArg (fun x => some (Value.int x)) rfl, List.forall_mem_cons.mpr ⟨rfl, List.forall_mem_cons.mpr ⟨rfl, List.forall_mem_cons.mpr ⟨rfl, fun _ h => absurd h List.not_mem_nil⟩⟩⟩⟩) ?_
        refine r_iconst (nI 0) dX6_awake_44 (by decide) ?_
        refine r_istore [(4, .int (nI 0)), (3, .int (nI (s_wg r 0))), (0, .ref (B + 219)), (1, .int (nI p)), (2, .int (nI wh))] dX6_awake_45 (by decide) rfl ?_
        have L : ∀ fu k : Nat, k ≤ r 5 → r 5 - k < fu → RW yX6_awake cX6_awake 14 (some .long) rX6_awake B (Q2 Z0 (pL (fun v D' E' => v = (if 0 < r 0 then g_awake wy r (nI p) (nI wh) else -1000002) ∧ MX D D' ∧ E' = E))) Z0 (thD D) E 0 0 47 [(4, .int (nI k)), (3, .int (nI (s_wg r k))), (0, .ref (B + 219)), (1, .int (nI p)), (2, .int (nI wh))] [] := by
          intro fu
          induction fu with
          | zero => intro k hku hfu; omega
          | succ fu ih =>
            intro k hku hfu 
            refine r_iload dX6_awake_47 rfl ?_
            refine r_aload_n dX6_awake_49 rfl ?_
            refine r_getR (ci := 6) (k := 5) wf_X6_19 dX6_awake_50 z_219 k_219 (by decide) (by decide) (fun _ _ => rfl) f_219_5 ?_
            refine r_iconst (nI 5) dX6_awake_53 (by decide) ?_
            refine r_iald dX6_awake_54 z_223 k_223 (vp_in_nI (by decide) (by decide)) (fun z13 hz13 => ?_)
            rw [nI_clamp (by omega)] at hz13
            obtain rfl : z13 = nI (r 5) := hz13.trans (hM 5 (by decide))
            refine r_icmp_ge (tgt := 87) dX6_awake_55 (by decide) (fun c55 => ?_) (fun c55 => ?_)
            · skip
              rw [nI_leI (by omega) (by omega)] at c55
              have hk5 : k = r 5 := by omega
              refine r_lconst (nG 0) dX6_awake_87 (by decide) ?_
              refine r_lstore [(4, .long (nG 0)), (3, .int (nI (s_wg r k))), (0, .ref (B + 219)), (1, .int (nI p)), (2, .int (nI wh))] dX6_awake_88 (by decide) rfl ?_
              refine r_lv [(4, .long (nG (s_ab wy r p 0))), (3, .int (nI (s_wg r (r 5)))), (0, .ref (B + 219)), (1, .int (nI p)), (2, .int (nI wh))] (List.forall_mem_cons.mpr ⟨congrArg (fun x => some (Value.long x)) rfl, List.forall_mem_cons.mpr ⟨congrArg (fun x => some (Value.int x)) (by rw [hk5]), List.forall_mem_cons.mpr ⟨rfl, List.forall_mem_cons.mpr ⟨rfl, List.forall_mem_cons.mpr ⟨rfl, fun _ h => absurd h List.not_mem_nil⟩⟩⟩⟩⟩) ?_
              refine r_lconst (nG 0) dX6_awake_90 (by decide) ?_
              refine r_lstore [(6, .long (nG 0)), (4, .long (nG (s_ab wy r p 0))), (3, .int (nI (s_wg r (r 5)))), (0, .ref (B + 219)), (1, .int (nI p)), (2, .int (nI wh))] dX6_awake_91 (by decide) rfl ?_
              refine r_lv [(6, .long (nG (s_bl p (s_wg r (r 5)) 0))), (4, .long (nG (s_ab wy r p 0))), (3, .int (nI (s_wg r (r 5)))), (0, .ref (B + 219)), (1, .int (nI p)), (2, .int (nI wh))] (List.forall_mem_cons.mpr ⟨congrArg (fun x => some (Value.long x)) rfl, List.forall_mem_cons.mpr ⟨rfl, List.forall_mem_cons.mpr ⟨rfl, List.forall_mem_cons.mpr ⟨rfl, List.forall_mem_cons.mpr ⟨rfl, List.forall_mem_cons.mpr ⟨rfl, fun _ h => absurd h List.not_mem_nil⟩⟩⟩⟩⟩⟩) ?_
              refine r_iconst (nI 0) dX6_awake_93 (by decide) ?_
              refine r_istore [(8, .int (nI 0)), (6, .long (nG (s_bl p (s_wg r (r 5)) 0))), (4, .long (nG (s_ab wy r p 0))), (3, .int (nI (s_wg r (r 5)))), (0, .ref (B + 219)), (1, .int (nI p)), (2, .int (nI wh))] dX6_awake_94 (by decide) rfl ?_
              have L : ∀ (fu k : Nat) (Dk : DD), k ≤ 64 → 64 - k < fu → (MX D Dk) → RW yX6_awake cX6_awake 14 (some .long) rX6_awake B (Q2 Z0 (pL (fun v D' E' => v = (if 0 < r 0 then g_awake wy r (nI p) (nI wh) else -1000002) ∧ MX D D' ∧ E' = E))) Z0 Dk E 0 0 96 [(8, .int (nI k)), (6, .long (nG (s_bl p (s_wg r (r 5)) k))), (4, .long (nG (s_ab wy r p k))), (3, .int (nI (s_wg r (r 5)))), (0, .ref (B + 219)), (1, .int (nI p)), (2, .int (nI wh))] [] := by
                intro fu
                induction fu with
                | zero => intro k Dk hku hfu _; omega
                | succ fu ih =>
                  intro k Dk hku hfu hI
                  refine r_iload dX6_awake_96 rfl ?_
                  refine r_bipush (nI 64) dX6_awake_98 (by decide) ?_
                  refine r_icmp_ge (tgt := 235) dX6_awake_100 (by decide) (fun c100 => ?_) (fun c100 => ?_)
                  · skip
                    rw [nI_leI (by omega) (by omega)] at c100
                    have hk64 : k = 64 := by omega
                    have hJ0 : MX D Dk := hI
                    have hbl : s_bl p (s_wg r (r 5)) k = 10 ^ s_bits (s_wg r (r 5)) := by rw [hk64]; exact bl_all p (by omega) _ hT6
                    have h10 := p10_le (s_bits_le (c := s_wg r (r 5)))
                    have h11 : 1 ≤ 10 ^ s_bits (s_wg r (r 5)) := Nat.one_le_pow _ _ (by decide)
                    have hab := s_ab_lt (wy := wy) (r := r) hp2 b7 k (by omega)
                    have hE0 : EU (Nat.gcd (s_ab wy r p k) (s_bl p (s_wg r (r 5)) k)) 0 (s_ab wy r p k) (s_bl p (s_wg r (r 5)) k) := ⟨rfl, by omega, by show _ * 1 < _; omega, fun h => absurd h (by decide)⟩
                    have hg1 : 1 ≤ Nat.gcd (s_ab wy r p k) (s_bl p (s_wg r (r 5)) k) := Nat.gcd_pos_of_pos_right _ (by omega)
                    have hge : Nat.gcd (s_ab wy r p k) (s_bl p (s_wg r (r 5)) k) = Nat.gcd (10 ^ s_bits (s_wg r (r 5))) (s_ab wy r p 64) := by rw [Nat.gcd_comm, hbl, hk64]
                    refine r_lload dX6_awake_235 rfl ?_
                    refine r_lstore [(8, .long (nG (s_ab wy r p k))), (6, .long (nG (s_bl p (s_wg r (r 5)) k))), (4, .long (nG (s_ab wy r p k))), (3, .int (nI (s_wg r (r 5)))), (0, .ref (B + 219)), (1, .int (nI p)), (2, .int (nI wh))] dX6_awake_237 (by decide) rfl ?_
                    refine r_lload dX6_awake_239 rfl ?_
                    refine r_lstore [(10, .long (nG (s_bl p (s_wg r (r 5)) k))), (8, .long (nG (s_ab wy r p k))), (6, .long (nG (s_bl p (s_wg r (r 5)) k))), (4, .long (nG (s_ab wy r p k))), (3, .int (nI (s_wg r (r 5)))), (0, .ref (B + 219)), (1, .int (nI p)), (2, .int (nI wh))] dX6_awake_241 (by decide) rfl ?_
                    have L3 : ∀ (fu e : Nat) (x y : Nat), e ≤ 100 → 100 - e < fu → (EU (Nat.gcd (s_ab wy r p k) (s_bl p (s_wg r (r 5)) k)) e x y) → RW yX6_awake cX6_awake 14 (some .long) rX6_awake B (Q2 Z0 (pL (fun v D' E' => v = (if 0 < r 0 then g_awake wy r (nI p) (nI wh) else -1000002) ∧ MX D D' ∧ E' = E))) Z0 Dk E 0 0 243 [(10, .long (nG y)), (8, .long (nG x)), (6, .long (nG (s_bl p (s_wg r (r 5)) k))), (4, .long (nG (s_ab wy r p k))), (0, .ref (B + 219)), (1, .int (nI p)), (2, .int (nI wh))] [] := by
                      intro fu
                      induction fu with
                      | zero => intro e x y hku hfu _; omega
                      | succ fu ihL3 =>
                        intro e x y hku hfu hI
                        have hE := hI
                        have hx := hE.2.1
                        have hy := EU_b hE
                        refine r_lload dX6_awake_243 rfl ?_
                        refine r_lconst (nG 0) dX6_awake_245 (by decide) ?_
                        refine r_lcmp dX6_awake_246 (fun z14 hz14 => ?_)
                        subst hz14
                        refine r_if_eq (tgt := 268) dX6_awake_247 (by decide) (fun c247 => ?_) (fun c247 => ?_)
                        · skip
                          rw [gc_eq (by omega) (by decide)] at c247
                          subst c247
                          have hxe := EU_g hE
                          refine r_iload_n dX6_awake_268 rfl ?_
                          refine r_if_ne (tgt := 277) dX6_awake_269 (by decide) (fun c269 => ?_) (fun c269 => ?_)
                          · skip
                            rw [nI_z (by omega)] at c269
                            refine r_lload dX6_awake_277 rfl ?_
                            refine r_lload dX6_awake_279 rfl ?_
                            refine r_ldiv dX6_awake_281 (fun q => absurd ((nG_z (by omega)).mp q) (by omega)) (fun z15 hz15 => ?_)
                            subst hz15
                            refine r_lret2 dX6_awake_282 rfl ⟨Nat.zero_le _, Nat.zero_le _⟩ ?_
                            refine ⟨?_, hJ0, rfl⟩
                            unfold g_awake
                            rw [if_pos c9, if_pos c25, if_pos c35, nI_clamp (by omega), ← hge, ← hxe, ← hk64]
                            first
                              | rw [if_pos ((nI_z (by omega)).mpr c269)]; exact nG_div (by omega) (by omega)
                              | rw [if_neg (fun q => c269 ((nI_z (by omega)).mp q)), ← hbl]; exact nG_div (by omega) (by omega)
                          · skip
                            rw [nI_z (by omega)] at c269
                            refine r_lload dX6_awake_272 rfl ?_
                            refine r_goto (tgt := 279) dX6_awake_274 (by decide) ?_
                            refine r_lload dX6_awake_279 rfl ?_
                            refine r_ldiv dX6_awake_281 (fun q => absurd ((nG_z (by omega)).mp q) (by omega)) (fun z16 hz16 => ?_)
                            subst hz16
                            refine r_lret2 dX6_awake_282 rfl ⟨Nat.zero_le _, Nat.zero_le _⟩ ?_
                            refine ⟨?_, hJ0, rfl⟩
                            unfold g_awake
                            rw [if_pos c9, if_pos c25, if_pos c35, nI_clamp (by omega), ← hge, ← hxe, ← hk64]
                            first
                              | rw [if_pos ((nI_z (by omega)).mpr c269)]; exact nG_div (by omega) (by omega)
                              | rw [if_neg (fun q => c269 ((nI_z (by omega)).mp q)), ← hbl]; exact nG_div (by omega) (by omega)
                        · skip
                          rw [gc_eq (by omega) (by decide)] at c247
                          have he9 : e < 100 := by
                            rcases Nat.lt_or_ge e 100 with h | h
                            · exact h
                            · have h9 : e = 100 := by omega
                              rw [h9] at hE
                              exact absurd (EU_e hE) c247
                          refine r_lload dX6_awake_250 rfl ?_
                          refine r_lload dX6_awake_252 rfl ?_
                          refine r_lrem dX6_awake_254 (fun q => c247 ((nG_z (by omega)).mp q)) (fun z17 hz17 => ?_)
                          obtain rfl : z17 = nG (x % y) := hz17.trans (nG_rem (by omega) (by omega))
                          refine r_lstore [(12, .long (nG (x % y))), (10, .long (nG y)), (8, .long (nG x)), (6, .long (nG (s_bl p (s_wg r (r 5)) k))), (4, .long (nG (s_ab wy r p k))), (0, .ref (B + 219)), (1, .int (nI p)), (2, .int (nI wh))] dX6_awake_255 (by decide) rfl ?_
                          refine r_lload dX6_awake_257 rfl ?_
                          refine r_lstore [(8, .long (nG y)), (12, .long (nG (x % y))), (10, .long (nG y)), (6, .long (nG (s_bl p (s_wg r (r 5)) k))), (4, .long (nG (s_ab wy r p k))), (0, .ref (B + 219)), (1, .int (nI p)), (2, .int (nI wh))] dX6_awake_259 (by decide) rfl ?_
                          refine r_lload dX6_awake_261 rfl ?_
                          refine r_lstore [(10, .long (nG (x % y))), (8, .long (nG y)), (12, .long (nG (x % y))), (6, .long (nG (s_bl p (s_wg r (r 5)) k))), (4, .long (nG (s_ab wy r p k))), (0, .ref (B + 219)), (1, .int (nI p)), (2, .int (nI wh))] dX6_awake_263 (by decide) rfl ?_
                          refine r_goto (tgt := 243) dX6_awake_265 (by decide) ?_
                          exact r_lv [(10, .long (nG (x % y))), (8, .long (nG y)), (6, .long (nG (s_bl p (s_wg r (r 5)) k))), (4, .long (nG (s_ab wy r p k))), (0, .ref (B + 219)), (1, .int (nI p)), (2, .int (nI wh))] (List.forall_mem_cons.mpr ⟨rfl, List.forall_mem_cons.mpr ⟨rfl, List.forall_mem_cons.mpr ⟨rfl, List.forall_mem_cons.mpr ⟨rfl, List.forall_mem_cons.mpr ⟨rfl, List.forall_mem_cons.mpr ⟨rfl, List.forall_mem_cons.mpr ⟨rfl, fun _ h => absurd h List.not_mem_nil⟩⟩⟩⟩⟩⟩⟩) (ihL3 (e + 1) y (x % y) (by omega) (by omega) (EU_s hE c247))
                    exact r_lv [(10, .long (nG (s_bl p (s_wg r (r 5)) k))), (8, .long (nG (s_ab wy r p k))), (6, .long (nG (s_bl p (s_wg r (r 5)) k))), (4, .long (nG (s_ab wy r p k))), (0, .ref (B + 219)), (1, .int (nI p)), (2, .int (nI wh))] (List.forall_mem_cons.mpr ⟨rfl, List.forall_mem_cons.mpr ⟨rfl, List.forall_mem_cons.mpr ⟨rfl, List.forall_mem_cons.mpr ⟨rfl, List.forall_mem_cons.mpr ⟨rfl, List.forall_mem_cons.mpr ⟨rfl, List.forall_mem_cons.mpr ⟨rfl, fun _ h => absurd h List.not_mem_nil⟩⟩⟩⟩⟩⟩⟩) (L3 (100 + 1) 0 (s_ab wy r p k) (s_bl p (s_wg r (r 5)) k) (by omega) (by omega) hE0)
                  · skip
                    rw [nI_leI (by omega) (by omega)] at c100
                    refine r_iload dX6_awake_103 rfl ?_
                    refine r_iload_n dX6_awake_105 rfl ?_
                    refine r_iconst ((-1)) dX6_awake_106 (by decide) ?_
                    refine r_ixor dX6_awake_107 (fun z18 hz18 => ?_)
                    subst hz18
                    refine r_iand dX6_awake_108 (fun z19 hz19 => ?_)
                    obtain rfl : z19 = nI (k &&& (63 ^^^ s_wg r (r 5))) := hz19.trans (mask_n _ hT6 _ (by omega))
                    refine r_if_ne (tgt := 229) dX6_awake_109 (by decide) (fun c109 => ?_) (fun c109 => ?_)
                    · skip
                      rw [nI_z (Nat.lt_of_le_of_lt Nat.and_le_left (by omega))] at c109
                      refine r_lv [(8, .int (nI k)), (6, .long (nG (s_bl p (s_wg r (r 5)) (k + 1)))), (4, .long (nG (s_ab wy r p (k + 1)))), (3, .int (nI (s_wg r (r 5)))), (0, .ref (B + 219)), (1, .int (nI p)), (2, .int (nI wh))] (List.forall_mem_cons.mpr ⟨rfl, List.forall_mem_cons.mpr ⟨congrArg (fun x => some (Value.long x)) (congrArg nG (if_neg c109).symm), List.forall_mem_cons.mpr ⟨congrArg (fun x => some (Value.long x)) (congrArg nG (s_ab_f (fun q => c109 q.1)).symm), List.forall_mem_cons.mpr ⟨rfl, List.forall_mem_cons.mpr ⟨rfl, List.forall_mem_cons.mpr ⟨rfl, List.forall_mem_cons.mpr ⟨rfl, fun _ h => absurd h List.not_mem_nil⟩⟩⟩⟩⟩⟩⟩) ?_
                      refine r_iinc (nI (k + 1)) [(8, .int (nI (k + 1))), (6, .long (nG (s_bl p (s_wg r (r 5)) (k + 1)))), (4, .long (nG (s_ab wy r p (k + 1)))), (3, .int (nI (s_wg r (r 5)))), (0, .ref (B + 219)), (1, .int (nI p)), (2, .int (nI wh))] dX6_awake_229 rfl (nI_1 _) (by decide) rfl ?_
                      refine r_goto (tgt := 96) dX6_awake_232 (by decide) ?_
                      exact r_lv [(8, .int (nI (k + 1))), (6, .long (nG (s_bl p (s_wg r (r 5)) (k + 1)))), (4, .long (nG (s_ab wy r p (k + 1)))), (3, .int (nI (s_wg r (r 5)))), (0, .ref (B + 219)), (1, .int (nI p)), (2, .int (nI wh))] (List.forall_mem_cons.mpr ⟨rfl, List.forall_mem_cons.mpr ⟨rfl, List.forall_mem_cons.mpr ⟨rfl, List.forall_mem_cons.mpr ⟨rfl, List.forall_mem_cons.mpr ⟨rfl, List.forall_mem_cons.mpr ⟨rfl, List.forall_mem_cons.mpr ⟨rfl, fun _ h => absurd h List.not_mem_nil⟩⟩⟩⟩⟩⟩⟩) (ih (k + 1) Dk (by omega) (by omega) ((by first | exact hX7 | exact hI)))
                    · skip
                      rw [nI_z (Nat.lt_of_le_of_lt Nat.and_le_left (by omega))] at c109
                      refine r_lconst (nG 1) dX6_awake_112 (by decide) ?_
                      refine r_lstore [(9, .long (nG 1)), (8, .int (nI k)), (6, .long (nG (s_bl p (s_wg r (r 5)) k))), (4, .long (nG (s_ab wy r p k))), (3, .int (nI (s_wg r (r 5)))), (0, .ref (B + 219)), (1, .int (nI p)), (2, .int (nI wh))] dX6_awake_113 (by decide) rfl ?_
                      refine r_lv [(9, .long (nG (s_cw p (s_wg r (r 5)) k 0))), (8, .int (nI k)), (6, .long (nG (s_bl p (s_wg r (r 5)) k))), (4, .long (nG (s_ab wy r p k))), (3, .int (nI (s_wg r (r 5)))), (0, .ref (B + 219)), (1, .int (nI p)), (2, .int (nI wh))] (List.forall_mem_cons.mpr ⟨congrArg (fun x => some (Value.long x)) rfl, List.forall_mem_cons.mpr ⟨rfl, List.forall_mem_cons.mpr ⟨rfl, List.forall_mem_cons.mpr ⟨rfl, List.forall_mem_cons.mpr ⟨rfl, List.forall_mem_cons.mpr ⟨rfl, List.forall_mem_cons.mpr ⟨rfl, List.forall_mem_cons.mpr ⟨rfl, fun _ h => absurd h List.not_mem_nil⟩⟩⟩⟩⟩⟩⟩⟩) ?_
                      refine r_iconst (nI 0) dX6_awake_115 (by decide) ?_
                      refine r_istore [(11, .int (nI 0)), (9, .long (nG (s_cw p (s_wg r (r 5)) k 0))), (8, .int (nI k)), (6, .long (nG (s_bl p (s_wg r (r 5)) k))), (4, .long (nG (s_ab wy r p k))), (3, .int (nI (s_wg r (r 5)))), (0, .ref (B + 219)), (1, .int (nI p)), (2, .int (nI wh))] dX6_awake_116 (by decide) rfl ?_
                      have L2 : ∀ fu j : Nat, j ≤ 6 → 6 - j < fu → RW yX6_awake cX6_awake 14 (some .long) rX6_awake B (Q2 Z0 (pL (fun v D' E' => v = (if 0 < r 0 then g_awake wy r (nI p) (nI wh) else -1000002) ∧ MX D D' ∧ E' = E))) Z0 Dk E 0 0 118 [(11, .int (nI j)), (9, .long (nG (s_cw p (s_wg r (r 5)) k j))), (8, .int (nI k)), (6, .long (nG (s_bl p (s_wg r (r 5)) k))), (4, .long (nG (s_ab wy r p k))), (3, .int (nI (s_wg r (r 5)))), (0, .ref (B + 219)), (1, .int (nI p)), (2, .int (nI wh))] [] := by
                        intro fu
                        induction fu with
                        | zero => intro j hku hfu; omega
                        | succ fu ihL2 =>
                          intro j hku hfu 
                          refine r_iload dX6_awake_118 rfl ?_
                          refine r_bipush (nI 6) dX6_awake_120 (by decide) ?_
                          refine r_icmp_ge (tgt := 171) dX6_awake_122 (by decide) (fun c122 => ?_) (fun c122 => ?_)
                          · skip
                            rw [nI_leI (by omega) (by omega)] at c122
                            have hj6 : j = 6 := by omega
                            have hch : s_cw p (s_wg r (r 5)) k j = s_ch p (s_wg r (r 5)) k := by rw [hj6]; exact cw_ch hT6 (by omega) c109
                            have hto : s_to (s_pull wy r k 0 (nI 0)) (r 1) (r 0) ≤ 9 := by rcases s_to_ok (f := s_pull wy r k 0 (nI 0)) b3 with h | h <;> omega
                            refine r_aload_n dX6_awake_171 rfl ?_
                            refine r_aload_n dX6_awake_172 rfl ?_
                            refine r_getR (ci := 6) (k := 5) wf_X6_19 dX6_awake_173 z_219 k_219 (by decide) (by decide) (fun _ _ => rfl) f_219_5 ?_
                            refine r_iload dX6_awake_176 rfl ?_
                            refine r_iconst (nI 0) dX6_awake_178 (by decide) ?_
                            refine r_iconst (nI 0) dX6_awake_179 (by decide) ?_
                            refine r_callVV (As := [.ref (B + 223), .int (nI k), .int (nI 0), .int (nI 0)]) (o := 219) (c_X6_layPulls B Dk E 223 (Or.inl rfl) r wy hW 999 hH (by decide) (hI.ma hM0) hY (hI.wy hwy0) k 0 (nI 0) (by omega) (by decide)) hv_X6_layPulls wm_X6_177 dX6_awake_180 rfl rfl z_219 k_219 (by decide) rfl (Nat.le_of_ble_eq_true rfl) ⟨Nat.le_of_ble_eq_true rfl, Nat.le_of_ble_eq_true rfl, Nat.zero_le _, Nat.zero_le _⟩ ⟨rfl, rfl⟩ (fun D21 E22 hz20 => ?_)
                            obtain ⟨⟨g, hgD, hg⟩, hqE⟩ := hz20
                            obtain rfl := hqE.symm
                            subst hgD
                            have hX7 : MX D (upo Dk 229 g) := hI.trans (MX.of (fun q h1 h2 => upo_n h2))
                            refine r_aload_n dX6_awake_183 rfl ?_
                            refine r_aload_n dX6_awake_184 rfl ?_
                            refine r_getR (ci := 6) (k := 5) wf_X6_19 dX6_awake_185 z_219 k_219 (by decide) (by decide) (fun _ _ => rfl) f_219_5 ?_
                            refine r_callVI (As := [.ref (B + 223)]) (o := 219) (c_X6_goesTo B (upo Dk 229 g) E 223 (Or.inl rfl) r wy hW 999 hH (by decide) (hX7.ma hM0) hY (s_pull wy r k 0 (nI 0)) (fun q hq => (congrFun upo_s q).trans (hg q hq))) hv_X6_goesTo wm_X6_181 dX6_awake_188 rfl rfl z_219 k_219 (by decide) rfl (Nat.le_of_ble_eq_true rfl) ⟨Nat.le_of_ble_eq_true rfl, Nat.le_of_ble_eq_true rfl, Nat.zero_le _, Nat.zero_le _⟩ ⟨rfl, rfl⟩ (fun z23 D24 E25 hz23 => ?_)
                            obtain ⟨hqV, hqD, hqE⟩ := hz23
                            obtain rfl : z23 = if s_to (s_pull wy r k 0 (nI 0)) (r 1) (r 0) = 9 then (-1000000) else nI (s_to (s_pull wy r k 0 (nI 0)) (r 1) (r 0)) := hqV
                            obtain rfl := hqD.symm
                            obtain rfl := hqE.symm
                            refine r_istore [(11, .int (if s_to (s_pull wy r k 0 (nI 0)) (r 1) (r 0) = 9 then (-1000000) else nI (s_to (s_pull wy r k 0 (nI 0)) (r 1) (r 0)))), (9, .long (nG (s_cw p (s_wg r (r 5)) k j))), (8, .int (nI k)), (6, .long (nG (s_bl p (s_wg r (r 5)) k))), (4, .long (nG (s_ab wy r p k))), (3, .int (nI (s_wg r (r 5)))), (0, .ref (B + 219)), (1, .int (nI p)), (2, .int (nI wh))] dX6_awake_191 (by decide) rfl ?_
                            refine r_lload dX6_awake_193 rfl ?_
                            refine r_lload dX6_awake_195 rfl ?_
                            refine r_ladd dX6_awake_197 (fun z26 hz26 => ?_)
                            obtain rfl : z26 = nG (s_bl p (s_wg r (r 5)) (k + 1)) := hz26.trans ((nG_add _ _).trans (congrArg nG (by rw [hch]; exact (if_pos c109).symm)))
                            refine r_lstore [(6, .long (nG (s_bl p (s_wg r (r 5)) (k + 1)))), (11, .int (if s_to (s_pull wy r k 0 (nI 0)) (r 1) (r 0) = 9 then (-1000000) else nI (s_to (s_pull wy r k 0 (nI 0)) (r 1) (r 0)))), (9, .long (nG (s_cw p (s_wg r (r 5)) k j))), (8, .int (nI k)), (4, .long (nG (s_ab wy r p k))), (3, .int (nI (s_wg r (r 5)))), (0, .ref (B + 219)), (1, .int (nI p)), (2, .int (nI wh))] dX6_awake_198 (by decide) rfl ?_
                            refine r_lload dX6_awake_200 rfl ?_
                            refine r_iload dX6_awake_202 rfl ?_
                            refine r_ldc wc_X6_97 dX6_awake_204 ?_
                            refine r_icmp_eq (tgt := 220) dX6_awake_206 (by decide) (fun c206 => ?_) (fun c206 => ?_)
                            · skip
                              rw [code_none hto] at c206
                              refine r_lconst (nG 0) dX6_awake_220 (by decide) ?_
                              refine r_goto (tgt := 226) dX6_awake_221 (by decide) ?_
                              refine r_ladd dX6_awake_226 (fun z27 hz27 => ?_)
                              obtain rfl : z27 = nG (s_ab wy r p (k + 1)) := hz27.trans ((nG_add _ _).trans (congrArg nG (by first | exact (Nat.add_zero _).trans (s_ab_f (fun q => gb_9 c206 q.2)).symm | exact (Nat.add_zero _).trans (s_ab_f (fun q => gb_a c217 q.2)).symm | (rw [hch, s_ab_t c109 (gb_t c206 c217)]))))
                              refine r_lstore [(4, .long (nG (s_ab wy r p (k + 1)))), (6, .long (nG (s_bl p (s_wg r (r 5)) (k + 1)))), (11, .int (if s_to (s_pull wy r k 0 (nI 0)) (r 1) (r 0) = 9 then (-1000000) else nI (s_to (s_pull wy r k 0 (nI 0)) (r 1) (r 0)))), (9, .long (nG (s_cw p (s_wg r (r 5)) k j))), (8, .int (nI k)), (3, .int (nI (s_wg r (r 5)))), (0, .ref (B + 219)), (1, .int (nI p)), (2, .int (nI wh))] dX6_awake_227 (by decide) rfl ?_
                              refine r_iinc (nI (k + 1)) [(8, .int (nI (k + 1))), (4, .long (nG (s_ab wy r p (k + 1)))), (6, .long (nG (s_bl p (s_wg r (r 5)) (k + 1)))), (11, .int (if s_to (s_pull wy r k 0 (nI 0)) (r 1) (r 0) = 9 then (-1000000) else nI (s_to (s_pull wy r k 0 (nI 0)) (r 1) (r 0)))), (9, .long (nG (s_cw p (s_wg r (r 5)) k j))), (3, .int (nI (s_wg r (r 5)))), (0, .ref (B + 219)), (1, .int (nI p)), (2, .int (nI wh))] dX6_awake_229 rfl (nI_1 _) (by decide) rfl ?_
                              refine r_goto (tgt := 96) dX6_awake_232 (by decide) ?_
                              exact r_lv [(8, .int (nI (k + 1))), (6, .long (nG (s_bl p (s_wg r (r 5)) (k + 1)))), (4, .long (nG (s_ab wy r p (k + 1)))), (3, .int (nI (s_wg r (r 5)))), (0, .ref (B + 219)), (1, .int (nI p)), (2, .int (nI wh))] (List.forall_mem_cons.mpr ⟨rfl, List.forall_mem_cons.mpr ⟨rfl, List.forall_mem_cons.mpr ⟨rfl, List.forall_mem_cons.mpr ⟨rfl, List.forall_mem_cons.mpr ⟨rfl, List.forall_mem_cons.mpr ⟨rfl, List.forall_mem_cons.mpr ⟨rfl, fun _ h => absurd h List.not_mem_nil⟩⟩⟩⟩⟩⟩⟩) (ih (k + 1) (upo Dk 229 g) (by omega) (by omega) ((by first | exact hX7 | exact hI)))
                            · skip
                              rw [code_none hto] at c206
                              refine r_lv [(6, .long (nG (s_bl p (s_wg r (r 5)) (k + 1)))), (11, .int (nI (s_to (s_pull wy r k 0 (nI 0)) (r 1) (r 0)))), (9, .long (nG (s_cw p (s_wg r (r 5)) k j))), (8, .int (nI k)), (4, .long (nG (s_ab wy r p k))), (3, .int (nI (s_wg r (r 5)))), (0, .ref (B + 219)), (1, .int (nI p)), (2, .int (nI wh))] (List.forall_mem_cons.mpr ⟨rfl, List.forall_mem_cons.mpr ⟨congrArg (fun x => some (Value.int x)) (if_neg c206), List.forall_mem_cons.mpr ⟨rfl, List.forall_mem_cons.mpr ⟨rfl, List.forall_mem_cons.mpr ⟨rfl, List.forall_mem_cons.mpr ⟨rfl, List.forall_mem_cons.mpr ⟨rfl, List.forall_mem_cons.mpr ⟨rfl, List.forall_mem_cons.mpr ⟨rfl, fun _ h => absurd h List.not_mem_nil⟩⟩⟩⟩⟩⟩⟩⟩⟩) ?_
                              refine r_iload dX6_awake_209 rfl ?_
                              refine r_aload_n dX6_awake_211 rfl ?_
                              refine r_getR (ci := 6) (k := 5) wf_X6_19 dX6_awake_212 z_219 k_219 (by decide) (by decide) (fun _ _ => rfl) f_219_5 ?_
                              refine r_iconst (nI 1) dX6_awake_215 (by decide) ?_
                              refine r_iald dX6_awake_216 z_223 k_223 (vp_in_nI (by decide) (by decide)) (fun z28 hz28 => ?_)
                              rw [nI_clamp (by omega)] at hz28
                              obtain rfl : z28 = nI (r 1) := hz28.trans (hX7.ma hM0 1 (by decide))
                              refine r_icmp_ne (tgt := 224) dX6_awake_217 (by decide) (fun c217 => ?_) (fun c217 => ?_)
                              · skip
                                rw [nI_eq (by omega) (by omega)] at c217
                                refine r_lload dX6_awake_224 rfl ?_
                                refine r_ladd dX6_awake_226 (fun z29 hz29 => ?_)
                                obtain rfl : z29 = nG (s_ab wy r p (k + 1)) := hz29.trans ((nG_add _ _).trans (congrArg nG (by first | exact (Nat.add_zero _).trans (s_ab_f (fun q => gb_9 c206 q.2)).symm | exact (Nat.add_zero _).trans (s_ab_f (fun q => gb_a c217 q.2)).symm | (rw [hch, s_ab_t c109 (gb_t c206 c217)]))))
                                refine r_lstore [(4, .long (nG (s_ab wy r p (k + 1)))), (6, .long (nG (s_bl p (s_wg r (r 5)) (k + 1)))), (11, .int (nI (s_to (s_pull wy r k 0 (nI 0)) (r 1) (r 0)))), (9, .long (nG (s_cw p (s_wg r (r 5)) k j))), (8, .int (nI k)), (3, .int (nI (s_wg r (r 5)))), (0, .ref (B + 219)), (1, .int (nI p)), (2, .int (nI wh))] dX6_awake_227 (by decide) rfl ?_
                                refine r_iinc (nI (k + 1)) [(8, .int (nI (k + 1))), (4, .long (nG (s_ab wy r p (k + 1)))), (6, .long (nG (s_bl p (s_wg r (r 5)) (k + 1)))), (11, .int (nI (s_to (s_pull wy r k 0 (nI 0)) (r 1) (r 0)))), (9, .long (nG (s_cw p (s_wg r (r 5)) k j))), (3, .int (nI (s_wg r (r 5)))), (0, .ref (B + 219)), (1, .int (nI p)), (2, .int (nI wh))] dX6_awake_229 rfl (nI_1 _) (by decide) rfl ?_
                                refine r_goto (tgt := 96) dX6_awake_232 (by decide) ?_
                                exact r_lv [(8, .int (nI (k + 1))), (6, .long (nG (s_bl p (s_wg r (r 5)) (k + 1)))), (4, .long (nG (s_ab wy r p (k + 1)))), (3, .int (nI (s_wg r (r 5)))), (0, .ref (B + 219)), (1, .int (nI p)), (2, .int (nI wh))] (List.forall_mem_cons.mpr ⟨rfl, List.forall_mem_cons.mpr ⟨rfl, List.forall_mem_cons.mpr ⟨rfl, List.forall_mem_cons.mpr ⟨rfl, List.forall_mem_cons.mpr ⟨rfl, List.forall_mem_cons.mpr ⟨rfl, List.forall_mem_cons.mpr ⟨rfl, fun _ h => absurd h List.not_mem_nil⟩⟩⟩⟩⟩⟩⟩) (ih (k + 1) (upo Dk 229 g) (by omega) (by omega) ((by first | exact hX7 | exact hI)))
                              · skip
                                rw [nI_eq (by omega) (by omega)] at c217
                                refine r_lconst (nG 0) dX6_awake_220 (by decide) ?_
                                refine r_goto (tgt := 226) dX6_awake_221 (by decide) ?_
                                refine r_ladd dX6_awake_226 (fun z30 hz30 => ?_)
                                obtain rfl : z30 = nG (s_ab wy r p (k + 1)) := hz30.trans ((nG_add _ _).trans (congrArg nG (by first | exact (Nat.add_zero _).trans (s_ab_f (fun q => gb_9 c206 q.2)).symm | exact (Nat.add_zero _).trans (s_ab_f (fun q => gb_a c217 q.2)).symm | (rw [hch, s_ab_t c109 (gb_t c206 c217)]))))
                                refine r_lstore [(4, .long (nG (s_ab wy r p (k + 1)))), (6, .long (nG (s_bl p (s_wg r (r 5)) (k + 1)))), (11, .int (nI (s_to (s_pull wy r k 0 (nI 0)) (r 1) (r 0)))), (9, .long (nG (s_cw p (s_wg r (r 5)) k j))), (8, .int (nI k)), (3, .int (nI (s_wg r (r 5)))), (0, .ref (B + 219)), (1, .int (nI p)), (2, .int (nI wh))] dX6_awake_227 (by decide) rfl ?_
                                refine r_iinc (nI (k + 1)) [(8, .int (nI (k + 1))), (4, .long (nG (s_ab wy r p (k + 1)))), (6, .long (nG (s_bl p (s_wg r (r 5)) (k + 1)))), (11, .int (nI (s_to (s_pull wy r k 0 (nI 0)) (r 1) (r 0)))), (9, .long (nG (s_cw p (s_wg r (r 5)) k j))), (3, .int (nI (s_wg r (r 5)))), (0, .ref (B + 219)), (1, .int (nI p)), (2, .int (nI wh))] dX6_awake_229 rfl (nI_1 _) (by decide) rfl ?_
                                refine r_goto (tgt := 96) dX6_awake_232 (by decide) ?_
                                exact r_lv [(8, .int (nI (k + 1))), (6, .long (nG (s_bl p (s_wg r (r 5)) (k + 1)))), (4, .long (nG (s_ab wy r p (k + 1)))), (3, .int (nI (s_wg r (r 5)))), (0, .ref (B + 219)), (1, .int (nI p)), (2, .int (nI wh))] (List.forall_mem_cons.mpr ⟨rfl, List.forall_mem_cons.mpr ⟨rfl, List.forall_mem_cons.mpr ⟨rfl, List.forall_mem_cons.mpr ⟨rfl, List.forall_mem_cons.mpr ⟨rfl, List.forall_mem_cons.mpr ⟨rfl, List.forall_mem_cons.mpr ⟨rfl, fun _ h => absurd h List.not_mem_nil⟩⟩⟩⟩⟩⟩⟩) (ih (k + 1) (upo Dk 229 g) (by omega) (by omega) ((by first | exact hX7 | exact hI)))
                          · skip
                            rw [nI_leI (by omega) (by omega)] at c122
                            refine r_lload dX6_awake_125 rfl ?_
                            refine r_iload_n dX6_awake_127 rfl ?_
                            refine r_iload dX6_awake_128 rfl ?_
                            refine r_ishr dX6_awake_130 (fun z31 hz31 => ?_)
                            obtain rfl : z31 = nI (s_wg r (r 5)) >>> (nI j &&& 31) := hz31
                            refine r_iconst (nI 1) dX6_awake_131 (by decide) ?_
                            refine r_iand dX6_awake_132 (fun z32 hz32 => ?_)
                            obtain rfl : z32 = nI (s_wg r (r 5) / 2 ^ j % 2) := hz32.trans (bit_n (by omega) (by omega))
                            refine r_if_ne (tgt := 140) dX6_awake_133 (by decide) (fun c133 => ?_) (fun c133 => ?_)
                            · skip
                              rw [nI_z (by omega)] at c133
                              refine r_iload dX6_awake_140 rfl ?_
                              refine r_iload dX6_awake_142 rfl ?_
                              refine r_ishr dX6_awake_144 (fun z33 hz33 => ?_)
                              obtain rfl : z33 = nI k >>> (nI j &&& 31) := hz33
                              refine r_iconst (nI 1) dX6_awake_145 (by decide) ?_
                              refine r_iand dX6_awake_146 (fun z34 hz34 => ?_)
                              obtain rfl : z34 = nI (k / 2 ^ j % 2) := hz34.trans (bit_n (by omega) (by omega))
                              refine r_iconst (nI 1) dX6_awake_147 (by decide) ?_
                              refine r_icmp_ne (tgt := 156) dX6_awake_148 (by decide) (fun c148 => ?_) (fun c148 => ?_)
                              · skip
                                rw [nI_eq (by omega) (by omega)] at c148
                                refine r_ldc2v (nG 10) wg_X6_237 dX6_awake_156 (by decide) ?_
                                refine r_iload_n dX6_awake_159 rfl ?_
                                refine r_i2l dX6_awake_160 (fun z35 hz35 => ?_)
                                obtain rfl : z35 = nG p := hz35.trans (nI_G (by omega))
                                refine r_lsub dX6_awake_161 (fun z36 hz36 => ?_)
                                obtain rfl : z36 = nG (10 - p) := hz36.trans (nG_sub (by omega))
                                refine r_lmul dX6_awake_162 (fun z37 hz37 => ?_)
                                obtain rfl : z37 = nG (s_cw p (s_wg r (r 5)) k (j + 1)) := hz37.trans ((nG_mul _ _).trans (congrArg nG (by show _ = s_cw p (s_wg r (r 5)) k j * (if s_wg r (r 5) / 2 ^ j % 2 = 0 then 1 else if k / 2 ^ j % 2 = 1 then p else 10 - p); first | rw [if_pos c133] | rw [if_neg c133, if_pos c148] | rw [if_neg c133, if_neg c148])))
                                refine r_lstore [(9, .long (nG (s_cw p (s_wg r (r 5)) k (j + 1)))), (11, .int (nI j)), (8, .int (nI k)), (6, .long (nG (s_bl p (s_wg r (r 5)) k))), (4, .long (nG (s_ab wy r p k))), (3, .int (nI (s_wg r (r 5)))), (0, .ref (B + 219)), (1, .int (nI p)), (2, .int (nI wh))] dX6_awake_163 (by decide) rfl ?_
                                refine r_iinc (nI (j + 1)) [(11, .int (nI (j + 1))), (9, .long (nG (s_cw p (s_wg r (r 5)) k (j + 1)))), (8, .int (nI k)), (6, .long (nG (s_bl p (s_wg r (r 5)) k))), (4, .long (nG (s_ab wy r p k))), (3, .int (nI (s_wg r (r 5)))), (0, .ref (B + 219)), (1, .int (nI p)), (2, .int (nI wh))] dX6_awake_165 rfl (nI_1 _) (by decide) rfl ?_
                                refine r_goto (tgt := 118) dX6_awake_168 (by decide) ?_
                                exact r_lv [(11, .int (nI (j + 1))), (9, .long (nG (s_cw p (s_wg r (r 5)) k (j + 1)))), (8, .int (nI k)), (6, .long (nG (s_bl p (s_wg r (r 5)) k))), (4, .long (nG (s_ab wy r p k))), (3, .int (nI (s_wg r (r 5)))), (0, .ref (B + 219)), (1, .int (nI p)), (2, .int (nI wh))] (List.forall_mem_cons.mpr ⟨rfl, List.forall_mem_cons.mpr ⟨rfl, List.forall_mem_cons.mpr ⟨rfl, List.forall_mem_cons.mpr ⟨rfl, List.forall_mem_cons.mpr ⟨rfl, List.forall_mem_cons.mpr ⟨rfl, List.forall_mem_cons.mpr ⟨rfl, List.forall_mem_cons.mpr ⟨rfl, List.forall_mem_cons.mpr ⟨rfl, fun _ h => absurd h List.not_mem_nil⟩⟩⟩⟩⟩⟩⟩⟩⟩) (ihL2 (j + 1) (by omega) (by omega))
                              · skip
                                rw [nI_eq (by omega) (by omega)] at c148
                                refine r_iload_n dX6_awake_151 rfl ?_
                                refine r_i2l dX6_awake_152 (fun z38 hz38 => ?_)
                                obtain rfl : z38 = nG p := hz38.trans (nI_G (by omega))
                                refine r_goto (tgt := 162) dX6_awake_153 (by decide) ?_
                                refine r_lmul dX6_awake_162 (fun z39 hz39 => ?_)
                                obtain rfl : z39 = nG (s_cw p (s_wg r (r 5)) k (j + 1)) := hz39.trans ((nG_mul _ _).trans (congrArg nG (by show _ = s_cw p (s_wg r (r 5)) k j * (if s_wg r (r 5) / 2 ^ j % 2 = 0 then 1 else if k / 2 ^ j % 2 = 1 then p else 10 - p); first | rw [if_pos c133] | rw [if_neg c133, if_pos c148] | rw [if_neg c133, if_neg c148])))
                                refine r_lstore [(9, .long (nG (s_cw p (s_wg r (r 5)) k (j + 1)))), (11, .int (nI j)), (8, .int (nI k)), (6, .long (nG (s_bl p (s_wg r (r 5)) k))), (4, .long (nG (s_ab wy r p k))), (3, .int (nI (s_wg r (r 5)))), (0, .ref (B + 219)), (1, .int (nI p)), (2, .int (nI wh))] dX6_awake_163 (by decide) rfl ?_
                                refine r_iinc (nI (j + 1)) [(11, .int (nI (j + 1))), (9, .long (nG (s_cw p (s_wg r (r 5)) k (j + 1)))), (8, .int (nI k)), (6, .long (nG (s_bl p (s_wg r (r 5)) k))), (4, .long (nG (s_ab wy r p k))), (3, .int (nI (s_wg r (r 5)))), (0, .ref (B + 219)), (1, .int (nI p)), (2, .int (nI wh))] dX6_awake_165 rfl (nI_1 _) (by decide) rfl ?_
                                refine r_goto (tgt := 118) dX6_awake_168 (by decide) ?_
                                exact r_lv [(11, .int (nI (j + 1))), (9, .long (nG (s_cw p (s_wg r (r 5)) k (j + 1)))), (8, .int (nI k)), (6, .long (nG (s_bl p (s_wg r (r 5)) k))), (4, .long (nG (s_ab wy r p k))), (3, .int (nI (s_wg r (r 5)))), (0, .ref (B + 219)), (1, .int (nI p)), (2, .int (nI wh))] (List.forall_mem_cons.mpr ⟨rfl, List.forall_mem_cons.mpr ⟨rfl, List.forall_mem_cons.mpr ⟨rfl, List.forall_mem_cons.mpr ⟨rfl, List.forall_mem_cons.mpr ⟨rfl, List.forall_mem_cons.mpr ⟨rfl, List.forall_mem_cons.mpr ⟨rfl, List.forall_mem_cons.mpr ⟨rfl, List.forall_mem_cons.mpr ⟨rfl, fun _ h => absurd h List.not_mem_nil⟩⟩⟩⟩⟩⟩⟩⟩⟩) (ihL2 (j + 1) (by omega) (by omega))
                            · skip
                              rw [nI_z (by omega)] at c133
                              refine r_lconst (nG 1) dX6_awake_136 (by decide) ?_
                              refine r_goto (tgt := 162) dX6_awake_137 (by decide) ?_
                              refine r_lmul dX6_awake_162 (fun z40 hz40 => ?_)
                              obtain rfl : z40 = nG (s_cw p (s_wg r (r 5)) k (j + 1)) := hz40.trans ((nG_mul _ _).trans (congrArg nG (by show _ = s_cw p (s_wg r (r 5)) k j * (if s_wg r (r 5) / 2 ^ j % 2 = 0 then 1 else if k / 2 ^ j % 2 = 1 then p else 10 - p); first | rw [if_pos c133] | rw [if_neg c133, if_pos c148] | rw [if_neg c133, if_neg c148])))
                              refine r_lstore [(9, .long (nG (s_cw p (s_wg r (r 5)) k (j + 1)))), (11, .int (nI j)), (8, .int (nI k)), (6, .long (nG (s_bl p (s_wg r (r 5)) k))), (4, .long (nG (s_ab wy r p k))), (3, .int (nI (s_wg r (r 5)))), (0, .ref (B + 219)), (1, .int (nI p)), (2, .int (nI wh))] dX6_awake_163 (by decide) rfl ?_
                              refine r_iinc (nI (j + 1)) [(11, .int (nI (j + 1))), (9, .long (nG (s_cw p (s_wg r (r 5)) k (j + 1)))), (8, .int (nI k)), (6, .long (nG (s_bl p (s_wg r (r 5)) k))), (4, .long (nG (s_ab wy r p k))), (3, .int (nI (s_wg r (r 5)))), (0, .ref (B + 219)), (1, .int (nI p)), (2, .int (nI wh))] dX6_awake_165 rfl (nI_1 _) (by decide) rfl ?_
                              refine r_goto (tgt := 118) dX6_awake_168 (by decide) ?_
                              exact r_lv [(11, .int (nI (j + 1))), (9, .long (nG (s_cw p (s_wg r (r 5)) k (j + 1)))), (8, .int (nI k)), (6, .long (nG (s_bl p (s_wg r (r 5)) k))), (4, .long (nG (s_ab wy r p k))), (3, .int (nI (s_wg r (r 5)))), (0, .ref (B + 219)), (1, .int (nI p)), (2, .int (nI wh))] (List.forall_mem_cons.mpr ⟨rfl, List.forall_mem_cons.mpr ⟨rfl, List.forall_mem_cons.mpr ⟨rfl, List.forall_mem_cons.mpr ⟨rfl, List.forall_mem_cons.mpr ⟨rfl, List.forall_mem_cons.mpr ⟨rfl, List.forall_mem_cons.mpr ⟨rfl, List.forall_mem_cons.mpr ⟨rfl, List.forall_mem_cons.mpr ⟨rfl, fun _ h => absurd h List.not_mem_nil⟩⟩⟩⟩⟩⟩⟩⟩⟩) (ihL2 (j + 1) (by omega) (by omega))
                      exact r_lv [(11, .int (nI 0)), (9, .long (nG (s_cw p (s_wg r (r 5)) k 0))), (8, .int (nI k)), (6, .long (nG (s_bl p (s_wg r (r 5)) k))), (4, .long (nG (s_ab wy r p k))), (3, .int (nI (s_wg r (r 5)))), (0, .ref (B + 219)), (1, .int (nI p)), (2, .int (nI wh))] (List.forall_mem_cons.mpr ⟨rfl, List.forall_mem_cons.mpr ⟨rfl, List.forall_mem_cons.mpr ⟨rfl, List.forall_mem_cons.mpr ⟨rfl, List.forall_mem_cons.mpr ⟨rfl, List.forall_mem_cons.mpr ⟨rfl, List.forall_mem_cons.mpr ⟨rfl, List.forall_mem_cons.mpr ⟨rfl, List.forall_mem_cons.mpr ⟨rfl, fun _ h => absurd h List.not_mem_nil⟩⟩⟩⟩⟩⟩⟩⟩⟩) (L2 (6 + 1) 0 (by omega) (by omega))
              exact r_lv [(8, .int (nI 0)), (6, .long (nG (s_bl p (s_wg r (r 5)) 0))), (4, .long (nG (s_ab wy r p 0))), (3, .int (nI (s_wg r (r 5)))), (0, .ref (B + 219)), (1, .int (nI p)), (2, .int (nI wh))] (List.forall_mem_cons.mpr ⟨rfl, List.forall_mem_cons.mpr ⟨rfl, List.forall_mem_cons.mpr ⟨rfl, List.forall_mem_cons.mpr ⟨rfl, List.forall_mem_cons.mpr ⟨rfl, List.forall_mem_cons.mpr ⟨rfl, List.forall_mem_cons.mpr ⟨rfl, fun _ h => absurd h List.not_mem_nil⟩⟩⟩⟩⟩⟩⟩) (L (64 + 1) 0 (thD D) (by omega) (by omega) MX.th)
            · skip
              rw [nI_leI (by omega) (by omega)] at c55
              refine r_iload_n dX6_awake_58 rfl ?_
              refine r_aload_n dX6_awake_59 rfl ?_
              refine r_getR (ci := 6) (k := 5) wf_X6_19 dX6_awake_60 z_219 k_219 (by decide) (by decide) (fun _ _ => rfl) f_219_5 ?_
              refine r_iload dX6_awake_63 rfl ?_
              refine r_callSI (As := [.ref (B + 223), .int (nI k)]) (c_X6_wishes B (thD D) E 223 (Or.inl rfl) r wy hW 999 hH (by decide) hM hY k (by omega)) hs_X6_wishes wm_X6_169 rfl dX6_awake_65 rfl rfl (Nat.le_of_ble_eq_true rfl) ⟨Nat.le_of_ble_eq_true rfl, Nat.le_of_ble_eq_true rfl, Nat.zero_le _, Nat.zero_le _⟩ ⟨rfl, rfl⟩ (fun z41 D42 E43 hz41 => ?_)
              obtain ⟨hqV, hqD, hqE⟩ := hz41
              obtain rfl : z41 = bI (s_wiB r k = true) := hqV
              obtain rfl := hqD.symm
              obtain rfl := hqE.symm
              refine r_if_eq (tgt := 78) dX6_awake_68 (by decide) (fun c68 => ?_) (fun c68 => ?_)
              · skip
                rw [bI_0] at c68
                refine r_iconst (nI 0) dX6_awake_78 (by decide) ?_
                refine r_ior dX6_awake_79 (fun z44 hz44 => ?_)
                obtain rfl : z44 = nI (s_wg r (k + 1)) := hz44.trans ((nI_or _ _).trans (congrArg nI (by first | exact wg_t c68 | exact wg_f c68)))
                refine r_istore_n [(3, .int (nI (s_wg r (k + 1)))), (4, .int (nI k)), (0, .ref (B + 219)), (1, .int (nI p)), (2, .int (nI wh))] dX6_awake_80 (by decide) rfl ?_
                refine r_iinc (nI (k + 1)) [(4, .int (nI (k + 1))), (3, .int (nI (s_wg r (k + 1)))), (0, .ref (B + 219)), (1, .int (nI p)), (2, .int (nI wh))] dX6_awake_81 rfl (nI_1 _) (by decide) rfl ?_
                refine r_goto (tgt := 47) dX6_awake_84 (by decide) ?_
                exact r_lv [(4, .int (nI (k + 1))), (3, .int (nI (s_wg r (k + 1)))), (0, .ref (B + 219)), (1, .int (nI p)), (2, .int (nI wh))] (List.forall_mem_cons.mpr ⟨rfl, List.forall_mem_cons.mpr ⟨rfl, List.forall_mem_cons.mpr ⟨rfl, List.forall_mem_cons.mpr ⟨rfl, List.forall_mem_cons.mpr ⟨rfl, fun _ h => absurd h List.not_mem_nil⟩⟩⟩⟩⟩) (ih (k + 1) (by omega) (by omega))
              · skip
                rw [bI_n0] at c68
                refine r_iconst (nI 1) dX6_awake_71 (by decide) ?_
                refine r_iload dX6_awake_72 rfl ?_
                refine r_ishl dX6_awake_74 (fun z45 hz45 => ?_)
                obtain rfl : z45 = nI (2 ^ k) := hz45.trans (shl_1 (by omega))
                refine r_goto (tgt := 79) dX6_awake_75 (by decide) ?_
                refine r_ior dX6_awake_79 (fun z46 hz46 => ?_)
                obtain rfl : z46 = nI (s_wg r (k + 1)) := hz46.trans ((nI_or _ _).trans (congrArg nI (by first | exact wg_t c68 | exact wg_f c68)))
                refine r_istore_n [(3, .int (nI (s_wg r (k + 1)))), (4, .int (nI k)), (0, .ref (B + 219)), (1, .int (nI p)), (2, .int (nI wh))] dX6_awake_80 (by decide) rfl ?_
                refine r_iinc (nI (k + 1)) [(4, .int (nI (k + 1))), (3, .int (nI (s_wg r (k + 1)))), (0, .ref (B + 219)), (1, .int (nI p)), (2, .int (nI wh))] dX6_awake_81 rfl (nI_1 _) (by decide) rfl ?_
                refine r_goto (tgt := 47) dX6_awake_84 (by decide) ?_
                exact r_lv [(4, .int (nI (k + 1))), (3, .int (nI (s_wg r (k + 1)))), (0, .ref (B + 219)), (1, .int (nI p)), (2, .int (nI wh))] (List.forall_mem_cons.mpr ⟨rfl, List.forall_mem_cons.mpr ⟨rfl, List.forall_mem_cons.mpr ⟨rfl, List.forall_mem_cons.mpr ⟨rfl, List.forall_mem_cons.mpr ⟨rfl, fun _ h => absurd h List.not_mem_nil⟩⟩⟩⟩⟩) (ih (k + 1) (by omega) (by omega))
        exact r_lv [(4, .int (nI 0)), (3, .int (nI (s_wg r 0))), (0, .ref (B + 219)), (1, .int (nI p)), (2, .int (nI wh))] (List.forall_mem_cons.mpr ⟨rfl, List.forall_mem_cons.mpr ⟨rfl, List.forall_mem_cons.mpr ⟨rfl, List.forall_mem_cons.mpr ⟨rfl, List.forall_mem_cons.mpr ⟨rfl, fun _ h => absurd h List.not_mem_nil⟩⟩⟩⟩⟩) (L (r 5 + 1) 0 (by omega) (by omega))
      · skip
        rw [bI_0] at c35
        refine r_ldc2v ((Int32.ofInt (-1000001)).toInt64) wg_X6_239 dX6_awake_38 (by decide) ?_
        refine r_lret2 dX6_awake_41 rfl ⟨Nat.zero_le _, Nat.zero_le _⟩ ?_
        refine ⟨?_, MX.th, rfl⟩
        unfold g_awake
        rw [if_pos c9]
        first | (rw [if_neg c25]; decide) | (rw [if_pos c25, if_neg c35]; decide)
  · skip
    rw [bI_0] at c9
    refine r_ldc2v ((Int32.ofInt (-1000002)).toInt64) wg_X6_235 dX6_awake_12 (by decide) ?_
    refine r_lret2 dX6_awake_15 rfl ⟨Nat.zero_le _, Nat.zero_le _⟩ ?_
    refine ⟨?_, MX.th, rfl⟩
    rw [if_neg c9]
    decide
