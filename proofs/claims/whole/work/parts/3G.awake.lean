set_option maxRecDepth 100000 in
set_option maxHeartbeats 4000000 in
theorem c_X5_awake (B : Nat) (D : DD) (E : EE) (wy : Nat → Nat) (r : Row) (hX : XL D wy r) (x what : Int32) : MR yX5_awake cX5_awake 13 (some .long) rX5_awake B [.ref (B + 0), .int x, .int what] Z0 D E (Q2 Z0 (pL (fun v D' E' => v = (if 0 < r 0 then g_awake wy r x what else -1000002) ∧ SX D D' ∧ E' = E))) := by
  obtain ⟨hO, hCn, hLl, hYY⟩ := id hX
  obtain ⟨l0, l5, l4, l6, l7, l8, l1⟩ := hO.le
  refine r_enter [(0, .ref (B + 0)), (1, .int x), (2, .int what)] hv_X5_awake.1.2.2.2.2 (Nat.le_of_ble_eq_true rfl) rfl ?_
  refine r_aload_n dX5_awake_0 rfl ?_
  refine r_callVI (As := []) (o := 0) (c_X5_hasLand B D E (r 0) hLl.1.1 l0) hv_X5_hasLand wm_X5_156 dX5_awake_1 rfl rfl z_0 k_0 (by decide) rfl (Nat.le_of_ble_eq_true rfl) ⟨Nat.le_of_ble_eq_true rfl, Nat.le_of_ble_eq_true rfl, Nat.zero_le _, Nat.zero_le _⟩ ⟨rfl, rfl⟩ (fun z1 D2 E3 hz1 => ?_)
  obtain ⟨hqV, hqD, hqE⟩ := hz1
  obtain rfl : z1 = bI (0 < r 0) := hqV
  obtain rfl := hqD.symm
  obtain rfl := hqE.symm
  refine r_if_ne (tgt := 11) dX5_awake_4 (by decide) (fun c4 => ?_) (fun c4 => ?_)
  · skip
    rw [bI_n0] at c4
    obtain ⟨hW, hT, hH⟩ := hO.p c4
    have hY := hYY hW
    obtain ⟨b1, b2, b3, b4, b5, b6, b7, b8⟩ := hW.1
    have hT6 := wg_lt (r := r) _ b7
    refine r_iload_n dX5_awake_11 rfl ?_
    refine r_iconst (nI 0) dX5_awake_12 (by decide) ?_
    refine r_bipush (nI 10) dX5_awake_13 (by decide) ?_
    refine r_callSI (As := [.int x, .int (nI 0), .int (nI 10)]) (c_X5_within B D E x (nI 0) (nI 10)) hs_X5_within wm_X5_73 rfl dX5_awake_15 rfl rfl (Nat.le_of_ble_eq_true rfl) ⟨Nat.le_of_ble_eq_true rfl, Nat.le_of_ble_eq_true rfl, Nat.zero_le _, Nat.zero_le _⟩ ⟨rfl, rfl⟩ (fun z4 D5 E6 hz4 => ?_)
    obtain ⟨hqV, hqD, hqE⟩ := hz4
    obtain rfl : z4 = bI (nI 0 ≤ x ∧ x ≤ nI 10) := hqV
    obtain rfl := hqD.symm
    obtain rfl := hqE.symm
    refine r_if_eq (tgt := 30) dX5_awake_18 (by decide) (fun c18 => ?_) (fun c18 => ?_)
    · skip
      rw [bI_0] at c18
      refine r_ldc2 wg_X5_263 dX5_awake_30 ?_
      refine r_lret2 dX5_awake_33 rfl ⟨Nat.zero_le _, Nat.zero_le _⟩ ?_
      refine ⟨?_, SX.rf, rfl⟩
      unfold g_awake
      rw [if_pos c4]
      first | rw [if_neg c18] | rw [if_pos c18, if_neg c27]
    · skip
      rw [bI_n0] at c18
      obtain ⟨p, hp1, hp2, rfl⟩ := rg (by decide) (by decide) c18
      refine r_iload_n dX5_awake_21 rfl ?_
      refine r_iconst (nI 0) dX5_awake_22 (by decide) ?_
      refine r_iconst (nI 1) dX5_awake_23 (by decide) ?_
      refine r_callSI (As := [.int what, .int (nI 0), .int (nI 1)]) (c_X5_within B D E what (nI 0) (nI 1)) hs_X5_within wm_X5_73 rfl dX5_awake_24 rfl rfl (Nat.le_of_ble_eq_true rfl) ⟨Nat.le_of_ble_eq_true rfl, Nat.le_of_ble_eq_true rfl, Nat.zero_le _, Nat.zero_le _⟩ ⟨rfl, rfl⟩ (fun z7 D8 E9 hz7 => ?_)
      obtain ⟨hqV, hqD, hqE⟩ := hz7
      obtain rfl : z7 = bI (nI 0 ≤ what ∧ what ≤ nI 1) := hqV
      obtain rfl := hqD.symm
      obtain rfl := hqE.symm
      refine r_if_ne (tgt := 34) dX5_awake_27 (by decide) (fun c27 => ?_) (fun c27 => ?_)
      · skip
        rw [bI_n0] at c27
        obtain ⟨wh, hw1, hw2, rfl⟩ := rg (by decide) (by decide) c27
        refine r_aload_n dX5_awake_34 rfl ?_
        refine r_getR (ci := 5) (k := 3) wf_X5_33 dX5_awake_35 z_0 k_0 (by decide) (by decide) (fun _ _ => rfl) f_0_3 ?_
        refine r_aload_n dX5_awake_38 rfl ?_
        refine r_getR (ci := 5) (k := 2) wf_X5_26 dX5_awake_39 z_0 k_0 (by decide) (by decide) (fun _ _ => rfl) f_0_2 ?_
        refine r_callVI (As := [.ref (B + 15)]) (o := 21) (c_X0_wishing B D E 21 15 isC_n isL_l (dj15 (Or.inl rfl)) r wy hW 999 hH (by decide) hCn hLl hY) hv_X0_wishing wm_X5_265 dX5_awake_42 rfl rfl z_21 k_21 (by decide) rfl (Nat.le_of_ble_eq_true rfl) ⟨Nat.le_of_ble_eq_true rfl, Nat.le_of_ble_eq_true rfl, Nat.zero_le _, Nat.zero_le _⟩ ⟨rfl, rfl⟩ (fun z10 D11 E12 hz10 => ?_)
        obtain ⟨hqV, hqD, hqE⟩ := hz10
        obtain rfl : z10 = nI (s_wg r (r 5)) := hqV
        obtain rfl := hqD.symm
        obtain rfl := hqE.symm
        refine r_istore_n [(3, .int (nI (s_wg r (r 5)))), (0, .ref (B + 0)), (1, .int (nI p)), (2, .int (nI wh))] dX5_awake_45 (by decide) rfl ?_
        refine r_iload_n dX5_awake_46 rfl ?_
        refine r_callSOI (As := [.int (nI (s_wg r (r 5)))]) (c_J6_bitCount_0f7a4 B D E (s_wg r (r 5)) hT6) hs_J6_bitCount_0f7a4 wm_X5_191 dX5_awake_47 rfl rfl (Nat.le_of_ble_eq_true rfl) ⟨Nat.le_of_ble_eq_true rfl, Nat.le_of_ble_eq_true rfl, Nat.zero_le _, Nat.zero_le _⟩ ⟨rfl, rfl⟩ (fun z13 D14 E15 hz13 => ?_)
        obtain ⟨hqV, hqD, hqE⟩ := hz13
        obtain rfl : z13 = nI (s_bits (s_wg r (r 5))) := hqV
        obtain rfl := hqD.symm
        obtain rfl := hqE.symm
        refine r_istore [(4, .int (nI (s_bits (s_wg r (r 5))))), (3, .int (nI (s_wg r (r 5)))), (0, .ref (B + 0)), (1, .int (nI p)), (2, .int (nI wh))] dX5_awake_50 (by decide) rfl ?_
        refine r_lconst (nG 0) dX5_awake_52 (by decide) ?_
        refine r_lstore [(5, .long (nG 0)), (4, .int (nI (s_bits (s_wg r (r 5))))), (3, .int (nI (s_wg r (r 5)))), (0, .ref (B + 0)), (1, .int (nI p)), (2, .int (nI wh))] dX5_awake_53 (by decide) rfl ?_
        refine r_aload_n dX5_awake_55 rfl ?_
        refine r_getR (ci := 5) (k := 5) wf_X5_44 dX5_awake_56 z_0 k_0 (by decide) (by decide) (fun _ _ => rfl) f_0_5 ?_
        refine r_aload_n dX5_awake_59 rfl ?_
        refine r_getR (ci := 5) (k := 3) wf_X5_33 dX5_awake_60 z_0 k_0 (by decide) (by decide) (fun _ _ => rfl) f_0_3 ?_
        refine r_callVV (As := [.ref (B + 21)]) (o := 173) (c_X0_take B D E 173 21 isC_p isC_n dj_pn) hv_X0_take wm_X5_140 dX5_awake_63 rfl rfl z_173 k_173 (by decide) rfl (Nat.le_of_ble_eq_true rfl) ⟨Nat.le_of_ble_eq_true rfl, Nat.le_of_ble_eq_true rfl, Nat.zero_le _, Nat.zero_le _⟩ ⟨rfl, rfl⟩ (fun D17 E18 hz16 => ?_)
        obtain ⟨hqD, hqE⟩ := hz16
        obtain rfl := hqE.symm
        have hP : XP D D17 r := by rw [hqD]; exact XP.take l5 hCn
        refine r_iconst (nI 0) dX5_awake_66 (by decide) ?_
        refine r_istore [(7, .int (nI 0)), (5, .long (nG 0)), (4, .int (nI (s_bits (s_wg r (r 5))))), (3, .int (nI (s_wg r (r 5)))), (0, .ref (B + 0)), (1, .int (nI p)), (2, .int (nI wh))] dX5_awake_67 (by decide) rfl ?_
        refine r_lv [(7, .int (nI 0)), (5, .long (nG (s_ab wy r p 0))), (4, .int (nI (s_bits (s_wg r (r 5))))), (3, .int (nI (s_wg r (r 5)))), (0, .ref (B + 0)), (1, .int (nI p)), (2, .int (nI wh))] (List.forall_mem_cons.mpr ⟨rfl, List.forall_mem_cons.mpr ⟨congrArg (fun x => some (Value.long x)) rfl, List.forall_mem_cons.mpr ⟨rfl, List.forall_mem_cons.mpr ⟨rfl, List.forall_mem_cons.mpr ⟨rfl, List.forall_mem_cons.mpr ⟨rfl, List.forall_mem_cons.mpr ⟨rfl, fun _ h => absurd h List.not_mem_nil⟩⟩⟩⟩⟩⟩⟩) ?_
        have L : ∀ (fu k : Nat) (Dk : DD), k ≤ s_wg r (r 5) + 1 → s_wg r (r 5) + 1 - k < fu → (SX D Dk ∧ ∃ f, CA (upo Dk 173 f) 173 r ∧ ∀ j, j ≠ 5 → Dk 173 j = f j) → RW yX5_awake cX5_awake 13 (some .long) rX5_awake B (Q2 Z0 (pL (fun v D' E' => v = (if 0 < r 0 then g_awake wy r (nI p) (nI wh) else -1000002) ∧ SX D D' ∧ E' = E))) Z0 Dk E 0 0 69 [(7, .int (nI k)), (5, .long (nG (s_ab wy r p k))), (0, .ref (B + 0)), (1, .int (nI p)), (2, .int (nI wh)), (3, .int (nI (s_wg r (r 5)))), (4, .int (nI (s_bits (s_wg r (r 5)))))] [] := by
          intro fu
          induction fu with
          | zero => intro k Dk hku hfu _; omega
          | succ fu ih =>
            intro k Dk hku hfu hI
            refine r_iload dX5_awake_69 rfl ?_
            refine r_iload_n dX5_awake_71 rfl ?_
            refine r_icmp_gt (tgt := 130) dX5_awake_72 (by decide) (fun c72 => ?_) (fun c72 => ?_)
            · skip
              rw [nI_ltI (by omega) (by omega)] at c72
              have hk9 : k = s_wg r (r 5) + 1 := by omega
              have h10 := p10_le (s_bits_le (c := s_wg r (r 5)))
              have h11 : 1 ≤ 10 ^ s_bits (s_wg r (r 5)) := Nat.one_le_pow _ _ (by decide)
              have hab := s_ab_lt (wy := wy) (r := r) hp2 b7 k (by omega)
              have hg1 : 1 ≤ Nat.gcd (10 ^ s_bits (s_wg r (r 5))) (s_ab wy r p k) := Nat.gcd_pos_of_pos_left _ h11
              have hg2 : Nat.gcd (10 ^ s_bits (s_wg r (r 5))) (s_ab wy r p k) ≤ 10 ^ s_bits (s_wg r (r 5)) := Nat.gcd_le_left _ h11
              refine r_bipush (nI 10) dX5_awake_130 (by decide) ?_
              refine r_iload dX5_awake_132 rfl ?_
              refine r_callSL (As := [.int (nI 10), .int (nI (s_bits (s_wg r (r 5))))]) (c_X5_power B Dk E 10 (s_bits (s_wg r (r 5))) (by decide) s_bits_le) hs_X5_power wm_X5_271 rfl dX5_awake_134 rfl rfl (Nat.le_of_ble_eq_true rfl) ⟨Nat.le_of_ble_eq_true rfl, Nat.le_of_ble_eq_true rfl, Nat.zero_le _, Nat.zero_le _⟩ ⟨rfl, rfl⟩ (fun z19 D20 E21 hz19 => ?_)
              obtain ⟨hqV, hqD, hqE⟩ := hz19
              obtain rfl : z19 = nG (10 ^ s_bits (s_wg r (r 5))) := hqV
              obtain rfl := hqD.symm
              obtain rfl := hqE.symm
              refine r_lstore [(7, .long (nG (10 ^ s_bits (s_wg r (r 5))))), (5, .long (nG (s_ab wy r p k))), (0, .ref (B + 0)), (1, .int (nI p)), (2, .int (nI wh)), (3, .int (nI (s_wg r (r 5)))), (4, .int (nI (s_bits (s_wg r (r 5)))))] dX5_awake_137 (by decide) rfl ?_
              refine r_lload dX5_awake_139 rfl ?_
              refine r_lload dX5_awake_141 rfl ?_
              refine r_callSL (As := [.long (nG (10 ^ s_bits (s_wg r (r 5)))), .long (nG (s_ab wy r p k))]) (c_X5_commonDivisor B Dk E (10 ^ s_bits (s_wg r (r 5))) (s_ab wy r p k) (by omega) (by omega)) hs_X5_commonDivisor wm_X5_275 rfl dX5_awake_143 rfl rfl (Nat.le_of_ble_eq_true rfl) ⟨Nat.le_of_ble_eq_true rfl, Nat.le_of_ble_eq_true rfl, Nat.zero_le _, Nat.zero_le _⟩ ⟨rfl, rfl⟩ (fun z22 D23 E24 hz22 => ?_)
              obtain ⟨hqV, hqD, hqE⟩ := hz22
              obtain rfl : z22 = nG (Nat.gcd (10 ^ s_bits (s_wg r (r 5))) (s_ab wy r p k)) := hqV
              obtain rfl := hqD.symm
              obtain rfl := hqE.symm
              refine r_lstore [(9, .long (nG (Nat.gcd (10 ^ s_bits (s_wg r (r 5))) (s_ab wy r p k)))), (7, .long (nG (10 ^ s_bits (s_wg r (r 5))))), (5, .long (nG (s_ab wy r p k))), (0, .ref (B + 0)), (1, .int (nI p)), (2, .int (nI wh)), (3, .int (nI (s_wg r (r 5)))), (4, .int (nI (s_bits (s_wg r (r 5)))))] dX5_awake_146 (by decide) rfl ?_
              refine r_iload_n dX5_awake_148 rfl ?_
              refine r_if_ne (tgt := 157) dX5_awake_149 (by decide) (fun c149 => ?_) (fun c149 => ?_)
              · skip
                rw [nI_z (by omega)] at c149
                refine r_lload dX5_awake_157 rfl ?_
                refine r_lstore [(11, .long (nG (10 ^ s_bits (s_wg r (r 5))))), (9, .long (nG (Nat.gcd (10 ^ s_bits (s_wg r (r 5))) (s_ab wy r p k)))), (7, .long (nG (10 ^ s_bits (s_wg r (r 5))))), (5, .long (nG (s_ab wy r p k))), (0, .ref (B + 0)), (1, .int (nI p)), (2, .int (nI wh)), (3, .int (nI (s_wg r (r 5)))), (4, .int (nI (s_bits (s_wg r (r 5)))))] dX5_awake_159 (by decide) rfl ?_
                refine r_lload dX5_awake_161 rfl ?_
                refine r_lconst (nG 0) dX5_awake_163 (by decide) ?_
                refine r_lcmp dX5_awake_164 (fun z25 hz25 => ?_)
                subst hz25
                refine r_if_ne (tgt := 173) dX5_awake_165 (by decide) (fun c165 => ?_) (fun c165 => ?_)
                rotate_left
                · exact absurd ((gc_eq (by omega) (by decide)).mp c165) (by omega)
                refine r_lload dX5_awake_173 rfl ?_
                refine r_lload dX5_awake_175 rfl ?_
                refine r_ldiv dX5_awake_177 (fun q => absurd ((nG_z (by omega)).mp q) (by omega)) (fun z26 hz26 => ?_)
                obtain rfl : z26 = nG ((10 ^ s_bits (s_wg r (r 5))) / Nat.gcd (10 ^ s_bits (s_wg r (r 5))) (s_ab wy r p k)) := hz26.trans (nG_div (by omega) (by omega))
                refine r_lret2 dX5_awake_178 rfl ⟨Nat.zero_le _, Nat.zero_le _⟩ ?_
                refine ⟨?_, hI.1, rfl⟩
                unfold g_awake
                rw [if_pos c4, if_pos c18, if_pos c27, nI_clamp (by omega), hk9, s_ab_all b7]
                first
                  | rw [if_pos ((nI_z (by omega)).mpr c149)]
                  | rw [if_neg (fun q => c149 ((nI_z (by omega)).mp q))]
              · skip
                rw [nI_z (by omega)] at c149
                refine r_lload dX5_awake_152 rfl ?_
                refine r_goto (tgt := 159) dX5_awake_154 (by decide) ?_
                refine r_lstore [(11, .long (nG (s_ab wy r p k))), (9, .long (nG (Nat.gcd (10 ^ s_bits (s_wg r (r 5))) (s_ab wy r p k)))), (7, .long (nG (10 ^ s_bits (s_wg r (r 5))))), (5, .long (nG (s_ab wy r p k))), (0, .ref (B + 0)), (1, .int (nI p)), (2, .int (nI wh)), (3, .int (nI (s_wg r (r 5)))), (4, .int (nI (s_bits (s_wg r (r 5)))))] dX5_awake_159 (by decide) rfl ?_
                refine r_lload dX5_awake_161 rfl ?_
                refine r_lconst (nG 0) dX5_awake_163 (by decide) ?_
                refine r_lcmp dX5_awake_164 (fun z27 hz27 => ?_)
                subst hz27
                refine r_if_ne (tgt := 173) dX5_awake_165 (by decide) (fun c165 => ?_) (fun c165 => ?_)
                rotate_left
                · exact absurd ((gc_eq (by omega) (by decide)).mp c165) (by omega)
                refine r_lload dX5_awake_173 rfl ?_
                refine r_lload dX5_awake_175 rfl ?_
                refine r_ldiv dX5_awake_177 (fun q => absurd ((nG_z (by omega)).mp q) (by omega)) (fun z28 hz28 => ?_)
                obtain rfl : z28 = nG ((s_ab wy r p k) / Nat.gcd (10 ^ s_bits (s_wg r (r 5))) (s_ab wy r p k)) := hz28.trans (nG_div (by omega) (by omega))
                refine r_lret2 dX5_awake_178 rfl ⟨Nat.zero_le _, Nat.zero_le _⟩ ?_
                refine ⟨?_, hI.1, rfl⟩
                unfold g_awake
                rw [if_pos c4, if_pos c18, if_pos c27, nI_clamp (by omega), hk9, s_ab_all b7]
                first
                  | rw [if_pos ((nI_z (by omega)).mpr c149)]
                  | rw [if_neg (fun q => c149 ((nI_z (by omega)).mp q))]
            · skip
              rw [nI_ltI (by omega) (by omega)] at c72
              have hJ := hI
              refine r_iload dX5_awake_75 rfl ?_
              refine r_iload_n dX5_awake_77 rfl ?_
              refine r_iconst ((-1)) dX5_awake_78 (by decide) ?_
              refine r_ixor dX5_awake_79 (fun z29 hz29 => ?_)
              subst hz29
              refine r_iand dX5_awake_80 (fun z30 hz30 => ?_)
              obtain rfl : z30 = nI (k &&& (63 ^^^ s_wg r (r 5))) := hz30.trans (mask_n _ hT6 _ (by omega))
              refine r_if_ne (tgt := 124) dX5_awake_81 (by decide) (fun c81 => ?_) (fun c81 => ?_)
              · skip
                rw [nI_z (Nat.lt_of_le_of_lt Nat.and_le_left (by omega))] at c81
                refine r_lv [(7, .int (nI k)), (5, .long (nG (s_ab wy r p (k + 1)))), (0, .ref (B + 0)), (1, .int (nI p)), (2, .int (nI wh)), (3, .int (nI (s_wg r (r 5)))), (4, .int (nI (s_bits (s_wg r (r 5)))))] (List.forall_mem_cons.mpr ⟨rfl, List.forall_mem_cons.mpr ⟨congrArg (fun x => some (Value.long x)) (congrArg nG (s_ab_f (fun q => c81 q.1)).symm), List.forall_mem_cons.mpr ⟨rfl, List.forall_mem_cons.mpr ⟨rfl, List.forall_mem_cons.mpr ⟨rfl, List.forall_mem_cons.mpr ⟨rfl, List.forall_mem_cons.mpr ⟨rfl, fun _ h => absurd h List.not_mem_nil⟩⟩⟩⟩⟩⟩⟩) ?_
                refine r_iinc (nI (k + 1)) [(7, .int (nI (k + 1))), (5, .long (nG (s_ab wy r p (k + 1)))), (0, .ref (B + 0)), (1, .int (nI p)), (2, .int (nI wh)), (3, .int (nI (s_wg r (r 5)))), (4, .int (nI (s_bits (s_wg r (r 5)))))] dX5_awake_124 rfl (nI_1 _) (by decide) rfl ?_
                refine r_goto (tgt := 69) dX5_awake_127 (by decide) ?_
                exact r_lv [(7, .int (nI (k + 1))), (5, .long (nG (s_ab wy r p (k + 1)))), (0, .ref (B + 0)), (1, .int (nI p)), (2, .int (nI wh)), (3, .int (nI (s_wg r (r 5)))), (4, .int (nI (s_bits (s_wg r (r 5)))))] (List.forall_mem_cons.mpr ⟨rfl, List.forall_mem_cons.mpr ⟨rfl, List.forall_mem_cons.mpr ⟨rfl, List.forall_mem_cons.mpr ⟨rfl, List.forall_mem_cons.mpr ⟨rfl, List.forall_mem_cons.mpr ⟨rfl, List.forall_mem_cons.mpr ⟨rfl, fun _ h => absurd h List.not_mem_nil⟩⟩⟩⟩⟩⟩⟩) (ih (k + 1) Dk (by omega) (by omega) hJ)
              · skip
                rw [nI_z (Nat.lt_of_le_of_lt Nat.and_le_left (by omega))] at c81
                obtain ⟨hI1, f, hCf, hff⟩ := hI
                have hsb := sub_le _ hT6 k (by omega) c81
                refine r_aload_n dX5_awake_84 rfl ?_
                refine r_iload dX5_awake_85 rfl ?_
                refine r_callVI (As := [.int (nI k)]) (o := 0) (c_X5_goesBy B Dk E wy r hW hT hH hY k (by omega) c81 f hCf hff (hI1.LA hLl)) hv_X5_goesBy wm_X5_268 dX5_awake_87 rfl rfl z_0 k_0 (by decide) rfl (Nat.le_of_ble_eq_true rfl) ⟨Nat.le_of_ble_eq_true rfl, Nat.le_of_ble_eq_true rfl, Nat.zero_le _, Nat.zero_le _⟩ ⟨rfl, rfl⟩ (fun z31 D32 E33 hz31 => ?_)
                obtain ⟨hq1, ⟨g5, g, hqD⟩, hqE⟩ := hz31
                obtain rfl := hqE.symm
                subst hq1
                have hJ2 := gb_keep (g5 := g) (v := g5) hCf hff
                rw [← hqD] at hJ2
                have hJ : SX D D32 ∧ ∃ f, CA (upo D32 173 f) 173 r ∧ ∀ j, j ≠ 5 → D32 173 j = f j := ⟨hI1.trans (fun q h1 h2 => by rw [hqD, upo_n (by omega), upo_n (by omega)]), f, hJ2⟩
                refine r_if_eq (tgt := 124) dX5_awake_90 (by decide) (fun c90 => ?_) (fun c90 => ?_)
                · skip
                  rw [bI_0] at c90
                  refine r_lv [(7, .int (nI k)), (5, .long (nG (s_ab wy r p (k + 1)))), (0, .ref (B + 0)), (1, .int (nI p)), (2, .int (nI wh)), (3, .int (nI (s_wg r (r 5)))), (4, .int (nI (s_bits (s_wg r (r 5)))))] (List.forall_mem_cons.mpr ⟨rfl, List.forall_mem_cons.mpr ⟨congrArg (fun x => some (Value.long x)) (congrArg nG (s_ab_f (fun q => c90 q.2)).symm), List.forall_mem_cons.mpr ⟨rfl, List.forall_mem_cons.mpr ⟨rfl, List.forall_mem_cons.mpr ⟨rfl, List.forall_mem_cons.mpr ⟨rfl, List.forall_mem_cons.mpr ⟨rfl, fun _ h => absurd h List.not_mem_nil⟩⟩⟩⟩⟩⟩⟩) ?_
                  refine r_iinc (nI (k + 1)) [(7, .int (nI (k + 1))), (5, .long (nG (s_ab wy r p (k + 1)))), (0, .ref (B + 0)), (1, .int (nI p)), (2, .int (nI wh)), (3, .int (nI (s_wg r (r 5)))), (4, .int (nI (s_bits (s_wg r (r 5)))))] dX5_awake_124 rfl (nI_1 _) (by decide) rfl ?_
                  refine r_goto (tgt := 69) dX5_awake_127 (by decide) ?_
                  exact r_lv [(7, .int (nI (k + 1))), (5, .long (nG (s_ab wy r p (k + 1)))), (0, .ref (B + 0)), (1, .int (nI p)), (2, .int (nI wh)), (3, .int (nI (s_wg r (r 5)))), (4, .int (nI (s_bits (s_wg r (r 5)))))] (List.forall_mem_cons.mpr ⟨rfl, List.forall_mem_cons.mpr ⟨rfl, List.forall_mem_cons.mpr ⟨rfl, List.forall_mem_cons.mpr ⟨rfl, List.forall_mem_cons.mpr ⟨rfl, List.forall_mem_cons.mpr ⟨rfl, List.forall_mem_cons.mpr ⟨rfl, fun _ h => absurd h List.not_mem_nil⟩⟩⟩⟩⟩⟩⟩) (ih (k + 1) D32 (by omega) (by omega) hJ)
                · skip
                  rw [bI_n0] at c90
                  refine r_iload dX5_awake_93 rfl ?_
                  refine r_callSOI (As := [.int (nI k)]) (c_J6_bitCount_0f7a4 B D32 E k (by omega)) hs_J6_bitCount_0f7a4 wm_X5_191 dX5_awake_95 rfl rfl (Nat.le_of_ble_eq_true rfl) ⟨Nat.le_of_ble_eq_true rfl, Nat.le_of_ble_eq_true rfl, Nat.zero_le _, Nat.zero_le _⟩ ⟨rfl, rfl⟩ (fun z34 D35 E36 hz34 => ?_)
                  obtain ⟨hqV, hqD, hqE⟩ := hz34
                  obtain rfl : z34 = nI (s_bits k) := hqV
                  obtain rfl := hqD.symm
                  obtain rfl := hqE.symm
                  refine r_istore [(8, .int (nI (s_bits k))), (7, .int (nI k)), (5, .long (nG (s_ab wy r p k))), (0, .ref (B + 0)), (1, .int (nI p)), (2, .int (nI wh)), (3, .int (nI (s_wg r (r 5)))), (4, .int (nI (s_bits (s_wg r (r 5)))))] dX5_awake_98 (by decide) rfl ?_
                  refine r_lload dX5_awake_100 rfl ?_
                  refine r_iload_n dX5_awake_102 rfl ?_
                  refine r_iload dX5_awake_103 rfl ?_
                  refine r_callSL (As := [.int (nI p), .int (nI (s_bits k))]) (c_X5_power B D32 E p (s_bits k) hp2 s_bits_le) hs_X5_power wm_X5_271 rfl dX5_awake_105 rfl rfl (Nat.le_of_ble_eq_true rfl) ⟨Nat.le_of_ble_eq_true rfl, Nat.le_of_ble_eq_true rfl, Nat.zero_le _, Nat.zero_le _⟩ ⟨rfl, rfl⟩ (fun z37 D38 E39 hz37 => ?_)
                  obtain ⟨hqV, hqD, hqE⟩ := hz37
                  obtain rfl : z37 = nG (p ^ s_bits k) := hqV
                  obtain rfl := hqD.symm
                  obtain rfl := hqE.symm
                  refine r_bipush (nI 10) dX5_awake_108 (by decide) ?_
                  refine r_iload_n dX5_awake_110 rfl ?_
                  refine r_isub dX5_awake_111 (fun z40 hz40 => ?_)
                  obtain rfl : z40 = nI (10 - p) := hz40.trans (nI_sub hp2)
                  refine r_iload dX5_awake_112 rfl ?_
                  refine r_iload dX5_awake_114 rfl ?_
                  refine r_isub dX5_awake_116 (fun z41 hz41 => ?_)
                  obtain rfl : z41 = nI (s_bits (s_wg r (r 5)) - s_bits k) := hz41.trans (nI_sub hsb.2)
                  refine r_callSL (As := [.int (nI (10 - p)), .int (nI (s_bits (s_wg r (r 5)) - s_bits k))]) (c_X5_power B D32 E (10 - p) (s_bits (s_wg r (r 5)) - s_bits k) (by omega) (Nat.le_trans (Nat.sub_le _ _) s_bits_le)) hs_X5_power wm_X5_271 rfl dX5_awake_117 rfl rfl (Nat.le_of_ble_eq_true rfl) ⟨Nat.le_of_ble_eq_true rfl, Nat.le_of_ble_eq_true rfl, Nat.zero_le _, Nat.zero_le _⟩ ⟨rfl, rfl⟩ (fun z42 D43 E44 hz42 => ?_)
                  obtain ⟨hqV, hqD, hqE⟩ := hz42
                  obtain rfl : z42 = nG ((10 - p) ^ (s_bits (s_wg r (r 5)) - s_bits k)) := hqV
                  obtain rfl := hqD.symm
                  obtain rfl := hqE.symm
                  refine r_lmul dX5_awake_120 (fun z45 hz45 => ?_)
                  obtain rfl : z45 = nG (s_ch p (s_wg r (r 5)) k) := hz45.trans (nG_mul _ _)
                  refine r_ladd dX5_awake_121 (fun z46 hz46 => ?_)
                  obtain rfl : z46 = nG (s_ab wy r p (k + 1)) := hz46.trans ((nG_add _ _).trans (congrArg nG (s_ab_t c81 c90).symm))
                  refine r_lstore [(5, .long (nG (s_ab wy r p (k + 1)))), (8, .int (nI (s_bits k))), (7, .int (nI k)), (0, .ref (B + 0)), (1, .int (nI p)), (2, .int (nI wh)), (3, .int (nI (s_wg r (r 5)))), (4, .int (nI (s_bits (s_wg r (r 5)))))] dX5_awake_122 (by decide) rfl ?_
                  refine r_iinc (nI (k + 1)) [(7, .int (nI (k + 1))), (5, .long (nG (s_ab wy r p (k + 1)))), (8, .int (nI (s_bits k))), (0, .ref (B + 0)), (1, .int (nI p)), (2, .int (nI wh)), (3, .int (nI (s_wg r (r 5)))), (4, .int (nI (s_bits (s_wg r (r 5)))))] dX5_awake_124 rfl (nI_1 _) (by decide) rfl ?_
                  refine r_goto (tgt := 69) dX5_awake_127 (by decide) ?_
                  exact r_lv [(7, .int (nI (k + 1))), (5, .long (nG (s_ab wy r p (k + 1)))), (0, .ref (B + 0)), (1, .int (nI p)), (2, .int (nI wh)), (3, .int (nI (s_wg r (r 5)))), (4, .int (nI (s_bits (s_wg r (r 5)))))] (List.forall_mem_cons.mpr ⟨rfl, List.forall_mem_cons.mpr ⟨rfl, List.forall_mem_cons.mpr ⟨rfl, List.forall_mem_cons.mpr ⟨rfl, List.forall_mem_cons.mpr ⟨rfl, List.forall_mem_cons.mpr ⟨rfl, List.forall_mem_cons.mpr ⟨rfl, fun _ h => absurd h List.not_mem_nil⟩⟩⟩⟩⟩⟩⟩) (ih (k + 1) D32 (by omega) (by omega) hJ)
        exact r_lv [(7, .int (nI 0)), (5, .long (nG (s_ab wy r p 0))), (0, .ref (B + 0)), (1, .int (nI p)), (2, .int (nI wh)), (3, .int (nI (s_wg r (r 5)))), (4, .int (nI (s_bits (s_wg r (r 5)))))] (List.forall_mem_cons.mpr ⟨rfl, List.forall_mem_cons.mpr ⟨rfl, List.forall_mem_cons.mpr ⟨rfl, List.forall_mem_cons.mpr ⟨rfl, List.forall_mem_cons.mpr ⟨rfl, List.forall_mem_cons.mpr ⟨rfl, List.forall_mem_cons.mpr ⟨rfl, fun _ h => absurd h List.not_mem_nil⟩⟩⟩⟩⟩⟩⟩) (L (s_wg r (r 5) + 1 + 1) 0 D17 (by omega) (by omega) (⟨hP.2, D17 173, by rw [upo_id]; exact hP.1, fun _ _ => rfl⟩))
      · skip
        rw [bI_0] at c27
        refine r_ldc2 wg_X5_263 dX5_awake_30 ?_
        refine r_lret2 dX5_awake_33 rfl ⟨Nat.zero_le _, Nat.zero_le _⟩ ?_
        refine ⟨?_, SX.rf, rfl⟩
        unfold g_awake
        rw [if_pos c4]
        first | rw [if_neg c18] | rw [if_pos c18, if_neg c27]
  · skip
    rw [bI_0] at c4
    refine r_ldc2 wg_X5_261 dX5_awake_7 ?_
    refine r_lret2 dX5_awake_10 rfl ⟨Nat.zero_le _, Nat.zero_le _⟩ ?_
    refine ⟨?_, SX.rf, rfl⟩
    rw [if_neg c4]
set_option maxRecDepth 100000 in
set_option maxHeartbeats 4000000 in
theorem c_X5_drawn (B : Nat) (D : DD) (E : EE) (wy : Nat → Nat) (r : Row) (hX : XL D wy r) (x y what : Int32) : MR yX5_drawn cX5_drawn 7 (some .int) rX5_drawn B [.ref (B + 0), .int x, .int y, .int what] Z0 D E (Q2 Z0 (pI (fun v D' E' => v = (if 0 < r 0 then g_drawn wy r x y what else -1000002) ∧ SX D D' ∧ E' = E))) := by
  obtain ⟨hO, hCn, hLl, hYY⟩ := id hX
  obtain ⟨l0, l5, l4, l6, l7, l8, l1⟩ := hO.le
  refine r_enter [(0, .ref (B + 0)), (1, .int x), (2, .int y), (3, .int what)] hv_X5_drawn.1.2.2.2.2 (Nat.le_of_ble_eq_true rfl) rfl ?_
  refine r_aload_n dX5_drawn_0 rfl ?_
  refine r_callVI (As := []) (o := 0) (c_X5_hasLand B D E (r 0) hLl.1.1 l0) hv_X5_hasLand wm_X5_156 dX5_drawn_1 rfl rfl z_0 k_0 (by decide) rfl (Nat.le_of_ble_eq_true rfl) ⟨Nat.le_of_ble_eq_true rfl, Nat.le_of_ble_eq_true rfl, Nat.zero_le _, Nat.zero_le _⟩ ⟨rfl, rfl⟩ (fun z1 D2 E3 hz1 => ?_)
  obtain ⟨hqV, hqD, hqE⟩ := hz1
  obtain rfl : z1 = bI (0 < r 0) := hqV
  obtain rfl := hqD.symm
  obtain rfl := hqE.symm
  refine r_if_ne (tgt := 10) dX5_drawn_4 (by decide) (fun c4 => ?_) (fun c4 => ?_)
  · skip
    rw [bI_n0] at c4
    obtain ⟨hW, hT, hH⟩ := hO.p c4
    have hY := hYY hW
    obtain ⟨b1, b2, b3, b4, b5, b6, b7, b8⟩ := hW.1
    refine r_iload_n dX5_drawn_10 rfl ?_
    refine r_iconst (nI 0) dX5_drawn_11 (by decide) ?_
    refine r_bipush (nI 60) dX5_drawn_12 (by decide) ?_
    refine r_callSI (As := [.int x, .int (nI 0), .int (nI 60)]) (c_X5_within B D E x (nI 0) (nI 60)) hs_X5_within wm_X5_73 rfl dX5_drawn_14 rfl rfl (Nat.le_of_ble_eq_true rfl) ⟨Nat.le_of_ble_eq_true rfl, Nat.le_of_ble_eq_true rfl, Nat.zero_le _, Nat.zero_le _⟩ ⟨rfl, rfl⟩ (fun z4 D5 E6 hz4 => ?_)
    obtain ⟨hqV, hqD, hqE⟩ := hz4
    obtain rfl : z4 = bI (nI 0 ≤ x ∧ x ≤ nI 60) := hqV
    obtain rfl := hqD.symm
    obtain rfl := hqE.symm
    refine r_if_eq (tgt := 40) dX5_drawn_17 (by decide) (fun c17 => ?_) (fun c17 => ?_)
    · skip
      rw [bI_0] at c17
      refine r_ldc wc_X5_77 dX5_drawn_40 ?_
      refine r_iret2 dX5_drawn_42 rfl ⟨Nat.zero_le _, Nat.zero_le _⟩ ?_
      refine ⟨?_, SX.rf, rfl⟩
      unfold g_drawn
      rw [if_pos c4]
      first | rw [if_neg c17] | rw [if_pos c17, if_neg c28] | rw [if_pos c17, if_pos c28, if_neg c37]
    · skip
      rw [bI_n0] at c17
      obtain ⟨n, hn1, hn2, rfl⟩ := rg (by decide) (by decide) c17
      refine r_iload_n dX5_drawn_20 rfl ?_
      refine r_iconst (nI 1) dX5_drawn_21 (by decide) ?_
      refine r_ldcw wc_X5_279 dX5_drawn_22 ?_
      refine r_callSI (As := [.int y, .int (nI 1), .int ((999999))]) (c_X5_within B D E y (nI 1) (nI 999999)) hs_X5_within wm_X5_73 rfl dX5_drawn_25 rfl rfl (Nat.le_of_ble_eq_true rfl) ⟨Nat.le_of_ble_eq_true rfl, Nat.le_of_ble_eq_true rfl, Nat.zero_le _, Nat.zero_le _⟩ ⟨rfl, rfl⟩ (fun z7 D8 E9 hz7 => ?_)
      obtain ⟨hqV, hqD, hqE⟩ := hz7
      obtain rfl : z7 = bI (nI 1 ≤ y ∧ y ≤ nI 999999) := hqV
      obtain rfl := hqD.symm
      obtain rfl := hqE.symm
      refine r_if_eq (tgt := 40) dX5_drawn_28 (by decide) (fun c28 => ?_) (fun c28 => ?_)
      · skip
        rw [bI_0] at c28
        refine r_ldc wc_X5_77 dX5_drawn_40 ?_
        refine r_iret2 dX5_drawn_42 rfl ⟨Nat.zero_le _, Nat.zero_le _⟩ ?_
        refine ⟨?_, SX.rf, rfl⟩
        unfold g_drawn
        rw [if_pos c4]
        first | rw [if_neg c17] | rw [if_pos c17, if_neg c28] | rw [if_pos c17, if_pos c28, if_neg c37]
      · skip
        rw [bI_n0] at c28
        obtain ⟨seed, hs1, hs2, rfl⟩ := rg (by decide) (by decide) c28
        refine r_iload_n dX5_drawn_31 rfl ?_
        refine r_iconst (nI 0) dX5_drawn_32 (by decide) ?_
        refine r_iconst (nI 1) dX5_drawn_33 (by decide) ?_
        refine r_callSI (As := [.int what, .int (nI 0), .int (nI 1)]) (c_X5_within B D E what (nI 0) (nI 1)) hs_X5_within wm_X5_73 rfl dX5_drawn_34 rfl rfl (Nat.le_of_ble_eq_true rfl) ⟨Nat.le_of_ble_eq_true rfl, Nat.le_of_ble_eq_true rfl, Nat.zero_le _, Nat.zero_le _⟩ ⟨rfl, rfl⟩ (fun z10 D11 E12 hz10 => ?_)
        obtain ⟨hqV, hqD, hqE⟩ := hz10
        obtain rfl : z10 = bI (nI 0 ≤ what ∧ what ≤ nI 1) := hqV
        obtain rfl := hqD.symm
        obtain rfl := hqE.symm
        refine r_if_ne (tgt := 43) dX5_drawn_37 (by decide) (fun c37 => ?_) (fun c37 => ?_)
        · skip
          rw [bI_n0] at c37
          obtain ⟨wh, hw1, hw2, rfl⟩ := rg (by decide) (by decide) c37
          refine r_aload_n dX5_drawn_43 rfl ?_
          refine r_getR (ci := 5) (k := 5) wf_X5_44 dX5_drawn_44 z_0 k_0 (by decide) (by decide) (fun _ _ => rfl) f_0_5 ?_
          refine r_aload_n dX5_drawn_47 rfl ?_
          refine r_getR (ci := 5) (k := 3) wf_X5_33 dX5_drawn_48 z_0 k_0 (by decide) (by decide) (fun _ _ => rfl) f_0_3 ?_
          refine r_callVV (As := [.ref (B + 21)]) (o := 173) (c_X0_take B D E 173 21 isC_p isC_n dj_pn) hv_X0_take wm_X5_140 dX5_drawn_51 rfl rfl z_173 k_173 (by decide) rfl (Nat.le_of_ble_eq_true rfl) ⟨Nat.le_of_ble_eq_true rfl, Nat.le_of_ble_eq_true rfl, Nat.zero_le _, Nat.zero_le _⟩ ⟨rfl, rfl⟩ (fun D14 E15 hz13 => ?_)
          obtain ⟨hqD, hqE⟩ := hz13
          obtain rfl := hqE.symm
          have hP : XP D D14 r := by rw [hqD]; exact XP.take l5 hCn
          refine r_iload_n dX5_drawn_54 rfl ?_
          refine r_i2l dX5_drawn_55 (fun z16 hz16 => ?_)
          obtain rfl : z16 = nG seed := hz16.trans (nI_G (by omega))
          refine r_lstore [(4, .long (nG seed)), (0, .ref (B + 0)), (1, .int (nI n)), (2, .int (nI seed)), (3, .int (nI wh))] dX5_drawn_56 (by decide) rfl ?_
          refine r_iconst (nI 0) dX5_drawn_58 (by decide) ?_
          refine r_istore [(6, .int (nI 0)), (4, .long (nG seed)), (0, .ref (B + 0)), (1, .int (nI n)), (2, .int (nI seed)), (3, .int (nI wh))] dX5_drawn_59 (by decide) rfl ?_
          refine r_lv [(6, .int (nI 0)), (4, .long (nG ((s_dr wy r seed 0).1))), (0, .ref (B + 0)), (1, .int (nI n)), (2, .int (nI seed)), (3, .int (nI wh))] (List.forall_mem_cons.mpr ⟨rfl, List.forall_mem_cons.mpr ⟨congrArg (fun x => some (Value.long x)) rfl, List.forall_mem_cons.mpr ⟨rfl, List.forall_mem_cons.mpr ⟨rfl, List.forall_mem_cons.mpr ⟨rfl, List.forall_mem_cons.mpr ⟨rfl, fun _ h => absurd h List.not_mem_nil⟩⟩⟩⟩⟩⟩) ?_
          have L : ∀ (fu k : Nat) (Dk : DD), k ≤ n → n - k < fu → (XP D Dk (s_dr wy r seed k).2) → RW yX5_drawn cX5_drawn 7 (some .int) rX5_drawn B (Q2 Z0 (pI (fun v D' E' => v = (if 0 < r 0 then g_drawn wy r (nI n) (nI seed) (nI wh) else -1000002) ∧ SX D D' ∧ E' = E))) Z0 Dk E 0 0 61 [(6, .int (nI k)), (4, .long (nG ((s_dr wy r seed k).1))), (0, .ref (B + 0)), (1, .int (nI n)), (2, .int (nI seed)), (3, .int (nI wh))] [] := by
            intro fu
            induction fu with
            | zero => intro k Dk hku hfu _; omega
            | succ fu ih =>
              intro k Dk hku hfu hI
              refine r_iload dX5_drawn_61 rfl ?_
              refine r_iload_n dX5_drawn_63 rfl ?_
              refine r_icmp_ge (tgt := 148) dX5_drawn_64 (by decide) (fun c64 => ?_) (fun c64 => ?_)
              · skip
                rw [nI_leI (by omega) (by omega)] at c64
                refine r_iload_n dX5_drawn_148 rfl ?_
                refine r_if_ne (tgt := 162) dX5_drawn_149 (by decide) (fun c149 => ?_) (fun c149 => ?_)
                · skip
                  rw [nI_z (by omega)] at c149
                  refine r_aload_n dX5_drawn_162 rfl ?_
                  refine r_getR (ci := 5) (k := 5) wf_X5_44 dX5_drawn_163 z_0 k_0 (by decide) (by decide) (fun _ _ => rfl) f_0_5 ?_
                  refine r_getI (ci := 0) (k := 2) wf_X5_229 dX5_drawn_166 z_173 k_173 (by decide) (by decide) rfl (fun z17 hz17 => ?_)
                  obtain rfl : z17 = nI ((s_dr wy r seed k).2 7) := hz17.trans hI.1.1.2.2.1
                  refine r_aload_n dX5_drawn_169 rfl ?_
                  refine r_getR (ci := 5) (k := 3) wf_X5_33 dX5_drawn_170 z_0 k_0 (by decide) (by decide) (fun _ _ => rfl) f_0_3 ?_
                  refine r_getI (ci := 0) (k := 2) wf_X5_229 dX5_drawn_173 z_21 k_21 (by decide) (by decide) rfl (fun z18 hz18 => ?_)
                  obtain rfl : z18 = nI (r 7) := hz18.trans (hI.2.now hCn).1.2.2.1
                  refine r_isub dX5_drawn_176 (fun z19 hz19 => ?_)
                  subst hz19
                  refine r_iret2 dX5_drawn_177 rfl ⟨Nat.zero_le _, Nat.zero_le _⟩ ?_
                  obtain rfl : k = n := by omega
                  refine ⟨?_, hI.2, rfl⟩
                  unfold g_drawn
                  rw [if_pos c4, if_pos c17, if_pos c28, if_pos c37, nI_clamp (by omega), nI_clamp (by omega)]
                  first
                    | rw [if_pos ((nI_z (by omega)).mpr c149)]
                    | rw [if_neg (fun q => c149 ((nI_z (by omega)).mp q))]
                · skip
                  rw [nI_z (by omega)] at c149
                  refine r_aload_n dX5_drawn_152 rfl ?_
                  refine r_getR (ci := 5) (k := 5) wf_X5_44 dX5_drawn_153 z_0 k_0 (by decide) (by decide) (fun _ _ => rfl) f_0_5 ?_
                  refine r_getI (ci := 0) (k := 1) wf_X5_169 dX5_drawn_156 z_173 k_173 (by decide) (by decide) rfl (fun z20 hz20 => ?_)
                  obtain rfl : z20 = nI ((s_dr wy r seed k).2 1) := hz20.trans hI.1.1.2.1
                  refine r_goto (tgt := 177) dX5_drawn_159 (by decide) ?_
                  refine r_iret2 dX5_drawn_177 rfl ⟨Nat.zero_le _, Nat.zero_le _⟩ ?_
                  obtain rfl : k = n := by omega
                  refine ⟨?_, hI.2, rfl⟩
                  unfold g_drawn
                  rw [if_pos c4, if_pos c17, if_pos c28, if_pos c37, nI_clamp (by omega), nI_clamp (by omega)]
                  first
                    | rw [if_pos ((nI_z (by omega)).mpr c149)]
                    | rw [if_neg (fun q => c149 ((nI_z (by omega)).mp q))]
              · skip
                rw [nI_leI (by omega) (by omega)] at c64
                obtain ⟨i1, i2, i3, i4, i5, i6, i7⟩ := dr_k hW hT hH hY (seed := seed) (by omega) k
                obtain ⟨j1, j2, j3, j4, j5, j6⟩ : s_dd wy r seed k 0 = r 0 ∧ s_dd wy r seed k 5 = r 5 ∧ WF (s_dd wy r seed k) ∧ T2 (s_dd wy r seed k) ∧ HB (s_dd wy r seed k) (999 + k) ∧ WY wy (s_dd wy r seed k) := dd_k (x := (s_dr wy r seed k).1 * 16807 % 2147483647) (by omega) i2 i3 i4 i5 i6 i7
                have hLd : LA Dk 15 wy (s_dd wy r seed k) := LA_dd (LA_dr (hI.2.LA hLl) k)
                have hm0 := Nat.mod_lt ((s_dr wy r seed k).1 * 16807 % 2147483647) (show 0 < r 0 by omega)
                refine r_lload dX5_drawn_67 rfl ?_
                refine r_ldc2v (nG 16807) wg_X5_280 dX5_drawn_69 (by decide) ?_
                refine r_lmul dX5_drawn_72 (fun z21 hz21 => ?_)
                obtain rfl : z21 = nG (((s_dr wy r seed k).1) * 16807) := hz21.trans (nG_mul _ _)
                refine r_ldc2v (nG 2147483647) wg_X5_282 dX5_drawn_73 (by decide) ?_
                refine r_lrem dX5_drawn_76 (by decide) (fun z22 hz22 => ?_)
                obtain rfl : z22 = nG ((s_dr wy r seed k).1 * 16807 % 2147483647) := hz22.trans (nG_rem (by omega) (by decide))
                have hx9 := Nat.mod_lt ((s_dr wy r seed k).1 * 16807) (show 0 < 2147483647 by decide)
                refine r_lstore [(4, .long (nG ((s_dr wy r seed k).1 * 16807 % 2147483647))), (6, .int (nI k)), (0, .ref (B + 0)), (1, .int (nI n)), (2, .int (nI seed)), (3, .int (nI wh))] dX5_drawn_77 (by decide) rfl ?_
                refine r_aload_n dX5_drawn_79 rfl ?_
                refine r_getR (ci := 5) (k := 2) wf_X5_26 dX5_drawn_80 z_0 k_0 (by decide) (by decide) (fun _ _ => rfl) f_0_2 ?_
                refine r_getI (ci := 1) (k := 4) wf_X5_146 dX5_drawn_83 z_15 k_15 (by decide) (by decide) rfl (fun z23 hz23 => ?_)
                obtain rfl : z23 = nI (r 5) := hz23.trans (hI.2.LA hLl).1.2.2.2.2
                refine r_if_le (tgt := 131) dX5_drawn_86 (by decide) (fun c86 => ?_) (fun c86 => ?_)
                · skip
                  rw [nI_zle (by omega)] at c86
                  have hcA : CA Dk 173 (s_dd wy r seed k) ∧ LA Dk 15 wy (s_dd wy r seed k) ∧ SX D Dk := ⟨by unfold s_dd; rw [if_neg (by omega)]; exact hI.1, hLd, hI.2⟩
                  refine r_aload_n dX5_drawn_131 rfl ?_
                  refine r_getR (ci := 5) (k := 5) wf_X5_44 dX5_drawn_132 z_0 k_0 (by decide) (by decide) (fun _ _ => rfl) f_0_5 ?_
                  refine r_aload_n dX5_drawn_135 rfl ?_
                  refine r_getR (ci := 5) (k := 2) wf_X5_26 dX5_drawn_136 z_0 k_0 (by decide) (by decide) (fun _ _ => rfl) f_0_2 ?_
                  refine r_callVV (As := [.ref (B + 15)]) (o := 173) (c_X0_pass B Dk E 173 15 isC_p isL_l (dj15 (Or.inr rfl)) (s_dd wy r seed k) wy j3 (999 + k) j5 (by omega) hcA.1 hcA.2.1 j6 j4) hv_X0_pass wm_X5_166 dX5_drawn_139 rfl rfl z_173 k_173 (by decide) rfl (Nat.le_of_ble_eq_true rfl) ⟨Nat.le_of_ble_eq_true rfl, Nat.le_of_ble_eq_true rfl, Nat.zero_le _, Nat.zero_le _⟩ ⟨rfl, rfl⟩ (fun D25 E26 hz24 => ?_)
                  obtain ⟨hF9, hC9, hqE⟩ := hz24
                  obtain rfl := hqE.symm
                  have hP2 : XP D D25 (s_dr wy r seed (k + 1)).2 := ⟨hC9, fun q h1 h2 => (hF9 q (by omega) (by omega) (by omega)).trans (hcA.2.2 q h1 h2)⟩
                  refine r_iinc (nI (k + 1)) [(6, .int (nI (k + 1))), (4, .long (nG ((s_dr wy r seed k).1 * 16807 % 2147483647))), (0, .ref (B + 0)), (1, .int (nI n)), (2, .int (nI seed)), (3, .int (nI wh))] dX5_drawn_142 rfl (nI_1 _) (by decide) rfl ?_
                  refine r_goto (tgt := 61) dX5_drawn_145 (by decide) ?_
                  exact r_lv [(6, .int (nI (k + 1))), (4, .long (nG ((s_dr wy r seed (k + 1)).1))), (0, .ref (B + 0)), (1, .int (nI n)), (2, .int (nI seed)), (3, .int (nI wh))] (List.forall_mem_cons.mpr ⟨rfl, List.forall_mem_cons.mpr ⟨rfl, List.forall_mem_cons.mpr ⟨rfl, List.forall_mem_cons.mpr ⟨rfl, List.forall_mem_cons.mpr ⟨rfl, List.forall_mem_cons.mpr ⟨rfl, fun _ h => absurd h List.not_mem_nil⟩⟩⟩⟩⟩⟩) (ih (k + 1) D25 (by omega) (by omega) hP2)
                · skip
                  rw [nI_zle (by omega)] at c86
                  have hm5 := Nat.mod_lt ((s_dr wy r seed k).1 * 16807 % 2147483647) (show 0 < r 5 by omega)
                  refine r_aload_n dX5_drawn_89 rfl ?_
                  refine r_getR (ci := 5) (k := 2) wf_X5_26 dX5_drawn_90 z_0 k_0 (by decide) (by decide) (fun _ _ => rfl) f_0_2 ?_
                  refine r_getI (ci := 1) (k := 0) wf_X5_244 dX5_drawn_93 z_15 k_15 (by decide) (by decide) rfl (fun z27 hz27 => ?_)
                  obtain rfl : z27 = nI (r 0) := hz27.trans (hI.2.LA hLl).1.1
                  refine r_if_le (tgt := 131) dX5_drawn_96 (by decide) (fun c96 => ?_) (fun c96 => ?_)
                  · exact absurd ((nI_zle (by omega)).mp c96) (by omega)
                  refine r_aload_n dX5_drawn_99 rfl ?_
                  refine r_getR (ci := 5) (k := 5) wf_X5_44 dX5_drawn_100 z_0 k_0 (by decide) (by decide) (fun _ _ => rfl) f_0_5 ?_
                  refine r_getR (ci := 0) (k := 7) wf_X5_178 dX5_drawn_103 z_173 k_173 (by decide) (by decide) (fun _ _ => rfl) f_173_7 ?_
                  refine r_lload dX5_drawn_106 rfl ?_
                  refine r_aload_n dX5_drawn_108 rfl ?_
                  refine r_getR (ci := 5) (k := 2) wf_X5_26 dX5_drawn_109 z_0 k_0 (by decide) (by decide) (fun _ _ => rfl) f_0_2 ?_
                  refine r_getI (ci := 1) (k := 4) wf_X5_146 dX5_drawn_112 z_15 k_15 (by decide) (by decide) rfl (fun z28 hz28 => ?_)
                  obtain rfl : z28 = nI (r 5) := hz28.trans (hI.2.LA hLl).1.2.2.2.2
                  refine r_i2l dX5_drawn_115 (fun z29 hz29 => ?_)
                  obtain rfl : z29 = nG (r 5) := hz29.trans (nI_G (by omega))
                  refine r_lrem dX5_drawn_116 (fun q => absurd ((nG_z (by omega)).mp q) (by omega)) (fun z30 hz30 => ?_)
                  obtain rfl : z30 = nG ((s_dr wy r seed k).1 * 16807 % 2147483647 % r 5) := hz30.trans (nG_rem (by omega) (by omega))
                  refine r_l2i dX5_drawn_117 (fun z31 hz31 => ?_)
                  obtain rfl : z31 = nI ((s_dr wy r seed k).1 * 16807 % 2147483647 % r 5) := hz31.trans nG_I
                  refine r_lload dX5_drawn_118 rfl ?_
                  refine r_aload_n dX5_drawn_120 rfl ?_
                  refine r_getR (ci := 5) (k := 2) wf_X5_26 dX5_drawn_121 z_0 k_0 (by decide) (by decide) (fun _ _ => rfl) f_0_2 ?_
                  refine r_getI (ci := 1) (k := 0) wf_X5_244 dX5_drawn_124 z_15 k_15 (by decide) (by decide) rfl (fun z32 hz32 => ?_)
                  obtain rfl : z32 = nI (r 0) := hz32.trans (hI.2.LA hLl).1.1
                  refine r_i2l dX5_drawn_127 (fun z33 hz33 => ?_)
                  obtain rfl : z33 = nG (r 0) := hz33.trans (nI_G (by omega))
                  refine r_lrem dX5_drawn_128 (fun q => absurd ((nG_z (by omega)).mp q) (by omega)) (fun z34 hz34 => ?_)
                  obtain rfl : z34 = nG ((s_dr wy r seed k).1 * 16807 % 2147483647 % r 0) := hz34.trans (nG_rem (by omega) (by omega))
                  refine r_l2i dX5_drawn_129 (fun z35 hz35 => ?_)
                  obtain rfl : z35 = nI ((s_dr wy r seed k).1 * 16807 % 2147483647 % r 0) := hz35.trans nG_I
                  refine r_iast dX5_drawn_130 z_175 k_175 (vp_in_nI (by omega) (by decide)) (fun D36 hD36 => ?_)
                  rw [nI_clamp (by omega)] at hD36
                  obtain rfl : D36 = upo Dk 175 (upd (Dk 175) ((s_dr wy r seed k).1 * 16807 % 2147483647 % r 5) (nI ((s_dr wy r seed k).1 * 16807 % 2147483647 % r 0))) := hD36.trans up2_eq
                  have hcA : CA ((upo Dk 175 (upd (Dk 175) ((s_dr wy r seed k).1 * 16807 % 2147483647 % r 5) (nI ((s_dr wy r seed k).1 * 16807 % 2147483647 % r 0))))) 173 (s_dd wy r seed k) ∧ LA ((upo Dk 175 (upd (Dk 175) ((s_dr wy r seed k).1 * 16807 % 2147483647 % r 5) (nI ((s_dr wy r seed k).1 * 16807 % 2147483647 % r 0))))) 15 wy (s_dd wy r seed k) ∧ SX D ((upo Dk 175 (upd (Dk 175) ((s_dr wy r seed k).1 * 16807 % 2147483647 % r 5) (nI ((s_dr wy r seed k).1 * 16807 % 2147483647 % r 0))))) := ⟨by unfold s_dd; rw [if_pos (by omega)]; exact CA_aim hI.1, LA_upo hLd (fun j hj => by omega), fun q h1 h2 => (upo_n (by omega)).trans (hI.2 q h1 h2)⟩
                  refine r_aload_n dX5_drawn_131 rfl ?_
                  refine r_getR (ci := 5) (k := 5) wf_X5_44 dX5_drawn_132 z_0 k_0 (by decide) (by decide) (fun _ _ => rfl) f_0_5 ?_
                  refine r_aload_n dX5_drawn_135 rfl ?_
                  refine r_getR (ci := 5) (k := 2) wf_X5_26 dX5_drawn_136 z_0 k_0 (by decide) (by decide) (fun _ _ => rfl) f_0_2 ?_
                  refine r_callVV (As := [.ref (B + 15)]) (o := 173) (c_X0_pass B (upo Dk 175 (upd (Dk 175) ((s_dr wy r seed k).1 * 16807 % 2147483647 % r 5) (nI ((s_dr wy r seed k).1 * 16807 % 2147483647 % r 0)))) E 173 15 isC_p isL_l (dj15 (Or.inr rfl)) (s_dd wy r seed k) wy j3 (999 + k) j5 (by omega) hcA.1 hcA.2.1 j6 j4) hv_X0_pass wm_X5_166 dX5_drawn_139 rfl rfl z_173 k_173 (by decide) rfl (Nat.le_of_ble_eq_true rfl) ⟨Nat.le_of_ble_eq_true rfl, Nat.le_of_ble_eq_true rfl, Nat.zero_le _, Nat.zero_le _⟩ ⟨rfl, rfl⟩ (fun D38 E39 hz37 => ?_)
                  obtain ⟨hF9, hC9, hqE⟩ := hz37
                  obtain rfl := hqE.symm
                  have hP2 : XP D D38 (s_dr wy r seed (k + 1)).2 := ⟨hC9, fun q h1 h2 => (hF9 q (by omega) (by omega) (by omega)).trans (hcA.2.2 q h1 h2)⟩
                  refine r_iinc (nI (k + 1)) [(6, .int (nI (k + 1))), (4, .long (nG ((s_dr wy r seed k).1 * 16807 % 2147483647))), (0, .ref (B + 0)), (1, .int (nI n)), (2, .int (nI seed)), (3, .int (nI wh))] dX5_drawn_142 rfl (nI_1 _) (by decide) rfl ?_
                  refine r_goto (tgt := 61) dX5_drawn_145 (by decide) ?_
                  exact r_lv [(6, .int (nI (k + 1))), (4, .long (nG ((s_dr wy r seed (k + 1)).1))), (0, .ref (B + 0)), (1, .int (nI n)), (2, .int (nI seed)), (3, .int (nI wh))] (List.forall_mem_cons.mpr ⟨rfl, List.forall_mem_cons.mpr ⟨rfl, List.forall_mem_cons.mpr ⟨rfl, List.forall_mem_cons.mpr ⟨rfl, List.forall_mem_cons.mpr ⟨rfl, List.forall_mem_cons.mpr ⟨rfl, fun _ h => absurd h List.not_mem_nil⟩⟩⟩⟩⟩⟩) (ih (k + 1) D38 (by omega) (by omega) hP2)
          exact r_lv [(6, .int (nI 0)), (4, .long (nG ((s_dr wy r seed 0).1))), (0, .ref (B + 0)), (1, .int (nI n)), (2, .int (nI seed)), (3, .int (nI wh))] (List.forall_mem_cons.mpr ⟨rfl, List.forall_mem_cons.mpr ⟨rfl, List.forall_mem_cons.mpr ⟨rfl, List.forall_mem_cons.mpr ⟨rfl, List.forall_mem_cons.mpr ⟨rfl, List.forall_mem_cons.mpr ⟨rfl, fun _ h => absurd h List.not_mem_nil⟩⟩⟩⟩⟩⟩) (L (n + 1) 0 D14 (by omega) (by omega) hP)
        · skip
          rw [bI_0] at c37
          refine r_ldc wc_X5_77 dX5_drawn_40 ?_
          refine r_iret2 dX5_drawn_42 rfl ⟨Nat.zero_le _, Nat.zero_le _⟩ ?_
          refine ⟨?_, SX.rf, rfl⟩
          unfold g_drawn
          rw [if_pos c4]
          first | rw [if_neg c17] | rw [if_pos c17, if_neg c28] | rw [if_pos c17, if_pos c28, if_neg c37]
  · skip
    rw [bI_0] at c4
    refine r_ldc wc_X5_152 dX5_drawn_7 ?_
    refine r_iret2 dX5_drawn_9 rfl ⟨Nat.zero_le _, Nat.zero_le _⟩ ?_
    refine ⟨?_, SX.rf, rfl⟩
    rw [if_neg c4]
