set_option maxRecDepth 100000 in
set_option maxHeartbeats 4000000 in
theorem c_X6_in (B : Nat) (D : DD) (E : EE) (x a b : Int32) : MR yX6_in cX6_in 6 (some .boolean) rX6_in B [.long x.toInt64, .long a.toInt64, .long b.toInt64] Z0 D E (Q2 Z0 (pI (fun v D' E' => v = (bI (a ≤ x ∧ x ≤ b)) ∧ D' = D ∧ E' = E))) := by
  refine r_enter [(0, .long x.toInt64), (2, .long a.toInt64), (4, .long b.toInt64)] hs_X6_in.1.2.2.2.2 (Nat.le_of_ble_eq_true rfl) rfl ?_
  refine r_lload_n dX6_in_0 rfl ?_
  refine r_lload_n dX6_in_1 rfl ?_
  refine r_lcmp dX6_in_2 (fun z1 hz1 => ?_)
  subst hz1
  refine r_if_lt (tgt := 17) dX6_in_3 (by decide) (fun c3 => ?_) (fun c3 => ?_)
  · skip
    rw [lg_cmp_lt, Int64.lt_iff_toInt_lt, Int32.toInt_toInt64, Int32.toInt_toInt64, ← Int32.lt_iff_toInt_lt] at c3
    refine r_iconst (nI 0) dX6_in_17 (by decide) ?_
    refine r_zret2 dX6_in_18 rfl ⟨Nat.zero_le _, Nat.zero_le _⟩ rfl ?_
    first | exact ⟨bI_t ⟨Int32.not_lt.mp c3, Int32.not_lt.mp c10⟩, rfl, rfl⟩ | exact ⟨bI_f (fun q => Int32.not_lt.mpr q.1 c3), rfl, rfl⟩ | exact ⟨bI_f (fun q => Int32.not_lt.mpr q.2 c10), rfl, rfl⟩
  · skip
    rw [lg_cmp_lt, Int64.lt_iff_toInt_lt, Int32.toInt_toInt64, Int32.toInt_toInt64, ← Int32.lt_iff_toInt_lt] at c3
    refine r_lload_n dX6_in_6 rfl ?_
    refine r_lload dX6_in_7 rfl ?_
    refine r_lcmp dX6_in_9 (fun z2 hz2 => ?_)
    subst hz2
    refine r_if_gt (tgt := 17) dX6_in_10 (by decide) (fun c10 => ?_) (fun c10 => ?_)
    · skip
      rw [lg_cmp_gt, Int64.lt_iff_toInt_lt, Int32.toInt_toInt64, Int32.toInt_toInt64, ← Int32.lt_iff_toInt_lt] at c10
      refine r_iconst (nI 0) dX6_in_17 (by decide) ?_
      refine r_zret2 dX6_in_18 rfl ⟨Nat.zero_le _, Nat.zero_le _⟩ rfl ?_
      first | exact ⟨bI_t ⟨Int32.not_lt.mp c3, Int32.not_lt.mp c10⟩, rfl, rfl⟩ | exact ⟨bI_f (fun q => Int32.not_lt.mpr q.1 c3), rfl, rfl⟩ | exact ⟨bI_f (fun q => Int32.not_lt.mpr q.2 c10), rfl, rfl⟩
    · skip
      rw [lg_cmp_gt, Int64.lt_iff_toInt_lt, Int32.toInt_toInt64, Int32.toInt_toInt64, ← Int32.lt_iff_toInt_lt] at c10
      refine r_iconst (nI 1) dX6_in_13 (by decide) ?_
      refine r_goto (tgt := 18) dX6_in_14 (by decide) ?_
      refine r_zret2 dX6_in_18 rfl ⟨Nat.zero_le _, Nat.zero_le _⟩ rfl ?_
      first | exact ⟨bI_t ⟨Int32.not_lt.mp c3, Int32.not_lt.mp c10⟩, rfl, rfl⟩ | exact ⟨bI_f (fun q => Int32.not_lt.mpr q.1 c3), rfl, rfl⟩ | exact ⟨bI_f (fun q => Int32.not_lt.mpr q.2 c10), rfl, rfl⟩
set_option maxRecDepth 100000 in
set_option maxHeartbeats 4000000 in
theorem c_X6_isThere (B : Nat) (D : DD) (E : EE) (n : Nat) (hn : D 223 0 = nI n) (h6 : n ≤ 6) : MR yX6_isThere cX6_isThere 1 (some .boolean) rX6_isThere B [.ref (B + 219)] Z0 D E (Q2 Z0 (pI (fun v D' E' => v = (bI (0 < n)) ∧ D' = D ∧ E' = E))) := by
  refine r_enter [(0, .ref (B + 219))] hv_X6_isThere.1.2.2.2.2 (Nat.le_of_ble_eq_true rfl) rfl ?_
  refine r_aload_n dX6_isThere_0 rfl ?_
  refine r_getR (ci := 6) (k := 5) wf_X6_19 dX6_isThere_1 z_219 k_219 (by decide) (by decide) (fun _ _ => rfl) f_219_5 ?_
  refine r_iconst (nI 0) dX6_isThere_4 (by decide) ?_
  refine r_iald dX6_isThere_5 z_223 k_223 (vp_in_nI (by decide) (by decide)) (fun z1 hz1 => ?_)
  rw [nI_clamp (by omega)] at hz1
  obtain rfl : z1 = nI n := hz1.trans hn
  refine r_if_le (tgt := 13) dX6_isThere_6 (by decide) (fun c6 => ?_) (fun c6 => ?_)
  · skip
    rw [nI_zle (by omega)] at c6
    refine r_iconst (nI 0) dX6_isThere_13 (by decide) ?_
    refine r_zret2 dX6_isThere_14 rfl ⟨Nat.zero_le _, Nat.zero_le _⟩ rfl ?_
    first | exact ⟨bI_t (by omega), rfl, rfl⟩ | exact ⟨bI_f (by omega), rfl, rfl⟩
  · skip
    rw [nI_zle (by omega)] at c6
    refine r_iconst (nI 1) dX6_isThere_9 (by decide) ?_
    refine r_goto (tgt := 14) dX6_isThere_10 (by decide) ?_
    refine r_zret2 dX6_isThere_14 rfl ⟨Nat.zero_le _, Nat.zero_le _⟩ rfl ?_
    first | exact ⟨bI_t (by omega), rfl, rfl⟩ | exact ⟨bI_f (by omega), rfl, rfl⟩
set_option maxRecDepth 100000 in
set_option maxHeartbeats 4000000 in
theorem c_X6_isPlace (B : Nat) (D : DD) (E : EE) (x : Int32) (n : Nat) (hn : D 223 0 = nI n) : MR yX6_isPlace cX6_isPlace 2 (some .boolean) rX6_isPlace B [.ref (B + 219), .int x] Z0 D E (Q2 Z0 (pI (fun v D' E' => v = (bI (nI 0 ≤ x ∧ x ≤ nI n - nI 1)) ∧ D' = D ∧ E' = E))) := by
  refine r_enter [(0, .ref (B + 219)), (1, .int x)] hv_X6_isPlace.1.2.2.2.2 (Nat.le_of_ble_eq_true rfl) rfl ?_
  refine r_iload_n dX6_isPlace_0 rfl ?_
  refine r_i2l dX6_isPlace_1 (fun z1 hz1 => ?_)
  subst hz1
  refine r_lconst ((nI 0).toInt64) dX6_isPlace_2 (by decide) ?_
  refine r_aload_n dX6_isPlace_3 rfl ?_
  refine r_getR (ci := 6) (k := 5) wf_X6_19 dX6_isPlace_4 z_219 k_219 (by decide) (by decide) (fun _ _ => rfl) f_219_5 ?_
  refine r_iconst (nI 0) dX6_isPlace_7 (by decide) ?_
  refine r_iald dX6_isPlace_8 z_223 k_223 (vp_in_nI (by decide) (by decide)) (fun z2 hz2 => ?_)
  rw [nI_clamp (by omega)] at hz2
  obtain rfl : z2 = nI n := hz2.trans hn
  refine r_iconst (nI 1) dX6_isPlace_9 (by decide) ?_
  refine r_isub dX6_isPlace_10 (fun z3 hz3 => ?_)
  subst hz3
  refine r_i2l dX6_isPlace_11 (fun z4 hz4 => ?_)
  subst hz4
  refine r_callSI (As := [.long x.toInt64, .long ((nI 0).toInt64), .long (((nI n) - (nI 1)).toInt64)]) (c_X6_in B D E x (nI 0) (nI n - nI 1)) hs_X6_in wm_X6_64 rfl dX6_isPlace_12 rfl rfl (Nat.le_of_ble_eq_true rfl) ⟨Nat.le_of_ble_eq_true rfl, Nat.le_of_ble_eq_true rfl, Nat.zero_le _, Nat.zero_le _⟩ ⟨rfl, rfl⟩ (fun z5 D6 E7 hz5 => ?_)
  obtain ⟨hqV, hqD, hqE⟩ := hz5
  obtain rfl : z5 = bI (nI 0 ≤ x ∧ x ≤ nI n - nI 1) := hqV
  obtain rfl := hqD.symm
  obtain rfl := hqE.symm
  refine r_zret2 dX6_isPlace_15 rfl ⟨Nat.zero_le _, Nat.zero_le _⟩ (narrow_bI _) ?_
  exact ⟨rfl, rfl, rfl⟩
set_option maxRecDepth 100000 in
set_option maxHeartbeats 4000000 in
theorem c_X6_isWisher (B : Nat) (D : DD) (E : EE) (x : Int32) (n : Nat) (hn : D 223 5 = nI n) : MR yX6_isWisher cX6_isWisher 2 (some .boolean) rX6_isWisher B [.ref (B + 219), .int x] Z0 D E (Q2 Z0 (pI (fun v D' E' => v = (bI (nI 0 ≤ x ∧ x ≤ nI n - nI 1)) ∧ D' = D ∧ E' = E))) := by
  refine r_enter [(0, .ref (B + 219)), (1, .int x)] hv_X6_isWisher.1.2.2.2.2 (Nat.le_of_ble_eq_true rfl) rfl ?_
  refine r_iload_n dX6_isWisher_0 rfl ?_
  refine r_i2l dX6_isWisher_1 (fun z1 hz1 => ?_)
  subst hz1
  refine r_lconst ((nI 0).toInt64) dX6_isWisher_2 (by decide) ?_
  refine r_aload_n dX6_isWisher_3 rfl ?_
  refine r_getR (ci := 6) (k := 5) wf_X6_19 dX6_isWisher_4 z_219 k_219 (by decide) (by decide) (fun _ _ => rfl) f_219_5 ?_
  refine r_iconst (nI 5) dX6_isWisher_7 (by decide) ?_
  refine r_iald dX6_isWisher_8 z_223 k_223 (vp_in_nI (by decide) (by decide)) (fun z2 hz2 => ?_)
  rw [nI_clamp (by omega)] at hz2
  obtain rfl : z2 = nI n := hz2.trans hn
  refine r_iconst (nI 1) dX6_isWisher_9 (by decide) ?_
  refine r_isub dX6_isWisher_10 (fun z3 hz3 => ?_)
  subst hz3
  refine r_i2l dX6_isWisher_11 (fun z4 hz4 => ?_)
  subst hz4
  refine r_callSI (As := [.long x.toInt64, .long ((nI 0).toInt64), .long (((nI n) - (nI 1)).toInt64)]) (c_X6_in B D E x (nI 0) (nI n - nI 1)) hs_X6_in wm_X6_64 rfl dX6_isWisher_12 rfl rfl (Nat.le_of_ble_eq_true rfl) ⟨Nat.le_of_ble_eq_true rfl, Nat.le_of_ble_eq_true rfl, Nat.zero_le _, Nat.zero_le _⟩ ⟨rfl, rfl⟩ (fun z5 D6 E7 hz5 => ?_)
  obtain ⟨hqV, hqD, hqE⟩ := hz5
  obtain rfl : z5 = bI (nI 0 ≤ x ∧ x ≤ nI n - nI 1) := hqV
  obtain rfl := hqD.symm
  obtain rfl := hqE.symm
  refine r_zret2 dX6_isWisher_15 rfl ⟨Nat.zero_le _, Nat.zero_le _⟩ (narrow_bI _) ?_
  exact ⟨rfl, rfl, rfl⟩
set_option maxRecDepth 100000 in
set_option maxHeartbeats 4000000 in
theorem c_X6_of (B : Nat) (D : DD) (E : EE) (q : Nat) (hq : q = 223 ∨ q = 225) (w j : Nat) (h : 16 + 8 * w + j < 64) : MR yX6_of cX6_of 3 (some .int) rX6_of B [.ref (B + q), .int (nI w), .int (nI j)] Z0 D E (Q2 Z0 (pI (fun v D' E' => v = (D q (16 + 8 * w + j)) ∧ D' = D ∧ E' = E))) := by
  have hql : q < Z0.1 := by rcases hq with rfl | rfl <;> decide
  have hqk : Z0.2.1 q = (10, 64) := by rcases hq with rfl | rfl <;> decide +kernel
  refine r_enter [(0, .ref (B + q)), (1, .int (nI w)), (2, .int (nI j))] hs_X6_of.1.2.2.2.2 (Nat.le_of_ble_eq_true rfl) rfl ?_
  refine r_aload_n dX6_of_0 rfl ?_
  refine r_bipush (nI 16) dX6_of_1 (by decide) ?_
  refine r_bipush (nI 8) dX6_of_3 (by decide) ?_
  refine r_iload_n dX6_of_5 rfl ?_
  refine r_imul dX6_of_6 (fun z1 hz1 => ?_)
  obtain rfl : z1 = nI (8 * w) := (hz1.trans (pk_mul _ _))
  refine r_iadd dX6_of_7 (fun z2 hz2 => ?_)
  obtain rfl : z2 = nI (16 + (8 * w)) := (hz2.trans (nI_add _ _))
  refine r_iload_n dX6_of_8 rfl ?_
  refine r_iadd dX6_of_9 (fun z3 hz3 => ?_)
  obtain rfl : z3 = nI ((16 + (8 * w)) + j) := (hz3.trans (nI_add _ _))
  refine r_iald dX6_of_10 hql hqk (vp_in_nI (by omega) (by decide)) (fun z4 hz4 => ?_)
  rw [nI_clamp (by omega)] at hz4
  subst hz4
  refine r_iret2 dX6_of_11 rfl ⟨Nat.zero_le _, Nat.zero_le _⟩ ?_
  exact ⟨rfl, rfl, rfl⟩
set_option maxRecDepth 100000 in
set_option maxHeartbeats 4000000 in
theorem c_X6_farBy (B : Nat) (D : DD) (E : EE) (a b : Nat) (h : 6 * a + b < 36) : MR yX6_farBy cX6_farBy 3 (some .int) rX6_farBy B [.ref (B + 219), .int (nI a), .int (nI b)] Z0 D E (Q2 Z0 (pI (fun v D' E' => v = (D 228 (6 * a + b)) ∧ D' = D ∧ E' = E))) := by
  refine r_enter [(0, .ref (B + 219)), (1, .int (nI a)), (2, .int (nI b))] hv_X6_farBy.1.2.2.2.2 (Nat.le_of_ble_eq_true rfl) rfl ?_
  refine r_aload_n dX6_farBy_0 rfl ?_
  refine r_getR (ci := 6) (k := 19) wf_X6_34 dX6_farBy_1 z_219 k_219 (by decide) (by decide) (fun _ _ => rfl) f_219_19 ?_
  refine r_bipush (nI 6) dX6_farBy_4 (by decide) ?_
  refine r_iload_n dX6_farBy_6 rfl ?_
  refine r_imul dX6_farBy_7 (fun z1 hz1 => ?_)
  obtain rfl : z1 = nI (6 * a) := (hz1.trans (pk_mul _ _))
  refine r_iload_n dX6_farBy_8 rfl ?_
  refine r_iadd dX6_farBy_9 (fun z2 hz2 => ?_)
  obtain rfl : z2 = nI ((6 * a) + b) := (hz2.trans (nI_add _ _))
  refine r_iald dX6_farBy_10 z_228 k_228 (vp_in_nI (by omega) (by decide)) (fun z3 hz3 => ?_)
  rw [nI_clamp (by omega)] at hz3
  subst hz3
  refine r_iret2 dX6_farBy_11 rfl ⟨Nat.zero_le _, Nat.zero_le _⟩ ?_
  exact ⟨rfl, rfl, rfl⟩
set_option maxRecDepth 100000 in
set_option maxHeartbeats 4000000 in
theorem c_X6_atLeastNone (B : Nat) (D : DD) (E : EE) (x : Int32) : MR yX6_atLeastNone cX6_atLeastNone 1 (some .int) rX6_atLeastNone B [.int x] Z0 D E (Q2 Z0 (pI (fun v D' E' => v = (if x < 0 then nI 0 else x) ∧ D' = D ∧ E' = E))) := by
  refine r_enter [(0, .int x)] hs_X6_atLeastNone.1.2.2.2.2 (Nat.le_of_ble_eq_true rfl) rfl ?_
  refine r_iload_n dX6_atLeastNone_0 rfl ?_
  refine r_if_ge (tgt := 8) dX6_atLeastNone_1 (by decide) (fun c1 => ?_) (fun c1 => ?_)
  · skip
    refine r_iload_n dX6_atLeastNone_8 rfl ?_
    refine r_iret2 dX6_atLeastNone_9 rfl ⟨Nat.zero_le _, Nat.zero_le _⟩ ?_
    first | exact ⟨(if_pos (Int32.not_le.mp c1)).symm, rfl, rfl⟩ | exact ⟨(if_neg (Int32.not_lt.mpr c1)).symm, rfl, rfl⟩
  · skip
    refine r_iconst (nI 0) dX6_atLeastNone_4 (by decide) ?_
    refine r_goto (tgt := 9) dX6_atLeastNone_5 (by decide) ?_
    refine r_iret2 dX6_atLeastNone_9 rfl ⟨Nat.zero_le _, Nat.zero_le _⟩ ?_
    first | exact ⟨(if_pos (Int32.not_le.mp c1)).symm, rfl, rfl⟩ | exact ⟨(if_neg (Int32.not_lt.mpr c1)).symm, rfl, rfl⟩
set_option maxRecDepth 100000 in
set_option maxHeartbeats 4000000 in
theorem c_X6_wishes (B : Nat) (D : DD) (E : EE) (q : Nat) (hq : q = 223 ∨ q = 225) (r : Row) (wy : Nat → Nat) (hW : WF r) (b : Nat) (hH : HB r b) (hb : b < 2 ^ 20) (hM : MA D q r) (hY : WY wy r) (w : Nat) (hw : w < r 5) : MR yX6_wishes cX6_wishes 2 (some .boolean) rX6_wishes B [.ref (B + q), .int (nI w)] Z0 D E (Q2 Z0 (pI (fun v D' E' => v = (bI (s_wiB r w = true)) ∧ D' = D ∧ E' = E))) := by
  have hql : q < Z0.1 := by rcases hq with rfl | rfl <;> decide
  have hqk : Z0.2.1 q = (10, 64) := by rcases hq with rfl | rfl <;> decide +kernel
  obtain ⟨⟨b1, b2, b3, b4, b5, b6, b7, b8⟩, b9, b10, b11⟩ := id hW
  obtain ⟨hb1, hb2, hb3⟩ := id hH
  obtain ⟨⟨d1, d2⟩, d3, d4, d5, d6, ⟨d7, d8⟩, d9, d10⟩ := b10 w hw
  refine r_enter [(0, .ref (B + q)), (1, .int (nI w))] hs_X6_wishes.1.2.2.2.2 (Nat.le_of_ble_eq_true rfl) rfl ?_
  refine r_aload_n dX6_wishes_0 rfl ?_
  refine r_iload_n dX6_wishes_1 rfl ?_
  refine r_bipush (nI 7) dX6_wishes_2 (by decide) ?_
  refine r_callSI (As := [.ref (B + q), .int (nI w), .int (nI 7)]) (c_X6_of B D E q hq w 7 (by omega)) hs_X6_of wm_X6_159 rfl dX6_wishes_4 rfl rfl (Nat.le_of_ble_eq_true rfl) ⟨Nat.le_of_ble_eq_true rfl, Nat.le_of_ble_eq_true rfl, Nat.zero_le _, Nat.zero_le _⟩ ⟨rfl, rfl⟩ (fun z1 D2 E3 hz1 => ?_)
  obtain ⟨hq1, hqD, hqE⟩ := hz1
  obtain rfl := hqD.symm
  obtain rfl := hqE.symm
  obtain rfl : z1 = nI (r (23 + 8 * w)) := hq1.trans (MA_at hM (by omega) (by omega))
  refine r_if_ne (tgt := 40) dX6_wishes_7 (by decide) (fun c7 => ?_) (fun c7 => ?_)
  · skip
    rw [nI_z (by omega)] at c7
    refine r_iconst (nI 0) dX6_wishes_40 (by decide) ?_
    refine r_zret2 dX6_wishes_41 rfl ⟨Nat.zero_le _, Nat.zero_le _⟩ rfl ?_
    first | exact ⟨bI_t (s_wiB_iff.mpr ⟨by omega, by omega⟩), rfl, rfl⟩ | exact ⟨bI_f (fun q => by have q1 := (s_wiB_iff.mp q).1; have q2 := (s_wiB_iff.mp q).2; omega), rfl, rfl⟩
  · skip
    rw [nI_z (by omega)] at c7
    refine r_aload_n dX6_wishes_10 rfl ?_
    refine r_bipush (nI 6) dX6_wishes_11 (by decide) ?_
    refine r_iald dX6_wishes_13 hql hqk (vp_in_nI (by decide) (by decide)) (fun z4 hz4 => ?_)
    rw [nI_clamp (by omega)] at hz4
    obtain rfl : z4 = nI (r 6) := hz4.trans (hM 6 (by decide))
    refine r_bipush (nI 6) dX6_wishes_14 (by decide) ?_
    refine r_iadd dX6_wishes_16 (fun z5 hz5 => ?_)
    obtain rfl : z5 = nI ((r 6) + 6) := (hz5.trans (nI_add _ _))
    refine r_aload_n dX6_wishes_17 rfl ?_
    refine r_iload_n dX6_wishes_18 rfl ?_
    refine r_iconst (nI 4) dX6_wishes_19 (by decide) ?_
    refine r_callSI (As := [.ref (B + q), .int (nI w), .int (nI 4)]) (c_X6_of B D E q hq w 4 (by omega)) hs_X6_of wm_X6_159 rfl dX6_wishes_20 rfl rfl (Nat.le_of_ble_eq_true rfl) ⟨Nat.le_of_ble_eq_true rfl, Nat.le_of_ble_eq_true rfl, Nat.zero_le _, Nat.zero_le _⟩ ⟨rfl, rfl⟩ (fun z6 D7 E8 hz6 => ?_)
    obtain ⟨hq1, hqD, hqE⟩ := hz6
    obtain rfl := hqD.symm
    obtain rfl := hqE.symm
    obtain rfl : z6 = nI (r (20 + 8 * w)) := hq1.trans (MA_at hM (by omega) (by omega))
    refine r_isub dX6_wishes_23 (fun z9 hz9 => ?_)
    obtain rfl : z9 = nI (r 6 + 6 - r (20 + 8 * w)) := hz9.trans (nI_sub (by omega))
    refine r_bipush (nI 6) dX6_wishes_24 (by decide) ?_
    refine r_irem dX6_wishes_26 (by decide) (fun z10 hz10 => ?_)
    obtain rfl : z10 = nI ((r 6 + 6 - r (20 + 8 * w)) % 6) := hz10.trans (nI_mod (by omega) (by decide) (by decide))
    refine r_aload_n dX6_wishes_27 rfl ?_
    refine r_iload_n dX6_wishes_28 rfl ?_
    refine r_iconst (nI 5) dX6_wishes_29 (by decide) ?_
    refine r_callSI (As := [.ref (B + q), .int (nI w), .int (nI 5)]) (c_X6_of B D E q hq w 5 (by omega)) hs_X6_of wm_X6_159 rfl dX6_wishes_30 rfl rfl (Nat.le_of_ble_eq_true rfl) ⟨Nat.le_of_ble_eq_true rfl, Nat.le_of_ble_eq_true rfl, Nat.zero_le _, Nat.zero_le _⟩ ⟨rfl, rfl⟩ (fun z11 D12 E13 hz11 => ?_)
    obtain ⟨hq1, hqD, hqE⟩ := hz11
    obtain rfl := hqD.symm
    obtain rfl := hqE.symm
    obtain rfl : z11 = nI (r (21 + 8 * w)) := hq1.trans (MA_at hM (by omega) (by omega))
    refine r_icmp_ge (tgt := 40) dX6_wishes_33 (by decide) (fun c33 => ?_) (fun c33 => ?_)
    · skip
      rw [nI_leI (by omega) (by omega)] at c33
      refine r_iconst (nI 0) dX6_wishes_40 (by decide) ?_
      refine r_zret2 dX6_wishes_41 rfl ⟨Nat.zero_le _, Nat.zero_le _⟩ rfl ?_
      first | exact ⟨bI_t (s_wiB_iff.mpr ⟨by omega, by omega⟩), rfl, rfl⟩ | exact ⟨bI_f (fun q => by have q1 := (s_wiB_iff.mp q).1; have q2 := (s_wiB_iff.mp q).2; omega), rfl, rfl⟩
    · skip
      rw [nI_leI (by omega) (by omega)] at c33
      refine r_iconst (nI 1) dX6_wishes_36 (by decide) ?_
      refine r_goto (tgt := 41) dX6_wishes_37 (by decide) ?_
      refine r_zret2 dX6_wishes_41 rfl ⟨Nat.zero_le _, Nat.zero_le _⟩ rfl ?_
      first | exact ⟨bI_t (s_wiB_iff.mpr ⟨by omega, by omega⟩), rfl, rfl⟩ | exact ⟨bI_f (fun q => by have q1 := (s_wiB_iff.mp q).1; have q2 := (s_wiB_iff.mp q).2; omega), rfl, rfl⟩
set_option maxRecDepth 100000 in
set_option maxHeartbeats 4000000 in
theorem c_X6_wishBy (B : Nat) (D : DD) (E : EE) (q : Nat) (hq : q = 223 ∨ q = 225) (r : Row) (wy : Nat → Nat) (hW : WF r) (b : Nat) (hH : HB r b) (hb : b < 2 ^ 20) (hM : MA D q r) (hY : WY wy r) (hwy : ∀ j, j < 6 * r 0 → D 228 j = nI (wy j)) (w : Nat) (hw : w < r 5) : MR yX6_wishBy cX6_wishBy 6 (some .int) rX6_wishBy B [.ref (B + 219), .ref (B + q), .int (nI w)] Z0 D E (Q2 Z0 (pI (fun v D' E' => v = (nI (s_wish wy r w)) ∧ D' = D ∧ E' = E))) := by
  have hql : q < Z0.1 := by rcases hq with rfl | rfl <;> decide
  have hqk : Z0.2.1 q = (10, 64) := by rcases hq with rfl | rfl <;> decide +kernel
  obtain ⟨⟨b1, b2, b3, b4, b5, b6, b7, b8⟩, b9, b10, b11⟩ := id hW
  obtain ⟨hb1, hb2, hb3⟩ := id hH
  obtain ⟨⟨d1, d2⟩, d3, d4, d5, d6, ⟨d7, d8⟩, d9, d10⟩ := b10 w hw
  have hwy9 : wy (6 * r (17 + 8 * w) + r (18 + 8 * w)) ≤ 9 := hY.1 _ (by omega)
  refine r_enter [(0, .ref (B + 219)), (1, .ref (B + q)), (2, .int (nI w))] hv_X6_wishBy.1.2.2.2.2 (Nat.le_of_ble_eq_true rfl) rfl ?_
  refine r_aload_n dX6_wishBy_0 rfl ?_
  refine r_iload_n dX6_wishBy_1 rfl ?_
  refine r_iconst (nI 3) dX6_wishBy_2 (by decide) ?_
  refine r_callSI (As := [.ref (B + q), .int (nI w), .int (nI 3)]) (c_X6_of B D E q hq w 3 (by omega)) hs_X6_of wm_X6_159 rfl dX6_wishBy_3 rfl rfl (Nat.le_of_ble_eq_true rfl) ⟨Nat.le_of_ble_eq_true rfl, Nat.le_of_ble_eq_true rfl, Nat.zero_le _, Nat.zero_le _⟩ ⟨rfl, rfl⟩ (fun z1 D2 E3 hz1 => ?_)
  obtain ⟨hq1, hqD, hqE⟩ := hz1
  obtain rfl := hqD.symm
  obtain rfl := hqE.symm
  obtain rfl : z1 = nI (r (19 + 8 * w)) := hq1.trans (MA_at hM (by omega) (by omega))
  refine r_istore_n [(3, .int (nI (r (19 + 8 * w)))), (0, .ref (B + 219)), (1, .ref (B + q)), (2, .int (nI w))] dX6_wishBy_6 (by decide) rfl ?_
  refine r_aload_n dX6_wishBy_7 rfl ?_
  refine r_iload_n dX6_wishBy_8 rfl ?_
  refine r_bipush (nI 6) dX6_wishBy_9 (by decide) ?_
  refine r_callSI (As := [.ref (B + q), .int (nI w), .int (nI 6)]) (c_X6_of B D E q hq w 6 (by omega)) hs_X6_of wm_X6_159 rfl dX6_wishBy_11 rfl rfl (Nat.le_of_ble_eq_true rfl) ⟨Nat.le_of_ble_eq_true rfl, Nat.le_of_ble_eq_true rfl, Nat.zero_le _, Nat.zero_le _⟩ ⟨rfl, rfl⟩ (fun z4 D5 E6 hz4 => ?_)
  obtain ⟨hq1, hqD, hqE⟩ := hz4
  obtain rfl := hqD.symm
  obtain rfl := hqE.symm
  obtain rfl : z4 = nI (r (22 + 8 * w)) := hq1.trans (MA_at hM (by omega) (by omega))
  refine r_istore [(4, .int (nI (r (22 + 8 * w)))), (3, .int (nI (r (19 + 8 * w)))), (0, .ref (B + 219)), (1, .ref (B + q)), (2, .int (nI w))] dX6_wishBy_14 (by decide) rfl ?_
  refine r_aload_n dX6_wishBy_16 rfl ?_
  refine r_aload_n dX6_wishBy_17 rfl ?_
  refine r_iload_n dX6_wishBy_18 rfl ?_
  refine r_iconst (nI 1) dX6_wishBy_19 (by decide) ?_
  refine r_callSI (As := [.ref (B + q), .int (nI w), .int (nI 1)]) (c_X6_of B D E q hq w 1 (by omega)) hs_X6_of wm_X6_159 rfl dX6_wishBy_20 rfl rfl (Nat.le_of_ble_eq_true rfl) ⟨Nat.le_of_ble_eq_true rfl, Nat.le_of_ble_eq_true rfl, Nat.zero_le _, Nat.zero_le _⟩ ⟨rfl, rfl⟩ (fun z7 D8 E9 hz7 => ?_)
  obtain ⟨hq1, hqD, hqE⟩ := hz7
  obtain rfl := hqD.symm
  obtain rfl := hqE.symm
  obtain rfl : z7 = nI (r (17 + 8 * w)) := hq1.trans (MA_at hM (by omega) (by omega))
  refine r_aload_n dX6_wishBy_23 rfl ?_
  refine r_iload_n dX6_wishBy_24 rfl ?_
  refine r_iconst (nI 2) dX6_wishBy_25 (by decide) ?_
  refine r_callSI (As := [.ref (B + q), .int (nI w), .int (nI 2)]) (c_X6_of B D E q hq w 2 (by omega)) hs_X6_of wm_X6_159 rfl dX6_wishBy_26 rfl rfl (Nat.le_of_ble_eq_true rfl) ⟨Nat.le_of_ble_eq_true rfl, Nat.le_of_ble_eq_true rfl, Nat.zero_le _, Nat.zero_le _⟩ ⟨rfl, rfl⟩ (fun z10 D11 E12 hz10 => ?_)
  obtain ⟨hq1, hqD, hqE⟩ := hz10
  obtain rfl := hqD.symm
  obtain rfl := hqE.symm
  obtain rfl : z10 = nI (r (18 + 8 * w)) := hq1.trans (MA_at hM (by omega) (by omega))
  refine r_callVI (As := [.int (nI (r (17 + 8 * w))), .int (nI (r (18 + 8 * w)))]) (o := 219) (c_X6_farBy B D E (r (17 + 8 * w)) (r (18 + 8 * w)) (by omega)) hv_X6_farBy wm_X6_163 dX6_wishBy_29 rfl rfl z_219 k_219 (by decide) rfl (Nat.le_of_ble_eq_true rfl) ⟨Nat.le_of_ble_eq_true rfl, Nat.le_of_ble_eq_true rfl, Nat.zero_le _, Nat.zero_le _⟩ ⟨rfl, rfl⟩ (fun z13 D14 E15 hz13 => ?_)
  obtain ⟨hq1, hqD, hqE⟩ := hz13
  obtain rfl := hqD.symm
  obtain rfl := hqE.symm
  obtain rfl : z13 = nI (wy (6 * r (17 + 8 * w) + r (18 + 8 * w))) := hq1.trans (hwy _ (by omega))
  refine r_istore [(5, .int (nI (wy (6 * r (17 + 8 * w) + r (18 + 8 * w))))), (4, .int (nI (r (22 + 8 * w)))), (3, .int (nI (r (19 + 8 * w)))), (0, .ref (B + 219)), (1, .ref (B + q)), (2, .int (nI w))] dX6_wishBy_32 (by decide) rfl ?_
  refine r_aload_n dX6_wishBy_34 rfl ?_
  refine r_iload_n dX6_wishBy_35 rfl ?_
  refine r_iconst (nI 0) dX6_wishBy_36 (by decide) ?_
  refine r_callSI (As := [.ref (B + q), .int (nI w), .int (nI 0)]) (c_X6_of B D E q hq w 0 (by omega)) hs_X6_of wm_X6_159 rfl dX6_wishBy_37 rfl rfl (Nat.le_of_ble_eq_true rfl) ⟨Nat.le_of_ble_eq_true rfl, Nat.le_of_ble_eq_true rfl, Nat.zero_le _, Nat.zero_le _⟩ ⟨rfl, rfl⟩ (fun z16 D17 E18 hz16 => ?_)
  obtain ⟨hq1, hqD, hqE⟩ := hz16
  obtain rfl := hqD.symm
  obtain rfl := hqE.symm
  obtain rfl : z16 = nI (r (16 + 8 * w)) := hq1.trans (MA_at hM (by omega) (by omega))
  rcases (show r (16 + 8 * w) = 1 ∨ r (16 + 8 * w) = 2 ∨ r (16 + 8 * w) = 3 ∨ r (16 + 8 * w) = 4 ∨ r (16 + 8 * w) = 5 by omega) with hk | hk | hk | hk | hk
  · refine r_tabIn (off := 32) (tgt := 72) dX6_wishBy_40 (by rw [hk]; decide) (by rw [hk]; decide) (by rw [hk]; rfl) (by decide) ?_
    refine r_iload_n dX6_wishBy_72 rfl ?_
    refine r_iload dX6_wishBy_73 rfl ?_
    refine r_isub dX6_wishBy_75 (fun z19 hz19 => ?_)
    subst hz19
    refine r_iload dX6_wishBy_76 rfl ?_
    refine r_isub dX6_wishBy_78 (fun z20 hz20 => ?_)
    subst hz20
    refine r_callSI (As := [.int (((nI (r (19 + 8 * w))) - (nI (wy (6 * r (17 + 8 * w) + r (18 + 8 * w))))) - (nI (r (22 + 8 * w))))]) (c_X6_atLeastNone B D E (nI (r (19 + 8 * w)) - nI (wy (6 * r (17 + 8 * w) + r (18 + 8 * w))) - nI (r (22 + 8 * w)))) hs_X6_atLeastNone wm_X6_166 rfl dX6_wishBy_79 rfl rfl (Nat.le_of_ble_eq_true rfl) ⟨Nat.le_of_ble_eq_true rfl, Nat.le_of_ble_eq_true rfl, Nat.zero_le _, Nat.zero_le _⟩ ⟨rfl, rfl⟩ (fun z21 D22 E23 hz21 => ?_)
    obtain ⟨hq1, hqD, hqE⟩ := hz21
    obtain rfl := hqD.symm
    obtain rfl := hqE.symm
    obtain rfl : z21 = nI (r (19 + 8 * w) - wy (6 * r (17 + 8 * w) + r (18 + 8 * w)) - r (22 + 8 * w)) := hq1.trans (at0_2 (by omega) (by omega) (by omega))
    refine r_iret2 dX6_wishBy_82 rfl ⟨Nat.zero_le _, Nat.zero_le _⟩ ?_
    refine ⟨congrArg nI ?_, rfl, rfl⟩
    unfold s_wish
    rw [if_pos hk]
  · refine r_tabIn (off := 43) (tgt := 83) dX6_wishBy_40 (by rw [hk]; decide) (by rw [hk]; decide) (by rw [hk]; rfl) (by decide) ?_
    refine r_iload_n dX6_wishBy_83 rfl ?_
    refine r_iload dX6_wishBy_84 rfl ?_
    refine r_isub dX6_wishBy_86 (fun z24 hz24 => ?_)
    subst hz24
    refine r_callSI (As := [.int ((nI (r (19 + 8 * w))) - (nI (wy (6 * r (17 + 8 * w) + r (18 + 8 * w)))))]) (c_X6_atLeastNone B D E (nI (r (19 + 8 * w)) - nI (wy (6 * r (17 + 8 * w) + r (18 + 8 * w))))) hs_X6_atLeastNone wm_X6_166 rfl dX6_wishBy_87 rfl rfl (Nat.le_of_ble_eq_true rfl) ⟨Nat.le_of_ble_eq_true rfl, Nat.le_of_ble_eq_true rfl, Nat.zero_le _, Nat.zero_le _⟩ ⟨rfl, rfl⟩ (fun z25 D26 E27 hz25 => ?_)
    obtain ⟨hq1, hqD, hqE⟩ := hz25
    obtain rfl := hqD.symm
    obtain rfl := hqE.symm
    obtain rfl : z25 = nI (r (19 + 8 * w) - wy (6 * r (17 + 8 * w) + r (18 + 8 * w))) := hq1.trans (at0_1 (by omega) (by omega))
    refine r_iret2 dX6_wishBy_90 rfl ⟨Nat.zero_le _, Nat.zero_le _⟩ ?_
    refine ⟨congrArg nI ?_, rfl, rfl⟩
    unfold s_wish
    rw [if_neg (by omega), if_pos hk]
  · refine r_tabIn (off := 51) (tgt := 91) dX6_wishBy_40 (by rw [hk]; decide) (by rw [hk]; decide) (by rw [hk]; rfl) (by decide) ?_
    refine r_aload_n dX6_wishBy_91 rfl ?_
    refine r_bipush (nI 6) dX6_wishBy_92 (by decide) ?_
    refine r_iald dX6_wishBy_94 hql hqk (vp_in_nI (by decide) (by decide)) (fun z28 hz28 => ?_)
    rw [nI_clamp (by omega)] at hz28
    obtain rfl : z28 = nI (r 6) := hz28.trans (hM 6 (by decide))
    refine r_bipush (nI 6) dX6_wishBy_95 (by decide) ?_
    refine r_irem dX6_wishBy_97 (by decide) (fun z29 hz29 => ?_)
    obtain rfl : z29 = nI (r 6 % 6) := hz29.trans (nI_mod (by omega) (by decide) (by decide))
    refine r_iconst (nI 3) dX6_wishBy_98 (by decide) ?_
    refine r_icmp_le (tgt := 117) dX6_wishBy_99 (by decide) (fun c99 => ?_) (fun c99 => ?_)
    · skip
      rw [nI_leI (by omega) (by omega)] at c99
      refine r_iconst (nI 0) dX6_wishBy_117 (by decide) ?_
      refine r_iret2 dX6_wishBy_118 rfl ⟨Nat.zero_le _, Nat.zero_le _⟩ ?_
      refine ⟨congrArg nI ?_, rfl, rfl⟩
      unfold s_wish
      rw [if_neg (by omega), if_neg (by omega), if_pos hk]
      first | rw [if_pos (by omega)] | rw [if_neg (by omega)]
    · skip
      rw [nI_leI (by omega) (by omega)] at c99
      refine r_iconst (nI 2) dX6_wishBy_102 (by decide) ?_
      refine r_iload_n dX6_wishBy_103 rfl ?_
      refine r_iload dX6_wishBy_104 rfl ?_
      refine r_isub dX6_wishBy_106 (fun z30 hz30 => ?_)
      subst hz30
      refine r_iload dX6_wishBy_107 rfl ?_
      refine r_isub dX6_wishBy_109 (fun z31 hz31 => ?_)
      subst hz31
      refine r_callSI (As := [.int (((nI (r (19 + 8 * w))) - (nI (wy (6 * r (17 + 8 * w) + r (18 + 8 * w))))) - (nI (r (22 + 8 * w))))]) (c_X6_atLeastNone B D E (nI (r (19 + 8 * w)) - nI (wy (6 * r (17 + 8 * w) + r (18 + 8 * w))) - nI (r (22 + 8 * w)))) hs_X6_atLeastNone wm_X6_166 rfl dX6_wishBy_110 rfl rfl (Nat.le_of_ble_eq_true rfl) ⟨Nat.le_of_ble_eq_true rfl, Nat.le_of_ble_eq_true rfl, Nat.zero_le _, Nat.zero_le _⟩ ⟨rfl, rfl⟩ (fun z32 D33 E34 hz32 => ?_)
      obtain ⟨hq1, hqD, hqE⟩ := hz32
      obtain rfl := hqD.symm
      obtain rfl := hqE.symm
      obtain rfl : z32 = nI (r (19 + 8 * w) - wy (6 * r (17 + 8 * w) + r (18 + 8 * w)) - r (22 + 8 * w)) := hq1.trans (at0_2 (by omega) (by omega) (by omega))
      refine r_imul dX6_wishBy_113 (fun z35 hz35 => ?_)
      obtain rfl : z35 = nI (2 * (r (19 + 8 * w) - wy (6 * r (17 + 8 * w) + r (18 + 8 * w)) - r (22 + 8 * w))) := (hz35.trans (pk_mul _ _))
      refine r_goto (tgt := 118) dX6_wishBy_114 (by decide) ?_
      refine r_iret2 dX6_wishBy_118 rfl ⟨Nat.zero_le _, Nat.zero_le _⟩ ?_
      refine ⟨congrArg nI ?_, rfl, rfl⟩
      unfold s_wish
      rw [if_neg (by omega), if_neg (by omega), if_pos hk]
      first | rw [if_pos (by omega)] | rw [if_neg (by omega)]
  · refine r_tabIn (off := 79) (tgt := 119) dX6_wishBy_40 (by rw [hk]; decide) (by rw [hk]; decide) (by rw [hk]; rfl) (by decide) ?_
    refine r_iload_n dX6_wishBy_119 rfl ?_
    refine r_iload dX6_wishBy_120 rfl ?_
    refine r_isub dX6_wishBy_122 (fun z36 hz36 => ?_)
    subst hz36
    refine r_callSI (As := [.int ((nI (r (19 + 8 * w))) - (nI (r (22 + 8 * w))))]) (c_X6_atLeastNone B D E (nI (r (19 + 8 * w)) - nI (r (22 + 8 * w)))) hs_X6_atLeastNone wm_X6_166 rfl dX6_wishBy_123 rfl rfl (Nat.le_of_ble_eq_true rfl) ⟨Nat.le_of_ble_eq_true rfl, Nat.le_of_ble_eq_true rfl, Nat.zero_le _, Nat.zero_le _⟩ ⟨rfl, rfl⟩ (fun z37 D38 E39 hz37 => ?_)
    obtain ⟨hq1, hqD, hqE⟩ := hz37
    obtain rfl := hqD.symm
    obtain rfl := hqE.symm
    obtain rfl : z37 = nI (r (19 + 8 * w) - r (22 + 8 * w)) := hq1.trans (at0_1 (by omega) (by omega))
    refine r_iret2 dX6_wishBy_126 rfl ⟨Nat.zero_le _, Nat.zero_le _⟩ ?_
    refine ⟨congrArg nI ?_, rfl, rfl⟩
    unfold s_wish
    rw [if_neg (by omega), if_neg (by omega), if_neg (by omega), if_pos hk]
  · refine r_tabOut (tgt := 127) dX6_wishBy_40 (Or.inr (by rw [nI_toInt (by omega)]; omega)) (by decide) ?_
    refine r_iload_n dX6_wishBy_127 rfl ?_
    refine r_iload dX6_wishBy_128 rfl ?_
    refine r_isub dX6_wishBy_130 (fun z40 hz40 => ?_)
    subst hz40
    refine r_callSI (As := [.int ((nI (r (19 + 8 * w))) - (nI (r (22 + 8 * w))))]) (c_X6_atLeastNone B D E (nI (r (19 + 8 * w)) - nI (r (22 + 8 * w)))) hs_X6_atLeastNone wm_X6_166 rfl dX6_wishBy_131 rfl rfl (Nat.le_of_ble_eq_true rfl) ⟨Nat.le_of_ble_eq_true rfl, Nat.le_of_ble_eq_true rfl, Nat.zero_le _, Nat.zero_le _⟩ ⟨rfl, rfl⟩ (fun z41 D42 E43 hz41 => ?_)
    obtain ⟨hq1, hqD, hqE⟩ := hz41
    obtain rfl := hqD.symm
    obtain rfl := hqE.symm
    obtain rfl : z41 = nI (r (19 + 8 * w) - r (22 + 8 * w)) := hq1.trans (at0_1 (by omega) (by omega))
    refine r_iconst (nI 2) dX6_wishBy_134 (by decide) ?_
    refine r_aload_n dX6_wishBy_135 rfl ?_
    refine r_iload_n dX6_wishBy_136 rfl ?_
    refine r_iconst (nI 5) dX6_wishBy_137 (by decide) ?_
    refine r_callSI (As := [.ref (B + q), .int (nI w), .int (nI 5)]) (c_X6_of B D E q hq w 5 (by omega)) hs_X6_of wm_X6_159 rfl dX6_wishBy_138 rfl rfl (Nat.le_of_ble_eq_true rfl) ⟨Nat.le_of_ble_eq_true rfl, Nat.le_of_ble_eq_true rfl, Nat.zero_le _, Nat.zero_le _⟩ ⟨rfl, rfl⟩ (fun z44 D45 E46 hz44 => ?_)
    obtain ⟨hq1, hqD, hqE⟩ := hz44
    obtain rfl := hqD.symm
    obtain rfl := hqE.symm
    obtain rfl : z44 = nI (r (21 + 8 * w)) := hq1.trans (MA_at hM (by omega) (by omega))
    refine r_iconst (nI 1) dX6_wishBy_141 (by decide) ?_
    refine r_isub dX6_wishBy_142 (fun z47 hz47 => ?_)
    obtain rfl : z47 = nI (r (21 + 8 * w) - 1) := hz47.trans (nI_sub (by omega))
    refine r_imul dX6_wishBy_143 (fun z48 hz48 => ?_)
    obtain rfl : z48 = nI (2 * (r (21 + 8 * w) - 1)) := (hz48.trans (pk_mul _ _))
    refine r_iadd dX6_wishBy_144 (fun z49 hz49 => ?_)
    obtain rfl : z49 = nI ((r (19 + 8 * w) - r (22 + 8 * w)) + (2 * (r (21 + 8 * w) - 1))) := (hz49.trans (nI_add _ _))
    refine r_iret2 dX6_wishBy_145 rfl ⟨Nat.zero_le _, Nat.zero_le _⟩ ?_
    refine ⟨congrArg nI ?_, rfl, rfl⟩
    unfold s_wish
    rw [if_neg (by omega), if_neg (by omega), if_neg (by omega), if_neg (by omega)]
