/-! the law's loop -/
theorem lw_neg {L k : Nat} (h : L < k + 6) (hL : L ≤ 3072) (hk : k ≤ 3078) : nI L - nI 6 < nI k := by
  by_cases q : 6 ≤ L
  · rw [nI_sub q]
    exact (nI_ltI (by omega) (by omega)).mpr (by omega)
  · have e : nI L - nI 6 < nI 0 := by
      match L, q with
      | 0, _ => decide
      | 1, _ => decide
      | 2, _ => decide
      | 3, _ => decide
      | 4, _ => decide
      | 5, _ => decide
      | n + 6, q => exact absurd (show 6 ≤ n + 6 by omega) q
    exact Int32.lt_of_lt_of_le e ((nI_leI (by decide) (by omega)).mpr (Nat.zero_le _))
set_option maxRecDepth 100000 in
theorem lw_loop {X : LX} (hL0 : X.L ≤ 3072) : ∀ n k : Nat, X.L ≤ k + n → k ≤ X.L → ∀ (D : DD) (E : EE) (a : AS), XS D a → YS D a → OKS a → LW X Z0 D E 234 4604 18 (LV X k) [] := by
  intro n
  induction n using Nat.strongRecOn with
  | ind n ih =>
  intro k hn hkL D E a hx hy ho
  refine lw_r_iload_n dL_18 rfl ?_
  refine lw_r_aload_n dL_19 rfl ?_
  refine lw_r_slen dL_20 ?_
  refine lw_r_bipush (nI 6) dL_21 (by decide) ?_
  refine lw_r_isub dL_23 (fun z hz => ?_)
  subst hz
  by_cases q : k + 5 < X.L
  · refine lw_r_icmp_gt (tgt := 1253) dL_24 (by decide) (fun c => ?_) (fun _ => ?_)
    · rw [nI_sub (by omega)] at c
      exact absurd ((nI_ltI (by omega) (by omega)).mp c) (by omega)
    refine lw_r_aload_n dL_27 rfl ?_
    refine lw_r_iload_n dL_28 rfl ?_
    refine lw_r_sld dL_29 (vp_in_nI (by omega) (by omega)) ?_
    refine lw_r_bipush (nI 63) dL_30 (by decide) ?_
    refine lw_r_iand dL_32 (fun z hz => ?_)
    clear hz
    have K : ∀ (D : DD) (E : EE) (a : AS), XS D a → YS D a → OKS a → LW X Z0 D E 234 4604 1247 (LV X k) [] := fun D E a h1 h2 h3 => by
      refine lw_r_iinc (nI (k + 6)) (LV X (k + 6)) dL_1247 rfl (nI_add _ _) (by decide) rfl ?_
      refine lw_r_goto (tgt := 18) dL_1250 (by decide) ?_
      exact ih (n - 6) (by omega) (k + 6) (by omega) (by omega) D E a h1 h2 h3
    rcases sw_or 33 z with ⟨c, hc, rfl⟩ | h
    · match c, hc with
      | 0, _ => exact lw_r_tabIn (off := 151) (tgt := 184) dL_33 (by decide) (by decide) (by decide) (by decide) (lw_k0 q hL0 hx hy ho K)
      | 1, _ => exact lw_r_tabIn (off := 194) (tgt := 227) dL_33 (by decide) (by decide) (by decide) (by decide) (lw_k1 q hL0 hx hy ho K)
      | 2, _ => exact lw_r_tabIn (off := 237) (tgt := 270) dL_33 (by decide) (by decide) (by decide) (by decide) (lw_k2 q hL0 hx hy ho K)
      | 3, _ => exact lw_r_tabIn (off := 300) (tgt := 333) dL_33 (by decide) (by decide) (by decide) (by decide) (lw_k3 q hL0 hx hy ho K)
      | 4, _ => exact lw_r_tabIn (off := 323) (tgt := 356) dL_33 (by decide) (by decide) (by decide) (by decide) (lw_k4 q hL0 hx hy ho K)
      | 5, _ => exact lw_r_tabIn (off := 346) (tgt := 379) dL_33 (by decide) (by decide) (by decide) (by decide) (lw_k5 q hL0 hx hy ho K)
      | 6, _ => exact lw_r_tabIn (off := 359) (tgt := 392) dL_33 (by decide) (by decide) (by decide) (by decide) (lw_k6 q hL0 hx hy ho K)
      | 7, _ => exact lw_r_tabIn (off := 372) (tgt := 405) dL_33 (by decide) (by decide) (by decide) (by decide) (lw_k7 q hL0 hx hy ho K)
      | 8, _ => exact lw_r_tabIn (off := 385) (tgt := 418) dL_33 (by decide) (by decide) (by decide) (by decide) (lw_k8 q hL0 hx hy ho K)
      | 9, _ => exact lw_r_tabIn (off := 408) (tgt := 441) dL_33 (by decide) (by decide) (by decide) (by decide) (lw_k9 q hL0 hx hy ho K)
      | 10, _ => exact lw_r_tabIn (off := 451) (tgt := 484) dL_33 (by decide) (by decide) (by decide) (by decide) (lw_k10 q hL0 hx hy ho K)
      | 11, _ => exact lw_r_tabIn (off := 484) (tgt := 517) dL_33 (by decide) (by decide) (by decide) (by decide) (lw_k11 q hL0 hx hy ho K)
      | 12, _ => exact lw_r_tabIn (off := 517) (tgt := 550) dL_33 (by decide) (by decide) (by decide) (by decide) (lw_k12 q hL0 hx hy ho K)
      | 13, _ => exact lw_r_tabIn (off := 550) (tgt := 583) dL_33 (by decide) (by decide) (by decide) (by decide) (lw_k13 q hL0 hx hy ho K)
      | 14, _ => exact lw_r_tabIn (off := 583) (tgt := 616) dL_33 (by decide) (by decide) (by decide) (by decide) (lw_k14 q hL0 hx hy ho K)
      | 15, _ => exact lw_r_tabIn (off := 616) (tgt := 649) dL_33 (by decide) (by decide) (by decide) (by decide) (lw_k15 q hL0 hx hy ho K)
      | 16, _ => exact lw_r_tabIn (off := 649) (tgt := 682) dL_33 (by decide) (by decide) (by decide) (by decide) (lw_k16 q hL0 hx hy ho K)
      | 17, _ => exact lw_r_tabIn (off := 672) (tgt := 705) dL_33 (by decide) (by decide) (by decide) (by decide) (lw_k17 q hL0 hx hy ho K)
      | 18, _ => exact lw_r_tabIn (off := 715) (tgt := 748) dL_33 (by decide) (by decide) (by decide) (by decide) (lw_k18 q hL0 hx hy ho K)
      | 19, _ => exact lw_r_tabIn (off := 748) (tgt := 781) dL_33 (by decide) (by decide) (by decide) (by decide) (lw_k19 q hL0 hx hy ho K)
      | 20, _ => exact lw_r_tabIn (off := 791) (tgt := 824) dL_33 (by decide) (by decide) (by decide) (by decide) (lw_k20 q hL0 hx hy ho K)
      | 21, _ => exact lw_r_tabIn (off := 844) (tgt := 877) dL_33 (by decide) (by decide) (by decide) (by decide) (lw_k21 q hL0 hx hy ho K)
      | 22, _ => exact lw_r_tabIn (off := 897) (tgt := 930) dL_33 (by decide) (by decide) (by decide) (by decide) (lw_k22 q hL0 hx hy ho K)
      | 23, _ => exact lw_r_tabIn (off := 920) (tgt := 953) dL_33 (by decide) (by decide) (by decide) (by decide) (lw_k23 q hL0 hx hy ho K)
      | 24, _ => exact lw_r_tabIn (off := 943) (tgt := 976) dL_33 (by decide) (by decide) (by decide) (by decide) (lw_k24 q hL0 hx hy ho K)
      | 25, _ => exact lw_r_tabIn (off := 977) (tgt := 1010) dL_33 (by decide) (by decide) (by decide) (by decide) (lw_k25 q hL0 hx hy ho K)
      | 26, _ => exact lw_r_tabIn (off := 1020) (tgt := 1053) dL_33 (by decide) (by decide) (by decide) (by decide) (lw_k26 q hL0 hx hy ho K)
      | 27, _ => exact lw_r_tabIn (off := 1043) (tgt := 1076) dL_33 (by decide) (by decide) (by decide) (by decide) (lw_k27 q hL0 hx hy ho K)
      | 28, _ => exact lw_r_tabIn (off := 1066) (tgt := 1099) dL_33 (by decide) (by decide) (by decide) (by decide) (lw_k28 q hL0 hx hy ho K)
      | 29, _ => exact lw_r_tabIn (off := 1089) (tgt := 1122) dL_33 (by decide) (by decide) (by decide) (by decide) (lw_k29 q hL0 hx hy ho K)
      | 30, _ => exact lw_r_tabIn (off := 1122) (tgt := 1155) dL_33 (by decide) (by decide) (by decide) (by decide) (lw_k30 q hL0 hx hy ho K)
      | 31, _ => exact lw_r_tabIn (off := 1155) (tgt := 1188) dL_33 (by decide) (by decide) (by decide) (by decide) (lw_k31 q hL0 hx hy ho K)
      | 32, _ => exact lw_r_tabIn (off := 1178) (tgt := 1211) dL_33 (by decide) (by decide) (by decide) (by decide) (lw_k32 q hL0 hx hy ho K)
      | 33, _ => exact lw_r_tabIn (off := 1201) (tgt := 1234) dL_33 (by decide) (by decide) (by decide) (by decide) (lw_k33 q hL0 hx hy ho K)
      | c + 34, hc => exact absurd hc (by omega)
    · exact lw_r_tabOut (tgt := 1247) dL_33 h (by decide) (K D E a hx hy ho)
  · refine lw_r_icmp_gt (tgt := 1253) dL_24 (by decide) (fun _ => ?_) (fun c => ?_)
    · refine lw_r_iconst 1 dL_1253 (by decide) ?_
      exact lw_r_end dL_1254 (Nat.le_of_ble_eq_true rfl) (Nat.le_of_ble_eq_true rfl)
    · exact absurd (lw_neg (by omega) hL0 (by omega)) c
