set_option maxRecDepth 100000 in
set_option maxHeartbeats 4000000 in
theorem c_X6_nextToken (B : Nat) (D : DD) (E : EE) (t : TPt) (hT : TPm D t) (c : Nat) (hc : c ≤ t.1) (hcu : D 219 12 = nI c) : MR yX6_nextToken cX6_nextToken 1 none rX6_nextToken B [.ref (B + 219)] Z0 D E (Q2 Z0 (pV (fun D' E' => MTK (D' 219) t c ∧ TFm D D' ∧ E' = E))) := by
  obtain ⟨e1, e2, e3⟩ := id hT
  have h04 := s_t0_le (t := t) (c := c)
  refine r_enter [(0, .ref (B + 219))] hv_X6_nextToken.1.2.2.2.2 (Nat.le_of_ble_eq_true rfl) rfl ?_
  refine r_aload_n dX6_nextToken_0 rfl ?_
  refine r_aload_n dX6_nextToken_1 rfl ?_
  refine r_getI (ci := 6) (k := 12) wf_X6_94 dX6_nextToken_2 z_219 k_219 (by decide) (by decide) rfl (fun z1 hz1 => ?_)
  obtain rfl : z1 = nI c := hz1.trans hcu
  refine r_putI (ci := 6) (k := 13) wf_X6_88 dX6_nextToken_5 z_219 k_219 (by decide) (by decide) rfl rfl (fun D2 hD2 => ?_)
  obtain rfl : D2 = upo D 219 (upd (D 219) 13 (nI c)) := hD2.trans up2_eq
  have JN : ∀ V T : Int32, V = s_rv t c → T = nI (s_t0 t c) → RW yX6_nextToken cX6_nextToken 1 none rX6_nextToken B (Q2 Z0 (pV (fun D' E' => MTK (D' 219) t c ∧ TFm D D' ∧ E' = E))) Z0 (upo D 219 (upd (upd (upd (D 219) 13 (nI c)) 15 V) 14 T)) E 0 0 121 [(0, .ref (B + 219))] [] := by
    intro V T hV9 hT9
    subst hV9 hT9
    have JN2 : ∀ c1 : Nat, c1 = (if c < t.1 then c + 1 else c) → RW yX6_nextToken cX6_nextToken 1 none rX6_nextToken B (Q2 Z0 (pV (fun D' E' => MTK (D' 219) t c ∧ TFm D D' ∧ E' = E))) Z0 (upo D 219 (upd (upd (upd (upd (D 219) 13 (nI c)) 15 (s_rv t c)) 14 (nI (s_t0 t c))) 12 (nI c1))) E 0 0 146 [(0, .ref (B + 219))] [] := by
      intro c1 hc1
      refine r_aload_n dX6_nextToken_146 rfl ?_
      refine r_getI (ci := 6) (k := 14) wf_X6_109 dX6_nextToken_147 z_219 k_219 (by decide) (by decide) rfl (fun z3 hz3 => ?_)
      obtain rfl : z3 = nI (s_t0 t c) := hz3.trans ((congrFun (upo_s) _).trans ((pk_un (by decide)).trans (pk_us)))
      refine r_iconst (nI 3) dX6_nextToken_150 (by decide) ?_
      refine r_icmp_ne (tgt := 277) dX6_nextToken_151 (by decide) (fun c151 => ?_) (fun c151 => ?_)
      · skip
        rw [nI_eq (by omega) (by omega)] at c151
        refine r_vret2 dX6_nextToken_277 rfl ⟨Nat.zero_le _, Nat.zero_le _⟩ ?_
        refine ⟨?_, ⟨fun q a => upo_n a, fun f hf => ?_⟩, rfl⟩
        · rw [upo_s]
          first
            | exact nt_a hc hc1 c151
            | exact nt_b hI hnf c266
            | exact nt_c hI hnf c266
        · rw [upo_s]
          first
            | exact (pk_un (by omega)).trans ((pk_un (by omega)).trans ((pk_un (by omega)).trans (pk_un (by omega))))
            | exact (pk_un (by omega)).trans (hI.2.2.2.2.2 f hf)
      · skip
        rw [nI_eq (by omega) (by omega)] at c151
        have hf0 := t0_3.mp c151
        have hlt := fg_lt hf0
        have hby0 : s_by t c = t.2 c := if_pos hlt
        have hf0a := hf0.1
        have hf0b := hf0.2
        have hc9 : c1 = c + 1 := by rw [hc1, if_pos hlt]
        refine r_aload_n dX6_nextToken_154 rfl ?_
        refine r_dup dX6_nextToken_155 rfl ?_
        refine r_getI (ci := 6) (k := 15) wf_X6_98 dX6_nextToken_156 z_219 k_219 (by decide) (by decide) rfl (fun z4 hz4 => ?_)
        obtain rfl : z4 = nI (t.2 c) := (hz4.trans ((congrFun upo_s 15).trans ((pk_un (by decide)).trans ((pk_un (by decide)).trans pk_us)))).trans (if_pos hlt)
        refine r_bipush (nI 48) dX6_nextToken_159 (by decide) ?_
        refine r_isub dX6_nextToken_161 (fun z5 hz5 => ?_)
        obtain rfl : z5 = nI (t.2 c - 48) := hz5.trans (nI_sub (by omega))
        refine r_putI (ci := 6) (k := 15) wf_X6_98 dX6_nextToken_162 z_219 k_219 (by decide) (by decide) rfl rfl (fun D6 hD6 => ?_)
        obtain rfl : D6 = upo D 219 (upd (upd (upd (upd (upd (D 219) 13 (nI c)) 15 (s_rv t c)) 14 (nI (s_t0 t c))) 12 (nI c1)) 15 (nI (t.2 c - 48))) := hD6.trans up2_upo
        have L : ∀ (fu k : Nat) (gk : Nat → Int32), k ≤ t.1 → t.1 - k < fu → (NTI D t c k gk) → RW yX6_nextToken cX6_nextToken 1 none rX6_nextToken B (Q2 Z0 (pV (fun D' E' => MTK (D' 219) t c ∧ TFm D D' ∧ E' = E))) Z0 (upo D 219 gk) E 0 0 165 [(0, .ref (B + 219))] [] := by
          intro fu
          induction fu with
          | zero => intro k gk hku hfu _; omega
          | succ fu ih =>
            intro k gk hku hfu hI
            refine r_aload_n dX6_nextToken_165 rfl ?_
            refine r_getI (ci := 6) (k := 12) wf_X6_94 dX6_nextToken_166 z_219 k_219 (by decide) (by decide) rfl (fun z7 hz7 => ?_)
            obtain rfl : z7 = nI (c + 1 + k) := hz7.trans ((congrFun upo_s 12).trans hI.1)
            refine r_aload_n dX6_nextToken_169 rfl ?_
            refine r_getI (ci := 6) (k := 11) wf_X6_81 dX6_nextToken_170 z_219 k_219 (by decide) (by decide) rfl (fun z8 hz8 => ?_)
            obtain rfl : z8 = nI t.1 := hz8.trans ((congrFun upo_s 11).trans ((hI.2.2.2.2.2 11 (by decide)).trans e1))
            have hi2 := hI.2.1
            refine r_icmp_ge (tgt := 255) dX6_nextToken_173 (by decide) (fun c173 => ?_) (fun c173 => ?_)
            · skip
              rw [nI_leI (by omega) (by omega)] at c173
              have hnf : ¬ s_fg t (c + (k + 1)) := by
                rw [show c + (k + 1) = c + 1 + k by omega]
                first
                  | exact fun q => absurd (fg_lt q) (by omega)
                  | (unfold s_fg; rw [hby1]; exact c195)
              refine r_aload_n dX6_nextToken_255 rfl ?_
              refine r_aload_n dX6_nextToken_256 rfl ?_
              refine r_getI (ci := 6) (k := 12) wf_X6_94 dX6_nextToken_257 z_219 k_219 (by decide) (by decide) rfl (fun z9 hz9 => ?_)
              obtain rfl : z9 = nI (c + 1 + k) := hz9.trans ((congrFun upo_s 12).trans hI.1)
              refine r_aload_n dX6_nextToken_260 rfl ?_
              refine r_getI (ci := 6) (k := 13) wf_X6_88 dX6_nextToken_261 z_219 k_219 (by decide) (by decide) rfl (fun z10 hz10 => ?_)
              obtain rfl : z10 = nI c := hz10.trans ((congrFun upo_s 13).trans hI.2.2.2.2.1)
              refine r_isub dX6_nextToken_264 (fun z11 hz11 => ?_)
              obtain rfl : z11 = nI (k + 1) := hz11.trans ((nI_sub (by omega)).trans (congrArg nI (by omega)))
              refine r_iconst (nI 2) dX6_nextToken_265 (by decide) ?_
              refine r_icmp_le (tgt := 273) dX6_nextToken_266 (by decide) (fun c266 => ?_) (fun c266 => ?_)
              · skip
                rw [nI_leI (by omega) (by omega)] at c266
                refine r_iconst (nI 3) dX6_nextToken_273 (by decide) ?_
                refine r_putI (ci := 6) (k := 14) wf_X6_109 dX6_nextToken_274 z_219 k_219 (by decide) (by decide) rfl rfl (fun D12 hD12 => ?_)
                obtain rfl : D12 = upo D 219 (upd gk 14 (nI 3)) := hD12.trans up2_upo
                refine r_vret2 dX6_nextToken_277 rfl ⟨Nat.zero_le _, Nat.zero_le _⟩ ?_
                refine ⟨?_, ⟨fun q a => upo_n a, fun f hf => ?_⟩, rfl⟩
                · rw [upo_s]
                  first
                    | exact nt_a hc hc1 c151
                    | exact nt_b hI hnf c266
                    | exact nt_c hI hnf c266
                · rw [upo_s]
                  first
                    | exact (pk_un (by omega)).trans ((pk_un (by omega)).trans ((pk_un (by omega)).trans (pk_un (by omega))))
                    | exact (pk_un (by omega)).trans (hI.2.2.2.2.2 f hf)
              · skip
                rw [nI_leI (by omega) (by omega)] at c266
                refine r_iconst (nI 0) dX6_nextToken_269 (by decide) ?_
                refine r_goto (tgt := 274) dX6_nextToken_270 (by decide) ?_
                refine r_putI (ci := 6) (k := 14) wf_X6_109 dX6_nextToken_274 z_219 k_219 (by decide) (by decide) rfl rfl (fun D13 hD13 => ?_)
                obtain rfl : D13 = upo D 219 (upd gk 14 (nI 0)) := hD13.trans up2_upo
                refine r_vret2 dX6_nextToken_277 rfl ⟨Nat.zero_le _, Nat.zero_le _⟩ ?_
                refine ⟨?_, ⟨fun q a => upo_n a, fun f hf => ?_⟩, rfl⟩
                · rw [upo_s]
                  first
                    | exact nt_a hc hc1 c151
                    | exact nt_b hI hnf c266
                    | exact nt_c hI hnf c266
                · rw [upo_s]
                  first
                    | exact (pk_un (by omega)).trans ((pk_un (by omega)).trans ((pk_un (by omega)).trans (pk_un (by omega))))
                    | exact (pk_un (by omega)).trans (hI.2.2.2.2.2 f hf)
            · skip
              rw [nI_leI (by omega) (by omega)] at c173
              have hb1 := (e3 (c + 1 + k) (by omega)).2
              have hby1 : s_by t (c + 1 + k) = t.2 (c + 1 + k) := if_pos (by omega)
              refine r_aload_n dX6_nextToken_176 rfl ?_
              refine r_getR (ci := 6) (k := 10) wf_X6_31 dX6_nextToken_177 z_219 k_219 (by decide) (by decide) (fun _ _ => rfl) f_219_10 ?_
              refine r_aload_n dX6_nextToken_180 rfl ?_
              refine r_getI (ci := 6) (k := 12) wf_X6_94 dX6_nextToken_181 z_219 k_219 (by decide) (by decide) rfl (fun z14 hz14 => ?_)
              obtain rfl : z14 = nI (c + 1 + k) := hz14.trans ((congrFun upo_s 12).trans hI.1)
              refine r_iald dX6_nextToken_184 z_227 k_227 (vp_in_nI (by omega) (by decide)) (fun z15 hz15 => ?_)
              rw [nI_clamp (by omega)] at hz15
              obtain rfl : z15 = nI (t.2 (c + 1 + k)) := (hz15.trans (congrFun (upo_n (by decide)) _)).trans (e3 (c + 1 + k) (by omega)).1
              refine r_i2l dX6_nextToken_185 (fun z16 hz16 => ?_)
              subst hz16
              refine r_ldc2v ((nI 48).toInt64) wg_X6_105 dX6_nextToken_186 (by decide) ?_
              refine r_ldc2v ((nI 57).toInt64) wg_X6_107 dX6_nextToken_189 (by decide) ?_
              refine r_callSI (As := [.long ((nI (t.2 (c + 1 + k))).toInt64), .long ((nI 48).toInt64), .long ((nI 57).toInt64)]) (c_X6_in B (upo D 219 gk) E ((nI (t.2 (c + 1 + k)))) (nI 48) (nI 57)) hs_X6_in wm_X6_64 rfl dX6_nextToken_192 rfl rfl (Nat.le_of_ble_eq_true rfl) ⟨Nat.le_of_ble_eq_true rfl, Nat.le_of_ble_eq_true rfl, Nat.zero_le _, Nat.zero_le _⟩ ⟨rfl, rfl⟩ (fun z17 D18 E19 hz17 => ?_)
              obtain ⟨hqV, hqD, hqE⟩ := hz17
              obtain rfl : z17 = bI (nI 48 ≤ (nI (t.2 (c + 1 + k))) ∧ (nI (t.2 (c + 1 + k))) ≤ nI 57) := hqV
              obtain rfl := hqD.symm
              obtain rfl := hqE.symm
              refine r_if_eq (tgt := 255) dX6_nextToken_195 (by decide) (fun c195 => ?_) (fun c195 => ?_)
              · skip
                rw [bI_0] at c195
                rw [nI_leI (by omega) (by omega), nI_leI (by omega) (by omega)] at c195
                have hnf : ¬ s_fg t (c + (k + 1)) := by
                  rw [show c + (k + 1) = c + 1 + k by omega]
                  first
                    | exact fun q => absurd (fg_lt q) (by omega)
                    | (unfold s_fg; rw [hby1]; exact c195)
                refine r_aload_n dX6_nextToken_255 rfl ?_
                refine r_aload_n dX6_nextToken_256 rfl ?_
                refine r_getI (ci := 6) (k := 12) wf_X6_94 dX6_nextToken_257 z_219 k_219 (by decide) (by decide) rfl (fun z20 hz20 => ?_)
                obtain rfl : z20 = nI (c + 1 + k) := hz20.trans ((congrFun upo_s 12).trans hI.1)
                refine r_aload_n dX6_nextToken_260 rfl ?_
                refine r_getI (ci := 6) (k := 13) wf_X6_88 dX6_nextToken_261 z_219 k_219 (by decide) (by decide) rfl (fun z21 hz21 => ?_)
                obtain rfl : z21 = nI c := hz21.trans ((congrFun upo_s 13).trans hI.2.2.2.2.1)
                refine r_isub dX6_nextToken_264 (fun z22 hz22 => ?_)
                obtain rfl : z22 = nI (k + 1) := hz22.trans ((nI_sub (by omega)).trans (congrArg nI (by omega)))
                refine r_iconst (nI 2) dX6_nextToken_265 (by decide) ?_
                refine r_icmp_le (tgt := 273) dX6_nextToken_266 (by decide) (fun c266 => ?_) (fun c266 => ?_)
                · skip
                  rw [nI_leI (by omega) (by omega)] at c266
                  refine r_iconst (nI 3) dX6_nextToken_273 (by decide) ?_
                  refine r_putI (ci := 6) (k := 14) wf_X6_109 dX6_nextToken_274 z_219 k_219 (by decide) (by decide) rfl rfl (fun D23 hD23 => ?_)
                  obtain rfl : D23 = upo D 219 (upd gk 14 (nI 3)) := hD23.trans up2_upo
                  refine r_vret2 dX6_nextToken_277 rfl ⟨Nat.zero_le _, Nat.zero_le _⟩ ?_
                  refine ⟨?_, ⟨fun q a => upo_n a, fun f hf => ?_⟩, rfl⟩
                  · rw [upo_s]
                    first
                      | exact nt_a hc hc1 c151
                      | exact nt_b hI hnf c266
                      | exact nt_c hI hnf c266
                  · rw [upo_s]
                    first
                      | exact (pk_un (by omega)).trans ((pk_un (by omega)).trans ((pk_un (by omega)).trans (pk_un (by omega))))
                      | exact (pk_un (by omega)).trans (hI.2.2.2.2.2 f hf)
                · skip
                  rw [nI_leI (by omega) (by omega)] at c266
                  refine r_iconst (nI 0) dX6_nextToken_269 (by decide) ?_
                  refine r_goto (tgt := 274) dX6_nextToken_270 (by decide) ?_
                  refine r_putI (ci := 6) (k := 14) wf_X6_109 dX6_nextToken_274 z_219 k_219 (by decide) (by decide) rfl rfl (fun D24 hD24 => ?_)
                  obtain rfl : D24 = upo D 219 (upd gk 14 (nI 0)) := hD24.trans up2_upo
                  refine r_vret2 dX6_nextToken_277 rfl ⟨Nat.zero_le _, Nat.zero_le _⟩ ?_
                  refine ⟨?_, ⟨fun q a => upo_n a, fun f hf => ?_⟩, rfl⟩
                  · rw [upo_s]
                    first
                      | exact nt_a hc hc1 c151
                      | exact nt_b hI hnf c266
                      | exact nt_c hI hnf c266
                  · rw [upo_s]
                    first
                      | exact (pk_un (by omega)).trans ((pk_un (by omega)).trans ((pk_un (by omega)).trans (pk_un (by omega))))
                      | exact (pk_un (by omega)).trans (hI.2.2.2.2.2 f hf)
              · skip
                rw [bI_n0] at c195
                rw [nI_leI (by omega) (by omega), nI_leI (by omega) (by omega)] at c195
                have hf1 : s_fg t (c + 1 + k) := ⟨by omega, by omega⟩
                refine r_aload_n dX6_nextToken_198 rfl ?_
                refine r_aload_n dX6_nextToken_199 rfl ?_
                refine r_getI (ci := 6) (k := 12) wf_X6_94 dX6_nextToken_200 z_219 k_219 (by decide) (by decide) rfl (fun z25 hz25 => ?_)
                obtain rfl : z25 = nI (c + 1 + k) := hz25.trans ((congrFun upo_s 12).trans hI.1)
                refine r_aload_n dX6_nextToken_203 rfl ?_
                refine r_getI (ci := 6) (k := 13) wf_X6_88 dX6_nextToken_204 z_219 k_219 (by decide) (by decide) rfl (fun z26 hz26 => ?_)
                obtain rfl : z26 = nI c := hz26.trans ((congrFun upo_s 13).trans hI.2.2.2.2.1)
                refine r_isub dX6_nextToken_207 (fun z27 hz27 => ?_)
                obtain rfl : z27 = nI (k + 1) := hz27.trans ((nI_sub (by omega)).trans (congrArg nI (by omega)))
                refine r_iconst (nI 2) dX6_nextToken_208 (by decide) ?_
                refine r_icmp_ge (tgt := 235) dX6_nextToken_209 (by decide) (fun c209 => ?_) (fun c209 => ?_)
                · skip
                  rw [nI_leI (by omega) (by omega)] at c209
                  refine r_aload_n dX6_nextToken_235 rfl ?_
                  refine r_getI (ci := 6) (k := 15) wf_X6_98 dX6_nextToken_236 z_219 k_219 (by decide) (by decide) rfl (fun z28 hz28 => ?_)
                  obtain rfl : z28 = nI (s_v t c (min 2 (k + 2))) := (hz28.trans ((congrFun upo_s 15).trans hI.2.2.2.1)).trans (congrArg nI (by rw [show min 2 (k + 2) = min 2 (k + 1) by omega]))
                  refine r_putI (ci := 6) (k := 15) wf_X6_98 dX6_nextToken_239 z_219 k_219 (by decide) (by decide) rfl rfl (fun D29 hD29 => ?_)
                  obtain rfl : D29 = upo D 219 (upd gk 15 (nI (s_v t c (min 2 (k + 2))))) := hD29.trans up2_upo
                  refine r_aload_n dX6_nextToken_242 rfl ?_
                  refine r_dup dX6_nextToken_243 rfl ?_
                  refine r_getI (ci := 6) (k := 12) wf_X6_94 dX6_nextToken_244 z_219 k_219 (by decide) (by decide) rfl (fun z30 hz30 => ?_)
                  obtain rfl : z30 = nI (c + 1 + k) := hz30.trans ((congrFun upo_s 12).trans ((pk_un (by decide)).trans hI.1))
                  refine r_iconst (nI 1) dX6_nextToken_247 (by decide) ?_
                  refine r_iadd dX6_nextToken_248 (fun z31 hz31 => ?_)
                  obtain rfl : z31 = nI ((c + 1 + k) + 1) := (hz31.trans (nI_add _ _))
                  refine r_putI (ci := 6) (k := 12) wf_X6_94 dX6_nextToken_249 z_219 k_219 (by decide) (by decide) rfl rfl (fun D32 hD32 => ?_)
                  obtain rfl : D32 = upo D 219 (upd (upd gk 15 (nI (s_v t c (min 2 (k + 2))))) 12 (nI ((c + 1 + k) + 1))) := hD32.trans up2_upo
                  refine r_goto (tgt := 165) dX6_nextToken_252 (by decide) ?_
                  exact r_lv [(0, .ref (B + 219))] (List.forall_mem_cons.mpr ⟨rfl, fun _ h => absurd h List.not_mem_nil⟩) (ih (k + 1) ((upd (upd gk 15 (nI (s_v t c (min 2 (k + 2))))) 12 (nI ((c + 1 + k) + 1)))) (by omega) (by omega) (NTI_s hI (by omega) hf1))
                · skip
                  rw [nI_leI (by omega) (by omega)] at c209
                  refine r_bipush (nI 10) dX6_nextToken_212 (by decide) ?_
                  refine r_aload_n dX6_nextToken_214 rfl ?_
                  refine r_getI (ci := 6) (k := 15) wf_X6_98 dX6_nextToken_215 z_219 k_219 (by decide) (by decide) rfl (fun z33 hz33 => ?_)
                  obtain rfl : z33 = nI (s_v t c (min 2 (k + 1))) := hz33.trans ((congrFun upo_s 15).trans hI.2.2.2.1)
                  refine r_imul dX6_nextToken_218 (fun z34 hz34 => ?_)
                  obtain rfl : z34 = nI (10 * (s_v t c (min 2 (k + 1)))) := (hz34.trans (pk_mul _ _))
                  refine r_aload_n dX6_nextToken_219 rfl ?_
                  refine r_getR (ci := 6) (k := 10) wf_X6_31 dX6_nextToken_220 z_219 k_219 (by decide) (by decide) (fun _ _ => rfl) f_219_10 ?_
                  refine r_aload_n dX6_nextToken_223 rfl ?_
                  refine r_getI (ci := 6) (k := 12) wf_X6_94 dX6_nextToken_224 z_219 k_219 (by decide) (by decide) rfl (fun z35 hz35 => ?_)
                  obtain rfl : z35 = nI (c + 1 + k) := hz35.trans ((congrFun upo_s 12).trans hI.1)
                  refine r_iald dX6_nextToken_227 z_227 k_227 (vp_in_nI (by omega) (by decide)) (fun z36 hz36 => ?_)
                  rw [nI_clamp (by omega)] at hz36
                  obtain rfl : z36 = nI (t.2 (c + 1 + k)) := (hz36.trans (congrFun (upo_n (by decide)) _)).trans (e3 (c + 1 + k) (by omega)).1
                  refine r_iadd dX6_nextToken_228 (fun z37 hz37 => ?_)
                  obtain rfl : z37 = nI ((10 * (s_v t c (min 2 (k + 1)))) + (t.2 (c + 1 + k))) := (hz37.trans (nI_add _ _))
                  refine r_bipush (nI 48) dX6_nextToken_229 (by decide) ?_
                  refine r_isub dX6_nextToken_231 (fun z38 hz38 => ?_)
                  obtain rfl : z38 = nI (s_v t c (min 2 (k + 2))) := hz38.trans ((nI_sub (by omega)).trans (congrArg nI (by rw [← hby1]; exact v_step (by omega) hf1)))
                  refine r_goto (tgt := 239) dX6_nextToken_232 (by decide) ?_
                  refine r_putI (ci := 6) (k := 15) wf_X6_98 dX6_nextToken_239 z_219 k_219 (by decide) (by decide) rfl rfl (fun D39 hD39 => ?_)
                  obtain rfl : D39 = upo D 219 (upd gk 15 (nI (s_v t c (min 2 (k + 2))))) := hD39.trans up2_upo
                  refine r_aload_n dX6_nextToken_242 rfl ?_
                  refine r_dup dX6_nextToken_243 rfl ?_
                  refine r_getI (ci := 6) (k := 12) wf_X6_94 dX6_nextToken_244 z_219 k_219 (by decide) (by decide) rfl (fun z40 hz40 => ?_)
                  obtain rfl : z40 = nI (c + 1 + k) := hz40.trans ((congrFun upo_s 12).trans ((pk_un (by decide)).trans hI.1))
                  refine r_iconst (nI 1) dX6_nextToken_247 (by decide) ?_
                  refine r_iadd dX6_nextToken_248 (fun z41 hz41 => ?_)
                  obtain rfl : z41 = nI ((c + 1 + k) + 1) := (hz41.trans (nI_add _ _))
                  refine r_putI (ci := 6) (k := 12) wf_X6_94 dX6_nextToken_249 z_219 k_219 (by decide) (by decide) rfl rfl (fun D42 hD42 => ?_)
                  obtain rfl : D42 = upo D 219 (upd (upd gk 15 (nI (s_v t c (min 2 (k + 2))))) 12 (nI ((c + 1 + k) + 1))) := hD42.trans up2_upo
                  refine r_goto (tgt := 165) dX6_nextToken_252 (by decide) ?_
                  exact r_lv [(0, .ref (B + 219))] (List.forall_mem_cons.mpr ⟨rfl, fun _ h => absurd h List.not_mem_nil⟩) (ih (k + 1) ((upd (upd gk 15 (nI (s_v t c (min 2 (k + 2))))) 12 (nI ((c + 1 + k) + 1)))) (by omega) (by omega) (NTI_s hI (by omega) hf1))
        exact r_lv [(0, .ref (B + 219))] (List.forall_mem_cons.mpr ⟨rfl, fun _ h => absurd h List.not_mem_nil⟩) (L (t.1 + 1) 0 ((upd (upd (upd (upd (upd (D 219) 13 (nI c)) 15 (s_rv t c)) 14 (nI (s_t0 t c))) 12 (nI c1)) 15 (nI (t.2 c - 48)))) (by omega) (by omega) (NTI_0 hc9 hlt hf0 hby0))
    refine r_aload_n dX6_nextToken_121 rfl ?_
    refine r_dup dX6_nextToken_122 rfl ?_
    refine r_getI (ci := 6) (k := 12) wf_X6_94 dX6_nextToken_123 z_219 k_219 (by decide) (by decide) rfl (fun z43 hz43 => ?_)
    obtain rfl : z43 = nI c := (hz43.trans ((congrFun (upo_s) _).trans ((pk_un (by decide)).trans ((pk_un (by decide)).trans (pk_un (by decide)))))).trans hcu
    refine r_aload_n dX6_nextToken_126 rfl ?_
    refine r_getI (ci := 6) (k := 12) wf_X6_94 dX6_nextToken_127 z_219 k_219 (by decide) (by decide) rfl (fun z44 hz44 => ?_)
    obtain rfl : z44 = nI c := (hz44.trans ((congrFun (upo_s) _).trans ((pk_un (by decide)).trans ((pk_un (by decide)).trans (pk_un (by decide)))))).trans hcu
    refine r_aload_n dX6_nextToken_130 rfl ?_
    refine r_getI (ci := 6) (k := 11) wf_X6_81 dX6_nextToken_131 z_219 k_219 (by decide) (by decide) rfl (fun z45 hz45 => ?_)
    obtain rfl : z45 = nI t.1 := (hz45.trans ((congrFun (upo_s) _).trans ((pk_un (by decide)).trans ((pk_un (by decide)).trans (pk_un (by decide)))))).trans e1
    refine r_icmp_ge (tgt := 141) dX6_nextToken_134 (by decide) (fun c134 => ?_) (fun c134 => ?_)
    · skip
      rw [nI_leI (by omega) (by omega)] at c134
      refine r_iconst (nI 0) dX6_nextToken_141 (by decide) ?_
      refine r_iadd dX6_nextToken_142 (fun z46 hz46 => ?_)
      obtain rfl : z46 = nI (c + 0) := (hz46.trans (nI_add _ _))
      refine r_putI (ci := 6) (k := 12) wf_X6_94 dX6_nextToken_143 z_219 k_219 (by decide) (by decide) rfl rfl (fun D47 hD47 => ?_)
      obtain rfl : D47 = upo D 219 (upd (upd (upd (upd (D 219) 13 (nI c)) 15 (s_rv t c)) 14 (nI (s_t0 t c))) 12 (nI (c + 0))) := hD47.trans up2_upo
      exact JN2 _ (by first | exact (if_pos (by omega)).symm | exact (if_neg (by omega)).symm)
    · skip
      rw [nI_leI (by omega) (by omega)] at c134
      refine r_iconst (nI 1) dX6_nextToken_137 (by decide) ?_
      refine r_goto (tgt := 142) dX6_nextToken_138 (by decide) ?_
      refine r_iadd dX6_nextToken_142 (fun z48 hz48 => ?_)
      obtain rfl : z48 = nI (c + 1) := (hz48.trans (nI_add _ _))
      refine r_putI (ci := 6) (k := 12) wf_X6_94 dX6_nextToken_143 z_219 k_219 (by decide) (by decide) rfl rfl (fun D49 hD49 => ?_)
      obtain rfl : D49 = upo D 219 (upd (upd (upd (upd (D 219) 13 (nI c)) 15 (s_rv t c)) 14 (nI (s_t0 t c))) 12 (nI (c + 1))) := hD49.trans up2_upo
      exact JN2 _ (by first | exact (if_pos (by omega)).symm | exact (if_neg (by omega)).symm)
  refine r_aload_n dX6_nextToken_8 rfl ?_
  refine r_aload_n dX6_nextToken_9 rfl ?_
  refine r_getI (ci := 6) (k := 12) wf_X6_94 dX6_nextToken_10 z_219 k_219 (by decide) (by decide) rfl (fun z50 hz50 => ?_)
  obtain rfl : z50 = nI c := (hz50.trans ((congrFun (upo_s) _).trans (pk_un (by decide)))).trans hcu
  refine r_aload_n dX6_nextToken_13 rfl ?_
  refine r_getI (ci := 6) (k := 11) wf_X6_81 dX6_nextToken_14 z_219 k_219 (by decide) (by decide) rfl (fun z51 hz51 => ?_)
  obtain rfl : z51 = nI t.1 := (hz51.trans ((congrFun (upo_s) _).trans (pk_un (by decide)))).trans e1
  refine r_icmp_ge (tgt := 32) dX6_nextToken_17 (by decide) (fun c17 => ?_) (fun c17 => ?_)
  · skip
    rw [nI_leI (by omega) (by omega)] at c17
    refine r_ldc wc_X6_97 dX6_nextToken_32 ?_
    refine r_putI (ci := 6) (k := 15) wf_X6_98 dX6_nextToken_34 z_219 k_219 (by decide) (by decide) rfl rfl (fun D52 hD52 => ?_)
    obtain rfl : D52 = upo D 219 (upd (upd (D 219) 13 (nI c)) 15 ((-1000000))) := hD52.trans up2_upo
    refine r_aload_n dX6_nextToken_37 rfl ?_
    refine r_aload_n dX6_nextToken_38 rfl ?_
    refine r_getI (ci := 6) (k := 12) wf_X6_94 dX6_nextToken_39 z_219 k_219 (by decide) (by decide) rfl (fun z53 hz53 => ?_)
    obtain rfl : z53 = nI c := (hz53.trans ((congrFun (upo_s) _).trans ((pk_un (by decide)).trans (pk_un (by decide))))).trans hcu
    refine r_aload_n dX6_nextToken_42 rfl ?_
    refine r_getI (ci := 6) (k := 11) wf_X6_81 dX6_nextToken_43 z_219 k_219 (by decide) (by decide) rfl (fun z54 hz54 => ?_)
    obtain rfl : z54 = nI t.1 := (hz54.trans ((congrFun (upo_s) _).trans ((pk_un (by decide)).trans (pk_un (by decide))))).trans e1
    refine r_icmp_ne (tgt := 53) dX6_nextToken_46 (by decide) (fun c46 => ?_) (fun c46 => ?_)
    · skip
      rw [nI_eq (by omega) (by omega)] at c46
      refine r_aload_n dX6_nextToken_53 rfl ?_
      refine r_getI (ci := 6) (k := 15) wf_X6_98 dX6_nextToken_54 z_219 k_219 (by decide) (by decide) rfl (fun z55 hz55 => ?_)
      obtain rfl : z55 = -1000000 := hz55.trans ((congrFun (upo_s) _).trans (pk_us))
      refine r_i2l dX6_nextToken_57 (fun z56 hz56 => ?_)
      subst hz56
      refine r_ldc2v ((nI 97).toInt64) wg_X6_101 dX6_nextToken_58 (by decide) ?_
      refine r_ldc2v ((nI 122).toInt64) wg_X6_103 dX6_nextToken_61 (by decide) ?_
      refine r_callSI (As := [.long ((-1000000).toInt64), .long ((nI 97).toInt64), .long ((nI 122).toInt64)]) (c_X6_in B (upo D 219 (upd (upd (D 219) 13 (nI c)) 15 ((-1000000)))) E ((-1000000)) (nI 97) (nI 122)) hs_X6_in wm_X6_64 rfl dX6_nextToken_64 rfl rfl (Nat.le_of_ble_eq_true rfl) ⟨Nat.le_of_ble_eq_true rfl, Nat.le_of_ble_eq_true rfl, Nat.zero_le _, Nat.zero_le _⟩ ⟨rfl, rfl⟩ (fun z57 D58 E59 hz57 => ?_)
      obtain ⟨hqV, hqD, hqE⟩ := hz57
      obtain rfl : z57 = bI (nI 97 ≤ (-1000000) ∧ (-1000000) ≤ nI 122) := hqV
      obtain rfl := hqD.symm
      obtain rfl := hqE.symm
      refine r_if_eq (tgt := 74) dX6_nextToken_67 (by decide) (fun c67 => ?_) (fun c67 => ?_)
      · skip
        rw [bI_0] at c67
        try rw [nI_leI (by omega) (by omega), nI_leI (by omega) (by omega)] at c67
        try rw [← hby] at c67
        refine r_aload_n dX6_nextToken_74 rfl ?_
        refine r_getI (ci := 6) (k := 15) wf_X6_98 dX6_nextToken_75 z_219 k_219 (by decide) (by decide) rfl (fun z60 hz60 => ?_)
        obtain rfl : z60 = -1000000 := hz60.trans ((congrFun (upo_s) _).trans (pk_us))
        refine r_i2l dX6_nextToken_78 (fun z61 hz61 => ?_)
        subst hz61
        refine r_ldc2v ((nI 48).toInt64) wg_X6_105 dX6_nextToken_79 (by decide) ?_
        refine r_ldc2v ((nI 57).toInt64) wg_X6_107 dX6_nextToken_82 (by decide) ?_
        refine r_callSI (As := [.long ((-1000000).toInt64), .long ((nI 48).toInt64), .long ((nI 57).toInt64)]) (c_X6_in B (upo D 219 (upd (upd (D 219) 13 (nI c)) 15 ((-1000000)))) E ((-1000000)) (nI 48) (nI 57)) hs_X6_in wm_X6_64 rfl dX6_nextToken_85 rfl rfl (Nat.le_of_ble_eq_true rfl) ⟨Nat.le_of_ble_eq_true rfl, Nat.le_of_ble_eq_true rfl, Nat.zero_le _, Nat.zero_le _⟩ ⟨rfl, rfl⟩ (fun z62 D63 E64 hz62 => ?_)
        obtain ⟨hqV, hqD, hqE⟩ := hz62
        obtain rfl : z62 = bI (nI 48 ≤ (-1000000) ∧ (-1000000) ≤ nI 57) := hqV
        obtain rfl := hqD.symm
        obtain rfl := hqE.symm
        refine r_if_eq (tgt := 95) dX6_nextToken_88 (by decide) (fun c88 => ?_) (fun c88 => ?_)
        · skip
          rw [bI_0] at c88
          try rw [nI_leI (by omega) (by omega), nI_leI (by omega) (by omega)] at c88
          try rw [← hby] at c88
          refine r_aload_n dX6_nextToken_95 rfl ?_
          refine r_getI (ci := 6) (k := 15) wf_X6_98 dX6_nextToken_96 z_219 k_219 (by decide) (by decide) rfl (fun z65 hz65 => ?_)
          obtain rfl : z65 = -1000000 := hz65.trans ((congrFun (upo_s) _).trans (pk_us))
          refine r_bipush (nI 44) dX6_nextToken_99 (by decide) ?_
          refine r_icmp_eq (tgt := 113) dX6_nextToken_101 (by decide) (fun c101 => ?_) (fun c101 => ?_)
          · skip
            first | rw [nI_eq (by omega) (by omega)] at c101 | skip
            refine r_iconst (nI 4) dX6_nextToken_113 (by decide) ?_
            refine r_goto (tgt := 118) dX6_nextToken_114 (by decide) ?_
            refine r_putI (ci := 6) (k := 14) wf_X6_109 dX6_nextToken_118 z_219 k_219 (by decide) (by decide) rfl rfl (fun D66 hD66 => ?_)
            obtain rfl : D66 = upo D 219 (upd (upd (upd (D 219) 13 (nI c)) 15 ((-1000000))) 14 (nI 4)) := hD66.trans up2_upo
            exact JN _ _ (by first | (exfalso; omega) | exact (if_pos (by omega)).symm | exact (if_neg (by omega)).symm) (by first | (exfalso; omega) | exact congrArg nI (by unfold s_t0; first | rw [if_pos (by omega)] | rw [if_neg (by omega), if_pos (by omega)] | rw [if_neg (by omega), if_neg (by omega), if_pos (by omega)] | rw [if_neg (by omega), if_neg (by omega), if_neg (by omega), if_pos (by omega)] | rw [if_neg (by omega), if_neg (by omega), if_neg (by omega), if_neg (by omega)]))
          · skip
            first | rw [nI_eq (by omega) (by omega)] at c101 | skip
            refine r_aload_n dX6_nextToken_104 rfl ?_
            refine r_getI (ci := 6) (k := 15) wf_X6_98 dX6_nextToken_105 z_219 k_219 (by decide) (by decide) rfl (fun z67 hz67 => ?_)
            obtain rfl : z67 = -1000000 := hz67.trans ((congrFun (upo_s) _).trans (pk_us))
            refine r_bipush (nI 59) dX6_nextToken_108 (by decide) ?_
            refine r_icmp_ne (tgt := 117) dX6_nextToken_110 (by decide) (fun c110 => ?_) (fun c110 => ?_)
            · skip
              refine r_iconst (nI 0) dX6_nextToken_117 (by decide) ?_
              refine r_putI (ci := 6) (k := 14) wf_X6_109 dX6_nextToken_118 z_219 k_219 (by decide) (by decide) rfl rfl (fun D68 hD68 => ?_)
              obtain rfl : D68 = upo D 219 (upd (upd (upd (D 219) 13 (nI c)) 15 ((-1000000))) 14 (nI 0)) := hD68.trans up2_upo
              exact JN _ _ (by first | (exfalso; omega) | exact (if_pos (by omega)).symm | exact (if_neg (by omega)).symm) (by first | (exfalso; omega) | exact congrArg nI (by unfold s_t0; first | rw [if_pos (by omega)] | rw [if_neg (by omega), if_pos (by omega)] | rw [if_neg (by omega), if_neg (by omega), if_pos (by omega)] | rw [if_neg (by omega), if_neg (by omega), if_neg (by omega), if_pos (by omega)] | rw [if_neg (by omega), if_neg (by omega), if_neg (by omega), if_neg (by omega)]))
            · skip
              refine r_iconst (nI 4) dX6_nextToken_113 (by decide) ?_
              refine r_goto (tgt := 118) dX6_nextToken_114 (by decide) ?_
              refine r_putI (ci := 6) (k := 14) wf_X6_109 dX6_nextToken_118 z_219 k_219 (by decide) (by decide) rfl rfl (fun D69 hD69 => ?_)
              obtain rfl : D69 = upo D 219 (upd (upd (upd (D 219) 13 (nI c)) 15 ((-1000000))) 14 (nI 4)) := hD69.trans up2_upo
              exact JN _ _ (by first | (exfalso; omega) | exact (if_pos (by omega)).symm | exact (if_neg (by omega)).symm) (by first | (exfalso; omega) | exact congrArg nI (by unfold s_t0; first | rw [if_pos (by omega)] | rw [if_neg (by omega), if_pos (by omega)] | rw [if_neg (by omega), if_neg (by omega), if_pos (by omega)] | rw [if_neg (by omega), if_neg (by omega), if_neg (by omega), if_pos (by omega)] | rw [if_neg (by omega), if_neg (by omega), if_neg (by omega), if_neg (by omega)]))
        · skip
          rw [bI_n0] at c88
          try rw [nI_leI (by omega) (by omega), nI_leI (by omega) (by omega)] at c88
          try rw [← hby] at c88
          refine r_iconst (nI 3) dX6_nextToken_91 (by decide) ?_
          refine r_goto (tgt := 118) dX6_nextToken_92 (by decide) ?_
          refine r_putI (ci := 6) (k := 14) wf_X6_109 dX6_nextToken_118 z_219 k_219 (by decide) (by decide) rfl rfl (fun D70 hD70 => ?_)
          obtain rfl : D70 = upo D 219 (upd (upd (upd (D 219) 13 (nI c)) 15 ((-1000000))) 14 (nI 3)) := hD70.trans up2_upo
          exact JN _ _ (by first | (exfalso; omega) | exact (if_pos (by omega)).symm | exact (if_neg (by omega)).symm) (by first | (exfalso; omega) | exact congrArg nI (by unfold s_t0; first | rw [if_pos (by omega)] | rw [if_neg (by omega), if_pos (by omega)] | rw [if_neg (by omega), if_neg (by omega), if_pos (by omega)] | rw [if_neg (by omega), if_neg (by omega), if_neg (by omega), if_pos (by omega)] | rw [if_neg (by omega), if_neg (by omega), if_neg (by omega), if_neg (by omega)]))
      · skip
        rw [bI_n0] at c67
        try rw [nI_leI (by omega) (by omega), nI_leI (by omega) (by omega)] at c67
        try rw [← hby] at c67
        refine r_iconst (nI 2) dX6_nextToken_70 (by decide) ?_
        refine r_goto (tgt := 118) dX6_nextToken_71 (by decide) ?_
        refine r_putI (ci := 6) (k := 14) wf_X6_109 dX6_nextToken_118 z_219 k_219 (by decide) (by decide) rfl rfl (fun D71 hD71 => ?_)
        obtain rfl : D71 = upo D 219 (upd (upd (upd (D 219) 13 (nI c)) 15 ((-1000000))) 14 (nI 2)) := hD71.trans up2_upo
        exact JN _ _ (by first | (exfalso; omega) | exact (if_pos (by omega)).symm | exact (if_neg (by omega)).symm) (by first | (exfalso; omega) | exact congrArg nI (by unfold s_t0; first | rw [if_pos (by omega)] | rw [if_neg (by omega), if_pos (by omega)] | rw [if_neg (by omega), if_neg (by omega), if_pos (by omega)] | rw [if_neg (by omega), if_neg (by omega), if_neg (by omega), if_pos (by omega)] | rw [if_neg (by omega), if_neg (by omega), if_neg (by omega), if_neg (by omega)]))
    · skip
      rw [nI_eq (by omega) (by omega)] at c46
      refine r_iconst (nI 1) dX6_nextToken_49 (by decide) ?_
      refine r_goto (tgt := 118) dX6_nextToken_50 (by decide) ?_
      refine r_putI (ci := 6) (k := 14) wf_X6_109 dX6_nextToken_118 z_219 k_219 (by decide) (by decide) rfl rfl (fun D72 hD72 => ?_)
      obtain rfl : D72 = upo D 219 (upd (upd (upd (D 219) 13 (nI c)) 15 ((-1000000))) 14 (nI 1)) := hD72.trans up2_upo
      exact JN _ _ (by first | (exfalso; omega) | exact (if_pos (by omega)).symm | exact (if_neg (by omega)).symm) (by first | (exfalso; omega) | exact congrArg nI (by unfold s_t0; first | rw [if_pos (by omega)] | rw [if_neg (by omega), if_pos (by omega)] | rw [if_neg (by omega), if_neg (by omega), if_pos (by omega)] | rw [if_neg (by omega), if_neg (by omega), if_neg (by omega), if_pos (by omega)] | rw [if_neg (by omega), if_neg (by omega), if_neg (by omega), if_neg (by omega)]))
  · skip
    rw [nI_leI (by omega) (by omega)] at c17
    have hb5 := (e3 c (by omega)).2
    have hby : s_by t c = t.2 c := if_pos (by omega)
    refine r_aload_n dX6_nextToken_20 rfl ?_
    refine r_getR (ci := 6) (k := 10) wf_X6_31 dX6_nextToken_21 z_219 k_219 (by decide) (by decide) (fun _ _ => rfl) f_219_10 ?_
    refine r_aload_n dX6_nextToken_24 rfl ?_
    refine r_getI (ci := 6) (k := 12) wf_X6_94 dX6_nextToken_25 z_219 k_219 (by decide) (by decide) rfl (fun z73 hz73 => ?_)
    obtain rfl : z73 = nI c := (hz73.trans ((congrFun (upo_s) _).trans (pk_un (by decide)))).trans hcu
    refine r_iald dX6_nextToken_28 z_227 k_227 (vp_in_nI (by omega) (by decide)) (fun z74 hz74 => ?_)
    rw [nI_clamp (by omega)] at hz74
    obtain rfl : z74 = nI (t.2 (c)) := (hz74.trans (congrFun (upo_n (by decide)) _)).trans (e3 (c) (by omega)).1
    refine r_goto (tgt := 34) dX6_nextToken_29 (by decide) ?_
    refine r_putI (ci := 6) (k := 15) wf_X6_98 dX6_nextToken_34 z_219 k_219 (by decide) (by decide) rfl rfl (fun D75 hD75 => ?_)
    obtain rfl : D75 = upo D 219 (upd (upd (D 219) 13 (nI c)) 15 (nI (t.2 (c)))) := hD75.trans up2_upo
    refine r_aload_n dX6_nextToken_37 rfl ?_
    refine r_aload_n dX6_nextToken_38 rfl ?_
    refine r_getI (ci := 6) (k := 12) wf_X6_94 dX6_nextToken_39 z_219 k_219 (by decide) (by decide) rfl (fun z76 hz76 => ?_)
    obtain rfl : z76 = nI c := (hz76.trans ((congrFun (upo_s) _).trans ((pk_un (by decide)).trans (pk_un (by decide))))).trans hcu
    refine r_aload_n dX6_nextToken_42 rfl ?_
    refine r_getI (ci := 6) (k := 11) wf_X6_81 dX6_nextToken_43 z_219 k_219 (by decide) (by decide) rfl (fun z77 hz77 => ?_)
    obtain rfl : z77 = nI t.1 := (hz77.trans ((congrFun (upo_s) _).trans ((pk_un (by decide)).trans (pk_un (by decide))))).trans e1
    refine r_icmp_ne (tgt := 53) dX6_nextToken_46 (by decide) (fun c46 => ?_) (fun c46 => ?_)
    · skip
      rw [nI_eq (by omega) (by omega)] at c46
      refine r_aload_n dX6_nextToken_53 rfl ?_
      refine r_getI (ci := 6) (k := 15) wf_X6_98 dX6_nextToken_54 z_219 k_219 (by decide) (by decide) rfl (fun z78 hz78 => ?_)
      obtain rfl : z78 = nI (t.2 (c)) := hz78.trans ((congrFun (upo_s) _).trans (pk_us))
      refine r_i2l dX6_nextToken_57 (fun z79 hz79 => ?_)
      subst hz79
      refine r_ldc2v ((nI 97).toInt64) wg_X6_101 dX6_nextToken_58 (by decide) ?_
      refine r_ldc2v ((nI 122).toInt64) wg_X6_103 dX6_nextToken_61 (by decide) ?_
      refine r_callSI (As := [.long ((nI (t.2 (c))).toInt64), .long ((nI 97).toInt64), .long ((nI 122).toInt64)]) (c_X6_in B (upo D 219 (upd (upd (D 219) 13 (nI c)) 15 (nI (t.2 (c))))) E ((nI (t.2 (c)))) (nI 97) (nI 122)) hs_X6_in wm_X6_64 rfl dX6_nextToken_64 rfl rfl (Nat.le_of_ble_eq_true rfl) ⟨Nat.le_of_ble_eq_true rfl, Nat.le_of_ble_eq_true rfl, Nat.zero_le _, Nat.zero_le _⟩ ⟨rfl, rfl⟩ (fun z80 D81 E82 hz80 => ?_)
      obtain ⟨hqV, hqD, hqE⟩ := hz80
      obtain rfl : z80 = bI (nI 97 ≤ (nI (t.2 (c))) ∧ (nI (t.2 (c))) ≤ nI 122) := hqV
      obtain rfl := hqD.symm
      obtain rfl := hqE.symm
      refine r_if_eq (tgt := 74) dX6_nextToken_67 (by decide) (fun c67 => ?_) (fun c67 => ?_)
      · skip
        rw [bI_0] at c67
        try rw [nI_leI (by omega) (by omega), nI_leI (by omega) (by omega)] at c67
        try rw [← hby] at c67
        refine r_aload_n dX6_nextToken_74 rfl ?_
        refine r_getI (ci := 6) (k := 15) wf_X6_98 dX6_nextToken_75 z_219 k_219 (by decide) (by decide) rfl (fun z83 hz83 => ?_)
        obtain rfl : z83 = nI (t.2 (c)) := hz83.trans ((congrFun (upo_s) _).trans (pk_us))
        refine r_i2l dX6_nextToken_78 (fun z84 hz84 => ?_)
        subst hz84
        refine r_ldc2v ((nI 48).toInt64) wg_X6_105 dX6_nextToken_79 (by decide) ?_
        refine r_ldc2v ((nI 57).toInt64) wg_X6_107 dX6_nextToken_82 (by decide) ?_
        refine r_callSI (As := [.long ((nI (t.2 (c))).toInt64), .long ((nI 48).toInt64), .long ((nI 57).toInt64)]) (c_X6_in B (upo D 219 (upd (upd (D 219) 13 (nI c)) 15 (nI (t.2 (c))))) E ((nI (t.2 (c)))) (nI 48) (nI 57)) hs_X6_in wm_X6_64 rfl dX6_nextToken_85 rfl rfl (Nat.le_of_ble_eq_true rfl) ⟨Nat.le_of_ble_eq_true rfl, Nat.le_of_ble_eq_true rfl, Nat.zero_le _, Nat.zero_le _⟩ ⟨rfl, rfl⟩ (fun z85 D86 E87 hz85 => ?_)
        obtain ⟨hqV, hqD, hqE⟩ := hz85
        obtain rfl : z85 = bI (nI 48 ≤ (nI (t.2 (c))) ∧ (nI (t.2 (c))) ≤ nI 57) := hqV
        obtain rfl := hqD.symm
        obtain rfl := hqE.symm
        refine r_if_eq (tgt := 95) dX6_nextToken_88 (by decide) (fun c88 => ?_) (fun c88 => ?_)
        · skip
          rw [bI_0] at c88
          try rw [nI_leI (by omega) (by omega), nI_leI (by omega) (by omega)] at c88
          try rw [← hby] at c88
          refine r_aload_n dX6_nextToken_95 rfl ?_
          refine r_getI (ci := 6) (k := 15) wf_X6_98 dX6_nextToken_96 z_219 k_219 (by decide) (by decide) rfl (fun z88 hz88 => ?_)
          obtain rfl : z88 = nI (t.2 (c)) := hz88.trans ((congrFun (upo_s) _).trans (pk_us))
          refine r_bipush (nI 44) dX6_nextToken_99 (by decide) ?_
          refine r_icmp_eq (tgt := 113) dX6_nextToken_101 (by decide) (fun c101 => ?_) (fun c101 => ?_)
          · skip
            first | rw [nI_eq (by omega) (by omega)] at c101 | skip
            refine r_iconst (nI 4) dX6_nextToken_113 (by decide) ?_
            refine r_goto (tgt := 118) dX6_nextToken_114 (by decide) ?_
            refine r_putI (ci := 6) (k := 14) wf_X6_109 dX6_nextToken_118 z_219 k_219 (by decide) (by decide) rfl rfl (fun D89 hD89 => ?_)
            obtain rfl : D89 = upo D 219 (upd (upd (upd (D 219) 13 (nI c)) 15 (nI (t.2 (c)))) 14 (nI 4)) := hD89.trans up2_upo
            exact JN _ _ (by first | (exfalso; omega) | exact (if_pos (by omega)).symm | exact (if_neg (by omega)).symm) (by first | (exfalso; omega) | exact congrArg nI (by unfold s_t0; first | rw [if_pos (by omega)] | rw [if_neg (by omega), if_pos (by omega)] | rw [if_neg (by omega), if_neg (by omega), if_pos (by omega)] | rw [if_neg (by omega), if_neg (by omega), if_neg (by omega), if_pos (by omega)] | rw [if_neg (by omega), if_neg (by omega), if_neg (by omega), if_neg (by omega)]))
          · skip
            first | rw [nI_eq (by omega) (by omega)] at c101 | skip
            refine r_aload_n dX6_nextToken_104 rfl ?_
            refine r_getI (ci := 6) (k := 15) wf_X6_98 dX6_nextToken_105 z_219 k_219 (by decide) (by decide) rfl (fun z90 hz90 => ?_)
            obtain rfl : z90 = nI (t.2 (c)) := hz90.trans ((congrFun (upo_s) _).trans (pk_us))
            refine r_bipush (nI 59) dX6_nextToken_108 (by decide) ?_
            refine r_icmp_ne (tgt := 117) dX6_nextToken_110 (by decide) (fun c110 => ?_) (fun c110 => ?_)
            · skip
              rw [nI_eq (by omega) (by omega)] at c110
              refine r_iconst (nI 0) dX6_nextToken_117 (by decide) ?_
              refine r_putI (ci := 6) (k := 14) wf_X6_109 dX6_nextToken_118 z_219 k_219 (by decide) (by decide) rfl rfl (fun D91 hD91 => ?_)
              obtain rfl : D91 = upo D 219 (upd (upd (upd (D 219) 13 (nI c)) 15 (nI (t.2 (c)))) 14 (nI 0)) := hD91.trans up2_upo
              exact JN _ _ (by first | (exfalso; omega) | exact (if_pos (by omega)).symm | exact (if_neg (by omega)).symm) (by first | (exfalso; omega) | exact congrArg nI (by unfold s_t0; first | rw [if_pos (by omega)] | rw [if_neg (by omega), if_pos (by omega)] | rw [if_neg (by omega), if_neg (by omega), if_pos (by omega)] | rw [if_neg (by omega), if_neg (by omega), if_neg (by omega), if_pos (by omega)] | rw [if_neg (by omega), if_neg (by omega), if_neg (by omega), if_neg (by omega)]))
            · skip
              rw [nI_eq (by omega) (by omega)] at c110
              refine r_iconst (nI 4) dX6_nextToken_113 (by decide) ?_
              refine r_goto (tgt := 118) dX6_nextToken_114 (by decide) ?_
              refine r_putI (ci := 6) (k := 14) wf_X6_109 dX6_nextToken_118 z_219 k_219 (by decide) (by decide) rfl rfl (fun D92 hD92 => ?_)
              obtain rfl : D92 = upo D 219 (upd (upd (upd (D 219) 13 (nI c)) 15 (nI (t.2 (c)))) 14 (nI 4)) := hD92.trans up2_upo
              exact JN _ _ (by first | (exfalso; omega) | exact (if_pos (by omega)).symm | exact (if_neg (by omega)).symm) (by first | (exfalso; omega) | exact congrArg nI (by unfold s_t0; first | rw [if_pos (by omega)] | rw [if_neg (by omega), if_pos (by omega)] | rw [if_neg (by omega), if_neg (by omega), if_pos (by omega)] | rw [if_neg (by omega), if_neg (by omega), if_neg (by omega), if_pos (by omega)] | rw [if_neg (by omega), if_neg (by omega), if_neg (by omega), if_neg (by omega)]))
        · skip
          rw [bI_n0] at c88
          try rw [nI_leI (by omega) (by omega), nI_leI (by omega) (by omega)] at c88
          try rw [← hby] at c88
          refine r_iconst (nI 3) dX6_nextToken_91 (by decide) ?_
          refine r_goto (tgt := 118) dX6_nextToken_92 (by decide) ?_
          refine r_putI (ci := 6) (k := 14) wf_X6_109 dX6_nextToken_118 z_219 k_219 (by decide) (by decide) rfl rfl (fun D93 hD93 => ?_)
          obtain rfl : D93 = upo D 219 (upd (upd (upd (D 219) 13 (nI c)) 15 (nI (t.2 (c)))) 14 (nI 3)) := hD93.trans up2_upo
          exact JN _ _ (by first | (exfalso; omega) | exact (if_pos (by omega)).symm | exact (if_neg (by omega)).symm) (by first | (exfalso; omega) | exact congrArg nI (by unfold s_t0; first | rw [if_pos (by omega)] | rw [if_neg (by omega), if_pos (by omega)] | rw [if_neg (by omega), if_neg (by omega), if_pos (by omega)] | rw [if_neg (by omega), if_neg (by omega), if_neg (by omega), if_pos (by omega)] | rw [if_neg (by omega), if_neg (by omega), if_neg (by omega), if_neg (by omega)]))
      · skip
        rw [bI_n0] at c67
        try rw [nI_leI (by omega) (by omega), nI_leI (by omega) (by omega)] at c67
        try rw [← hby] at c67
        refine r_iconst (nI 2) dX6_nextToken_70 (by decide) ?_
        refine r_goto (tgt := 118) dX6_nextToken_71 (by decide) ?_
        refine r_putI (ci := 6) (k := 14) wf_X6_109 dX6_nextToken_118 z_219 k_219 (by decide) (by decide) rfl rfl (fun D94 hD94 => ?_)
        obtain rfl : D94 = upo D 219 (upd (upd (upd (D 219) 13 (nI c)) 15 (nI (t.2 (c)))) 14 (nI 2)) := hD94.trans up2_upo
        exact JN _ _ (by first | (exfalso; omega) | exact (if_pos (by omega)).symm | exact (if_neg (by omega)).symm) (by first | (exfalso; omega) | exact congrArg nI (by unfold s_t0; first | rw [if_pos (by omega)] | rw [if_neg (by omega), if_pos (by omega)] | rw [if_neg (by omega), if_neg (by omega), if_pos (by omega)] | rw [if_neg (by omega), if_neg (by omega), if_neg (by omega), if_pos (by omega)] | rw [if_neg (by omega), if_neg (by omega), if_neg (by omega), if_neg (by omega)]))
    · skip
      rw [nI_eq (by omega) (by omega)] at c46
      refine r_iconst (nI 1) dX6_nextToken_49 (by decide) ?_
      refine r_goto (tgt := 118) dX6_nextToken_50 (by decide) ?_
      refine r_putI (ci := 6) (k := 14) wf_X6_109 dX6_nextToken_118 z_219 k_219 (by decide) (by decide) rfl rfl (fun D95 hD95 => ?_)
      obtain rfl : D95 = upo D 219 (upd (upd (upd (D 219) 13 (nI c)) 15 (nI (t.2 (c)))) 14 (nI 1)) := hD95.trans up2_upo
      exact JN _ _ (by first | (exfalso; omega) | exact (if_pos (by omega)).symm | exact (if_neg (by omega)).symm) (by first | (exfalso; omega) | exact congrArg nI (by unfold s_t0; first | rw [if_pos (by omega)] | rw [if_neg (by omega), if_pos (by omega)] | rw [if_neg (by omega), if_neg (by omega), if_pos (by omega)] | rw [if_neg (by omega), if_neg (by omega), if_neg (by omega), if_pos (by omega)] | rw [if_neg (by omega), if_neg (by omega), if_neg (by omega), if_neg (by omega)]))
