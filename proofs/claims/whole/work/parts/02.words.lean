def BW : List Cond := lw_tbl.filter goodWord
theorem bw_t {w : Cond} (h : w ∈ tables_1) (g : goodWord w = true) : w ∈ BW := List.mem_filter.mpr ⟨List.mem_append_right _ h, g⟩
theorem bw_s {y : MethodName} {n : Nat} (h : (y, n) ∈ lw_privs) (g : goodWord (.selects y.cls y y) = true) : Cond.selects y.cls y y ∈ BW := List.mem_filter.mpr ⟨List.mem_append_left _ (List.mem_map.mpr ⟨(y, n), h, rfl⟩), g⟩
theorem bw_1 {w : Cond} (h : w ∈ tables_1_1) : w ∈ tables_1 := List.mem_append_left _ h
theorem bw_2 {w : Cond} (h : w ∈ tables_1_2) : w ∈ tables_1 := List.mem_append_right _ (List.mem_append_left _ h)
theorem bw_3 {w : Cond} (h : w ∈ tables_1_3) : w ∈ tables_1 := List.mem_append_right _ (List.mem_append_right _ (List.mem_append_left _ h))
theorem bw_4 {w : Cond} (h : w ∈ tables_1_4) : w ∈ tables_1 := List.mem_append_right _ (List.mem_append_right _ (List.mem_append_right _ (List.mem_append_left _ h)))
theorem bw_5 {w : Cond} (h : w ∈ tables_1_5) : w ∈ tables_1 := List.mem_append_right _ (List.mem_append_right _ (List.mem_append_right _ (List.mem_append_right _ h)))
theorem inlX0 : ∀ w ∈ u_ws RX0 TX0 11, w ∈ BW := by
  show ∀ w ∈ [u_lay RX0 TX0 0, u_lay RX0 TX0 1, u_lay RX0 TX0 2, u_lay RX0 TX0 3, u_lay RX0 TX0 4, u_lay RX0 TX0 5, u_lay RX0 TX0 6, u_lay RX0 TX0 7, u_lay RX0 TX0 8, u_lay RX0 TX0 9, u_lay RX0 TX0 10], w ∈ BW
  exact List.forall_mem_cons.mpr ⟨bw_t (bw_1 (List.mem_of_getElem? (i := 149) rfl)) rfl, List.forall_mem_cons.mpr ⟨bw_t (bw_1 (List.mem_of_getElem? (i := 151) rfl)) rfl, List.forall_mem_cons.mpr ⟨bw_t (bw_1 (List.mem_of_getElem? (i := 153) rfl)) rfl, List.forall_mem_cons.mpr ⟨bw_t (bw_1 (List.mem_of_getElem? (i := 155) rfl)) rfl, List.forall_mem_cons.mpr ⟨bw_t (bw_1 (List.mem_of_getElem? (i := 157) rfl)) rfl, List.forall_mem_cons.mpr ⟨bw_t (bw_1 (List.mem_of_getElem? (i := 159) rfl)) rfl, List.forall_mem_cons.mpr ⟨bw_t (bw_1 (List.mem_of_getElem? (i := 161) rfl)) rfl, List.forall_mem_cons.mpr ⟨bw_t (bw_1 (List.mem_of_getElem? (i := 163) rfl)) rfl, List.forall_mem_cons.mpr ⟨bw_t (bw_1 (List.mem_of_getElem? (i := 165) rfl)) rfl, List.forall_mem_cons.mpr ⟨bw_t (bw_1 (List.mem_of_getElem? (i := 167) rfl)) rfl, List.forall_mem_cons.mpr ⟨bw_t (bw_1 (List.mem_of_getElem? (i := 169) rfl)) rfl, fun _ h => absurd h List.not_mem_nil⟩⟩⟩⟩⟩⟩⟩⟩⟩⟩⟩
theorem inlX1 : ∀ w ∈ u_ws RX1 TX1 10, w ∈ BW := by
  show ∀ w ∈ [u_lay RX1 TX1 0, u_lay RX1 TX1 1, u_lay RX1 TX1 2, u_lay RX1 TX1 3, u_lay RX1 TX1 4, u_lay RX1 TX1 5, u_lay RX1 TX1 6, u_lay RX1 TX1 7, u_lay RX1 TX1 8, u_lay RX1 TX1 9], w ∈ BW
  exact List.forall_mem_cons.mpr ⟨bw_t (bw_1 (List.mem_of_getElem? (i := 100) rfl)) rfl, List.forall_mem_cons.mpr ⟨bw_t (bw_1 (List.mem_of_getElem? (i := 102) rfl)) rfl, List.forall_mem_cons.mpr ⟨bw_t (bw_1 (List.mem_of_getElem? (i := 104) rfl)) rfl, List.forall_mem_cons.mpr ⟨bw_t (bw_1 (List.mem_of_getElem? (i := 106) rfl)) rfl, List.forall_mem_cons.mpr ⟨bw_t (bw_1 (List.mem_of_getElem? (i := 108) rfl)) rfl, List.forall_mem_cons.mpr ⟨bw_t (bw_1 (List.mem_of_getElem? (i := 110) rfl)) rfl, List.forall_mem_cons.mpr ⟨bw_t (bw_1 (List.mem_of_getElem? (i := 112) rfl)) rfl, List.forall_mem_cons.mpr ⟨bw_t (bw_1 (List.mem_of_getElem? (i := 114) rfl)) rfl, List.forall_mem_cons.mpr ⟨bw_t (bw_1 (List.mem_of_getElem? (i := 116) rfl)) rfl, List.forall_mem_cons.mpr ⟨bw_t (bw_1 (List.mem_of_getElem? (i := 118) rfl)) rfl, fun _ h => absurd h List.not_mem_nil⟩⟩⟩⟩⟩⟩⟩⟩⟩⟩
theorem inlX2 : ∀ w ∈ u_ws RX2 TX2 3, w ∈ BW := by
  show ∀ w ∈ [u_lay RX2 TX2 0, u_lay RX2 TX2 1, u_lay RX2 TX2 2], w ∈ BW
  exact List.forall_mem_cons.mpr ⟨bw_t (bw_1 (List.mem_of_getElem? (i := 185) rfl)) rfl, List.forall_mem_cons.mpr ⟨bw_t (bw_1 (List.mem_of_getElem? (i := 187) rfl)) rfl, List.forall_mem_cons.mpr ⟨bw_t (bw_1 (List.mem_of_getElem? (i := 189) rfl)) rfl, fun _ h => absurd h List.not_mem_nil⟩⟩⟩
theorem inlX3 : ∀ w ∈ u_ws RX3 TX3 3, w ∈ BW := by
  show ∀ w ∈ [u_lay RX3 TX3 0, u_lay RX3 TX3 1, u_lay RX3 TX3 2], w ∈ BW
  exact List.forall_mem_cons.mpr ⟨bw_t (bw_1 (List.mem_of_getElem? (i := 33) rfl)) rfl, List.forall_mem_cons.mpr ⟨bw_t (bw_1 (List.mem_of_getElem? (i := 35) rfl)) rfl, List.forall_mem_cons.mpr ⟨bw_t (bw_1 (List.mem_of_getElem? (i := 37) rfl)) rfl, fun _ h => absurd h List.not_mem_nil⟩⟩⟩
theorem inlX4 : ∀ w ∈ u_ws RX4 TX4 5, w ∈ BW := by
  show ∀ w ∈ [u_lay RX4 TX4 0, u_lay RX4 TX4 1, u_lay RX4 TX4 2, u_lay RX4 TX4 3, u_lay RX4 TX4 4], w ∈ BW
  exact List.forall_mem_cons.mpr ⟨bw_t (bw_1 (List.mem_of_getElem? (i := 57) rfl)) rfl, List.forall_mem_cons.mpr ⟨bw_t (bw_1 (List.mem_of_getElem? (i := 59) rfl)) rfl, List.forall_mem_cons.mpr ⟨bw_t (bw_1 (List.mem_of_getElem? (i := 61) rfl)) rfl, List.forall_mem_cons.mpr ⟨bw_t (bw_1 (List.mem_of_getElem? (i := 63) rfl)) rfl, List.forall_mem_cons.mpr ⟨bw_t (bw_1 (List.mem_of_getElem? (i := 65) rfl)) rfl, fun _ h => absurd h List.not_mem_nil⟩⟩⟩⟩⟩
theorem inlX5 : ∀ w ∈ u_ws RX5 TX5 16, w ∈ BW := by
  show ∀ w ∈ [u_lay RX5 TX5 0, u_lay RX5 TX5 1, u_lay RX5 TX5 2, u_lay RX5 TX5 3, u_lay RX5 TX5 4, u_lay RX5 TX5 5, u_lay RX5 TX5 6, u_lay RX5 TX5 7, u_lay RX5 TX5 8, u_lay RX5 TX5 9, u_lay RX5 TX5 10, u_lay RX5 TX5 11, u_lay RX5 TX5 12, u_lay RX5 TX5 13, u_lay RX5 TX5 14, u_lay RX5 TX5 15], w ∈ BW
  exact List.forall_mem_cons.mpr ⟨bw_t (bw_1 (List.mem_of_getElem? (i := 209) rfl)) rfl, List.forall_mem_cons.mpr ⟨bw_t (bw_1 (List.mem_of_getElem? (i := 211) rfl)) rfl, List.forall_mem_cons.mpr ⟨bw_t (bw_1 (List.mem_of_getElem? (i := 213) rfl)) rfl, List.forall_mem_cons.mpr ⟨bw_t (bw_1 (List.mem_of_getElem? (i := 215) rfl)) rfl, List.forall_mem_cons.mpr ⟨bw_t (bw_1 (List.mem_of_getElem? (i := 217) rfl)) rfl, List.forall_mem_cons.mpr ⟨bw_t (bw_1 (List.mem_of_getElem? (i := 219) rfl)) rfl, List.forall_mem_cons.mpr ⟨bw_t (bw_1 (List.mem_of_getElem? (i := 221) rfl)) rfl, List.forall_mem_cons.mpr ⟨bw_t (bw_1 (List.mem_of_getElem? (i := 223) rfl)) rfl, List.forall_mem_cons.mpr ⟨bw_t (bw_1 (List.mem_of_getElem? (i := 225) rfl)) rfl, List.forall_mem_cons.mpr ⟨bw_t (bw_1 (List.mem_of_getElem? (i := 227) rfl)) rfl, List.forall_mem_cons.mpr ⟨bw_t (bw_1 (List.mem_of_getElem? (i := 229) rfl)) rfl, List.forall_mem_cons.mpr ⟨bw_t (bw_1 (List.mem_of_getElem? (i := 231) rfl)) rfl, List.forall_mem_cons.mpr ⟨bw_t (bw_1 (List.mem_of_getElem? (i := 233) rfl)) rfl, List.forall_mem_cons.mpr ⟨bw_t (bw_1 (List.mem_of_getElem? (i := 235) rfl)) rfl, List.forall_mem_cons.mpr ⟨bw_t (bw_1 (List.mem_of_getElem? (i := 237) rfl)) rfl, List.forall_mem_cons.mpr ⟨bw_t (bw_1 (List.mem_of_getElem? (i := 239) rfl)) rfl, fun _ h => absurd h List.not_mem_nil⟩⟩⟩⟩⟩⟩⟩⟩⟩⟩⟩⟩⟩⟩⟩⟩
theorem inlX6 : ∀ w ∈ u_ws RX6 TX6 26, w ∈ BW := by
  show ∀ w ∈ [u_lay RX6 TX6 0, u_lay RX6 TX6 1, u_lay RX6 TX6 2, u_lay RX6 TX6 3, u_lay RX6 TX6 4, u_lay RX6 TX6 5, u_lay RX6 TX6 6, u_lay RX6 TX6 7, u_lay RX6 TX6 8, u_lay RX6 TX6 9, u_lay RX6 TX6 10, u_lay RX6 TX6 11, u_lay RX6 TX6 12, u_lay RX6 TX6 13, u_lay RX6 TX6 14, u_lay RX6 TX6 15, u_lay RX6 TX6 16, u_lay RX6 TX6 17, u_lay RX6 TX6 18, u_lay RX6 TX6 19, u_lay RX6 TX6 20, u_lay RX6 TX6 21, u_lay RX6 TX6 22, u_lay RX6 TX6 23, u_lay RX6 TX6 24, u_lay RX6 TX6 25], w ∈ BW
  exact List.forall_mem_cons.mpr ⟨bw_t (bw_3 (List.mem_of_getElem? (i := 220) rfl)) rfl, List.forall_mem_cons.mpr ⟨bw_t (bw_3 (List.mem_of_getElem? (i := 222) rfl)) rfl, List.forall_mem_cons.mpr ⟨bw_t (bw_3 (List.mem_of_getElem? (i := 224) rfl)) rfl, List.forall_mem_cons.mpr ⟨bw_t (bw_3 (List.mem_of_getElem? (i := 226) rfl)) rfl, List.forall_mem_cons.mpr ⟨bw_t (bw_3 (List.mem_of_getElem? (i := 228) rfl)) rfl, List.forall_mem_cons.mpr ⟨bw_t (bw_3 (List.mem_of_getElem? (i := 230) rfl)) rfl, List.forall_mem_cons.mpr ⟨bw_t (bw_3 (List.mem_of_getElem? (i := 232) rfl)) rfl, List.forall_mem_cons.mpr ⟨bw_t (bw_3 (List.mem_of_getElem? (i := 234) rfl)) rfl, List.forall_mem_cons.mpr ⟨bw_t (bw_3 (List.mem_of_getElem? (i := 236) rfl)) rfl, List.forall_mem_cons.mpr ⟨bw_t (bw_3 (List.mem_of_getElem? (i := 238) rfl)) rfl, List.forall_mem_cons.mpr ⟨bw_t (bw_4 (List.mem_of_getElem? (i := 0) rfl)) rfl, List.forall_mem_cons.mpr ⟨bw_t (bw_4 (List.mem_of_getElem? (i := 2) rfl)) rfl, List.forall_mem_cons.mpr ⟨bw_t (bw_4 (List.mem_of_getElem? (i := 4) rfl)) rfl, List.forall_mem_cons.mpr ⟨bw_t (bw_4 (List.mem_of_getElem? (i := 6) rfl)) rfl, List.forall_mem_cons.mpr ⟨bw_t (bw_4 (List.mem_of_getElem? (i := 8) rfl)) rfl, List.forall_mem_cons.mpr ⟨bw_t (bw_4 (List.mem_of_getElem? (i := 10) rfl)) rfl, List.forall_mem_cons.mpr ⟨bw_t (bw_4 (List.mem_of_getElem? (i := 12) rfl)) rfl, List.forall_mem_cons.mpr ⟨bw_t (bw_4 (List.mem_of_getElem? (i := 14) rfl)) rfl, List.forall_mem_cons.mpr ⟨bw_t (bw_4 (List.mem_of_getElem? (i := 16) rfl)) rfl, List.forall_mem_cons.mpr ⟨bw_t (bw_4 (List.mem_of_getElem? (i := 18) rfl)) rfl, List.forall_mem_cons.mpr ⟨bw_t (bw_4 (List.mem_of_getElem? (i := 20) rfl)) rfl, List.forall_mem_cons.mpr ⟨bw_t (bw_4 (List.mem_of_getElem? (i := 22) rfl)) rfl, List.forall_mem_cons.mpr ⟨bw_t (bw_4 (List.mem_of_getElem? (i := 24) rfl)) rfl, List.forall_mem_cons.mpr ⟨bw_t (bw_4 (List.mem_of_getElem? (i := 26) rfl)) rfl, List.forall_mem_cons.mpr ⟨bw_t (bw_4 (List.mem_of_getElem? (i := 28) rfl)) rfl, List.forall_mem_cons.mpr ⟨bw_t (bw_4 (List.mem_of_getElem? (i := 30) rfl)) rfl, fun _ h => absurd h List.not_mem_nil⟩⟩⟩⟩⟩⟩⟩⟩⟩⟩⟩⟩⟩⟩⟩⟩⟩⟩⟩⟩⟩⟩⟩⟩⟩⟩
theorem wf_X5_10 : Cond.fieldLink RX5 10 (TX5 0).1 (TX5 0).2.1 (TX5 0).2.2.1 ∈ BW := bw_t (bw_1 (List.mem_of_getElem? (i := 193) rfl)) rfl
theorem wf_X5_19 : Cond.fieldLink RX5 19 (TX5 1).1 (TX5 1).2.1 (TX5 1).2.2.1 ∈ BW := bw_t (bw_1 (List.mem_of_getElem? (i := 194) rfl)) rfl
theorem wf_X5_26 : Cond.fieldLink RX5 26 (TX5 2).1 (TX5 2).2.1 (TX5 2).2.2.1 ∈ BW := bw_t (bw_1 (List.mem_of_getElem? (i := 195) rfl)) rfl
theorem wf_X5_33 : Cond.fieldLink RX5 33 (TX5 3).1 (TX5 3).2.1 (TX5 3).2.2.1 ∈ BW := bw_t (bw_1 (List.mem_of_getElem? (i := 196) rfl)) rfl
theorem wf_X5_40 : Cond.fieldLink RX5 40 (TX5 4).1 (TX5 4).2.1 (TX5 4).2.2.1 ∈ BW := bw_t (bw_1 (List.mem_of_getElem? (i := 197) rfl)) rfl
theorem wf_X5_44 : Cond.fieldLink RX5 44 (TX5 5).1 (TX5 5).2.1 (TX5 5).2.2.1 ∈ BW := bw_t (bw_1 (List.mem_of_getElem? (i := 198) rfl)) rfl
theorem wf_X5_47 : Cond.fieldLink RX5 47 (TX5 6).1 (TX5 6).2.1 (TX5 6).2.2.1 ∈ BW := bw_t (bw_1 (List.mem_of_getElem? (i := 199) rfl)) rfl
theorem wf_X5_50 : Cond.fieldLink RX5 50 (TX5 7).1 (TX5 7).2.1 (TX5 7).2.2.1 ∈ BW := bw_t (bw_1 (List.mem_of_getElem? (i := 200) rfl)) rfl
theorem wf_X5_53 : Cond.fieldLink RX5 53 (TX5 8).1 (TX5 8).2.1 (TX5 8).2.2.1 ∈ BW := bw_t (bw_1 (List.mem_of_getElem? (i := 201) rfl)) rfl
theorem wf_X5_57 : Cond.fieldLink RX5 57 (TX5 9).1 (TX5 9).2.1 (TX5 9).2.2.1 ∈ BW := bw_t (bw_1 (List.mem_of_getElem? (i := 202) rfl)) rfl
theorem wf_X5_61 : Cond.fieldLink RX5 61 (TX5 11).1 (TX5 11).2.1 (TX5 11).2.2.1 ∈ BW := bw_t (bw_1 (List.mem_of_getElem? (i := 204) rfl)) rfl
theorem wf_X5_65 : Cond.fieldLink RX5 65 (TX5 12).1 (TX5 12).2.1 (TX5 12).2.2.1 ∈ BW := bw_t (bw_1 (List.mem_of_getElem? (i := 205) rfl)) rfl
theorem wf_X5_99 : Cond.fieldLink RX5 99 (TX3 0).1 (TX3 0).2.1 (TX3 0).2.2.1 ∈ BW := bw_t (bw_1 (List.mem_of_getElem? (i := 28) rfl)) rfl
theorem wf_X5_102 : Cond.fieldLink RX5 102 (TX3 2).1 (TX3 2).2.1 (TX3 2).2.2.1 ∈ BW := bw_t (bw_1 (List.mem_of_getElem? (i := 32) rfl)) rfl
theorem wf_X5_112 : Cond.fieldLink RX5 112 (TX3 1).1 (TX3 1).2.1 (TX3 1).2.2.1 ∈ BW := bw_t (bw_1 (List.mem_of_getElem? (i := 30) rfl)) rfl
theorem wf_X5_115 : Cond.fieldLink RX5 115 (TX4 1).1 (TX4 1).2.1 (TX4 1).2.2.1 ∈ BW := bw_t (bw_1 (List.mem_of_getElem? (i := 50) rfl)) rfl
theorem wf_X5_120 : Cond.fieldLink RX5 120 (TX4 0).1 (TX4 0).2.1 (TX4 0).2.2.1 ∈ BW := bw_t (bw_1 (List.mem_of_getElem? (i := 48) rfl)) rfl
theorem wf_X5_126 : Cond.fieldLink RX5 126 (TX4 3).1 (TX4 3).2.1 (TX4 3).2.2.1 ∈ BW := bw_t (bw_1 (List.mem_of_getElem? (i := 54) rfl)) rfl
theorem wf_X5_129 : Cond.fieldLink RX5 129 (TX5 14).1 (TX5 14).2.1 (TX5 14).2.2.1 ∈ BW := bw_t (bw_1 (List.mem_of_getElem? (i := 207) rfl)) rfl
theorem wf_X5_133 : Cond.fieldLink RX5 133 (TX4 4).1 (TX4 4).2.1 (TX4 4).2.2.1 ∈ BW := bw_t (bw_1 (List.mem_of_getElem? (i := 56) rfl)) rfl
theorem wf_X5_146 : Cond.fieldLink RX5 146 (TX1 4).1 (TX1 4).2.1 (TX1 4).2.2.1 ∈ BW := bw_t (bw_1 (List.mem_of_getElem? (i := 87) rfl)) rfl
theorem wf_X5_149 : Cond.fieldLink RX5 149 (TX2 2).1 (TX2 2).2.1 (TX2 2).2.2.1 ∈ BW := bw_t (bw_1 (List.mem_of_getElem? (i := 184) rfl)) rfl
theorem wf_X5_160 : Cond.fieldLink RX5 160 (TX0 0).1 (TX0 0).2.1 (TX0 0).2.2.1 ∈ BW := bw_t (bw_1 (List.mem_of_getElem? (i := 128) rfl)) rfl
theorem wf_X5_169 : Cond.fieldLink RX5 169 (TX0 1).1 (TX0 1).2.1 (TX0 1).2.2.1 ∈ BW := bw_t (bw_1 (List.mem_of_getElem? (i := 130) rfl)) rfl
theorem wf_X5_178 : Cond.fieldLink RX5 178 (TX0 7).1 (TX0 7).2.1 (TX0 7).2.2.1 ∈ BW := bw_t (bw_1 (List.mem_of_getElem? (i := 142) rfl)) rfl
theorem wf_X5_181 : Cond.fieldLink RX5 181 (TX0 8).1 (TX0 8).2.1 (TX0 8).2.2.1 ∈ BW := bw_t (bw_1 (List.mem_of_getElem? (i := 144) rfl)) rfl
theorem wf_X5_184 : Cond.fieldLink RX5 184 (TX0 5).1 (TX0 5).2.1 (TX0 5).2.2.1 ∈ BW := bw_t (bw_1 (List.mem_of_getElem? (i := 138) rfl)) rfl
theorem wf_X5_196 : Cond.fieldLink RX5 196 (TX1 7).1 (TX1 7).2.1 (TX1 7).2.2.1 ∈ BW := bw_t (bw_1 (List.mem_of_getElem? (i := 93) rfl)) rfl
theorem wf_X5_199 : Cond.fieldLink RX5 199 (TX0 9).1 (TX0 9).2.1 (TX0 9).2.2.1 ∈ BW := bw_t (bw_1 (List.mem_of_getElem? (i := 146) rfl)) rfl
theorem wf_X5_213 : Cond.fieldLink RX5 213 (TX0 10).1 (TX0 10).2.1 (TX0 10).2.2.1 ∈ BW := bw_t (bw_1 (List.mem_of_getElem? (i := 148) rfl)) rfl
theorem wf_X5_216 : Cond.fieldLink RX5 216 (TX0 4).1 (TX0 4).2.1 (TX0 4).2.2.1 ∈ BW := bw_t (bw_1 (List.mem_of_getElem? (i := 136) rfl)) rfl
theorem wf_X5_219 : Cond.fieldLink RX5 219 (TX1 5).1 (TX1 5).2.1 (TX1 5).2.2.1 ∈ BW := bw_t (bw_1 (List.mem_of_getElem? (i := 89) rfl)) rfl
theorem wf_X5_229 : Cond.fieldLink RX5 229 (TX0 2).1 (TX0 2).2.1 (TX0 2).2.2.1 ∈ BW := bw_t (bw_1 (List.mem_of_getElem? (i := 132) rfl)) rfl
theorem wf_X5_244 : Cond.fieldLink RX5 244 (TX1 0).1 (TX1 0).2.1 (TX1 0).2.2.1 ∈ BW := bw_t (bw_1 (List.mem_of_getElem? (i := 76) rfl)) rfl
theorem wf_X5_258 : Cond.fieldLink RX5 258 (TX0 3).1 (TX0 3).2.1 (TX0 3).2.2.1 ∈ BW := bw_t (bw_1 (List.mem_of_getElem? (i := 134) rfl)) rfl
theorem wf_X5_284 : Cond.fieldLink RX5 284 (TX5 10).1 (TX5 10).2.1 (TX5 10).2.2.1 ∈ BW := bw_t (bw_1 (List.mem_of_getElem? (i := 203) rfl)) rfl
theorem wf_X5_287 : Cond.fieldLink RX5 287 (TX0 6).1 (TX0 6).2.1 (TX0 6).2.2.1 ∈ BW := bw_t (bw_1 (List.mem_of_getElem? (i := 140) rfl)) rfl
theorem wf_X5_294 : Cond.fieldLink RX5 294 (TX5 13).1 (TX5 13).2.1 (TX5 13).2.2.1 ∈ BW := bw_t (bw_1 (List.mem_of_getElem? (i := 206) rfl)) rfl
theorem wf_X5_312 : Cond.fieldLink RX5 312 (TX1 3).1 (TX1 3).2.1 (TX1 3).2.2.1 ∈ BW := bw_t (bw_1 (List.mem_of_getElem? (i := 84) rfl)) rfl
theorem wf_X5_315 : Cond.fieldLink RX5 315 (TX5 15).1 (TX5 15).2.1 (TX5 15).2.2.1 ∈ BW := bw_t (bw_1 (List.mem_of_getElem? (i := 208) rfl)) rfl
theorem wf_X5_353 : Cond.fieldLink RX5 353 (TX1 1).1 (TX1 1).2.1 (TX1 1).2.2.1 ∈ BW := bw_t (bw_1 (List.mem_of_getElem? (i := 79) rfl)) rfl
theorem wf_X5_356 : Cond.fieldLink RX5 356 (TX1 2).1 (TX1 2).2.1 (TX1 2).2.2.1 ∈ BW := bw_t (bw_1 (List.mem_of_getElem? (i := 82) rfl)) rfl
theorem wf_X5_359 : Cond.fieldLink RX5 359 (TX4 2).1 (TX4 2).2.1 (TX4 2).2.2.1 ∈ BW := bw_t (bw_1 (List.mem_of_getElem? (i := 52) rfl)) rfl
theorem wf_X5_368 : Cond.fieldLink RX5 368 (TX1 8).1 (TX1 8).2.1 (TX1 8).2.2.1 ∈ BW := bw_t (bw_1 (List.mem_of_getElem? (i := 96) rfl)) rfl
theorem wf_X5_371 : Cond.fieldLink RX5 371 (TX1 9).1 (TX1 9).2.1 (TX1 9).2.2.1 ∈ BW := bw_t (bw_1 (List.mem_of_getElem? (i := 99) rfl)) rfl
theorem wf_X0_9 : Cond.fieldLink RX0 9 (TX0 6).1 (TX0 6).2.1 (TX0 6).2.2.1 ∈ BW := bw_t (bw_1 (List.mem_of_getElem? (i := 139) rfl)) rfl
theorem wf_X0_15 : Cond.fieldLink RX0 15 (TX0 7).1 (TX0 7).2.1 (TX0 7).2.2.1 ∈ BW := bw_t (bw_1 (List.mem_of_getElem? (i := 141) rfl)) rfl
theorem wf_X0_18 : Cond.fieldLink RX0 18 (TX0 8).1 (TX0 8).2.1 (TX0 8).2.2.1 ∈ BW := bw_t (bw_1 (List.mem_of_getElem? (i := 143) rfl)) rfl
theorem wf_X0_21 : Cond.fieldLink RX0 21 (TX0 9).1 (TX0 9).2.1 (TX0 9).2.2.1 ∈ BW := bw_t (bw_1 (List.mem_of_getElem? (i := 145) rfl)) rfl
theorem wf_X0_24 : Cond.fieldLink RX0 24 (TX0 10).1 (TX0 10).2.1 (TX0 10).2.2.1 ∈ BW := bw_t (bw_1 (List.mem_of_getElem? (i := 147) rfl)) rfl
theorem wf_X0_27 : Cond.fieldLink RX0 27 (TX0 0).1 (TX0 0).2.1 (TX0 0).2.2.1 ∈ BW := bw_t (bw_1 (List.mem_of_getElem? (i := 127) rfl)) rfl
theorem wf_X0_31 : Cond.fieldLink RX0 31 (TX0 1).1 (TX0 1).2.1 (TX0 1).2.2.1 ∈ BW := bw_t (bw_1 (List.mem_of_getElem? (i := 129) rfl)) rfl
theorem wf_X0_34 : Cond.fieldLink RX0 34 (TX0 2).1 (TX0 2).2.1 (TX0 2).2.2.1 ∈ BW := bw_t (bw_1 (List.mem_of_getElem? (i := 131) rfl)) rfl
theorem wf_X0_37 : Cond.fieldLink RX0 37 (TX0 3).1 (TX0 3).2.1 (TX0 3).2.2.1 ∈ BW := bw_t (bw_1 (List.mem_of_getElem? (i := 133) rfl)) rfl
theorem wf_X0_40 : Cond.fieldLink RX0 40 (TX0 4).1 (TX0 4).2.1 (TX0 4).2.2.1 ∈ BW := bw_t (bw_1 (List.mem_of_getElem? (i := 135) rfl)) rfl
theorem wf_X0_43 : Cond.fieldLink RX0 43 (TX0 5).1 (TX0 5).2.1 (TX0 5).2.2.1 ∈ BW := bw_t (bw_1 (List.mem_of_getElem? (i := 137) rfl)) rfl
theorem wf_X0_52 : Cond.fieldLink RX0 52 (TX1 8).1 (TX1 8).2.1 (TX1 8).2.2.1 ∈ BW := bw_t (bw_1 (List.mem_of_getElem? (i := 95) rfl)) rfl
theorem wf_X0_57 : Cond.fieldLink RX0 57 (TX1 9).1 (TX1 9).2.1 (TX1 9).2.2.1 ∈ BW := bw_t (bw_1 (List.mem_of_getElem? (i := 98) rfl)) rfl
theorem wf_X0_64 : Cond.fieldLink RX0 64 (TX1 4).1 (TX1 4).2.1 (TX1 4).2.2.1 ∈ BW := bw_t (bw_1 (List.mem_of_getElem? (i := 86) rfl)) rfl
theorem wf_X0_76 : Cond.fieldLink RX0 76 (TX1 7).1 (TX1 7).2.1 (TX1 7).2.2.1 ∈ BW := bw_t (bw_1 (List.mem_of_getElem? (i := 92) rfl)) rfl
theorem wf_X0_82 : Cond.fieldLink RX0 82 (TX1 0).1 (TX1 0).2.1 (TX1 0).2.2.1 ∈ BW := bw_t (bw_1 (List.mem_of_getElem? (i := 75) rfl)) rfl
theorem wf_X0_85 : Cond.fieldLink RX0 85 (TX1 1).1 (TX1 1).2.1 (TX1 1).2.2.1 ∈ BW := bw_t (bw_1 (List.mem_of_getElem? (i := 78) rfl)) rfl
theorem wf_X0_106 : Cond.fieldLink RX0 106 (TX1 2).1 (TX1 2).2.1 (TX1 2).2.2.1 ∈ BW := bw_t (bw_1 (List.mem_of_getElem? (i := 81) rfl)) rfl
theorem wf_X1_9 : Cond.fieldLink RX1 9 (TX1 5).1 (TX1 5).2.1 (TX1 5).2.2.1 ∈ BW := bw_t (bw_1 (List.mem_of_getElem? (i := 88) rfl)) rfl
theorem wf_X1_15 : Cond.fieldLink RX1 15 (TX1 6).1 (TX1 6).2.1 (TX1 6).2.2.1 ∈ BW := bw_t (bw_1 (List.mem_of_getElem? (i := 90) rfl)) rfl
theorem wf_X1_18 : Cond.fieldLink RX1 18 (TX1 7).1 (TX1 7).2.1 (TX1 7).2.2.1 ∈ BW := bw_t (bw_1 (List.mem_of_getElem? (i := 91) rfl)) rfl
theorem wf_X1_21 : Cond.fieldLink RX1 21 (TX1 8).1 (TX1 8).2.1 (TX1 8).2.2.1 ∈ BW := bw_t (bw_1 (List.mem_of_getElem? (i := 94) rfl)) rfl
theorem wf_X1_24 : Cond.fieldLink RX1 24 (TX1 9).1 (TX1 9).2.1 (TX1 9).2.2.1 ∈ BW := bw_t (bw_1 (List.mem_of_getElem? (i := 97) rfl)) rfl
theorem wf_X1_27 : Cond.fieldLink RX1 27 (TX1 3).1 (TX1 3).2.1 (TX1 3).2.2.1 ∈ BW := bw_t (bw_1 (List.mem_of_getElem? (i := 83) rfl)) rfl
theorem wf_X1_31 : Cond.fieldLink RX1 31 (TX1 4).1 (TX1 4).2.1 (TX1 4).2.2.1 ∈ BW := bw_t (bw_1 (List.mem_of_getElem? (i := 85) rfl)) rfl
theorem wf_X1_34 : Cond.fieldLink RX1 34 (TX1 0).1 (TX1 0).2.1 (TX1 0).2.2.1 ∈ BW := bw_t (bw_1 (List.mem_of_getElem? (i := 74) rfl)) rfl
theorem wf_X1_37 : Cond.fieldLink RX1 37 (TX1 1).1 (TX1 1).2.1 (TX1 1).2.2.1 ∈ BW := bw_t (bw_1 (List.mem_of_getElem? (i := 77) rfl)) rfl
theorem wf_X1_40 : Cond.fieldLink RX1 40 (TX1 2).1 (TX1 2).2.1 (TX1 2).2.2.1 ∈ BW := bw_t (bw_1 (List.mem_of_getElem? (i := 80) rfl)) rfl
theorem wf_X2_11 : Cond.fieldLink RX2 11 (TX2 0).1 (TX2 0).2.1 (TX2 0).2.2.1 ∈ BW := bw_t (bw_1 (List.mem_of_getElem? (i := 181) rfl)) rfl
theorem wf_X2_18 : Cond.fieldLink RX2 18 (TX2 2).1 (TX2 2).2.1 (TX2 2).2.2.1 ∈ BW := bw_t (bw_1 (List.mem_of_getElem? (i := 183) rfl)) rfl
theorem wf_X2_22 : Cond.fieldLink RX2 22 (TX2 1).1 (TX2 1).2.1 (TX2 1).2.2.1 ∈ BW := bw_t (bw_1 (List.mem_of_getElem? (i := 182) rfl)) rfl
theorem wf_X3_9 : Cond.fieldLink RX3 9 (TX3 0).1 (TX3 0).2.1 (TX3 0).2.2.1 ∈ BW := bw_t (bw_1 (List.mem_of_getElem? (i := 27) rfl)) rfl
theorem wf_X3_15 : Cond.fieldLink RX3 15 (TX3 1).1 (TX3 1).2.1 (TX3 1).2.2.1 ∈ BW := bw_t (bw_1 (List.mem_of_getElem? (i := 29) rfl)) rfl
theorem wf_X3_20 : Cond.fieldLink RX3 20 (TX3 2).1 (TX3 2).2.1 (TX3 2).2.2.1 ∈ BW := bw_t (bw_1 (List.mem_of_getElem? (i := 31) rfl)) rfl
theorem wf_X4_9 : Cond.fieldLink RX4 9 (TX4 0).1 (TX4 0).2.1 (TX4 0).2.2.1 ∈ BW := bw_t (bw_1 (List.mem_of_getElem? (i := 47) rfl)) rfl
theorem wf_X4_15 : Cond.fieldLink RX4 15 (TX4 2).1 (TX4 2).2.1 (TX4 2).2.2.1 ∈ BW := bw_t (bw_1 (List.mem_of_getElem? (i := 51) rfl)) rfl
theorem wf_X4_19 : Cond.fieldLink RX4 19 (TX4 3).1 (TX4 3).2.1 (TX4 3).2.2.1 ∈ BW := bw_t (bw_1 (List.mem_of_getElem? (i := 53) rfl)) rfl
theorem wf_X4_22 : Cond.fieldLink RX4 22 (TX4 1).1 (TX4 1).2.1 (TX4 1).2.2.1 ∈ BW := bw_t (bw_1 (List.mem_of_getElem? (i := 49) rfl)) rfl
theorem wf_X4_25 : Cond.fieldLink RX4 25 (TX4 4).1 (TX4 4).2.1 (TX4 4).2.2.1 ∈ BW := bw_t (bw_1 (List.mem_of_getElem? (i := 55) rfl)) rfl
theorem wf_X6_7 : Cond.fieldLink RX6 7 (TX6 2).1 (TX6 2).2.1 (TX6 2).2.2.1 ∈ BW := bw_t (bw_3 (List.mem_of_getElem? (i := 196) rfl)) rfl
theorem wf_X6_13 : Cond.fieldLink RX6 13 (TX6 3).1 (TX6 3).2.1 (TX6 3).2.2.1 ∈ BW := bw_t (bw_3 (List.mem_of_getElem? (i := 197) rfl)) rfl
theorem wf_X6_16 : Cond.fieldLink RX6 16 (TX6 4).1 (TX6 4).2.1 (TX6 4).2.2.1 ∈ BW := bw_t (bw_3 (List.mem_of_getElem? (i := 198) rfl)) rfl
theorem wf_X6_19 : Cond.fieldLink RX6 19 (TX6 5).1 (TX6 5).2.1 (TX6 5).2.2.1 ∈ BW := bw_t (bw_3 (List.mem_of_getElem? (i := 199) rfl)) rfl
theorem wf_X6_22 : Cond.fieldLink RX6 22 (TX6 6).1 (TX6 6).2.1 (TX6 6).2.2.1 ∈ BW := bw_t (bw_3 (List.mem_of_getElem? (i := 200) rfl)) rfl
theorem wf_X6_25 : Cond.fieldLink RX6 25 (TX6 7).1 (TX6 7).2.1 (TX6 7).2.2.1 ∈ BW := bw_t (bw_3 (List.mem_of_getElem? (i := 201) rfl)) rfl
theorem wf_X6_28 : Cond.fieldLink RX6 28 (TX6 8).1 (TX6 8).2.1 (TX6 8).2.2.1 ∈ BW := bw_t (bw_3 (List.mem_of_getElem? (i := 202) rfl)) rfl
theorem wf_X6_31 : Cond.fieldLink RX6 31 (TX6 10).1 (TX6 10).2.1 (TX6 10).2.2.1 ∈ BW := bw_t (bw_3 (List.mem_of_getElem? (i := 204) rfl)) rfl
theorem wf_X6_34 : Cond.fieldLink RX6 34 (TX6 19).1 (TX6 19).2.1 (TX6 19).2.2.1 ∈ BW := bw_t (bw_3 (List.mem_of_getElem? (i := 213) rfl)) rfl
theorem wf_X6_37 : Cond.fieldLink RX6 37 (TX6 20).1 (TX6 20).2.1 (TX6 20).2.2.1 ∈ BW := bw_t (bw_3 (List.mem_of_getElem? (i := 214) rfl)) rfl
theorem wf_X6_40 : Cond.fieldLink RX6 40 (TX6 21).1 (TX6 21).2.1 (TX6 21).2.2.1 ∈ BW := bw_t (bw_3 (List.mem_of_getElem? (i := 215) rfl)) rfl
theorem wf_X6_44 : Cond.fieldLink RX6 44 (TX6 22).1 (TX6 22).2.1 (TX6 22).2.2.1 ∈ BW := bw_t (bw_3 (List.mem_of_getElem? (i := 216) rfl)) rfl
theorem wf_X6_48 : Cond.fieldLink RX6 48 (TX6 23).1 (TX6 23).2.1 (TX6 23).2.2.1 ∈ BW := bw_t (bw_3 (List.mem_of_getElem? (i := 217) rfl)) rfl
theorem wf_X6_51 : Cond.fieldLink RX6 51 (TX6 24).1 (TX6 24).2.1 (TX6 24).2.2.1 ∈ BW := bw_t (bw_3 (List.mem_of_getElem? (i := 218) rfl)) rfl
theorem wf_X6_54 : Cond.fieldLink RX6 54 (TX6 0).1 (TX6 0).2.1 (TX6 0).2.2.1 ∈ BW := bw_t (bw_3 (List.mem_of_getElem? (i := 194) rfl)) rfl
theorem wf_X6_58 : Cond.fieldLink RX6 58 (TX6 1).1 (TX6 1).2.1 (TX6 1).2.2.1 ∈ BW := bw_t (bw_3 (List.mem_of_getElem? (i := 195) rfl)) rfl
theorem wf_X6_81 : Cond.fieldLink RX6 81 (TX6 11).1 (TX6 11).2.1 (TX6 11).2.2.1 ∈ BW := bw_t (bw_3 (List.mem_of_getElem? (i := 205) rfl)) rfl
theorem wf_X6_85 : Cond.fieldLink RX6 85 (TX6 16).1 (TX6 16).2.1 (TX6 16).2.2.1 ∈ BW := bw_t (bw_3 (List.mem_of_getElem? (i := 210) rfl)) rfl
theorem wf_X6_88 : Cond.fieldLink RX6 88 (TX6 13).1 (TX6 13).2.1 (TX6 13).2.2.1 ∈ BW := bw_t (bw_3 (List.mem_of_getElem? (i := 207) rfl)) rfl
theorem wf_X6_91 : Cond.fieldLink RX6 91 (TX6 17).1 (TX6 17).2.1 (TX6 17).2.2.1 ∈ BW := bw_t (bw_3 (List.mem_of_getElem? (i := 211) rfl)) rfl
theorem wf_X6_94 : Cond.fieldLink RX6 94 (TX6 12).1 (TX6 12).2.1 (TX6 12).2.2.1 ∈ BW := bw_t (bw_3 (List.mem_of_getElem? (i := 206) rfl)) rfl
theorem wf_X6_98 : Cond.fieldLink RX6 98 (TX6 15).1 (TX6 15).2.1 (TX6 15).2.2.1 ∈ BW := bw_t (bw_3 (List.mem_of_getElem? (i := 209) rfl)) rfl
theorem wf_X6_109 : Cond.fieldLink RX6 109 (TX6 14).1 (TX6 14).2.1 (TX6 14).2.2.1 ∈ BW := bw_t (bw_3 (List.mem_of_getElem? (i := 208) rfl)) rfl
theorem wf_X6_123 : Cond.fieldLink RX6 123 (TX6 18).1 (TX6 18).2.1 (TX6 18).2.2.1 ∈ BW := bw_t (bw_3 (List.mem_of_getElem? (i := 212) rfl)) rfl
theorem wf_X6_153 : Cond.fieldLink RX6 153 (TX6 9).1 (TX6 9).2.1 (TX6 9).2.2.1 ∈ BW := bw_t (bw_3 (List.mem_of_getElem? (i := 203) rfl)) rfl
theorem wf_X6_252 : Cond.fieldLink RX6 252 (TX6 25).1 (TX6 25).2.1 (TX6 25).2.2.1 ∈ BW := bw_t (bw_3 (List.mem_of_getElem? (i := 219) rfl)) rfl
theorem wm_X5_1 : Cond.methodLink RX5 1 objectInit ∈ BW := bw_t (bw_1 (List.mem_of_getElem? (i := 16) rfl)) rfl
theorem wm_X5_9 : Cond.methodLink RX5 9 yX3_init ∈ BW := bw_t (bw_1 (List.mem_of_getElem? (i := 21) rfl)) rfl
theorem wm_X5_39 : Cond.methodLink RX5 39 yX2_init ∈ BW := bw_t (bw_1 (List.mem_of_getElem? (i := 174) rfl)) rfl
theorem wm_X5_69 : Cond.methodLink RX5 69 yX5_isRow ∈ BW := bw_t (bw_2 (List.mem_of_getElem? (i := 7) rfl)) rfl
theorem wm_X5_73 : Cond.methodLink RX5 73 yX5_within ∈ BW := bw_t (bw_2 (List.mem_of_getElem? (i := 10) rfl)) rfl
theorem wm_X5_78 : Cond.methodLink RX5 78 yX5_found ∈ BW := bw_t (bw_2 (List.mem_of_getElem? (i := 14) rfl)) rfl
theorem wm_X5_82 : Cond.methodLink RX5 82 yX3_make ∈ BW := bw_t (bw_2 (List.mem_of_getElem? (i := 19) rfl)) rfl
theorem wm_X5_86 : Cond.methodLink RX5 86 yX5_fine ∈ BW := bw_t (bw_2 (List.mem_of_getElem? (i := 23) rfl)) rfl
theorem wm_X5_89 : Cond.methodLink RX5 89 yX3_look ∈ BW := bw_t (bw_2 (List.mem_of_getElem? (i := 31) rfl)) rfl
theorem wm_X5_93 : Cond.methodLink RX5 93 yX3_put ∈ BW := bw_t (bw_2 (List.mem_of_getElem? (i := 39) rfl)) rfl
theorem wm_X5_96 : Cond.methodLink RX5 96 yX3_isMissing ∈ BW := bw_t (bw_2 (List.mem_of_getElem? (i := 47) rfl)) rfl
theorem wm_X5_106 : Cond.methodLink RX5 106 arraycopyName ∈ BW := bw_t (bw_2 (List.mem_of_getElem? (i := 48) rfl)) rfl
theorem wm_X5_123 : Cond.methodLink RX5 123 yX5_readText ∈ BW := bw_t (bw_2 (List.mem_of_getElem? (i := 64) rfl)) rfl
theorem wm_X5_136 : Cond.methodLink RX5 136 yX1_take ∈ BW := bw_t (bw_2 (List.mem_of_getElem? (i := 141) rfl)) rfl
theorem wm_X5_140 : Cond.methodLink RX5 140 yX0_take ∈ BW := bw_t (bw_2 (List.mem_of_getElem? (i := 146) rfl)) rfl
theorem wm_X5_143 : Cond.methodLink RX5 143 yX2_forget ∈ BW := bw_t (bw_2 (List.mem_of_getElem? (i := 151) rfl)) rfl
theorem wm_X5_153 : Cond.methodLink RX5 153 yX2_goBack ∈ BW := bw_t (bw_2 (List.mem_of_getElem? (i := 164) rfl)) rfl
theorem wm_X5_156 : Cond.methodLink RX5 156 yX5_hasLand ∈ BW := bw_t (bw_2 (List.mem_of_getElem? (i := 173) rfl)) rfl
theorem wm_X5_163 : Cond.methodLink RX5 163 yX2_keep ∈ BW := bw_t (bw_2 (List.mem_of_getElem? (i := 177) rfl)) rfl
theorem wm_X5_166 : Cond.methodLink RX5 166 yX0_pass ∈ BW := bw_t (bw_2 (List.mem_of_getElem? (i := 182) rfl)) rfl
theorem wm_X5_172 : Cond.methodLink RX5 172 yX5_isWisher ∈ BW := bw_t (bw_2 (List.mem_of_getElem? (i := 216) rfl)) rfl
theorem wm_X5_175 : Cond.methodLink RX5 175 yX5_isPlace ∈ BW := bw_t (bw_2 (List.mem_of_getElem? (i := 220) rfl)) rfl
theorem wm_X5_187 : Cond.methodLink RX5 187 yX5_bit ∈ BW := bw_t (bw_2 (List.mem_of_getElem? (i := 228) rfl)) rfl
theorem wm_X5_191 : Cond.methodLink RX5 191 yJ6_bitCount_0f7a4 ∈ BW := bw_t (bw_2 (List.mem_of_getElem? (i := 229) rfl)) rfl
theorem wm_X5_202 : Cond.methodLink RX5 202 yX0_wishes ∈ BW := bw_t (bw_2 (List.mem_of_getElem? (i := 239) rfl)) rfl
theorem wm_X5_206 : Cond.methodLink RX5 206 yX0_force ∈ BW := bw_t (bw_3 (List.mem_of_getElem? (i := 0) rfl)) rfl
theorem wm_X5_210 : Cond.methodLink RX5 210 yX0_weigh ∈ BW := bw_t (bw_3 (List.mem_of_getElem? (i := 5) rfl)) rfl
theorem wm_X5_222 : Cond.methodLink RX5 222 yX1_way ∈ BW := bw_t (bw_3 (List.mem_of_getElem? (i := 10) rfl)) rfl
theorem wm_X5_225 : Cond.methodLink RX5 225 yX0_passMany ∈ BW := bw_t (bw_3 (List.mem_of_getElem? (i := 15) rfl)) rfl
theorem wm_X5_233 : Cond.methodLink RX5 233 yX1_everyone ∈ BW := bw_t (bw_3 (List.mem_of_getElem? (i := 33) rfl)) rfl
theorem wm_X5_237 : Cond.methodLink RX5 237 yX5_isThereBy ∈ BW := bw_t (bw_3 (List.mem_of_getElem? (i := 37) rfl)) rfl
theorem wm_X5_240 : Cond.methodLink RX5 240 yX0_goesTo ∈ BW := bw_t (bw_3 (List.mem_of_getElem? (i := 49) rfl)) rfl
theorem wm_X5_247 : Cond.methodLink RX5 247 yX5_comesAsTold ∈ BW := bw_t (bw_3 (List.mem_of_getElem? (i := 57) rfl)) rfl
theorem wm_X5_250 : Cond.methodLink RX5 250 yX0_become ∈ BW := bw_t (bw_3 (List.mem_of_getElem? (i := 65) rfl)) rfl
theorem wm_X5_254 : Cond.methodLink RX5 254 yX0_code ∈ BW := bw_t (bw_3 (List.mem_of_getElem? (i := 73) rfl)) rfl
theorem wm_X5_265 : Cond.methodLink RX5 265 yX0_wishing ∈ BW := bw_t (bw_3 (List.mem_of_getElem? (i := 88) rfl)) rfl
theorem wm_X5_268 : Cond.methodLink RX5 268 yX5_goesBy ∈ BW := bw_t (bw_3 (List.mem_of_getElem? (i := 92) rfl)) rfl
theorem wm_X5_271 : Cond.methodLink RX5 271 yX5_power ∈ BW := bw_t (bw_3 (List.mem_of_getElem? (i := 96) rfl)) rfl
theorem wm_X5_275 : Cond.methodLink RX5 275 yX5_commonDivisor ∈ BW := bw_t (bw_3 (List.mem_of_getElem? (i := 99) rfl)) rfl
theorem wm_X5_290 : Cond.methodLink RX5 290 yX5_isA ∈ BW := bw_t (bw_3 (List.mem_of_getElem? (i := 125) rfl)) rfl
theorem wm_X5_297 : Cond.methodLink RX5 297 yX5_grownSize ∈ BW := bw_t (bw_3 (List.mem_of_getElem? (i := 132) rfl)) rfl
theorem wm_X5_300 : Cond.methodLink RX5 300 yX5_childSize ∈ BW := bw_t (bw_3 (List.mem_of_getElem? (i := 160) rfl)) rfl
theorem wm_X5_303 : Cond.methodLink RX5 303 yX5_grownMark ∈ BW := bw_t (bw_3 (List.mem_of_getElem? (i := 148) rfl)) rfl
theorem wm_X5_306 : Cond.methodLink RX5 306 yX5_childMark ∈ BW := bw_t (bw_3 (List.mem_of_getElem? (i := 168) rfl)) rfl
theorem wm_X5_309 : Cond.methodLink RX5 309 yX3_many ∈ BW := bw_t (bw_3 (List.mem_of_getElem? (i := 180) rfl)) rfl
theorem wm_X5_319 : Cond.methodLink RX5 319 yX4_begin ∈ BW := bw_t (bw_2 (List.mem_of_getElem? (i := 68) rfl)) rfl
theorem wm_X5_322 : Cond.methodLink RX5 322 yX1_clear ∈ BW := bw_t (bw_2 (List.mem_of_getElem? (i := 72) rfl)) rfl
theorem wm_X5_325 : Cond.methodLink RX5 325 yX5_readLaw ∈ BW := bw_t (bw_2 (List.mem_of_getElem? (i := 76) rfl)) rfl
theorem wm_X5_328 : Cond.methodLink RX5 328 yX4_goesOn ∈ BW := bw_t (bw_2 (List.mem_of_getElem? (i := 105) rfl)) rfl
theorem wm_X5_331 : Cond.methodLink RX5 331 yX4_next ∈ BW := bw_t (bw_2 (List.mem_of_getElem? (i := 109) rfl)) rfl
theorem wm_X5_334 : Cond.methodLink RX5 334 yX5_readRoad ∈ BW := bw_t (bw_2 (List.mem_of_getElem? (i := 110) rfl)) rfl
theorem wm_X5_337 : Cond.methodLink RX5 337 yX5_sortOf ∈ BW := bw_t (bw_2 (List.mem_of_getElem? (i := 122) rfl)) rfl
theorem wm_X5_340 : Cond.methodLink RX5 340 yX5_readWisher ∈ BW := bw_t (bw_2 (List.mem_of_getElem? (i := 125) rfl)) rfl
theorem wm_X5_344 : Cond.methodLink RX5 344 yX1_measure ∈ BW := bw_t (bw_2 (List.mem_of_getElem? (i := 129) rfl)) rfl
theorem wm_X5_347 : Cond.methodLink RX5 347 yX4_expect ∈ BW := bw_t (bw_2 (List.mem_of_getElem? (i := 80) rfl)) rfl
theorem wm_X5_350 : Cond.methodLink RX5 350 yX4_number ∈ BW := bw_t (bw_2 (List.mem_of_getElem? (i := 96) rfl)) rfl
theorem wm_X5_362 : Cond.methodLink RX5 362 yX4_fail ∈ BW := bw_t (bw_2 (List.mem_of_getElem? (i := 114) rfl)) rfl
theorem wm_X5_365 : Cond.methodLink RX5 365 yX1_joins ∈ BW := bw_t (bw_2 (List.mem_of_getElem? (i := 115) rfl)) rfl
theorem wm_X5_374 : Cond.methodLink RX5 374 yX5_leave ∈ BW := bw_t (bw_3 (List.mem_of_getElem? (i := 136) rfl)) rfl
theorem wm_X5_377 : Cond.methodLink RX5 377 yX5_sizeOfGrown ∈ BW := bw_t (bw_3 (List.mem_of_getElem? (i := 140) rfl)) rfl
theorem wm_X5_380 : Cond.methodLink RX5 380 yX5_lentSize ∈ BW := bw_t (bw_3 (List.mem_of_getElem? (i := 144) rfl)) rfl
theorem wm_X5_383 : Cond.methodLink RX5 383 yX5_sizeOfChild ∈ BW := bw_t (bw_3 (List.mem_of_getElem? (i := 164) rfl)) rfl
theorem wm_X5_386 : Cond.methodLink RX5 386 yX5_markOfGrown ∈ BW := bw_t (bw_3 (List.mem_of_getElem? (i := 152) rfl)) rfl
theorem wm_X5_389 : Cond.methodLink RX5 389 yX5_lentMark ∈ BW := bw_t (bw_3 (List.mem_of_getElem? (i := 156) rfl)) rfl
theorem wm_X0_3 : Cond.methodLink RX0 3 objectInit ∈ BW := bw_t (bw_1 (List.mem_of_getElem? (i := 126) rfl)) rfl
theorem wm_X0_46 : Cond.methodLink RX0 46 arraycopyName ∈ BW := bw_t (bw_2 (List.mem_of_getElem? (i := 150) rfl)) rfl
theorem wm_X0_67 : Cond.methodLink RX0 67 yX0_wishes ∈ BW := bw_t (bw_2 (List.mem_of_getElem? (i := 191) rfl)) rfl
theorem wm_X0_71 : Cond.methodLink RX0 71 Lib.Math.max.name ∈ BW := bw_t (bw_2 (List.mem_of_getElem? (i := 200) rfl)) rfl
theorem wm_X0_79 : Cond.methodLink RX0 79 yX1_way ∈ BW := bw_t (bw_2 (List.mem_of_getElem? (i := 190) rfl)) rfl
theorem wm_X0_88 : Cond.methodLink RX0 88 yX0_force ∈ BW := bw_t (bw_2 (List.mem_of_getElem? (i := 196) rfl)) rfl
theorem wm_X0_92 : Cond.methodLink RX0 92 yX0_decide ∈ BW := bw_t (bw_2 (List.mem_of_getElem? (i := 203) rfl)) rfl
theorem wm_X0_96 : Cond.methodLink RX0 96 yX0_weigh ∈ BW := bw_t (bw_2 (List.mem_of_getElem? (i := 186) rfl)) rfl
theorem wm_X0_100 : Cond.methodLink RX0 100 yX0_tire ∈ BW := bw_t (bw_2 (List.mem_of_getElem? (i := 207) rfl)) rfl
theorem wm_X0_103 : Cond.methodLink RX0 103 yX0_pass ∈ BW := bw_t (bw_3 (List.mem_of_getElem? (i := 19) rfl)) rfl
theorem wm_X0_109 : Cond.methodLink RX0 109 Lib.Math.min.name ∈ BW := bw_t (bw_2 (List.mem_of_getElem? (i := 211) rfl)) rfl
theorem wm_X1_3 : Cond.methodLink RX1 3 objectInit ∈ BW := bw_t (bw_1 (List.mem_of_getElem? (i := 73) rfl)) rfl
theorem wm_X1_43 : Cond.methodLink RX1 43 arraycopyName ∈ BW := bw_t (bw_2 (List.mem_of_getElem? (i := 145) rfl)) rfl
theorem wm_X1_53 : Cond.methodLink RX1 53 yX1_way ∈ BW := bw_t (bw_2 (List.mem_of_getElem? (i := 133) rfl)) rfl
theorem wm_X1_56 : Cond.methodLink RX1 56 Lib.Math.min.name ∈ BW := bw_t (bw_2 (List.mem_of_getElem? (i := 137) rfl)) rfl
theorem wm_X2_3 : Cond.methodLink RX2 3 objectInit ∈ BW := bw_t (bw_1 (List.mem_of_getElem? (i := 177) rfl)) rfl
theorem wm_X2_25 : Cond.methodLink RX2 25 yX0_take ∈ BW := bw_t (bw_2 (List.mem_of_getElem? (i := 168) rfl)) rfl
theorem wm_X2_29 : Cond.methodLink RX2 29 Lib.Math.min.name ∈ BW := bw_t (bw_2 (List.mem_of_getElem? (i := 181) rfl)) rfl
theorem wm_X3_3 : Cond.methodLink RX3 3 objectInit ∈ BW := bw_t (bw_1 (List.mem_of_getElem? (i := 24) rfl)) rfl
theorem wm_X3_23 : Cond.methodLink RX3 23 yX3_isMissing ∈ BW := bw_t (bw_2 (List.mem_of_getElem? (i := 35) rfl)) rfl
theorem wm_X4_3 : Cond.methodLink RX4 3 objectInit ∈ BW := bw_t (bw_1 (List.mem_of_getElem? (i := 46) rfl)) rfl
theorem wm_X4_28 : Cond.methodLink RX4 28 yX4_byteAt ∈ BW := bw_t (bw_2 (List.mem_of_getElem? (i := 88) rfl)) rfl
theorem wm_X4_36 : Cond.methodLink RX4 36 yX4_next ∈ BW := bw_t (bw_2 (List.mem_of_getElem? (i := 84) rfl)) rfl
theorem wm_X4_40 : Cond.methodLink RX4 40 yX4_fail ∈ BW := bw_t (bw_2 (List.mem_of_getElem? (i := 92) rfl)) rfl
theorem wm_X4_44 : Cond.methodLink RX4 44 yX4_isFigure ∈ BW := bw_t (bw_2 (List.mem_of_getElem? (i := 100) rfl)) rfl
theorem wm_L_9 : Cond.methodLink RL 9 yX5_init ∈ BW := bw_t (bw_1 (List.mem_of_getElem? (i := 13) rfl)) rfl
theorem wm_L_12 : Cond.methodLink RL 12 yX6_init ∈ BW := bw_t (bw_3 (List.mem_of_getElem? (i := 190) rfl)) rfl
theorem wm_L_13 : Cond.methodLink RL 13 yX5_row ∈ BW := bw_t (bw_2 (List.mem_of_getElem? (i := 3) rfl)) rfl
theorem wm_L_17 : Cond.methodLink RL 17 yX6_row ∈ BW := bw_t (bw_4 (List.mem_of_getElem? (i := 34) rfl)) rfl
theorem wm_L_18 : Cond.methodLink RL 18 yX5_set ∈ BW := bw_t (bw_2 (List.mem_of_getElem? (i := 27) rfl)) rfl
theorem wm_L_21 : Cond.methodLink RL 21 yX6_set ∈ BW := bw_t (bw_4 (List.mem_of_getElem? (i := 52) rfl)) rfl
theorem wm_L_22 : Cond.methodLink RL 22 yX5_copy ∈ BW := bw_t (bw_2 (List.mem_of_getElem? (i := 43) rfl)) rfl
theorem wm_L_26 : Cond.methodLink RL 26 yX6_copy ∈ BW := bw_t (bw_4 (List.mem_of_getElem? (i := 56) rfl)) rfl
theorem wm_L_27 : Cond.methodLink RL 27 yX5_drop ∈ BW := bw_t (bw_2 (List.mem_of_getElem? (i := 51) rfl)) rfl
theorem wm_L_31 : Cond.methodLink RL 31 yX6_drop ∈ BW := bw_t (bw_4 (List.mem_of_getElem? (i := 60) rfl)) rfl
theorem wm_L_32 : Cond.methodLink RL 32 yX5_feed ∈ BW := bw_t (bw_2 (List.mem_of_getElem? (i := 55) rfl)) rfl
theorem wm_L_35 : Cond.methodLink RL 35 yX6_feed ∈ BW := bw_t (bw_4 (List.mem_of_getElem? (i := 64) rfl)) rfl
theorem wm_L_36 : Cond.methodLink RL 36 yX5_land ∈ BW := bw_t (bw_2 (List.mem_of_getElem? (i := 60) rfl)) rfl
theorem wm_L_40 : Cond.methodLink RL 40 yX6_land ∈ BW := bw_t (bw_4 (List.mem_of_getElem? (i := 74) rfl)) rfl
theorem wm_L_41 : Cond.methodLink RL 41 yX5_fault ∈ BW := bw_t (bw_2 (List.mem_of_getElem? (i := 155) rfl)) rfl
theorem wm_L_44 : Cond.methodLink RL 44 yX6_fault ∈ BW := bw_t (bw_4 (List.mem_of_getElem? (i := 70) rfl)) rfl
theorem wm_L_45 : Cond.methodLink RL 45 yX5_undo ∈ BW := bw_t (bw_2 (List.mem_of_getElem? (i := 159) rfl)) rfl
theorem wm_L_48 : Cond.methodLink RL 48 yX6_undo ∈ BW := bw_t (bw_4 (List.mem_of_getElem? (i := 191) rfl)) rfl
theorem wm_L_49 : Cond.methodLink RL 49 yX5_hours ∈ BW := bw_t (bw_2 (List.mem_of_getElem? (i := 169) rfl)) rfl
theorem wm_L_52 : Cond.methodLink RL 52 yX6_hours ∈ BW := bw_t (bw_4 (List.mem_of_getElem? (i := 131) rfl)) rfl
theorem wm_L_53 : Cond.methodLink RL 53 yX5_wish ∈ BW := bw_t (bw_2 (List.mem_of_getElem? (i := 212) rfl)) rfl
theorem wm_L_56 : Cond.methodLink RL 56 yX6_wish ∈ BW := bw_t (bw_4 (List.mem_of_getElem? (i := 174) rfl)) rfl
theorem wm_L_57 : Cond.methodLink RL 57 yX5_rest ∈ BW := bw_t (bw_2 (List.mem_of_getElem? (i := 224) rfl)) rfl
theorem wm_L_61 : Cond.methodLink RL 61 yX6_rest ∈ BW := bw_t (bw_4 (List.mem_of_getElem? (i := 187) rfl)) rfl
theorem wm_L_62 : Cond.methodLink RL 62 yX5_wisher ∈ BW := bw_t (bw_2 (List.mem_of_getElem? (i := 235) rfl)) rfl
theorem wm_L_65 : Cond.methodLink RL 65 yX6_wisher ∈ BW := bw_t (bw_4 (List.mem_of_getElem? (i := 195) rfl)) rfl
theorem wm_L_66 : Cond.methodLink RL 66 yX5_place ∈ BW := bw_t (bw_3 (List.mem_of_getElem? (i := 1) rfl)) rfl
theorem wm_L_69 : Cond.methodLink RL 69 yX6_place ∈ BW := bw_t (bw_4 (List.mem_of_getElem? (i := 199) rfl)) rfl
theorem wm_L_70 : Cond.methodLink RL 70 yX5_far ∈ BW := bw_t (bw_3 (List.mem_of_getElem? (i := 6) rfl)) rfl
theorem wm_L_73 : Cond.methodLink RL 73 yX6_far ∈ BW := bw_t (bw_4 (List.mem_of_getElem? (i := 203) rfl)) rfl
theorem wm_L_74 : Cond.methodLink RL 74 yX5_ahead ∈ BW := bw_t (bw_3 (List.mem_of_getElem? (i := 11) rfl)) rfl
theorem wm_L_77 : Cond.methodLink RL 77 yX6_ahead ∈ BW := bw_t (bw_4 (List.mem_of_getElem? (i := 207) rfl)) rfl
theorem wm_L_78 : Cond.methodLink RL 78 yX5_comes ∈ BW := bw_t (bw_3 (List.mem_of_getElem? (i := 20) rfl)) rfl
theorem wm_L_81 : Cond.methodLink RL 81 yX6_comes ∈ BW := bw_t (bw_4 (List.mem_of_getElem? (i := 224) rfl)) rfl
theorem wm_L_82 : Cond.methodLink RL 82 yX5_visits ∈ BW := bw_t (bw_3 (List.mem_of_getElem? (i := 25) rfl)) rfl
theorem wm_L_85 : Cond.methodLink RL 85 yX6_visits ∈ BW := bw_t (bw_4 (List.mem_of_getElem? (i := 228) rfl)) rfl
theorem wm_L_86 : Cond.methodLink RL 86 yX5_fewest ∈ BW := bw_t (bw_3 (List.mem_of_getElem? (i := 29) rfl)) rfl
theorem wm_L_89 : Cond.methodLink RL 89 yX6_fewest ∈ BW := bw_t (bw_4 (List.mem_of_getElem? (i := 232) rfl)) rfl
theorem wm_L_90 : Cond.methodLink RL 90 yX5_hard ∈ BW := bw_t (bw_3 (List.mem_of_getElem? (i := 41) rfl)) rfl
theorem wm_L_93 : Cond.methodLink RL 93 yX6_hard ∈ BW := bw_t (bw_4 (List.mem_of_getElem? (i := 239) rfl)) rfl
theorem wm_L_94 : Cond.methodLink RL 94 yX5_stolen ∈ BW := bw_t (bw_3 (List.mem_of_getElem? (i := 45) rfl)) rfl
theorem wm_L_97 : Cond.methodLink RL 97 yX6_stolen ∈ BW := bw_t (bw_5 (List.mem_of_getElem? (i := 3) rfl)) rfl
theorem wm_L_98 : Cond.methodLink RL 98 yX5_seen ∈ BW := bw_t (bw_3 (List.mem_of_getElem? (i := 53) rfl)) rfl
theorem wm_L_102 : Cond.methodLink RL 102 yX6_seen ∈ BW := bw_t (bw_5 (List.mem_of_getElem? (i := 7) rfl)) rfl
theorem wm_L_103 : Cond.methodLink RL 103 yX5_who ∈ BW := bw_t (bw_3 (List.mem_of_getElem? (i := 61) rfl)) rfl
theorem wm_L_106 : Cond.methodLink RL 106 yX6_who ∈ BW := bw_t (bw_5 (List.mem_of_getElem? (i := 16) rfl)) rfl
theorem wm_L_107 : Cond.methodLink RL 107 yX5_round ∈ BW := bw_t (bw_3 (List.mem_of_getElem? (i := 69) rfl)) rfl
theorem wm_L_110 : Cond.methodLink RL 110 yX6_round ∈ BW := bw_t (bw_5 (List.mem_of_getElem? (i := 20) rfl)) rfl
theorem wm_L_111 : Cond.methodLink RL 111 yX5_half ∈ BW := bw_t (bw_3 (List.mem_of_getElem? (i := 78) rfl)) rfl
theorem wm_L_114 : Cond.methodLink RL 114 yX6_half ∈ BW := bw_t (bw_5 (List.mem_of_getElem? (i := 30) rfl)) rfl
theorem wm_L_115 : Cond.methodLink RL 115 yX5_awake ∈ BW := bw_t (bw_3 (List.mem_of_getElem? (i := 82) rfl)) rfl
theorem wm_L_119 : Cond.methodLink RL 119 yX6_awake ∈ BW := bw_t (bw_5 (List.mem_of_getElem? (i := 34) rfl)) rfl
theorem wm_L_120 : Cond.methodLink RL 120 yX5_drawn ∈ BW := bw_t (bw_3 (List.mem_of_getElem? (i := 102) rfl)) rfl
theorem wm_L_123 : Cond.methodLink RL 123 yX6_drawn ∈ BW := bw_t (bw_5 (List.mem_of_getElem? (i := 41) rfl)) rfl
theorem wm_L_124 : Cond.methodLink RL 124 yX5_image ∈ BW := bw_t (bw_3 (List.mem_of_getElem? (i := 109) rfl)) rfl
theorem wm_L_127 : Cond.methodLink RL 127 yX6_image ∈ BW := bw_t (bw_5 (List.mem_of_getElem? (i := 48) rfl)) rfl
theorem wm_L_128 : Cond.methodLink RL 128 yX5_restore ∈ BW := bw_t (bw_3 (List.mem_of_getElem? (i := 113) rfl)) rfl
theorem wm_L_131 : Cond.methodLink RL 131 yX6_restore ∈ BW := bw_t (bw_5 (List.mem_of_getElem? (i := 52) rfl)) rfl
theorem wm_L_132 : Cond.methodLink RL 132 yX5_kind ∈ BW := bw_t (bw_3 (List.mem_of_getElem? (i := 117) rfl)) rfl
theorem wm_L_135 : Cond.methodLink RL 135 yX6_kind ∈ BW := bw_t (bw_5 (List.mem_of_getElem? (i := 56) rfl)) rfl
theorem wm_L_136 : Cond.methodLink RL 136 yX5_as ∈ BW := bw_t (bw_3 (List.mem_of_getElem? (i := 121) rfl)) rfl
theorem wm_L_139 : Cond.methodLink RL 139 yX6_as ∈ BW := bw_t (bw_5 (List.mem_of_getElem? (i := 60) rfl)) rfl
theorem wm_L_140 : Cond.methodLink RL 140 yX5_ask ∈ BW := bw_t (bw_3 (List.mem_of_getElem? (i := 128) rfl)) rfl
theorem wm_L_143 : Cond.methodLink RL 143 yX6_ask ∈ BW := bw_t (bw_5 (List.mem_of_getElem? (i := 68) rfl)) rfl
theorem wm_L_144 : Cond.methodLink RL 144 yX5_trace ∈ BW := bw_t (bw_3 (List.mem_of_getElem? (i := 172) rfl)) rfl
theorem wm_L_147 : Cond.methodLink RL 147 yX6_trace ∈ BW := bw_t (bw_5 (List.mem_of_getElem? (i := 92) rfl)) rfl
theorem wm_L_148 : Cond.methodLink RL 148 yX5_count ∈ BW := bw_t (bw_3 (List.mem_of_getElem? (i := 176) rfl)) rfl
theorem wm_L_151 : Cond.methodLink RL 151 yX6_count ∈ BW := bw_t (bw_5 (List.mem_of_getElem? (i := 96) rfl)) rfl
theorem wm_L_152 : Cond.methodLink RL 152 yX5_status ∈ BW := bw_t (bw_3 (List.mem_of_getElem? (i := 184) rfl)) rfl
theorem wm_L_155 : Cond.methodLink RL 155 yX6_status ∈ BW := bw_t (bw_5 (List.mem_of_getElem? (i := 100) rfl)) rfl
theorem wm_X6_1 : Cond.methodLink RX6 1 objectInit ∈ BW := bw_t (bw_3 (List.mem_of_getElem? (i := 193) rfl)) rfl
theorem wm_X6_64 : Cond.methodLink RX6 64 yX6_in ∈ BW := bw_t (bw_4 (List.mem_of_getElem? (i := 42) rfl)) rfl
theorem wm_X6_68 : Cond.methodLink RX6 68 yX6_isRow ∈ BW := bw_t (bw_4 (List.mem_of_getElem? (i := 38) rfl)) rfl
theorem wm_X6_75 : Cond.methodLink RX6 75 yX6_finding ∈ BW := bw_t (bw_4 (List.mem_of_getElem? (i := 47) rfl)) rfl
theorem wm_X6_112 : Cond.methodLink RX6 112 yX6_bad ∈ BW := bw_t (bw_4 (List.mem_of_getElem? (i := 99) rfl)) rfl
theorem wm_X6_116 : Cond.methodLink RX6 116 yX6_nextToken ∈ BW := bw_t (bw_4 (List.mem_of_getElem? (i := 82) rfl)) rfl
theorem wm_X6_119 : Cond.methodLink RX6 119 yX6_must ∈ BW := bw_t (bw_4 (List.mem_of_getElem? (i := 95) rfl)) rfl
theorem wm_X6_126 : Cond.methodLink RX6 126 yX6_number ∈ BW := bw_t (bw_4 (List.mem_of_getElem? (i := 103) rfl)) rfl
theorem wm_X6_130 : Cond.methodLink RX6 130 yX6_mustSign ∈ BW := bw_t (bw_4 (List.mem_of_getElem? (i := 107) rfl)) rfl
theorem wm_X6_133 : Cond.methodLink RX6 133 yX6_kindBy ∈ BW := bw_t (bw_4 (List.mem_of_getElem? (i := 115) rfl)) rfl
theorem wm_X6_136 : Cond.methodLink RX6 136 yX6_begin ∈ BW := bw_t (bw_4 (List.mem_of_getElem? (i := 78) rfl)) rfl
theorem wm_X6_139 : Cond.methodLink RX6 139 yX6_isLetter ∈ BW := bw_t (bw_4 (List.mem_of_getElem? (i := 91) rfl)) rfl
theorem wm_X6_142 : Cond.methodLink RX6 142 yX6_readRoad ∈ BW := bw_t (bw_4 (List.mem_of_getElem? (i := 111) rfl)) rfl
theorem wm_X6_145 : Cond.methodLink RX6 145 yX6_readWisher ∈ BW := bw_t (bw_4 (List.mem_of_getElem? (i := 118) rfl)) rfl
theorem wm_X6_148 : Cond.methodLink RX6 148 yX6_failed ∈ BW := bw_t (bw_4 (List.mem_of_getElem? (i := 122) rfl)) rfl
theorem wm_X6_156 : Cond.methodLink RX6 156 yX6_layFar ∈ BW := bw_t (bw_4 (List.mem_of_getElem? (i := 127) rfl)) rfl
theorem wm_X6_159 : Cond.methodLink RX6 159 yX6_of ∈ BW := bw_t (bw_4 (List.mem_of_getElem? (i := 160) rfl)) rfl
theorem wm_X6_163 : Cond.methodLink RX6 163 yX6_farBy ∈ BW := bw_t (bw_4 (List.mem_of_getElem? (i := 153) rfl)) rfl
theorem wm_X6_166 : Cond.methodLink RX6 166 yX6_atLeastNone ∈ BW := bw_t (bw_4 (List.mem_of_getElem? (i := 167) rfl)) rfl
theorem wm_X6_169 : Cond.methodLink RX6 169 yX6_wishes ∈ BW := bw_t (bw_4 (List.mem_of_getElem? (i := 157) rfl)) rfl
theorem wm_X6_173 : Cond.methodLink RX6 173 yX6_wishBy ∈ BW := bw_t (bw_4 (List.mem_of_getElem? (i := 163) rfl)) rfl
theorem wm_X6_177 : Cond.methodLink RX6 177 yX6_layPulls ∈ BW := bw_t (bw_4 (List.mem_of_getElem? (i := 149) rfl)) rfl
theorem wm_X6_181 : Cond.methodLink RX6 181 yX6_goesTo ∈ BW := bw_t (bw_4 (List.mem_of_getElem? (i := 170) rfl)) rfl
theorem wm_X6_185 : Cond.methodLink RX6 185 yX6_hour ∈ BW := bw_t (bw_4 (List.mem_of_getElem? (i := 145) rfl)) rfl
theorem wm_X6_189 : Cond.methodLink RX6 189 yX6_hoursOf ∈ BW := bw_t (bw_4 (List.mem_of_getElem? (i := 220) rfl)) rfl
theorem wm_X6_193 : Cond.methodLink RX6 193 yX6_isThere ∈ BW := bw_t (bw_4 (List.mem_of_getElem? (i := 135) rfl)) rfl
theorem wm_X6_199 : Cond.methodLink RX6 199 yX6_keep ∈ BW := bw_t (bw_4 (List.mem_of_getElem? (i := 141) rfl)) rfl
theorem wm_X6_202 : Cond.methodLink RX6 202 yX6_isWisher ∈ BW := bw_t (bw_4 (List.mem_of_getElem? (i := 178) rfl)) rfl
theorem wm_X6_205 : Cond.methodLink RX6 205 yX6_isPlace ∈ BW := bw_t (bw_4 (List.mem_of_getElem? (i := 182) rfl)) rfl
theorem wm_X6_212 : Cond.methodLink RX6 212 yX6_layThen ∈ BW := bw_t (bw_4 (List.mem_of_getElem? (i := 212) rfl)) rfl
theorem wm_X6_215 : Cond.methodLink RX6 215 yX6_atBehind ∈ BW := bw_t (bw_4 (List.mem_of_getElem? (i := 216) rfl)) rfl
theorem wm_X6_218 : Cond.methodLink RX6 218 yX6_bits ∈ BW := bw_t (bw_4 (List.mem_of_getElem? (i := 236) rfl)) rfl
theorem wm_X6_223 : Cond.methodLink RX6 223 yX6_comesSo ∈ BW := bw_t (bw_5 (List.mem_of_getElem? (i := 12) rfl)) rfl
theorem wm_X6_231 : Cond.methodLink RX6 231 yX6_soNow ∈ BW := bw_t (bw_5 (List.mem_of_getElem? (i := 24) rfl)) rfl
theorem wm_X6_249 : Cond.methodLink RX6 249 yX6_isOf ∈ BW := bw_t (bw_5 (List.mem_of_getElem? (i := 65) rfl)) rfl
theorem wm_X6_255 : Cond.methodLink RX6 255 yX6_began ∈ BW := bw_t (bw_5 (List.mem_of_getElem? (i := 80) rfl)) rfl
theorem wm_X6_258 : Cond.methodLink RX6 258 yX6_plainSize ∈ BW := bw_t (bw_5 (List.mem_of_getElem? (i := 84) rfl)) rfl
theorem wm_X6_261 : Cond.methodLink RX6 261 yX6_childSize ∈ BW := bw_t (bw_5 (List.mem_of_getElem? (i := 76) rfl)) rfl
theorem wm_X6_264 : Cond.methodLink RX6 264 yX6_markOf ∈ BW := bw_t (bw_5 (List.mem_of_getElem? (i := 88) rfl)) rfl
theorem wm_X6_267 : Cond.methodLink RX6 267 yX6_sizeOf ∈ BW := bw_t (bw_5 (List.mem_of_getElem? (i := 72) rfl)) rfl
theorem wc_X5_77 : Cond.constant RX5 77 (-1000001) ∈ BW := bw_t (bw_2 (List.mem_of_getElem? (i := 13) rfl)) rfl
theorem wc_X5_119 : Cond.constant RX5 119 (-1000003) ∈ BW := bw_t (bw_2 (List.mem_of_getElem? (i := 59) rfl)) rfl
theorem wc_X5_132 : Cond.constant RX5 132 (-1000100) ∈ BW := bw_t (bw_2 (List.mem_of_getElem? (i := 140) rfl)) rfl
theorem wc_X5_152 : Cond.constant RX5 152 (-1000002) ∈ BW := bw_t (bw_2 (List.mem_of_getElem? (i := 163) rfl)) rfl
theorem wc_X5_232 : Cond.constant RX5 232 (-1000000) ∈ BW := bw_t (bw_3 (List.mem_of_getElem? (i := 24) rfl)) rfl
theorem wc_X5_279 : Cond.constant RX5 279 (999999) ∈ BW := bw_t (bw_3 (List.mem_of_getElem? (i := 106) rfl)) rfl
theorem wc_X5_318 : Cond.constant RX5 318 (-1000010) ∈ BW := bw_t (bw_2 (List.mem_of_getElem? (i := 18) rfl)) rfl
theorem wc_X6_61 : Cond.constant RX6 61 (-1000010) ∈ BW := bw_t (bw_4 (List.mem_of_getElem? (i := 51) rfl)) rfl
theorem wc_X6_74 : Cond.constant RX6 74 (-1000001) ∈ BW := bw_t (bw_4 (List.mem_of_getElem? (i := 46) rfl)) rfl
theorem wc_X6_84 : Cond.constant RX6 84 (-1000003) ∈ BW := bw_t (bw_4 (List.mem_of_getElem? (i := 69) rfl)) rfl
theorem wc_X6_97 : Cond.constant RX6 97 (-1000000) ∈ BW := bw_t (bw_4 (List.mem_of_getElem? (i := 86) rfl)) rfl
theorem wc_X6_152 : Cond.constant RX6 152 (-1000100) ∈ BW := bw_t (bw_4 (List.mem_of_getElem? (i := 126) rfl)) rfl
theorem wc_X6_196 : Cond.constant RX6 196 (-1000002) ∈ BW := bw_t (bw_4 (List.mem_of_getElem? (i := 139) rfl)) rfl
theorem wc_J6_265 : Cond.constant RJ6 265 (1431655765) ∈ BW := bw_t (bw_2 (List.mem_of_getElem? (i := 232) rfl)) rfl
theorem wc_J6_266 : Cond.constant RJ6 266 (858993459) ∈ BW := bw_t (bw_2 (List.mem_of_getElem? (i := 233) rfl)) rfl
theorem wc_J6_267 : Cond.constant RJ6 267 (252645135) ∈ BW := bw_t (bw_2 (List.mem_of_getElem? (i := 234) rfl)) rfl
theorem wg_X5_261 : Cond.constantLong RX5 261 (-1000002) ∈ BW := bw_t (bw_3 (List.mem_of_getElem? (i := 86) rfl)) rfl
theorem wg_X5_263 : Cond.constantLong RX5 263 (-1000001) ∈ BW := bw_t (bw_3 (List.mem_of_getElem? (i := 87) rfl)) rfl
theorem wg_X5_280 : Cond.constantLong RX5 280 (16807) ∈ BW := bw_t (bw_3 (List.mem_of_getElem? (i := 107) rfl)) rfl
theorem wg_X5_282 : Cond.constantLong RX5 282 (2147483647) ∈ BW := bw_t (bw_3 (List.mem_of_getElem? (i := 108) rfl)) rfl
theorem wg_X0_112 : Cond.constantLong RX0 112 (21) ∈ BW := bw_t (bw_3 (List.mem_of_getElem? (i := 77) rfl)) rfl
theorem wg_X6_62 : Cond.constantLong RX6 62 (7) ∈ BW := bw_t (bw_4 (List.mem_of_getElem? (i := 41) rfl)) rfl
theorem wg_X6_72 : Cond.constantLong RX6 72 (2) ∈ BW := bw_t (bw_4 (List.mem_of_getElem? (i := 45) rfl)) rfl
theorem wg_X6_79 : Cond.constantLong RX6 79 (255) ∈ BW := bw_t (bw_4 (List.mem_of_getElem? (i := 68) rfl)) rfl
theorem wg_X6_101 : Cond.constantLong RX6 101 (97) ∈ BW := bw_t (bw_4 (List.mem_of_getElem? (i := 87) rfl)) rfl
theorem wg_X6_103 : Cond.constantLong RX6 103 (122) ∈ BW := bw_t (bw_4 (List.mem_of_getElem? (i := 88) rfl)) rfl
theorem wg_X6_105 : Cond.constantLong RX6 105 (48) ∈ BW := bw_t (bw_4 (List.mem_of_getElem? (i := 89) rfl)) rfl
theorem wg_X6_107 : Cond.constantLong RX6 107 (57) ∈ BW := bw_t (bw_4 (List.mem_of_getElem? (i := 90) rfl)) rfl
theorem wg_X6_197 : Cond.constantLong RX6 197 (24) ∈ BW := bw_t (bw_4 (List.mem_of_getElem? (i := 140) rfl)) rfl
theorem wg_X6_208 : Cond.constantLong RX6 208 (40) ∈ BW := bw_t (bw_4 (List.mem_of_getElem? (i := 186) rfl)) rfl
theorem wg_X6_210 : Cond.constantLong RX6 210 (60) ∈ BW := bw_t (bw_4 (List.mem_of_getElem? (i := 211) rfl)) rfl
theorem wg_X6_221 : Cond.constantLong RX6 221 (12) ∈ BW := bw_t (bw_5 (List.mem_of_getElem? (i := 11) rfl)) rfl
theorem wg_X6_227 : Cond.constantLong RX6 227 (6) ∈ BW := bw_t (bw_5 (List.mem_of_getElem? (i := 28) rfl)) rfl
theorem wg_X6_229 : Cond.constantLong RX6 229 (21) ∈ BW := bw_t (bw_5 (List.mem_of_getElem? (i := 29) rfl)) rfl
theorem wg_X6_235 : Cond.constantLong RX6 235 (-1000002) ∈ BW := bw_t (bw_5 (List.mem_of_getElem? (i := 38) rfl)) rfl
theorem wg_X6_237 : Cond.constantLong RX6 237 (10) ∈ BW := bw_t (bw_5 (List.mem_of_getElem? (i := 39) rfl)) rfl
theorem wg_X6_239 : Cond.constantLong RX6 239 (-1000001) ∈ BW := bw_t (bw_5 (List.mem_of_getElem? (i := 40) rfl)) rfl
theorem wg_X6_241 : Cond.constantLong RX6 241 (999999) ∈ BW := bw_t (bw_5 (List.mem_of_getElem? (i := 45) rfl)) rfl
theorem wg_X6_243 : Cond.constantLong RX6 243 (16807) ∈ BW := bw_t (bw_5 (List.mem_of_getElem? (i := 46) rfl)) rfl
theorem wg_X6_245 : Cond.constantLong RX6 245 (2147483647) ∈ BW := bw_t (bw_5 (List.mem_of_getElem? (i := 47) rfl)) rfl
theorem wg_X6_247 : Cond.constantLong RX6 247 (5) ∈ BW := bw_t (bw_5 (List.mem_of_getElem? (i := 64) rfl)) rfl
theorem wk_X5_7 : Cond.classLink RX5 7 RX3 ∈ BW := bw_t (bw_1 (List.mem_of_getElem? (i := 19) rfl)) rfl
theorem wk_X5_16 : Cond.classLink RX5 16 RX4 ∈ BW := bw_t (bw_1 (List.mem_of_getElem? (i := 41) rfl)) rfl
theorem wk_X5_23 : Cond.classLink RX5 23 RX1 ∈ BW := bw_t (bw_1 (List.mem_of_getElem? (i := 68) rfl)) rfl
theorem wk_X5_30 : Cond.classLink RX5 30 RX0 ∈ BW := bw_t (bw_1 (List.mem_of_getElem? (i := 121) rfl)) rfl
theorem wk_X5_37 : Cond.classLink RX5 37 RX2 ∈ BW := bw_t (bw_1 (List.mem_of_getElem? (i := 172) rfl)) rfl
theorem wk_X2_9 : Cond.classLink RX2 9 RX0 ∈ BW := bw_t (bw_1 (List.mem_of_getElem? (i := 178) rfl)) rfl
theorem wk_X3_18 : Cond.classLink RX3 18 "[[I" ∈ BW := bw_t (bw_1 (List.mem_of_getElem? (i := 25) rfl)) rfl
theorem wk_L_7 : Cond.classLink RL 7 RX5 ∈ BW := bw_t (bw_1 (List.mem_of_getElem? (i := 11) rfl)) rfl
theorem wk_L_10 : Cond.classLink RL 10 RX6 ∈ BW := bw_t (bw_3 (List.mem_of_getElem? (i := 188) rfl)) rfl
theorem wi_X5 : Cond.initialized RX5 ∈ BW := bw_t (bw_1 (List.mem_of_getElem? (i := 1) rfl)) rfl
theorem wi_X0 : Cond.initialized RX0 ∈ BW := bw_t (bw_1 (List.mem_of_getElem? (i := 5) rfl)) rfl
theorem wi_X1 : Cond.initialized RX1 ∈ BW := bw_t (bw_1 (List.mem_of_getElem? (i := 4) rfl)) rfl
theorem wi_X2 : Cond.initialized RX2 ∈ BW := bw_t (bw_1 (List.mem_of_getElem? (i := 6) rfl)) rfl
theorem wi_X3 : Cond.initialized RX3 ∈ BW := bw_t (bw_1 (List.mem_of_getElem? (i := 2) rfl)) rfl
theorem wi_X4 : Cond.initialized RX4 ∈ BW := bw_t (bw_1 (List.mem_of_getElem? (i := 3) rfl)) rfl
theorem wi_L : Cond.initialized RL ∈ BW := bw_t (bw_1 (List.mem_of_getElem? (i := 0) rfl)) rfl
theorem wi_X6 : Cond.initialized RX6 ∈ BW := bw_t (bw_1 (List.mem_of_getElem? (i := 7) rfl)) rfl
theorem wi_J6 : Cond.initialized RJ6 ∈ BW := bw_t (bw_1 (List.mem_of_getElem? (i := 10) rfl)) rfl
theorem wi_J9 : Cond.initialized RJ9 ∈ BW := bw_t (bw_1 (List.mem_of_getElem? (i := 9) rfl)) rfl
theorem wi_J10 : Cond.initialized RJ10 ∈ BW := bw_t (bw_1 (List.mem_of_getElem? (i := 8) rfl)) rfl
theorem wn_X5 : Cond.instantiable RX5 16 ∈ BW := bw_t (bw_1 (List.mem_of_getElem? (i := 12) rfl)) rfl
theorem wn_X0 : Cond.instantiable RX0 11 ∈ BW := bw_t (bw_1 (List.mem_of_getElem? (i := 122) rfl)) rfl
theorem wn_X1 : Cond.instantiable RX1 10 ∈ BW := bw_t (bw_1 (List.mem_of_getElem? (i := 69) rfl)) rfl
theorem wn_X2 : Cond.instantiable RX2 3 ∈ BW := bw_t (bw_1 (List.mem_of_getElem? (i := 173) rfl)) rfl
theorem wn_X3 : Cond.instantiable RX3 3 ∈ BW := bw_t (bw_1 (List.mem_of_getElem? (i := 20) rfl)) rfl
theorem wn_X4 : Cond.instantiable RX4 5 ∈ BW := bw_t (bw_1 (List.mem_of_getElem? (i := 42) rfl)) rfl
theorem wn_X6 : Cond.instantiable RX6 26 ∈ BW := bw_t (bw_3 (List.mem_of_getElem? (i := 189) rfl)) rfl
theorem wa_int : Cond.arrayClass .int ∈ BW := bw_t (bw_1 (List.mem_of_getElem? (i := 40) rfl)) rfl
theorem wa_long : Cond.arrayClass .long ∈ BW := bw_t (bw_2 (List.mem_of_getElem? (i := 2) rfl)) rfl
theorem wa_boolean : Cond.arrayClass .boolean ∈ BW := bw_t (bw_4 (List.mem_of_getElem? (i := 33) rfl)) rfl
theorem wo_X5_init : Cond.code yX5_init cX5_init 2 none ∈ BW := bw_t (bw_1 (List.mem_of_getElem? (i := 15) rfl)) rfl
theorem wv_X5_init : Cond.instanceMethod yX5_init ∈ BW := bw_t (bw_1 (List.mem_of_getElem? (i := 14) rfl)) rfl
theorem wo_X5_ahead : Cond.code yX5_ahead cX5_ahead 3 (some .int) ∈ BW := bw_t (bw_3 (List.mem_of_getElem? (i := 14) rfl)) rfl
theorem wv_X5_ahead : Cond.instanceMethod yX5_ahead ∈ BW := bw_t (bw_3 (List.mem_of_getElem? (i := 12) rfl)) rfl
theorem we_X5_ahead : Cond.selects yX5_ahead.cls yX5_ahead yX5_ahead ∈ BW := bw_t (bw_3 (List.mem_of_getElem? (i := 13) rfl)) rfl
theorem wo_X5_as : Cond.code yX5_as cX5_as 3 (some .int) ∈ BW := bw_t (bw_3 (List.mem_of_getElem? (i := 124) rfl)) rfl
theorem wv_X5_as : Cond.instanceMethod yX5_as ∈ BW := bw_t (bw_3 (List.mem_of_getElem? (i := 122) rfl)) rfl
theorem we_X5_as : Cond.selects yX5_as.cls yX5_as yX5_as ∈ BW := bw_t (bw_3 (List.mem_of_getElem? (i := 123) rfl)) rfl
theorem wo_X5_ask : Cond.code yX5_ask cX5_ask 4 (some .int) ∈ BW := bw_t (bw_3 (List.mem_of_getElem? (i := 131) rfl)) rfl
theorem wv_X5_ask : Cond.instanceMethod yX5_ask ∈ BW := bw_t (bw_3 (List.mem_of_getElem? (i := 129) rfl)) rfl
theorem we_X5_ask : Cond.selects yX5_ask.cls yX5_ask yX5_ask ∈ BW := bw_t (bw_3 (List.mem_of_getElem? (i := 130) rfl)) rfl
theorem wo_X5_awake : Cond.code yX5_awake cX5_awake 13 (some .long) ∈ BW := bw_t (bw_3 (List.mem_of_getElem? (i := 85) rfl)) rfl
theorem wv_X5_awake : Cond.instanceMethod yX5_awake ∈ BW := bw_t (bw_3 (List.mem_of_getElem? (i := 83) rfl)) rfl
theorem we_X5_awake : Cond.selects yX5_awake.cls yX5_awake yX5_awake ∈ BW := bw_t (bw_3 (List.mem_of_getElem? (i := 84) rfl)) rfl
theorem wo_X5_bit : Cond.code yX5_bit cX5_bit 2 (some .int) ∈ BW := bw_t (bw_2 (List.mem_of_getElem? (i := 121) rfl)) rfl
theorem wt_X5_bit : Cond.static yX5_bit ∈ BW := bw_t (bw_2 (List.mem_of_getElem? (i := 120) rfl)) rfl
theorem wo_X5_childMark : Cond.code yX5_childMark cX5_childMark 3 (some .int) ∈ BW := bw_t (bw_3 (List.mem_of_getElem? (i := 171) rfl)) rfl
theorem wv_X5_childMark : Cond.instanceMethod yX5_childMark ∈ BW := bw_t (bw_3 (List.mem_of_getElem? (i := 170) rfl)) rfl
theorem we_X5_childMark : Cond.selects yX5_childMark.cls yX5_childMark yX5_childMark ∈ BW := bw_s (n := 16) (List.mem_append_right _ (List.mem_append_left _ (List.mem_of_getElem? (i := 5) rfl))) rfl
theorem wo_X5_childSize : Cond.code yX5_childSize cX5_childSize 2 (some .int) ∈ BW := bw_t (bw_3 (List.mem_of_getElem? (i := 163) rfl)) rfl
theorem wv_X5_childSize : Cond.instanceMethod yX5_childSize ∈ BW := bw_t (bw_3 (List.mem_of_getElem? (i := 162) rfl)) rfl
theorem we_X5_childSize : Cond.selects yX5_childSize.cls yX5_childSize yX5_childSize ∈ BW := bw_s (n := 16) (List.mem_append_right _ (List.mem_append_left _ (List.mem_of_getElem? (i := 3) rfl))) rfl
theorem wo_X5_comes : Cond.code yX5_comes cX5_comes 4 (some .int) ∈ BW := bw_t (bw_3 (List.mem_of_getElem? (i := 23) rfl)) rfl
theorem wv_X5_comes : Cond.instanceMethod yX5_comes ∈ BW := bw_t (bw_3 (List.mem_of_getElem? (i := 21) rfl)) rfl
theorem we_X5_comes : Cond.selects yX5_comes.cls yX5_comes yX5_comes ∈ BW := bw_t (bw_3 (List.mem_of_getElem? (i := 22) rfl)) rfl
theorem wo_X5_comesAsTold : Cond.code yX5_comesAsTold cX5_comesAsTold 6 (some .boolean) ∈ BW := bw_t (bw_3 (List.mem_of_getElem? (i := 60) rfl)) rfl
theorem wv_X5_comesAsTold : Cond.instanceMethod yX5_comesAsTold ∈ BW := bw_t (bw_3 (List.mem_of_getElem? (i := 59) rfl)) rfl
theorem we_X5_comesAsTold : Cond.selects yX5_comesAsTold.cls yX5_comesAsTold yX5_comesAsTold ∈ BW := bw_s (n := 16) (List.mem_append_left _ (List.mem_of_getElem? (i := 10) rfl)) rfl
theorem wo_X5_commonDivisor : Cond.code yX5_commonDivisor cX5_commonDivisor 7 (some .long) ∈ BW := bw_t (bw_3 (List.mem_of_getElem? (i := 101) rfl)) rfl
theorem wt_X5_commonDivisor : Cond.static yX5_commonDivisor ∈ BW := bw_t (bw_3 (List.mem_of_getElem? (i := 100) rfl)) rfl
theorem wo_X5_copy : Cond.code yX5_copy cX5_copy 6 (some .int) ∈ BW := bw_t (bw_2 (List.mem_of_getElem? (i := 46) rfl)) rfl
theorem wv_X5_copy : Cond.instanceMethod yX5_copy ∈ BW := bw_t (bw_2 (List.mem_of_getElem? (i := 44) rfl)) rfl
theorem we_X5_copy : Cond.selects yX5_copy.cls yX5_copy yX5_copy ∈ BW := bw_t (bw_2 (List.mem_of_getElem? (i := 45) rfl)) rfl
theorem wo_X5_count : Cond.code yX5_count cX5_count 2 (some .int) ∈ BW := bw_t (bw_3 (List.mem_of_getElem? (i := 179) rfl)) rfl
theorem wv_X5_count : Cond.instanceMethod yX5_count ∈ BW := bw_t (bw_3 (List.mem_of_getElem? (i := 177) rfl)) rfl
theorem we_X5_count : Cond.selects yX5_count.cls yX5_count yX5_count ∈ BW := bw_t (bw_3 (List.mem_of_getElem? (i := 178) rfl)) rfl
theorem wo_X5_drawn : Cond.code yX5_drawn cX5_drawn 7 (some .int) ∈ BW := bw_t (bw_3 (List.mem_of_getElem? (i := 105) rfl)) rfl
theorem wv_X5_drawn : Cond.instanceMethod yX5_drawn ∈ BW := bw_t (bw_3 (List.mem_of_getElem? (i := 103) rfl)) rfl
theorem we_X5_drawn : Cond.selects yX5_drawn.cls yX5_drawn yX5_drawn ∈ BW := bw_t (bw_3 (List.mem_of_getElem? (i := 104) rfl)) rfl
theorem wo_X5_drop : Cond.code yX5_drop cX5_drop 3 (some .int) ∈ BW := bw_t (bw_2 (List.mem_of_getElem? (i := 54) rfl)) rfl
theorem wv_X5_drop : Cond.instanceMethod yX5_drop ∈ BW := bw_t (bw_2 (List.mem_of_getElem? (i := 52) rfl)) rfl
theorem we_X5_drop : Cond.selects yX5_drop.cls yX5_drop yX5_drop ∈ BW := bw_t (bw_2 (List.mem_of_getElem? (i := 53) rfl)) rfl
theorem wo_X5_far : Cond.code yX5_far cX5_far 3 (some .int) ∈ BW := bw_t (bw_3 (List.mem_of_getElem? (i := 9) rfl)) rfl
theorem wv_X5_far : Cond.instanceMethod yX5_far ∈ BW := bw_t (bw_3 (List.mem_of_getElem? (i := 7) rfl)) rfl
theorem we_X5_far : Cond.selects yX5_far.cls yX5_far yX5_far ∈ BW := bw_t (bw_3 (List.mem_of_getElem? (i := 8) rfl)) rfl
theorem wo_X5_fault : Cond.code yX5_fault cX5_fault 1 (some .int) ∈ BW := bw_t (bw_2 (List.mem_of_getElem? (i := 158) rfl)) rfl
theorem wv_X5_fault : Cond.instanceMethod yX5_fault ∈ BW := bw_t (bw_2 (List.mem_of_getElem? (i := 156) rfl)) rfl
theorem we_X5_fault : Cond.selects yX5_fault.cls yX5_fault yX5_fault ∈ BW := bw_t (bw_2 (List.mem_of_getElem? (i := 157) rfl)) rfl
theorem wo_X5_feed : Cond.code yX5_feed cX5_feed 2 (some .int) ∈ BW := bw_t (bw_2 (List.mem_of_getElem? (i := 58) rfl)) rfl
theorem wv_X5_feed : Cond.instanceMethod yX5_feed ∈ BW := bw_t (bw_2 (List.mem_of_getElem? (i := 56) rfl)) rfl
theorem we_X5_feed : Cond.selects yX5_feed.cls yX5_feed yX5_feed ∈ BW := bw_t (bw_2 (List.mem_of_getElem? (i := 57) rfl)) rfl
theorem wo_X5_fewest : Cond.code yX5_fewest cX5_fewest 7 (some .int) ∈ BW := bw_t (bw_3 (List.mem_of_getElem? (i := 32) rfl)) rfl
theorem wv_X5_fewest : Cond.instanceMethod yX5_fewest ∈ BW := bw_t (bw_3 (List.mem_of_getElem? (i := 30) rfl)) rfl
theorem we_X5_fewest : Cond.selects yX5_fewest.cls yX5_fewest yX5_fewest ∈ BW := bw_t (bw_3 (List.mem_of_getElem? (i := 31) rfl)) rfl
theorem wo_X5_fine : Cond.code yX5_fine cX5_fine 2 (some .int) ∈ BW := bw_t (bw_2 (List.mem_of_getElem? (i := 26) rfl)) rfl
theorem wv_X5_fine : Cond.instanceMethod yX5_fine ∈ BW := bw_t (bw_2 (List.mem_of_getElem? (i := 25) rfl)) rfl
theorem we_X5_fine : Cond.selects yX5_fine.cls yX5_fine yX5_fine ∈ BW := bw_s (n := 16) (List.mem_append_left _ (List.mem_of_getElem? (i := 1) rfl)) rfl
theorem wo_X5_found : Cond.code yX5_found cX5_found 2 (some .int) ∈ BW := bw_t (bw_2 (List.mem_of_getElem? (i := 17) rfl)) rfl
theorem wv_X5_found : Cond.instanceMethod yX5_found ∈ BW := bw_t (bw_2 (List.mem_of_getElem? (i := 16) rfl)) rfl
theorem we_X5_found : Cond.selects yX5_found.cls yX5_found yX5_found ∈ BW := bw_s (n := 16) (List.mem_append_left _ (List.mem_of_getElem? (i := 0) rfl)) rfl
theorem wo_X5_goesBy : Cond.code yX5_goesBy cX5_goesBy 2 (some .boolean) ∈ BW := bw_t (bw_3 (List.mem_of_getElem? (i := 95) rfl)) rfl
theorem wv_X5_goesBy : Cond.instanceMethod yX5_goesBy ∈ BW := bw_t (bw_3 (List.mem_of_getElem? (i := 94) rfl)) rfl
theorem we_X5_goesBy : Cond.selects yX5_goesBy.cls yX5_goesBy yX5_goesBy ∈ BW := bw_s (n := 16) (List.mem_append_left _ (List.mem_of_getElem? (i := 11) rfl)) rfl
theorem wo_X5_grownMark : Cond.code yX5_grownMark cX5_grownMark 2 (some .int) ∈ BW := bw_t (bw_3 (List.mem_of_getElem? (i := 151) rfl)) rfl
theorem wv_X5_grownMark : Cond.instanceMethod yX5_grownMark ∈ BW := bw_t (bw_3 (List.mem_of_getElem? (i := 150) rfl)) rfl
theorem we_X5_grownMark : Cond.selects yX5_grownMark.cls yX5_grownMark yX5_grownMark ∈ BW := bw_s (n := 16) (List.mem_append_right _ (List.mem_append_left _ (List.mem_of_getElem? (i := 0) rfl))) rfl
theorem wo_X5_grownSize : Cond.code yX5_grownSize cX5_grownSize 2 (some .int) ∈ BW := bw_t (bw_3 (List.mem_of_getElem? (i := 135) rfl)) rfl
theorem wv_X5_grownSize : Cond.instanceMethod yX5_grownSize ∈ BW := bw_t (bw_3 (List.mem_of_getElem? (i := 134) rfl)) rfl
theorem we_X5_grownSize : Cond.selects yX5_grownSize.cls yX5_grownSize yX5_grownSize ∈ BW := bw_s (n := 16) (List.mem_append_left _ (List.mem_of_getElem? (i := 12) rfl)) rfl
theorem wo_X5_half : Cond.code yX5_half cX5_half 3 (some .int) ∈ BW := bw_t (bw_3 (List.mem_of_getElem? (i := 81) rfl)) rfl
theorem wv_X5_half : Cond.instanceMethod yX5_half ∈ BW := bw_t (bw_3 (List.mem_of_getElem? (i := 79) rfl)) rfl
theorem we_X5_half : Cond.selects yX5_half.cls yX5_half yX5_half ∈ BW := bw_t (bw_3 (List.mem_of_getElem? (i := 80) rfl)) rfl
theorem wo_X5_hard : Cond.code yX5_hard cX5_hard 4 (some .int) ∈ BW := bw_t (bw_3 (List.mem_of_getElem? (i := 44) rfl)) rfl
theorem wv_X5_hard : Cond.instanceMethod yX5_hard ∈ BW := bw_t (bw_3 (List.mem_of_getElem? (i := 42) rfl)) rfl
theorem we_X5_hard : Cond.selects yX5_hard.cls yX5_hard yX5_hard ∈ BW := bw_t (bw_3 (List.mem_of_getElem? (i := 43) rfl)) rfl
theorem wo_X5_hasLand : Cond.code yX5_hasLand cX5_hasLand 1 (some .boolean) ∈ BW := bw_t (bw_2 (List.mem_of_getElem? (i := 176) rfl)) rfl
theorem wv_X5_hasLand : Cond.instanceMethod yX5_hasLand ∈ BW := bw_t (bw_2 (List.mem_of_getElem? (i := 175) rfl)) rfl
theorem we_X5_hasLand : Cond.selects yX5_hasLand.cls yX5_hasLand yX5_hasLand ∈ BW := bw_s (n := 16) (List.mem_append_left _ (List.mem_of_getElem? (i := 6) rfl)) rfl
theorem wo_X5_hours : Cond.code yX5_hours cX5_hours 3 (some .int) ∈ BW := bw_t (bw_2 (List.mem_of_getElem? (i := 172) rfl)) rfl
theorem wv_X5_hours : Cond.instanceMethod yX5_hours ∈ BW := bw_t (bw_2 (List.mem_of_getElem? (i := 170) rfl)) rfl
theorem we_X5_hours : Cond.selects yX5_hours.cls yX5_hours yX5_hours ∈ BW := bw_t (bw_2 (List.mem_of_getElem? (i := 171) rfl)) rfl
theorem wo_X5_image : Cond.code yX5_image cX5_image 2 (some .int) ∈ BW := bw_t (bw_3 (List.mem_of_getElem? (i := 112) rfl)) rfl
theorem wv_X5_image : Cond.instanceMethod yX5_image ∈ BW := bw_t (bw_3 (List.mem_of_getElem? (i := 110) rfl)) rfl
theorem we_X5_image : Cond.selects yX5_image.cls yX5_image yX5_image ∈ BW := bw_t (bw_3 (List.mem_of_getElem? (i := 111) rfl)) rfl
theorem wo_X5_isA : Cond.code yX5_isA cX5_isA 2 (some .boolean) ∈ BW := bw_t (bw_3 (List.mem_of_getElem? (i := 127) rfl)) rfl
theorem wt_X5_isA : Cond.static yX5_isA ∈ BW := bw_t (bw_3 (List.mem_of_getElem? (i := 126) rfl)) rfl
theorem wo_X5_isPlace : Cond.code yX5_isPlace cX5_isPlace 2 (some .boolean) ∈ BW := bw_t (bw_2 (List.mem_of_getElem? (i := 223) rfl)) rfl
theorem wv_X5_isPlace : Cond.instanceMethod yX5_isPlace ∈ BW := bw_t (bw_2 (List.mem_of_getElem? (i := 222) rfl)) rfl
theorem we_X5_isPlace : Cond.selects yX5_isPlace.cls yX5_isPlace yX5_isPlace ∈ BW := bw_s (n := 16) (List.mem_append_left _ (List.mem_of_getElem? (i := 8) rfl)) rfl
theorem wo_X5_isRow : Cond.code yX5_isRow cX5_isRow 1 (some .boolean) ∈ BW := bw_t (bw_2 (List.mem_of_getElem? (i := 9) rfl)) rfl
theorem wt_X5_isRow : Cond.static yX5_isRow ∈ BW := bw_t (bw_2 (List.mem_of_getElem? (i := 8) rfl)) rfl
theorem wo_X5_isThereBy : Cond.code yX5_isThereBy cX5_isThereBy 4 (some .boolean) ∈ BW := bw_t (bw_3 (List.mem_of_getElem? (i := 40) rfl)) rfl
theorem wv_X5_isThereBy : Cond.instanceMethod yX5_isThereBy ∈ BW := bw_t (bw_3 (List.mem_of_getElem? (i := 39) rfl)) rfl
theorem we_X5_isThereBy : Cond.selects yX5_isThereBy.cls yX5_isThereBy yX5_isThereBy ∈ BW := bw_s (n := 16) (List.mem_append_left _ (List.mem_of_getElem? (i := 9) rfl)) rfl
theorem wo_X5_isWisher : Cond.code yX5_isWisher cX5_isWisher 2 (some .boolean) ∈ BW := bw_t (bw_2 (List.mem_of_getElem? (i := 219) rfl)) rfl
theorem wv_X5_isWisher : Cond.instanceMethod yX5_isWisher ∈ BW := bw_t (bw_2 (List.mem_of_getElem? (i := 218) rfl)) rfl
theorem we_X5_isWisher : Cond.selects yX5_isWisher.cls yX5_isWisher yX5_isWisher ∈ BW := bw_s (n := 16) (List.mem_append_left _ (List.mem_of_getElem? (i := 7) rfl)) rfl
theorem wo_X5_kind : Cond.code yX5_kind cX5_kind 2 (some .int) ∈ BW := bw_t (bw_3 (List.mem_of_getElem? (i := 120) rfl)) rfl
theorem wv_X5_kind : Cond.instanceMethod yX5_kind ∈ BW := bw_t (bw_3 (List.mem_of_getElem? (i := 118) rfl)) rfl
theorem we_X5_kind : Cond.selects yX5_kind.cls yX5_kind yX5_kind ∈ BW := bw_t (bw_3 (List.mem_of_getElem? (i := 119) rfl)) rfl
theorem wo_X5_land : Cond.code yX5_land cX5_land 1 (some .int) ∈ BW := bw_t (bw_2 (List.mem_of_getElem? (i := 63) rfl)) rfl
theorem wv_X5_land : Cond.instanceMethod yX5_land ∈ BW := bw_t (bw_2 (List.mem_of_getElem? (i := 61) rfl)) rfl
theorem we_X5_land : Cond.selects yX5_land.cls yX5_land yX5_land ∈ BW := bw_t (bw_2 (List.mem_of_getElem? (i := 62) rfl)) rfl
theorem wo_X5_leave : Cond.code yX5_leave cX5_leave 2 none ∈ BW := bw_t (bw_3 (List.mem_of_getElem? (i := 139) rfl)) rfl
theorem wv_X5_leave : Cond.instanceMethod yX5_leave ∈ BW := bw_t (bw_3 (List.mem_of_getElem? (i := 138) rfl)) rfl
theorem we_X5_leave : Cond.selects yX5_leave.cls yX5_leave yX5_leave ∈ BW := bw_s (n := 16) (List.mem_append_left _ (List.mem_of_getElem? (i := 13) rfl)) rfl
theorem wo_X5_lentMark : Cond.code yX5_lentMark cX5_lentMark 2 (some .int) ∈ BW := bw_t (bw_3 (List.mem_of_getElem? (i := 159) rfl)) rfl
theorem wv_X5_lentMark : Cond.instanceMethod yX5_lentMark ∈ BW := bw_t (bw_3 (List.mem_of_getElem? (i := 158) rfl)) rfl
theorem we_X5_lentMark : Cond.selects yX5_lentMark.cls yX5_lentMark yX5_lentMark ∈ BW := bw_s (n := 16) (List.mem_append_right _ (List.mem_append_left _ (List.mem_of_getElem? (i := 2) rfl))) rfl
theorem wo_X5_lentSize : Cond.code yX5_lentSize cX5_lentSize 2 (some .int) ∈ BW := bw_t (bw_3 (List.mem_of_getElem? (i := 147) rfl)) rfl
theorem wv_X5_lentSize : Cond.instanceMethod yX5_lentSize ∈ BW := bw_t (bw_3 (List.mem_of_getElem? (i := 146) rfl)) rfl
theorem we_X5_lentSize : Cond.selects yX5_lentSize.cls yX5_lentSize yX5_lentSize ∈ BW := bw_s (n := 16) (List.mem_append_left _ (List.mem_of_getElem? (i := 15) rfl)) rfl
theorem wo_X5_markOfGrown : Cond.code yX5_markOfGrown cX5_markOfGrown 2 (some .int) ∈ BW := bw_t (bw_3 (List.mem_of_getElem? (i := 155) rfl)) rfl
theorem wv_X5_markOfGrown : Cond.instanceMethod yX5_markOfGrown ∈ BW := bw_t (bw_3 (List.mem_of_getElem? (i := 154) rfl)) rfl
theorem we_X5_markOfGrown : Cond.selects yX5_markOfGrown.cls yX5_markOfGrown yX5_markOfGrown ∈ BW := bw_s (n := 16) (List.mem_append_right _ (List.mem_append_left _ (List.mem_of_getElem? (i := 1) rfl))) rfl
theorem wo_X5_place : Cond.code yX5_place cX5_place 3 (some .int) ∈ BW := bw_t (bw_3 (List.mem_of_getElem? (i := 4) rfl)) rfl
theorem wv_X5_place : Cond.instanceMethod yX5_place ∈ BW := bw_t (bw_3 (List.mem_of_getElem? (i := 2) rfl)) rfl
theorem we_X5_place : Cond.selects yX5_place.cls yX5_place yX5_place ∈ BW := bw_t (bw_3 (List.mem_of_getElem? (i := 3) rfl)) rfl
theorem wo_X5_power : Cond.code yX5_power cX5_power 5 (some .long) ∈ BW := bw_t (bw_3 (List.mem_of_getElem? (i := 98) rfl)) rfl
theorem wt_X5_power : Cond.static yX5_power ∈ BW := bw_t (bw_3 (List.mem_of_getElem? (i := 97) rfl)) rfl
theorem wo_X5_readLaw : Cond.code yX5_readLaw cX5_readLaw 1 none ∈ BW := bw_t (bw_2 (List.mem_of_getElem? (i := 79) rfl)) rfl
theorem wv_X5_readLaw : Cond.instanceMethod yX5_readLaw ∈ BW := bw_t (bw_2 (List.mem_of_getElem? (i := 78) rfl)) rfl
theorem we_X5_readLaw : Cond.selects yX5_readLaw.cls yX5_readLaw yX5_readLaw ∈ BW := bw_s (n := 16) (List.mem_append_left _ (List.mem_of_getElem? (i := 3) rfl)) rfl
theorem wo_X5_readRoad : Cond.code yX5_readRoad cX5_readRoad 4 none ∈ BW := bw_t (bw_2 (List.mem_of_getElem? (i := 113) rfl)) rfl
theorem wv_X5_readRoad : Cond.instanceMethod yX5_readRoad ∈ BW := bw_t (bw_2 (List.mem_of_getElem? (i := 112) rfl)) rfl
theorem we_X5_readRoad : Cond.selects yX5_readRoad.cls yX5_readRoad yX5_readRoad ∈ BW := bw_s (n := 16) (List.mem_append_left _ (List.mem_of_getElem? (i := 4) rfl)) rfl
theorem wo_X5_readText : Cond.code yX5_readText cX5_readText 3 none ∈ BW := bw_t (bw_2 (List.mem_of_getElem? (i := 67) rfl)) rfl
theorem wv_X5_readText : Cond.instanceMethod yX5_readText ∈ BW := bw_t (bw_2 (List.mem_of_getElem? (i := 66) rfl)) rfl
theorem we_X5_readText : Cond.selects yX5_readText.cls yX5_readText yX5_readText ∈ BW := bw_s (n := 16) (List.mem_append_left _ (List.mem_of_getElem? (i := 2) rfl)) rfl
theorem wo_X5_readWisher : Cond.code yX5_readWisher cX5_readWisher 3 none ∈ BW := bw_t (bw_2 (List.mem_of_getElem? (i := 128) rfl)) rfl
theorem wv_X5_readWisher : Cond.instanceMethod yX5_readWisher ∈ BW := bw_t (bw_2 (List.mem_of_getElem? (i := 127) rfl)) rfl
theorem we_X5_readWisher : Cond.selects yX5_readWisher.cls yX5_readWisher yX5_readWisher ∈ BW := bw_s (n := 16) (List.mem_append_left _ (List.mem_of_getElem? (i := 5) rfl)) rfl
theorem wo_X5_rest : Cond.code yX5_rest cX5_rest 3 (some .int) ∈ BW := bw_t (bw_2 (List.mem_of_getElem? (i := 227) rfl)) rfl
theorem wv_X5_rest : Cond.instanceMethod yX5_rest ∈ BW := bw_t (bw_2 (List.mem_of_getElem? (i := 225) rfl)) rfl
theorem we_X5_rest : Cond.selects yX5_rest.cls yX5_rest yX5_rest ∈ BW := bw_t (bw_2 (List.mem_of_getElem? (i := 226) rfl)) rfl
theorem wo_X5_restore : Cond.code yX5_restore cX5_restore 2 (some .int) ∈ BW := bw_t (bw_3 (List.mem_of_getElem? (i := 116) rfl)) rfl
theorem wv_X5_restore : Cond.instanceMethod yX5_restore ∈ BW := bw_t (bw_3 (List.mem_of_getElem? (i := 114) rfl)) rfl
theorem we_X5_restore : Cond.selects yX5_restore.cls yX5_restore yX5_restore ∈ BW := bw_t (bw_3 (List.mem_of_getElem? (i := 115) rfl)) rfl
theorem wo_X5_round : Cond.code yX5_round cX5_round 4 (some .int) ∈ BW := bw_t (bw_3 (List.mem_of_getElem? (i := 72) rfl)) rfl
theorem wv_X5_round : Cond.instanceMethod yX5_round ∈ BW := bw_t (bw_3 (List.mem_of_getElem? (i := 70) rfl)) rfl
theorem we_X5_round : Cond.selects yX5_round.cls yX5_round yX5_round ∈ BW := bw_t (bw_3 (List.mem_of_getElem? (i := 71) rfl)) rfl
theorem wo_X5_row : Cond.code yX5_row cX5_row 4 (some .int) ∈ BW := bw_t (bw_2 (List.mem_of_getElem? (i := 6) rfl)) rfl
theorem wv_X5_row : Cond.instanceMethod yX5_row ∈ BW := bw_t (bw_2 (List.mem_of_getElem? (i := 4) rfl)) rfl
theorem we_X5_row : Cond.selects yX5_row.cls yX5_row yX5_row ∈ BW := bw_t (bw_2 (List.mem_of_getElem? (i := 5) rfl)) rfl
theorem wo_X5_seen : Cond.code yX5_seen cX5_seen 9 (some .int) ∈ BW := bw_t (bw_3 (List.mem_of_getElem? (i := 56) rfl)) rfl
theorem wv_X5_seen : Cond.instanceMethod yX5_seen ∈ BW := bw_t (bw_3 (List.mem_of_getElem? (i := 54) rfl)) rfl
theorem we_X5_seen : Cond.selects yX5_seen.cls yX5_seen yX5_seen ∈ BW := bw_t (bw_3 (List.mem_of_getElem? (i := 55) rfl)) rfl
theorem wo_X5_set : Cond.code yX5_set cX5_set 5 (some .int) ∈ BW := bw_t (bw_2 (List.mem_of_getElem? (i := 30) rfl)) rfl
theorem wv_X5_set : Cond.instanceMethod yX5_set ∈ BW := bw_t (bw_2 (List.mem_of_getElem? (i := 28) rfl)) rfl
theorem we_X5_set : Cond.selects yX5_set.cls yX5_set yX5_set ∈ BW := bw_t (bw_2 (List.mem_of_getElem? (i := 29) rfl)) rfl
theorem wo_X5_sizeOfChild : Cond.code yX5_sizeOfChild cX5_sizeOfChild 2 (some .int) ∈ BW := bw_t (bw_3 (List.mem_of_getElem? (i := 167) rfl)) rfl
theorem wv_X5_sizeOfChild : Cond.instanceMethod yX5_sizeOfChild ∈ BW := bw_t (bw_3 (List.mem_of_getElem? (i := 166) rfl)) rfl
theorem we_X5_sizeOfChild : Cond.selects yX5_sizeOfChild.cls yX5_sizeOfChild yX5_sizeOfChild ∈ BW := bw_s (n := 16) (List.mem_append_right _ (List.mem_append_left _ (List.mem_of_getElem? (i := 4) rfl))) rfl
theorem wo_X5_sizeOfGrown : Cond.code yX5_sizeOfGrown cX5_sizeOfGrown 3 (some .int) ∈ BW := bw_t (bw_3 (List.mem_of_getElem? (i := 143) rfl)) rfl
theorem wv_X5_sizeOfGrown : Cond.instanceMethod yX5_sizeOfGrown ∈ BW := bw_t (bw_3 (List.mem_of_getElem? (i := 142) rfl)) rfl
theorem we_X5_sizeOfGrown : Cond.selects yX5_sizeOfGrown.cls yX5_sizeOfGrown yX5_sizeOfGrown ∈ BW := bw_s (n := 16) (List.mem_append_left _ (List.mem_of_getElem? (i := 14) rfl)) rfl
theorem wo_X5_sortOf : Cond.code yX5_sortOf cX5_sortOf 1 (some .int) ∈ BW := bw_t (bw_2 (List.mem_of_getElem? (i := 124) rfl)) rfl
theorem wt_X5_sortOf : Cond.static yX5_sortOf ∈ BW := bw_t (bw_2 (List.mem_of_getElem? (i := 123) rfl)) rfl
theorem wo_X5_status : Cond.code yX5_status cX5_status 1 (some .int) ∈ BW := bw_t (bw_3 (List.mem_of_getElem? (i := 187) rfl)) rfl
theorem wv_X5_status : Cond.instanceMethod yX5_status ∈ BW := bw_t (bw_3 (List.mem_of_getElem? (i := 185) rfl)) rfl
theorem we_X5_status : Cond.selects yX5_status.cls yX5_status yX5_status ∈ BW := bw_t (bw_3 (List.mem_of_getElem? (i := 186) rfl)) rfl
theorem wo_X5_stolen : Cond.code yX5_stolen cX5_stolen 6 (some .int) ∈ BW := bw_t (bw_3 (List.mem_of_getElem? (i := 48) rfl)) rfl
theorem wv_X5_stolen : Cond.instanceMethod yX5_stolen ∈ BW := bw_t (bw_3 (List.mem_of_getElem? (i := 46) rfl)) rfl
theorem we_X5_stolen : Cond.selects yX5_stolen.cls yX5_stolen yX5_stolen ∈ BW := bw_t (bw_3 (List.mem_of_getElem? (i := 47) rfl)) rfl
theorem wo_X5_trace : Cond.code yX5_trace cX5_trace 2 (some .int) ∈ BW := bw_t (bw_3 (List.mem_of_getElem? (i := 175) rfl)) rfl
theorem wv_X5_trace : Cond.instanceMethod yX5_trace ∈ BW := bw_t (bw_3 (List.mem_of_getElem? (i := 173) rfl)) rfl
theorem we_X5_trace : Cond.selects yX5_trace.cls yX5_trace yX5_trace ∈ BW := bw_t (bw_3 (List.mem_of_getElem? (i := 174) rfl)) rfl
theorem wo_X5_undo : Cond.code yX5_undo cX5_undo 1 (some .int) ∈ BW := bw_t (bw_2 (List.mem_of_getElem? (i := 162) rfl)) rfl
theorem wv_X5_undo : Cond.instanceMethod yX5_undo ∈ BW := bw_t (bw_2 (List.mem_of_getElem? (i := 160) rfl)) rfl
theorem we_X5_undo : Cond.selects yX5_undo.cls yX5_undo yX5_undo ∈ BW := bw_t (bw_2 (List.mem_of_getElem? (i := 161) rfl)) rfl
theorem wo_X5_visits : Cond.code yX5_visits cX5_visits 4 (some .int) ∈ BW := bw_t (bw_3 (List.mem_of_getElem? (i := 28) rfl)) rfl
theorem wv_X5_visits : Cond.instanceMethod yX5_visits ∈ BW := bw_t (bw_3 (List.mem_of_getElem? (i := 26) rfl)) rfl
theorem we_X5_visits : Cond.selects yX5_visits.cls yX5_visits yX5_visits ∈ BW := bw_t (bw_3 (List.mem_of_getElem? (i := 27) rfl)) rfl
theorem wo_X5_who : Cond.code yX5_who cX5_who 8 (some .int) ∈ BW := bw_t (bw_3 (List.mem_of_getElem? (i := 64) rfl)) rfl
theorem wv_X5_who : Cond.instanceMethod yX5_who ∈ BW := bw_t (bw_3 (List.mem_of_getElem? (i := 62) rfl)) rfl
theorem we_X5_who : Cond.selects yX5_who.cls yX5_who yX5_who ∈ BW := bw_t (bw_3 (List.mem_of_getElem? (i := 63) rfl)) rfl
theorem wo_X5_wish : Cond.code yX5_wish cX5_wish 5 (some .int) ∈ BW := bw_t (bw_2 (List.mem_of_getElem? (i := 215) rfl)) rfl
theorem wv_X5_wish : Cond.instanceMethod yX5_wish ∈ BW := bw_t (bw_2 (List.mem_of_getElem? (i := 213) rfl)) rfl
theorem we_X5_wish : Cond.selects yX5_wish.cls yX5_wish yX5_wish ∈ BW := bw_t (bw_2 (List.mem_of_getElem? (i := 214) rfl)) rfl
theorem wo_X5_wisher : Cond.code yX5_wisher cX5_wisher 3 (some .int) ∈ BW := bw_t (bw_2 (List.mem_of_getElem? (i := 238) rfl)) rfl
theorem wv_X5_wisher : Cond.instanceMethod yX5_wisher ∈ BW := bw_t (bw_2 (List.mem_of_getElem? (i := 236) rfl)) rfl
theorem we_X5_wisher : Cond.selects yX5_wisher.cls yX5_wisher yX5_wisher ∈ BW := bw_t (bw_2 (List.mem_of_getElem? (i := 237) rfl)) rfl
theorem wo_X5_within : Cond.code yX5_within cX5_within 3 (some .boolean) ∈ BW := bw_t (bw_2 (List.mem_of_getElem? (i := 12) rfl)) rfl
theorem wt_X5_within : Cond.static yX5_within ∈ BW := bw_t (bw_2 (List.mem_of_getElem? (i := 11) rfl)) rfl
theorem wo_X0_init : Cond.code yX0_init cX0_init 1 none ∈ BW := bw_t (bw_1 (List.mem_of_getElem? (i := 125) rfl)) rfl
theorem wv_X0_init : Cond.instanceMethod yX0_init ∈ BW := bw_t (bw_1 (List.mem_of_getElem? (i := 124) rfl)) rfl
theorem wo_X0_become : Cond.code yX0_become cX0_become 3 none ∈ BW := bw_t (bw_3 (List.mem_of_getElem? (i := 68) rfl)) rfl
theorem wv_X0_become : Cond.instanceMethod yX0_become ∈ BW := bw_t (bw_3 (List.mem_of_getElem? (i := 66) rfl)) rfl
theorem we_X0_become : Cond.selects yX0_become.cls yX0_become yX0_become ∈ BW := bw_t (bw_3 (List.mem_of_getElem? (i := 67) rfl)) rfl
theorem wo_X0_code : Cond.code yX0_code cX0_code 4 (some .long) ∈ BW := bw_t (bw_3 (List.mem_of_getElem? (i := 76) rfl)) rfl
theorem wv_X0_code : Cond.instanceMethod yX0_code ∈ BW := bw_t (bw_3 (List.mem_of_getElem? (i := 74) rfl)) rfl
theorem we_X0_code : Cond.selects yX0_code.cls yX0_code yX0_code ∈ BW := bw_t (bw_3 (List.mem_of_getElem? (i := 75) rfl)) rfl
theorem wo_X0_decide : Cond.code yX0_decide cX0_decide 5 (some .int) ∈ BW := bw_t (bw_2 (List.mem_of_getElem? (i := 206) rfl)) rfl
theorem wv_X0_decide : Cond.instanceMethod yX0_decide ∈ BW := bw_t (bw_2 (List.mem_of_getElem? (i := 204) rfl)) rfl
theorem we_X0_decide : Cond.selects yX0_decide.cls yX0_decide yX0_decide ∈ BW := bw_t (bw_2 (List.mem_of_getElem? (i := 205) rfl)) rfl
theorem wo_X0_force : Cond.code yX0_force cX0_force 5 (some .int) ∈ BW := bw_t (bw_2 (List.mem_of_getElem? (i := 199) rfl)) rfl
theorem wv_X0_force : Cond.instanceMethod yX0_force ∈ BW := bw_t (bw_2 (List.mem_of_getElem? (i := 197) rfl)) rfl
theorem we_X0_force : Cond.selects yX0_force.cls yX0_force yX0_force ∈ BW := bw_t (bw_2 (List.mem_of_getElem? (i := 198) rfl)) rfl
theorem wo_X0_goesTo : Cond.code yX0_goesTo cX0_goesTo 3 (some .int) ∈ BW := bw_t (bw_3 (List.mem_of_getElem? (i := 52) rfl)) rfl
theorem wv_X0_goesTo : Cond.instanceMethod yX0_goesTo ∈ BW := bw_t (bw_3 (List.mem_of_getElem? (i := 50) rfl)) rfl
theorem we_X0_goesTo : Cond.selects yX0_goesTo.cls yX0_goesTo yX0_goesTo ∈ BW := bw_t (bw_3 (List.mem_of_getElem? (i := 51) rfl)) rfl
theorem wo_X0_pass : Cond.code yX0_pass cX0_pass 3 none ∈ BW := bw_t (bw_2 (List.mem_of_getElem? (i := 185) rfl)) rfl
theorem wv_X0_pass : Cond.instanceMethod yX0_pass ∈ BW := bw_t (bw_2 (List.mem_of_getElem? (i := 183) rfl)) rfl
theorem we_X0_pass : Cond.selects yX0_pass.cls yX0_pass yX0_pass ∈ BW := bw_t (bw_2 (List.mem_of_getElem? (i := 184) rfl)) rfl
theorem wo_X0_passMany : Cond.code yX0_passMany cX0_passMany 4 none ∈ BW := bw_t (bw_3 (List.mem_of_getElem? (i := 18) rfl)) rfl
theorem wv_X0_passMany : Cond.instanceMethod yX0_passMany ∈ BW := bw_t (bw_3 (List.mem_of_getElem? (i := 16) rfl)) rfl
theorem we_X0_passMany : Cond.selects yX0_passMany.cls yX0_passMany yX0_passMany ∈ BW := bw_t (bw_3 (List.mem_of_getElem? (i := 17) rfl)) rfl
theorem wo_X0_take : Cond.code yX0_take cX0_take 2 none ∈ BW := bw_t (bw_2 (List.mem_of_getElem? (i := 149) rfl)) rfl
theorem wv_X0_take : Cond.instanceMethod yX0_take ∈ BW := bw_t (bw_2 (List.mem_of_getElem? (i := 147) rfl)) rfl
theorem we_X0_take : Cond.selects yX0_take.cls yX0_take yX0_take ∈ BW := bw_t (bw_2 (List.mem_of_getElem? (i := 148) rfl)) rfl
theorem wo_X0_tire : Cond.code yX0_tire cX0_tire 4 none ∈ BW := bw_t (bw_2 (List.mem_of_getElem? (i := 210) rfl)) rfl
theorem wv_X0_tire : Cond.instanceMethod yX0_tire ∈ BW := bw_t (bw_2 (List.mem_of_getElem? (i := 208) rfl)) rfl
theorem we_X0_tire : Cond.selects yX0_tire.cls yX0_tire yX0_tire ∈ BW := bw_t (bw_2 (List.mem_of_getElem? (i := 209) rfl)) rfl
theorem wo_X0_weigh : Cond.code yX0_weigh cX0_weigh 3 none ∈ BW := bw_t (bw_2 (List.mem_of_getElem? (i := 189) rfl)) rfl
theorem wv_X0_weigh : Cond.instanceMethod yX0_weigh ∈ BW := bw_t (bw_2 (List.mem_of_getElem? (i := 187) rfl)) rfl
theorem we_X0_weigh : Cond.selects yX0_weigh.cls yX0_weigh yX0_weigh ∈ BW := bw_t (bw_2 (List.mem_of_getElem? (i := 188) rfl)) rfl
theorem wo_X0_wishes : Cond.code yX0_wishes cX0_wishes 4 (some .boolean) ∈ BW := bw_t (bw_2 (List.mem_of_getElem? (i := 194) rfl)) rfl
theorem wv_X0_wishes : Cond.instanceMethod yX0_wishes ∈ BW := bw_t (bw_2 (List.mem_of_getElem? (i := 192) rfl)) rfl
theorem we_X0_wishes : Cond.selects yX0_wishes.cls yX0_wishes yX0_wishes ∈ BW := bw_t (bw_2 (List.mem_of_getElem? (i := 193) rfl)) rfl
theorem wo_X0_wishing : Cond.code yX0_wishing cX0_wishing 4 (some .int) ∈ BW := bw_t (bw_3 (List.mem_of_getElem? (i := 91) rfl)) rfl
theorem wv_X0_wishing : Cond.instanceMethod yX0_wishing ∈ BW := bw_t (bw_3 (List.mem_of_getElem? (i := 89) rfl)) rfl
theorem we_X0_wishing : Cond.selects yX0_wishing.cls yX0_wishing yX0_wishing ∈ BW := bw_t (bw_3 (List.mem_of_getElem? (i := 90) rfl)) rfl
theorem wo_X1_init : Cond.code yX1_init cX1_init 1 none ∈ BW := bw_t (bw_1 (List.mem_of_getElem? (i := 72) rfl)) rfl
theorem wv_X1_init : Cond.instanceMethod yX1_init ∈ BW := bw_t (bw_1 (List.mem_of_getElem? (i := 71) rfl)) rfl
theorem wo_X1_clear : Cond.code yX1_clear cX1_clear 2 none ∈ BW := bw_t (bw_2 (List.mem_of_getElem? (i := 75) rfl)) rfl
theorem wv_X1_clear : Cond.instanceMethod yX1_clear ∈ BW := bw_t (bw_2 (List.mem_of_getElem? (i := 73) rfl)) rfl
theorem we_X1_clear : Cond.selects yX1_clear.cls yX1_clear yX1_clear ∈ BW := bw_t (bw_2 (List.mem_of_getElem? (i := 74) rfl)) rfl
theorem wo_X1_everyone : Cond.code yX1_everyone cX1_everyone 1 (some .int) ∈ BW := bw_t (bw_3 (List.mem_of_getElem? (i := 36) rfl)) rfl
theorem wv_X1_everyone : Cond.instanceMethod yX1_everyone ∈ BW := bw_t (bw_3 (List.mem_of_getElem? (i := 34) rfl)) rfl
theorem we_X1_everyone : Cond.selects yX1_everyone.cls yX1_everyone yX1_everyone ∈ BW := bw_t (bw_3 (List.mem_of_getElem? (i := 35) rfl)) rfl
theorem wo_X1_joins : Cond.code yX1_joins cX1_joins 3 (some .boolean) ∈ BW := bw_t (bw_2 (List.mem_of_getElem? (i := 118) rfl)) rfl
theorem wv_X1_joins : Cond.instanceMethod yX1_joins ∈ BW := bw_t (bw_2 (List.mem_of_getElem? (i := 116) rfl)) rfl
theorem we_X1_joins : Cond.selects yX1_joins.cls yX1_joins yX1_joins ∈ BW := bw_t (bw_2 (List.mem_of_getElem? (i := 117) rfl)) rfl
theorem wo_X1_measure : Cond.code yX1_measure cX1_measure 5 none ∈ BW := bw_t (bw_2 (List.mem_of_getElem? (i := 132) rfl)) rfl
theorem wv_X1_measure : Cond.instanceMethod yX1_measure ∈ BW := bw_t (bw_2 (List.mem_of_getElem? (i := 130) rfl)) rfl
theorem we_X1_measure : Cond.selects yX1_measure.cls yX1_measure yX1_measure ∈ BW := bw_t (bw_2 (List.mem_of_getElem? (i := 131) rfl)) rfl
theorem wo_X1_take : Cond.code yX1_take cX1_take 2 none ∈ BW := bw_t (bw_2 (List.mem_of_getElem? (i := 144) rfl)) rfl
theorem wv_X1_take : Cond.instanceMethod yX1_take ∈ BW := bw_t (bw_2 (List.mem_of_getElem? (i := 142) rfl)) rfl
theorem we_X1_take : Cond.selects yX1_take.cls yX1_take yX1_take ∈ BW := bw_t (bw_2 (List.mem_of_getElem? (i := 143) rfl)) rfl
theorem wo_X1_way : Cond.code yX1_way cX1_way 3 (some .int) ∈ BW := bw_t (bw_2 (List.mem_of_getElem? (i := 136) rfl)) rfl
theorem wv_X1_way : Cond.instanceMethod yX1_way ∈ BW := bw_t (bw_2 (List.mem_of_getElem? (i := 134) rfl)) rfl
theorem we_X1_way : Cond.selects yX1_way.cls yX1_way yX1_way ∈ BW := bw_t (bw_2 (List.mem_of_getElem? (i := 135) rfl)) rfl
theorem wo_X2_init : Cond.code yX2_init cX2_init 2 none ∈ BW := bw_t (bw_1 (List.mem_of_getElem? (i := 176) rfl)) rfl
theorem wv_X2_init : Cond.instanceMethod yX2_init ∈ BW := bw_t (bw_1 (List.mem_of_getElem? (i := 175) rfl)) rfl
theorem wo_X2_forget : Cond.code yX2_forget cX2_forget 1 none ∈ BW := bw_t (bw_2 (List.mem_of_getElem? (i := 154) rfl)) rfl
theorem wv_X2_forget : Cond.instanceMethod yX2_forget ∈ BW := bw_t (bw_2 (List.mem_of_getElem? (i := 152) rfl)) rfl
theorem we_X2_forget : Cond.selects yX2_forget.cls yX2_forget yX2_forget ∈ BW := bw_t (bw_2 (List.mem_of_getElem? (i := 153) rfl)) rfl
theorem wo_X2_goBack : Cond.code yX2_goBack cX2_goBack 2 none ∈ BW := bw_t (bw_2 (List.mem_of_getElem? (i := 167) rfl)) rfl
theorem wv_X2_goBack : Cond.instanceMethod yX2_goBack ∈ BW := bw_t (bw_2 (List.mem_of_getElem? (i := 165) rfl)) rfl
theorem we_X2_goBack : Cond.selects yX2_goBack.cls yX2_goBack yX2_goBack ∈ BW := bw_t (bw_2 (List.mem_of_getElem? (i := 166) rfl)) rfl
theorem wo_X2_keep : Cond.code yX2_keep cX2_keep 2 none ∈ BW := bw_t (bw_2 (List.mem_of_getElem? (i := 180) rfl)) rfl
theorem wv_X2_keep : Cond.instanceMethod yX2_keep ∈ BW := bw_t (bw_2 (List.mem_of_getElem? (i := 178) rfl)) rfl
theorem we_X2_keep : Cond.selects yX2_keep.cls yX2_keep yX2_keep ∈ BW := bw_t (bw_2 (List.mem_of_getElem? (i := 179) rfl)) rfl
theorem wo_X3_init : Cond.code yX3_init cX3_init 2 none ∈ BW := bw_t (bw_1 (List.mem_of_getElem? (i := 23) rfl)) rfl
theorem wv_X3_init : Cond.instanceMethod yX3_init ∈ BW := bw_t (bw_1 (List.mem_of_getElem? (i := 22) rfl)) rfl
theorem wo_X3_isMissing : Cond.code yX3_isMissing cX3_isMissing 2 (some .boolean) ∈ BW := bw_t (bw_2 (List.mem_of_getElem? (i := 38) rfl)) rfl
theorem wv_X3_isMissing : Cond.instanceMethod yX3_isMissing ∈ BW := bw_t (bw_2 (List.mem_of_getElem? (i := 36) rfl)) rfl
theorem we_X3_isMissing : Cond.selects yX3_isMissing.cls yX3_isMissing yX3_isMissing ∈ BW := bw_t (bw_2 (List.mem_of_getElem? (i := 37) rfl)) rfl
theorem wo_X3_look : Cond.code yX3_look cX3_look 4 (some .int) ∈ BW := bw_t (bw_2 (List.mem_of_getElem? (i := 34) rfl)) rfl
theorem wv_X3_look : Cond.instanceMethod yX3_look ∈ BW := bw_t (bw_2 (List.mem_of_getElem? (i := 32) rfl)) rfl
theorem we_X3_look : Cond.selects yX3_look.cls yX3_look yX3_look ∈ BW := bw_t (bw_2 (List.mem_of_getElem? (i := 33) rfl)) rfl
theorem wo_X3_make : Cond.code yX3_make cX3_make 5 none ∈ BW := bw_t (bw_2 (List.mem_of_getElem? (i := 22) rfl)) rfl
theorem wv_X3_make : Cond.instanceMethod yX3_make ∈ BW := bw_t (bw_2 (List.mem_of_getElem? (i := 20) rfl)) rfl
theorem we_X3_make : Cond.selects yX3_make.cls yX3_make yX3_make ∈ BW := bw_t (bw_2 (List.mem_of_getElem? (i := 21) rfl)) rfl
theorem wo_X3_many : Cond.code yX3_many cX3_many 3 (some .int) ∈ BW := bw_t (bw_3 (List.mem_of_getElem? (i := 183) rfl)) rfl
theorem wv_X3_many : Cond.instanceMethod yX3_many ∈ BW := bw_t (bw_3 (List.mem_of_getElem? (i := 181) rfl)) rfl
theorem we_X3_many : Cond.selects yX3_many.cls yX3_many yX3_many ∈ BW := bw_t (bw_3 (List.mem_of_getElem? (i := 182) rfl)) rfl
theorem wo_X3_put : Cond.code yX3_put cX3_put 5 (some .int) ∈ BW := bw_t (bw_2 (List.mem_of_getElem? (i := 42) rfl)) rfl
theorem wv_X3_put : Cond.instanceMethod yX3_put ∈ BW := bw_t (bw_2 (List.mem_of_getElem? (i := 40) rfl)) rfl
theorem we_X3_put : Cond.selects yX3_put.cls yX3_put yX3_put ∈ BW := bw_t (bw_2 (List.mem_of_getElem? (i := 41) rfl)) rfl
theorem wo_X4_init : Cond.code yX4_init cX4_init 1 none ∈ BW := bw_t (bw_1 (List.mem_of_getElem? (i := 45) rfl)) rfl
theorem wv_X4_init : Cond.instanceMethod yX4_init ∈ BW := bw_t (bw_1 (List.mem_of_getElem? (i := 44) rfl)) rfl
theorem wo_X4_begin : Cond.code yX4_begin cX4_begin 1 none ∈ BW := bw_t (bw_2 (List.mem_of_getElem? (i := 71) rfl)) rfl
theorem wv_X4_begin : Cond.instanceMethod yX4_begin ∈ BW := bw_t (bw_2 (List.mem_of_getElem? (i := 69) rfl)) rfl
theorem we_X4_begin : Cond.selects yX4_begin.cls yX4_begin yX4_begin ∈ BW := bw_t (bw_2 (List.mem_of_getElem? (i := 70) rfl)) rfl
theorem wo_X4_byteAt : Cond.code yX4_byteAt cX4_byteAt 2 (some .int) ∈ BW := bw_t (bw_2 (List.mem_of_getElem? (i := 91) rfl)) rfl
theorem wv_X4_byteAt : Cond.instanceMethod yX4_byteAt ∈ BW := bw_t (bw_2 (List.mem_of_getElem? (i := 89) rfl)) rfl
theorem we_X4_byteAt : Cond.selects yX4_byteAt.cls yX4_byteAt yX4_byteAt ∈ BW := bw_t (bw_2 (List.mem_of_getElem? (i := 90) rfl)) rfl
theorem wo_X4_expect : Cond.code yX4_expect cX4_expect 2 none ∈ BW := bw_t (bw_2 (List.mem_of_getElem? (i := 83) rfl)) rfl
theorem wv_X4_expect : Cond.instanceMethod yX4_expect ∈ BW := bw_t (bw_2 (List.mem_of_getElem? (i := 81) rfl)) rfl
theorem we_X4_expect : Cond.selects yX4_expect.cls yX4_expect yX4_expect ∈ BW := bw_t (bw_2 (List.mem_of_getElem? (i := 82) rfl)) rfl
theorem wo_X4_fail : Cond.code yX4_fail cX4_fail 3 none ∈ BW := bw_t (bw_2 (List.mem_of_getElem? (i := 95) rfl)) rfl
theorem wv_X4_fail : Cond.instanceMethod yX4_fail ∈ BW := bw_t (bw_2 (List.mem_of_getElem? (i := 93) rfl)) rfl
theorem we_X4_fail : Cond.selects yX4_fail.cls yX4_fail yX4_fail ∈ BW := bw_t (bw_2 (List.mem_of_getElem? (i := 94) rfl)) rfl
theorem wo_X4_goesOn : Cond.code yX4_goesOn cX4_goesOn 1 (some .boolean) ∈ BW := bw_t (bw_2 (List.mem_of_getElem? (i := 108) rfl)) rfl
theorem wv_X4_goesOn : Cond.instanceMethod yX4_goesOn ∈ BW := bw_t (bw_2 (List.mem_of_getElem? (i := 106) rfl)) rfl
theorem we_X4_goesOn : Cond.selects yX4_goesOn.cls yX4_goesOn yX4_goesOn ∈ BW := bw_t (bw_2 (List.mem_of_getElem? (i := 107) rfl)) rfl
theorem wo_X4_isFigure : Cond.code yX4_isFigure cX4_isFigure 2 (some .boolean) ∈ BW := bw_t (bw_2 (List.mem_of_getElem? (i := 103) rfl)) rfl
theorem wv_X4_isFigure : Cond.instanceMethod yX4_isFigure ∈ BW := bw_t (bw_2 (List.mem_of_getElem? (i := 101) rfl)) rfl
theorem we_X4_isFigure : Cond.selects yX4_isFigure.cls yX4_isFigure yX4_isFigure ∈ BW := bw_t (bw_2 (List.mem_of_getElem? (i := 102) rfl)) rfl
theorem wo_X4_next : Cond.code yX4_next cX4_next 1 (some .int) ∈ BW := bw_t (bw_2 (List.mem_of_getElem? (i := 87) rfl)) rfl
theorem wv_X4_next : Cond.instanceMethod yX4_next ∈ BW := bw_t (bw_2 (List.mem_of_getElem? (i := 85) rfl)) rfl
theorem we_X4_next : Cond.selects yX4_next.cls yX4_next yX4_next ∈ BW := bw_t (bw_2 (List.mem_of_getElem? (i := 86) rfl)) rfl
theorem wo_X4_number : Cond.code yX4_number cX4_number 5 (some .int) ∈ BW := bw_t (bw_2 (List.mem_of_getElem? (i := 99) rfl)) rfl
theorem wv_X4_number : Cond.instanceMethod yX4_number ∈ BW := bw_t (bw_2 (List.mem_of_getElem? (i := 97) rfl)) rfl
theorem we_X4_number : Cond.selects yX4_number.cls yX4_number yX4_number ∈ BW := bw_t (bw_2 (List.mem_of_getElem? (i := 98) rfl)) rfl
theorem wo_X6_init : Cond.code yX6_init cX6_init 1 none ∈ BW := bw_t (bw_3 (List.mem_of_getElem? (i := 192) rfl)) rfl
theorem wv_X6_init : Cond.instanceMethod yX6_init ∈ BW := bw_t (bw_3 (List.mem_of_getElem? (i := 191) rfl)) rfl
theorem wo_X6_ahead : Cond.code yX6_ahead cX6_ahead 4 (some .int) ∈ BW := bw_t (bw_4 (List.mem_of_getElem? (i := 210) rfl)) rfl
theorem wv_X6_ahead : Cond.instanceMethod yX6_ahead ∈ BW := bw_t (bw_4 (List.mem_of_getElem? (i := 208) rfl)) rfl
theorem we_X6_ahead : Cond.selects yX6_ahead.cls yX6_ahead yX6_ahead ∈ BW := bw_t (bw_4 (List.mem_of_getElem? (i := 209) rfl)) rfl
theorem wo_X6_as : Cond.code yX6_as cX6_as 3 (some .int) ∈ BW := bw_t (bw_5 (List.mem_of_getElem? (i := 63) rfl)) rfl
theorem wv_X6_as : Cond.instanceMethod yX6_as ∈ BW := bw_t (bw_5 (List.mem_of_getElem? (i := 61) rfl)) rfl
theorem we_X6_as : Cond.selects yX6_as.cls yX6_as yX6_as ∈ BW := bw_t (bw_5 (List.mem_of_getElem? (i := 62) rfl)) rfl
theorem wo_X6_ask : Cond.code yX6_ask cX6_ask 3 (some .int) ∈ BW := bw_t (bw_5 (List.mem_of_getElem? (i := 71) rfl)) rfl
theorem wv_X6_ask : Cond.instanceMethod yX6_ask ∈ BW := bw_t (bw_5 (List.mem_of_getElem? (i := 69) rfl)) rfl
theorem we_X6_ask : Cond.selects yX6_ask.cls yX6_ask yX6_ask ∈ BW := bw_t (bw_5 (List.mem_of_getElem? (i := 70) rfl)) rfl
theorem wo_X6_atBehind : Cond.code yX6_atBehind cX6_atBehind 2 (some .int) ∈ BW := bw_t (bw_4 (List.mem_of_getElem? (i := 219) rfl)) rfl
theorem wv_X6_atBehind : Cond.instanceMethod yX6_atBehind ∈ BW := bw_t (bw_4 (List.mem_of_getElem? (i := 218) rfl)) rfl
theorem we_X6_atBehind : Cond.selects yX6_atBehind.cls yX6_atBehind yX6_atBehind ∈ BW := bw_s (n := 26) (List.mem_append_right _ (List.mem_append_right _ (List.mem_append_left _ (List.mem_of_getElem? (i := 12) rfl)))) rfl
theorem wo_X6_atLeastNone : Cond.code yX6_atLeastNone cX6_atLeastNone 1 (some .int) ∈ BW := bw_t (bw_4 (List.mem_of_getElem? (i := 169) rfl)) rfl
theorem wt_X6_atLeastNone : Cond.static yX6_atLeastNone ∈ BW := bw_t (bw_4 (List.mem_of_getElem? (i := 168) rfl)) rfl
theorem wo_X6_awake : Cond.code yX6_awake cX6_awake 14 (some .long) ∈ BW := bw_t (bw_5 (List.mem_of_getElem? (i := 37) rfl)) rfl
theorem wv_X6_awake : Cond.instanceMethod yX6_awake ∈ BW := bw_t (bw_5 (List.mem_of_getElem? (i := 35) rfl)) rfl
theorem we_X6_awake : Cond.selects yX6_awake.cls yX6_awake yX6_awake ∈ BW := bw_t (bw_5 (List.mem_of_getElem? (i := 36) rfl)) rfl
theorem wo_X6_bad : Cond.code yX6_bad cX6_bad 2 none ∈ BW := bw_t (bw_4 (List.mem_of_getElem? (i := 102) rfl)) rfl
theorem wv_X6_bad : Cond.instanceMethod yX6_bad ∈ BW := bw_t (bw_4 (List.mem_of_getElem? (i := 101) rfl)) rfl
theorem we_X6_bad : Cond.selects yX6_bad.cls yX6_bad yX6_bad ∈ BW := bw_s (n := 26) (List.mem_append_right _ (List.mem_append_left _ (List.mem_of_getElem? (i := 11) rfl))) rfl
theorem wo_X6_began : Cond.code yX6_began cX6_began 2 none ∈ BW := bw_t (bw_5 (List.mem_of_getElem? (i := 83) rfl)) rfl
theorem wv_X6_began : Cond.instanceMethod yX6_began ∈ BW := bw_t (bw_5 (List.mem_of_getElem? (i := 82) rfl)) rfl
theorem we_X6_began : Cond.selects yX6_began.cls yX6_began yX6_began ∈ BW := bw_s (n := 26) (List.mem_append_right _ (List.mem_append_right _ (List.mem_append_right _ (List.mem_of_getElem? (i := 2) rfl)))) rfl
theorem wo_X6_begin : Cond.code yX6_begin cX6_begin 1 none ∈ BW := bw_t (bw_4 (List.mem_of_getElem? (i := 81) rfl)) rfl
theorem wv_X6_begin : Cond.instanceMethod yX6_begin ∈ BW := bw_t (bw_4 (List.mem_of_getElem? (i := 80) rfl)) rfl
theorem we_X6_begin : Cond.selects yX6_begin.cls yX6_begin yX6_begin ∈ BW := bw_s (n := 26) (List.mem_append_right _ (List.mem_append_left _ (List.mem_of_getElem? (i := 7) rfl))) rfl
theorem wo_X6_bits : Cond.code yX6_bits cX6_bits 3 (some .int) ∈ BW := bw_t (bw_4 (List.mem_of_getElem? (i := 238) rfl)) rfl
theorem wt_X6_bits : Cond.static yX6_bits ∈ BW := bw_t (bw_4 (List.mem_of_getElem? (i := 237) rfl)) rfl
theorem wo_X6_childSize : Cond.code yX6_childSize cX6_childSize 4 (some .int) ∈ BW := bw_t (bw_5 (List.mem_of_getElem? (i := 79) rfl)) rfl
theorem wv_X6_childSize : Cond.instanceMethod yX6_childSize ∈ BW := bw_t (bw_5 (List.mem_of_getElem? (i := 78) rfl)) rfl
theorem we_X6_childSize : Cond.selects yX6_childSize.cls yX6_childSize yX6_childSize ∈ BW := bw_s (n := 26) (List.mem_append_right _ (List.mem_append_right _ (List.mem_append_right _ (List.mem_of_getElem? (i := 1) rfl)))) rfl
theorem wo_X6_comes : Cond.code yX6_comes cX6_comes 4 (some .int) ∈ BW := bw_t (bw_4 (List.mem_of_getElem? (i := 227) rfl)) rfl
theorem wv_X6_comes : Cond.instanceMethod yX6_comes ∈ BW := bw_t (bw_4 (List.mem_of_getElem? (i := 225) rfl)) rfl
theorem we_X6_comes : Cond.selects yX6_comes.cls yX6_comes yX6_comes ∈ BW := bw_t (bw_4 (List.mem_of_getElem? (i := 226) rfl)) rfl
theorem wo_X6_comesSo : Cond.code yX6_comesSo cX6_comesSo 5 (some .boolean) ∈ BW := bw_t (bw_5 (List.mem_of_getElem? (i := 15) rfl)) rfl
theorem wv_X6_comesSo : Cond.instanceMethod yX6_comesSo ∈ BW := bw_t (bw_5 (List.mem_of_getElem? (i := 14) rfl)) rfl
theorem we_X6_comesSo : Cond.selects yX6_comesSo.cls yX6_comesSo yX6_comesSo ∈ BW := bw_s (n := 26) (List.mem_append_right _ (List.mem_append_right _ (List.mem_append_left _ (List.mem_of_getElem? (i := 14) rfl)))) rfl
theorem wo_X6_copy : Cond.code yX6_copy cX6_copy 9 (some .int) ∈ BW := bw_t (bw_4 (List.mem_of_getElem? (i := 59) rfl)) rfl
theorem wv_X6_copy : Cond.instanceMethod yX6_copy ∈ BW := bw_t (bw_4 (List.mem_of_getElem? (i := 57) rfl)) rfl
theorem we_X6_copy : Cond.selects yX6_copy.cls yX6_copy yX6_copy ∈ BW := bw_t (bw_4 (List.mem_of_getElem? (i := 58) rfl)) rfl
theorem wo_X6_count : Cond.code yX6_count cX6_count 4 (some .int) ∈ BW := bw_t (bw_5 (List.mem_of_getElem? (i := 99) rfl)) rfl
theorem wv_X6_count : Cond.instanceMethod yX6_count ∈ BW := bw_t (bw_5 (List.mem_of_getElem? (i := 97) rfl)) rfl
theorem we_X6_count : Cond.selects yX6_count.cls yX6_count yX6_count ∈ BW := bw_t (bw_5 (List.mem_of_getElem? (i := 98) rfl)) rfl
theorem wo_X6_drawn : Cond.code yX6_drawn cX6_drawn 7 (some .int) ∈ BW := bw_t (bw_5 (List.mem_of_getElem? (i := 44) rfl)) rfl
theorem wv_X6_drawn : Cond.instanceMethod yX6_drawn ∈ BW := bw_t (bw_5 (List.mem_of_getElem? (i := 42) rfl)) rfl
theorem we_X6_drawn : Cond.selects yX6_drawn.cls yX6_drawn yX6_drawn ∈ BW := bw_t (bw_5 (List.mem_of_getElem? (i := 43) rfl)) rfl
theorem wo_X6_drop : Cond.code yX6_drop cX6_drop 2 (some .int) ∈ BW := bw_t (bw_4 (List.mem_of_getElem? (i := 63) rfl)) rfl
theorem wv_X6_drop : Cond.instanceMethod yX6_drop ∈ BW := bw_t (bw_4 (List.mem_of_getElem? (i := 61) rfl)) rfl
theorem we_X6_drop : Cond.selects yX6_drop.cls yX6_drop yX6_drop ∈ BW := bw_t (bw_4 (List.mem_of_getElem? (i := 62) rfl)) rfl
theorem wo_X6_failed : Cond.code yX6_failed cX6_failed 1 (some .boolean) ∈ BW := bw_t (bw_4 (List.mem_of_getElem? (i := 125) rfl)) rfl
theorem wv_X6_failed : Cond.instanceMethod yX6_failed ∈ BW := bw_t (bw_4 (List.mem_of_getElem? (i := 124) rfl)) rfl
theorem we_X6_failed : Cond.selects yX6_failed.cls yX6_failed yX6_failed ∈ BW := bw_s (n := 26) (List.mem_append_right _ (List.mem_append_right _ (List.mem_append_left _ (List.mem_of_getElem? (i := 0) rfl)))) rfl
theorem wo_X6_far : Cond.code yX6_far cX6_far 3 (some .int) ∈ BW := bw_t (bw_4 (List.mem_of_getElem? (i := 206) rfl)) rfl
theorem wv_X6_far : Cond.instanceMethod yX6_far ∈ BW := bw_t (bw_4 (List.mem_of_getElem? (i := 204) rfl)) rfl
theorem we_X6_far : Cond.selects yX6_far.cls yX6_far yX6_far ∈ BW := bw_t (bw_4 (List.mem_of_getElem? (i := 205) rfl)) rfl
theorem wo_X6_farBy : Cond.code yX6_farBy cX6_farBy 3 (some .int) ∈ BW := bw_t (bw_4 (List.mem_of_getElem? (i := 156) rfl)) rfl
theorem wv_X6_farBy : Cond.instanceMethod yX6_farBy ∈ BW := bw_t (bw_4 (List.mem_of_getElem? (i := 155) rfl)) rfl
theorem we_X6_farBy : Cond.selects yX6_farBy.cls yX6_farBy yX6_farBy ∈ BW := bw_s (n := 26) (List.mem_append_right _ (List.mem_append_right _ (List.mem_append_left _ (List.mem_of_getElem? (i := 6) rfl)))) rfl
theorem wo_X6_fault : Cond.code yX6_fault cX6_fault 1 (some .int) ∈ BW := bw_t (bw_4 (List.mem_of_getElem? (i := 73) rfl)) rfl
theorem wv_X6_fault : Cond.instanceMethod yX6_fault ∈ BW := bw_t (bw_4 (List.mem_of_getElem? (i := 71) rfl)) rfl
theorem we_X6_fault : Cond.selects yX6_fault.cls yX6_fault yX6_fault ∈ BW := bw_t (bw_4 (List.mem_of_getElem? (i := 72) rfl)) rfl
theorem wo_X6_feed : Cond.code yX6_feed cX6_feed 2 (some .int) ∈ BW := bw_t (bw_4 (List.mem_of_getElem? (i := 67) rfl)) rfl
theorem wv_X6_feed : Cond.instanceMethod yX6_feed ∈ BW := bw_t (bw_4 (List.mem_of_getElem? (i := 65) rfl)) rfl
theorem we_X6_feed : Cond.selects yX6_feed.cls yX6_feed yX6_feed ∈ BW := bw_t (bw_4 (List.mem_of_getElem? (i := 66) rfl)) rfl
theorem wo_X6_fewest : Cond.code yX6_fewest cX6_fewest 7 (some .int) ∈ BW := bw_t (bw_4 (List.mem_of_getElem? (i := 235) rfl)) rfl
theorem wv_X6_fewest : Cond.instanceMethod yX6_fewest ∈ BW := bw_t (bw_4 (List.mem_of_getElem? (i := 233) rfl)) rfl
theorem we_X6_fewest : Cond.selects yX6_fewest.cls yX6_fewest yX6_fewest ∈ BW := bw_t (bw_4 (List.mem_of_getElem? (i := 234) rfl)) rfl
theorem wo_X6_finding : Cond.code yX6_finding cX6_finding 2 (some .int) ∈ BW := bw_t (bw_4 (List.mem_of_getElem? (i := 50) rfl)) rfl
theorem wv_X6_finding : Cond.instanceMethod yX6_finding ∈ BW := bw_t (bw_4 (List.mem_of_getElem? (i := 49) rfl)) rfl
theorem we_X6_finding : Cond.selects yX6_finding.cls yX6_finding yX6_finding ∈ BW := bw_s (n := 26) (List.mem_append_right _ (List.mem_append_left _ (List.mem_of_getElem? (i := 6) rfl))) rfl
theorem wo_X6_goesTo : Cond.code yX6_goesTo cX6_goesTo 5 (some .int) ∈ BW := bw_t (bw_4 (List.mem_of_getElem? (i := 173) rfl)) rfl
theorem wv_X6_goesTo : Cond.instanceMethod yX6_goesTo ∈ BW := bw_t (bw_4 (List.mem_of_getElem? (i := 172) rfl)) rfl
theorem we_X6_goesTo : Cond.selects yX6_goesTo.cls yX6_goesTo yX6_goesTo ∈ BW := bw_s (n := 26) (List.mem_append_right _ (List.mem_append_right _ (List.mem_append_left _ (List.mem_of_getElem? (i := 8) rfl)))) rfl
theorem wo_X6_half : Cond.code yX6_half cX6_half 4 (some .int) ∈ BW := bw_t (bw_5 (List.mem_of_getElem? (i := 33) rfl)) rfl
theorem wv_X6_half : Cond.instanceMethod yX6_half ∈ BW := bw_t (bw_5 (List.mem_of_getElem? (i := 31) rfl)) rfl
theorem we_X6_half : Cond.selects yX6_half.cls yX6_half yX6_half ∈ BW := bw_t (bw_5 (List.mem_of_getElem? (i := 32) rfl)) rfl
theorem wo_X6_hard : Cond.code yX6_hard cX6_hard 4 (some .int) ∈ BW := bw_t (bw_5 (List.mem_of_getElem? (i := 2) rfl)) rfl
theorem wv_X6_hard : Cond.instanceMethod yX6_hard ∈ BW := bw_t (bw_5 (List.mem_of_getElem? (i := 0) rfl)) rfl
theorem we_X6_hard : Cond.selects yX6_hard.cls yX6_hard yX6_hard ∈ BW := bw_t (bw_5 (List.mem_of_getElem? (i := 1) rfl)) rfl
theorem wo_X6_hour : Cond.code yX6_hour cX6_hour 7 none ∈ BW := bw_t (bw_4 (List.mem_of_getElem? (i := 148) rfl)) rfl
theorem wv_X6_hour : Cond.instanceMethod yX6_hour ∈ BW := bw_t (bw_4 (List.mem_of_getElem? (i := 147) rfl)) rfl
theorem we_X6_hour : Cond.selects yX6_hour.cls yX6_hour yX6_hour ∈ BW := bw_s (n := 26) (List.mem_append_right _ (List.mem_append_right _ (List.mem_append_left _ (List.mem_of_getElem? (i := 4) rfl)))) rfl
theorem wo_X6_hours : Cond.code yX6_hours cX6_hours 3 (some .int) ∈ BW := bw_t (bw_4 (List.mem_of_getElem? (i := 134) rfl)) rfl
theorem wv_X6_hours : Cond.instanceMethod yX6_hours ∈ BW := bw_t (bw_4 (List.mem_of_getElem? (i := 132) rfl)) rfl
theorem we_X6_hours : Cond.selects yX6_hours.cls yX6_hours yX6_hours ∈ BW := bw_t (bw_4 (List.mem_of_getElem? (i := 133) rfl)) rfl
theorem wo_X6_hoursOf : Cond.code yX6_hoursOf cX6_hoursOf 4 none ∈ BW := bw_t (bw_4 (List.mem_of_getElem? (i := 223) rfl)) rfl
theorem wv_X6_hoursOf : Cond.instanceMethod yX6_hoursOf ∈ BW := bw_t (bw_4 (List.mem_of_getElem? (i := 222) rfl)) rfl
theorem we_X6_hoursOf : Cond.selects yX6_hoursOf.cls yX6_hoursOf yX6_hoursOf ∈ BW := bw_s (n := 26) (List.mem_append_right _ (List.mem_append_right _ (List.mem_append_left _ (List.mem_of_getElem? (i := 13) rfl)))) rfl
theorem wo_X6_image : Cond.code yX6_image cX6_image 3 (some .int) ∈ BW := bw_t (bw_5 (List.mem_of_getElem? (i := 51) rfl)) rfl
theorem wv_X6_image : Cond.instanceMethod yX6_image ∈ BW := bw_t (bw_5 (List.mem_of_getElem? (i := 49) rfl)) rfl
theorem we_X6_image : Cond.selects yX6_image.cls yX6_image yX6_image ∈ BW := bw_t (bw_5 (List.mem_of_getElem? (i := 50) rfl)) rfl
theorem wo_X6_in : Cond.code yX6_in cX6_in 6 (some .boolean) ∈ BW := bw_t (bw_4 (List.mem_of_getElem? (i := 44) rfl)) rfl
theorem wt_X6_in : Cond.static yX6_in ∈ BW := bw_t (bw_4 (List.mem_of_getElem? (i := 43) rfl)) rfl
theorem wo_X6_isLetter : Cond.code yX6_isLetter cX6_isLetter 2 (some .boolean) ∈ BW := bw_t (bw_4 (List.mem_of_getElem? (i := 94) rfl)) rfl
theorem wv_X6_isLetter : Cond.instanceMethod yX6_isLetter ∈ BW := bw_t (bw_4 (List.mem_of_getElem? (i := 93) rfl)) rfl
theorem we_X6_isLetter : Cond.selects yX6_isLetter.cls yX6_isLetter yX6_isLetter ∈ BW := bw_s (n := 26) (List.mem_append_right _ (List.mem_append_left _ (List.mem_of_getElem? (i := 9) rfl))) rfl
theorem wo_X6_isOf : Cond.code yX6_isOf cX6_isOf 2 (some .boolean) ∈ BW := bw_t (bw_5 (List.mem_of_getElem? (i := 67) rfl)) rfl
theorem wt_X6_isOf : Cond.static yX6_isOf ∈ BW := bw_t (bw_5 (List.mem_of_getElem? (i := 66) rfl)) rfl
theorem wo_X6_isPlace : Cond.code yX6_isPlace cX6_isPlace 2 (some .boolean) ∈ BW := bw_t (bw_4 (List.mem_of_getElem? (i := 185) rfl)) rfl
theorem wv_X6_isPlace : Cond.instanceMethod yX6_isPlace ∈ BW := bw_t (bw_4 (List.mem_of_getElem? (i := 184) rfl)) rfl
theorem we_X6_isPlace : Cond.selects yX6_isPlace.cls yX6_isPlace yX6_isPlace ∈ BW := bw_s (n := 26) (List.mem_append_right _ (List.mem_append_right _ (List.mem_append_left _ (List.mem_of_getElem? (i := 10) rfl)))) rfl
theorem wo_X6_isRow : Cond.code yX6_isRow cX6_isRow 1 (some .boolean) ∈ BW := bw_t (bw_4 (List.mem_of_getElem? (i := 40) rfl)) rfl
theorem wt_X6_isRow : Cond.static yX6_isRow ∈ BW := bw_t (bw_4 (List.mem_of_getElem? (i := 39) rfl)) rfl
theorem wo_X6_isThere : Cond.code yX6_isThere cX6_isThere 1 (some .boolean) ∈ BW := bw_t (bw_4 (List.mem_of_getElem? (i := 138) rfl)) rfl
theorem wv_X6_isThere : Cond.instanceMethod yX6_isThere ∈ BW := bw_t (bw_4 (List.mem_of_getElem? (i := 137) rfl)) rfl
theorem we_X6_isThere : Cond.selects yX6_isThere.cls yX6_isThere yX6_isThere ∈ BW := bw_s (n := 26) (List.mem_append_right _ (List.mem_append_right _ (List.mem_append_left _ (List.mem_of_getElem? (i := 2) rfl)))) rfl
theorem wo_X6_isWisher : Cond.code yX6_isWisher cX6_isWisher 2 (some .boolean) ∈ BW := bw_t (bw_4 (List.mem_of_getElem? (i := 181) rfl)) rfl
theorem wv_X6_isWisher : Cond.instanceMethod yX6_isWisher ∈ BW := bw_t (bw_4 (List.mem_of_getElem? (i := 180) rfl)) rfl
theorem we_X6_isWisher : Cond.selects yX6_isWisher.cls yX6_isWisher yX6_isWisher ∈ BW := bw_s (n := 26) (List.mem_append_right _ (List.mem_append_right _ (List.mem_append_left _ (List.mem_of_getElem? (i := 9) rfl)))) rfl
theorem wo_X6_keep : Cond.code yX6_keep cX6_keep 2 none ∈ BW := bw_t (bw_4 (List.mem_of_getElem? (i := 144) rfl)) rfl
theorem wv_X6_keep : Cond.instanceMethod yX6_keep ∈ BW := bw_t (bw_4 (List.mem_of_getElem? (i := 143) rfl)) rfl
theorem we_X6_keep : Cond.selects yX6_keep.cls yX6_keep yX6_keep ∈ BW := bw_s (n := 26) (List.mem_append_right _ (List.mem_append_right _ (List.mem_append_left _ (List.mem_of_getElem? (i := 3) rfl)))) rfl
theorem wo_X6_kind : Cond.code yX6_kind cX6_kind 2 (some .int) ∈ BW := bw_t (bw_5 (List.mem_of_getElem? (i := 59) rfl)) rfl
theorem wv_X6_kind : Cond.instanceMethod yX6_kind ∈ BW := bw_t (bw_5 (List.mem_of_getElem? (i := 57) rfl)) rfl
theorem we_X6_kind : Cond.selects yX6_kind.cls yX6_kind yX6_kind ∈ BW := bw_t (bw_5 (List.mem_of_getElem? (i := 58) rfl)) rfl
theorem wo_X6_kindBy : Cond.code yX6_kindBy cX6_kindBy 1 (some .int) ∈ BW := bw_t (bw_4 (List.mem_of_getElem? (i := 117) rfl)) rfl
theorem wt_X6_kindBy : Cond.static yX6_kindBy ∈ BW := bw_t (bw_4 (List.mem_of_getElem? (i := 116) rfl)) rfl
theorem wo_X6_land : Cond.code yX6_land cX6_land 2 (some .int) ∈ BW := bw_t (bw_4 (List.mem_of_getElem? (i := 77) rfl)) rfl
theorem wv_X6_land : Cond.instanceMethod yX6_land ∈ BW := bw_t (bw_4 (List.mem_of_getElem? (i := 75) rfl)) rfl
theorem we_X6_land : Cond.selects yX6_land.cls yX6_land yX6_land ∈ BW := bw_t (bw_4 (List.mem_of_getElem? (i := 76) rfl)) rfl
theorem wo_X6_layFar : Cond.code yX6_layFar cX6_layFar 6 none ∈ BW := bw_t (bw_4 (List.mem_of_getElem? (i := 130) rfl)) rfl
theorem wv_X6_layFar : Cond.instanceMethod yX6_layFar ∈ BW := bw_t (bw_4 (List.mem_of_getElem? (i := 129) rfl)) rfl
theorem we_X6_layFar : Cond.selects yX6_layFar.cls yX6_layFar yX6_layFar ∈ BW := bw_s (n := 26) (List.mem_append_right _ (List.mem_append_right _ (List.mem_append_left _ (List.mem_of_getElem? (i := 1) rfl)))) rfl
theorem wo_X6_layPulls : Cond.code yX6_layPulls cX6_layPulls 6 none ∈ BW := bw_t (bw_4 (List.mem_of_getElem? (i := 152) rfl)) rfl
theorem wv_X6_layPulls : Cond.instanceMethod yX6_layPulls ∈ BW := bw_t (bw_4 (List.mem_of_getElem? (i := 151) rfl)) rfl
theorem we_X6_layPulls : Cond.selects yX6_layPulls.cls yX6_layPulls yX6_layPulls ∈ BW := bw_s (n := 26) (List.mem_append_right _ (List.mem_append_right _ (List.mem_append_left _ (List.mem_of_getElem? (i := 5) rfl)))) rfl
theorem wo_X6_layThen : Cond.code yX6_layThen cX6_layThen 2 none ∈ BW := bw_t (bw_4 (List.mem_of_getElem? (i := 215) rfl)) rfl
theorem wv_X6_layThen : Cond.instanceMethod yX6_layThen ∈ BW := bw_t (bw_4 (List.mem_of_getElem? (i := 214) rfl)) rfl
theorem we_X6_layThen : Cond.selects yX6_layThen.cls yX6_layThen yX6_layThen ∈ BW := bw_s (n := 26) (List.mem_append_right _ (List.mem_append_right _ (List.mem_append_left _ (List.mem_of_getElem? (i := 11) rfl)))) rfl
theorem wo_X6_markOf : Cond.code yX6_markOf cX6_markOf 4 (some .int) ∈ BW := bw_t (bw_5 (List.mem_of_getElem? (i := 91) rfl)) rfl
theorem wv_X6_markOf : Cond.instanceMethod yX6_markOf ∈ BW := bw_t (bw_5 (List.mem_of_getElem? (i := 90) rfl)) rfl
theorem we_X6_markOf : Cond.selects yX6_markOf.cls yX6_markOf yX6_markOf ∈ BW := bw_s (n := 26) (List.mem_append_right _ (List.mem_append_right _ (List.mem_append_right _ (List.mem_of_getElem? (i := 4) rfl)))) rfl
theorem wo_X6_must : Cond.code yX6_must cX6_must 2 none ∈ BW := bw_t (bw_4 (List.mem_of_getElem? (i := 98) rfl)) rfl
theorem wv_X6_must : Cond.instanceMethod yX6_must ∈ BW := bw_t (bw_4 (List.mem_of_getElem? (i := 97) rfl)) rfl
theorem we_X6_must : Cond.selects yX6_must.cls yX6_must yX6_must ∈ BW := bw_s (n := 26) (List.mem_append_right _ (List.mem_append_left _ (List.mem_of_getElem? (i := 10) rfl))) rfl
theorem wo_X6_mustSign : Cond.code yX6_mustSign cX6_mustSign 2 none ∈ BW := bw_t (bw_4 (List.mem_of_getElem? (i := 110) rfl)) rfl
theorem wv_X6_mustSign : Cond.instanceMethod yX6_mustSign ∈ BW := bw_t (bw_4 (List.mem_of_getElem? (i := 109) rfl)) rfl
theorem we_X6_mustSign : Cond.selects yX6_mustSign.cls yX6_mustSign yX6_mustSign ∈ BW := bw_s (n := 26) (List.mem_append_right _ (List.mem_append_left _ (List.mem_of_getElem? (i := 13) rfl))) rfl
theorem wo_X6_nextToken : Cond.code yX6_nextToken cX6_nextToken 1 none ∈ BW := bw_t (bw_4 (List.mem_of_getElem? (i := 85) rfl)) rfl
theorem wv_X6_nextToken : Cond.instanceMethod yX6_nextToken ∈ BW := bw_t (bw_4 (List.mem_of_getElem? (i := 84) rfl)) rfl
theorem we_X6_nextToken : Cond.selects yX6_nextToken.cls yX6_nextToken yX6_nextToken ∈ BW := bw_s (n := 26) (List.mem_append_right _ (List.mem_append_left _ (List.mem_of_getElem? (i := 8) rfl))) rfl
theorem wo_X6_number : Cond.code yX6_number cX6_number 4 (some .int) ∈ BW := bw_t (bw_4 (List.mem_of_getElem? (i := 106) rfl)) rfl
theorem wv_X6_number : Cond.instanceMethod yX6_number ∈ BW := bw_t (bw_4 (List.mem_of_getElem? (i := 105) rfl)) rfl
theorem we_X6_number : Cond.selects yX6_number.cls yX6_number yX6_number ∈ BW := bw_s (n := 26) (List.mem_append_right _ (List.mem_append_left _ (List.mem_of_getElem? (i := 12) rfl))) rfl
theorem wo_X6_of : Cond.code yX6_of cX6_of 3 (some .int) ∈ BW := bw_t (bw_4 (List.mem_of_getElem? (i := 162) rfl)) rfl
theorem wt_X6_of : Cond.static yX6_of ∈ BW := bw_t (bw_4 (List.mem_of_getElem? (i := 161) rfl)) rfl
theorem wo_X6_place : Cond.code yX6_place cX6_place 3 (some .int) ∈ BW := bw_t (bw_4 (List.mem_of_getElem? (i := 202) rfl)) rfl
theorem wv_X6_place : Cond.instanceMethod yX6_place ∈ BW := bw_t (bw_4 (List.mem_of_getElem? (i := 200) rfl)) rfl
theorem we_X6_place : Cond.selects yX6_place.cls yX6_place yX6_place ∈ BW := bw_t (bw_4 (List.mem_of_getElem? (i := 201) rfl)) rfl
theorem wo_X6_plainSize : Cond.code yX6_plainSize cX6_plainSize 2 (some .int) ∈ BW := bw_t (bw_5 (List.mem_of_getElem? (i := 87) rfl)) rfl
theorem wv_X6_plainSize : Cond.instanceMethod yX6_plainSize ∈ BW := bw_t (bw_5 (List.mem_of_getElem? (i := 86) rfl)) rfl
theorem we_X6_plainSize : Cond.selects yX6_plainSize.cls yX6_plainSize yX6_plainSize ∈ BW := bw_s (n := 26) (List.mem_append_right _ (List.mem_append_right _ (List.mem_append_right _ (List.mem_of_getElem? (i := 3) rfl)))) rfl
theorem wo_X6_readRoad : Cond.code yX6_readRoad cX6_readRoad 3 none ∈ BW := bw_t (bw_4 (List.mem_of_getElem? (i := 114) rfl)) rfl
theorem wv_X6_readRoad : Cond.instanceMethod yX6_readRoad ∈ BW := bw_t (bw_4 (List.mem_of_getElem? (i := 113) rfl)) rfl
theorem we_X6_readRoad : Cond.selects yX6_readRoad.cls yX6_readRoad yX6_readRoad ∈ BW := bw_s (n := 26) (List.mem_append_right _ (List.mem_append_left _ (List.mem_of_getElem? (i := 14) rfl))) rfl
theorem wo_X6_readWisher : Cond.code yX6_readWisher cX6_readWisher 8 none ∈ BW := bw_t (bw_4 (List.mem_of_getElem? (i := 121) rfl)) rfl
theorem wv_X6_readWisher : Cond.instanceMethod yX6_readWisher ∈ BW := bw_t (bw_4 (List.mem_of_getElem? (i := 120) rfl)) rfl
theorem we_X6_readWisher : Cond.selects yX6_readWisher.cls yX6_readWisher yX6_readWisher ∈ BW := bw_s (n := 26) (List.mem_append_right _ (List.mem_append_left _ (List.mem_of_getElem? (i := 15) rfl))) rfl
theorem wo_X6_rest : Cond.code yX6_rest cX6_rest 5 (some .int) ∈ BW := bw_t (bw_4 (List.mem_of_getElem? (i := 190) rfl)) rfl
theorem wv_X6_rest : Cond.instanceMethod yX6_rest ∈ BW := bw_t (bw_4 (List.mem_of_getElem? (i := 188) rfl)) rfl
theorem we_X6_rest : Cond.selects yX6_rest.cls yX6_rest yX6_rest ∈ BW := bw_t (bw_4 (List.mem_of_getElem? (i := 189) rfl)) rfl
theorem wo_X6_restore : Cond.code yX6_restore cX6_restore 3 (some .int) ∈ BW := bw_t (bw_5 (List.mem_of_getElem? (i := 55) rfl)) rfl
theorem wv_X6_restore : Cond.instanceMethod yX6_restore ∈ BW := bw_t (bw_5 (List.mem_of_getElem? (i := 53) rfl)) rfl
theorem we_X6_restore : Cond.selects yX6_restore.cls yX6_restore yX6_restore ∈ BW := bw_t (bw_5 (List.mem_of_getElem? (i := 54) rfl)) rfl
theorem wo_X6_round : Cond.code yX6_round cX6_round 4 (some .int) ∈ BW := bw_t (bw_5 (List.mem_of_getElem? (i := 23) rfl)) rfl
theorem wv_X6_round : Cond.instanceMethod yX6_round ∈ BW := bw_t (bw_5 (List.mem_of_getElem? (i := 21) rfl)) rfl
theorem we_X6_round : Cond.selects yX6_round.cls yX6_round yX6_round ∈ BW := bw_t (bw_5 (List.mem_of_getElem? (i := 22) rfl)) rfl
theorem wo_X6_row : Cond.code yX6_row cX6_row 5 (some .int) ∈ BW := bw_t (bw_4 (List.mem_of_getElem? (i := 37) rfl)) rfl
theorem wv_X6_row : Cond.instanceMethod yX6_row ∈ BW := bw_t (bw_4 (List.mem_of_getElem? (i := 35) rfl)) rfl
theorem we_X6_row : Cond.selects yX6_row.cls yX6_row yX6_row ∈ BW := bw_t (bw_4 (List.mem_of_getElem? (i := 36) rfl)) rfl
theorem wo_X6_seen : Cond.code yX6_seen cX6_seen 9 (some .int) ∈ BW := bw_t (bw_5 (List.mem_of_getElem? (i := 10) rfl)) rfl
theorem wv_X6_seen : Cond.instanceMethod yX6_seen ∈ BW := bw_t (bw_5 (List.mem_of_getElem? (i := 8) rfl)) rfl
theorem we_X6_seen : Cond.selects yX6_seen.cls yX6_seen yX6_seen ∈ BW := bw_t (bw_5 (List.mem_of_getElem? (i := 9) rfl)) rfl
theorem wo_X6_set : Cond.code yX6_set cX6_set 4 (some .int) ∈ BW := bw_t (bw_4 (List.mem_of_getElem? (i := 55) rfl)) rfl
theorem wv_X6_set : Cond.instanceMethod yX6_set ∈ BW := bw_t (bw_4 (List.mem_of_getElem? (i := 53) rfl)) rfl
theorem we_X6_set : Cond.selects yX6_set.cls yX6_set yX6_set ∈ BW := bw_t (bw_4 (List.mem_of_getElem? (i := 54) rfl)) rfl
theorem wo_X6_sizeOf : Cond.code yX6_sizeOf cX6_sizeOf 4 (some .int) ∈ BW := bw_t (bw_5 (List.mem_of_getElem? (i := 75) rfl)) rfl
theorem wv_X6_sizeOf : Cond.instanceMethod yX6_sizeOf ∈ BW := bw_t (bw_5 (List.mem_of_getElem? (i := 74) rfl)) rfl
theorem we_X6_sizeOf : Cond.selects yX6_sizeOf.cls yX6_sizeOf yX6_sizeOf ∈ BW := bw_s (n := 26) (List.mem_append_right _ (List.mem_append_right _ (List.mem_append_right _ (List.mem_of_getElem? (i := 0) rfl)))) rfl
theorem wo_X6_soNow : Cond.code yX6_soNow cX6_soNow 4 (some .long) ∈ BW := bw_t (bw_5 (List.mem_of_getElem? (i := 27) rfl)) rfl
theorem wv_X6_soNow : Cond.instanceMethod yX6_soNow ∈ BW := bw_t (bw_5 (List.mem_of_getElem? (i := 26) rfl)) rfl
theorem we_X6_soNow : Cond.selects yX6_soNow.cls yX6_soNow yX6_soNow ∈ BW := bw_s (n := 26) (List.mem_append_right _ (List.mem_append_right _ (List.mem_append_left _ (List.mem_of_getElem? (i := 15) rfl)))) rfl
theorem wo_X6_status : Cond.code yX6_status cX6_status 1 (some .int) ∈ BW := bw_t (bw_5 (List.mem_of_getElem? (i := 103) rfl)) rfl
theorem wv_X6_status : Cond.instanceMethod yX6_status ∈ BW := bw_t (bw_5 (List.mem_of_getElem? (i := 101) rfl)) rfl
theorem we_X6_status : Cond.selects yX6_status.cls yX6_status yX6_status ∈ BW := bw_t (bw_5 (List.mem_of_getElem? (i := 102) rfl)) rfl
theorem wo_X6_stolen : Cond.code yX6_stolen cX6_stolen 7 (some .int) ∈ BW := bw_t (bw_5 (List.mem_of_getElem? (i := 6) rfl)) rfl
theorem wv_X6_stolen : Cond.instanceMethod yX6_stolen ∈ BW := bw_t (bw_5 (List.mem_of_getElem? (i := 4) rfl)) rfl
theorem we_X6_stolen : Cond.selects yX6_stolen.cls yX6_stolen yX6_stolen ∈ BW := bw_t (bw_5 (List.mem_of_getElem? (i := 5) rfl)) rfl
theorem wo_X6_trace : Cond.code yX6_trace cX6_trace 2 (some .int) ∈ BW := bw_t (bw_5 (List.mem_of_getElem? (i := 95) rfl)) rfl
theorem wv_X6_trace : Cond.instanceMethod yX6_trace ∈ BW := bw_t (bw_5 (List.mem_of_getElem? (i := 93) rfl)) rfl
theorem we_X6_trace : Cond.selects yX6_trace.cls yX6_trace yX6_trace ∈ BW := bw_t (bw_5 (List.mem_of_getElem? (i := 94) rfl)) rfl
theorem wo_X6_undo : Cond.code yX6_undo cX6_undo 2 (some .int) ∈ BW := bw_t (bw_4 (List.mem_of_getElem? (i := 194) rfl)) rfl
theorem wv_X6_undo : Cond.instanceMethod yX6_undo ∈ BW := bw_t (bw_4 (List.mem_of_getElem? (i := 192) rfl)) rfl
theorem we_X6_undo : Cond.selects yX6_undo.cls yX6_undo yX6_undo ∈ BW := bw_t (bw_4 (List.mem_of_getElem? (i := 193) rfl)) rfl
theorem wo_X6_visits : Cond.code yX6_visits cX6_visits 4 (some .int) ∈ BW := bw_t (bw_4 (List.mem_of_getElem? (i := 231) rfl)) rfl
theorem wv_X6_visits : Cond.instanceMethod yX6_visits ∈ BW := bw_t (bw_4 (List.mem_of_getElem? (i := 229) rfl)) rfl
theorem we_X6_visits : Cond.selects yX6_visits.cls yX6_visits yX6_visits ∈ BW := bw_t (bw_4 (List.mem_of_getElem? (i := 230) rfl)) rfl
theorem wo_X6_who : Cond.code yX6_who cX6_who 7 (some .int) ∈ BW := bw_t (bw_5 (List.mem_of_getElem? (i := 19) rfl)) rfl
theorem wv_X6_who : Cond.instanceMethod yX6_who ∈ BW := bw_t (bw_5 (List.mem_of_getElem? (i := 17) rfl)) rfl
theorem we_X6_who : Cond.selects yX6_who.cls yX6_who yX6_who ∈ BW := bw_t (bw_5 (List.mem_of_getElem? (i := 18) rfl)) rfl
theorem wo_X6_wish : Cond.code yX6_wish cX6_wish 5 (some .int) ∈ BW := bw_t (bw_4 (List.mem_of_getElem? (i := 177) rfl)) rfl
theorem wv_X6_wish : Cond.instanceMethod yX6_wish ∈ BW := bw_t (bw_4 (List.mem_of_getElem? (i := 175) rfl)) rfl
theorem we_X6_wish : Cond.selects yX6_wish.cls yX6_wish yX6_wish ∈ BW := bw_t (bw_4 (List.mem_of_getElem? (i := 176) rfl)) rfl
theorem wo_X6_wishBy : Cond.code yX6_wishBy cX6_wishBy 6 (some .int) ∈ BW := bw_t (bw_4 (List.mem_of_getElem? (i := 166) rfl)) rfl
theorem wv_X6_wishBy : Cond.instanceMethod yX6_wishBy ∈ BW := bw_t (bw_4 (List.mem_of_getElem? (i := 165) rfl)) rfl
theorem we_X6_wishBy : Cond.selects yX6_wishBy.cls yX6_wishBy yX6_wishBy ∈ BW := bw_s (n := 26) (List.mem_append_right _ (List.mem_append_right _ (List.mem_append_left _ (List.mem_of_getElem? (i := 7) rfl)))) rfl
theorem wo_X6_wisher : Cond.code yX6_wisher cX6_wisher 3 (some .int) ∈ BW := bw_t (bw_4 (List.mem_of_getElem? (i := 198) rfl)) rfl
theorem wv_X6_wisher : Cond.instanceMethod yX6_wisher ∈ BW := bw_t (bw_4 (List.mem_of_getElem? (i := 196) rfl)) rfl
theorem we_X6_wisher : Cond.selects yX6_wisher.cls yX6_wisher yX6_wisher ∈ BW := bw_t (bw_4 (List.mem_of_getElem? (i := 197) rfl)) rfl
theorem wo_X6_wishes : Cond.code yX6_wishes cX6_wishes 2 (some .boolean) ∈ BW := bw_t (bw_4 (List.mem_of_getElem? (i := 159) rfl)) rfl
theorem wt_X6_wishes : Cond.static yX6_wishes ∈ BW := bw_t (bw_4 (List.mem_of_getElem? (i := 158) rfl)) rfl
theorem wo_J6_bitCount_0f7a4 : Cond.code yJ6_bitCount_0f7a4 cJ6_bitCount_0f7a4 1 (some .int) ∈ BW := bw_t (bw_2 (List.mem_of_getElem? (i := 231) rfl)) rfl
theorem wt_J6_bitCount_0f7a4 : Cond.static yJ6_bitCount_0f7a4 ∈ BW := bw_t (bw_2 (List.mem_of_getElem? (i := 230) rfl)) rfl
theorem wo_mmax : Cond.code Lib.Math.max.name Lib.Math.max.code 2 (some .int) ∈ BW := bw_t (bw_2 (List.mem_of_getElem? (i := 202) rfl)) rfl
theorem wt_mmax : Cond.static Lib.Math.max.name ∈ BW := bw_t (bw_2 (List.mem_of_getElem? (i := 201) rfl)) rfl
theorem wo_mmin : Cond.code Lib.Math.min.name Lib.Math.min.code 2 (some .int) ∈ BW := bw_t (bw_2 (List.mem_of_getElem? (i := 139) rfl)) rfl
theorem wt_mmin : Cond.static Lib.Math.min.name ∈ BW := bw_t (bw_2 (List.mem_of_getElem? (i := 138) rfl)) rfl
theorem wo_objinit : Cond.code objectInit ⟨#[0xb1]⟩ 1 none ∈ BW := bw_t (bw_1 (List.mem_of_getElem? (i := 18) rfl)) rfl
theorem wv_objinit : Cond.instanceMethod objectInit ∈ BW := bw_t (bw_1 (List.mem_of_getElem? (i := 17) rfl)) rfl
theorem wt_acopy : Cond.static arraycopyName ∈ BW := bw_t (bw_2 (List.mem_of_getElem? (i := 49) rfl)) rfl
theorem wt_acopyN : Cond.native arraycopyName ∈ BW := bw_t (bw_2 (List.mem_of_getElem? (i := 50) rfl)) rfl
theorem nw_X5_18 : Cond.methodLinkNest RX5 18 yX4_init "BlueHue" ∈ tables_1 := bw_1 (List.mem_of_getElem? (i := 43) rfl)
theorem nw_X5_25 : Cond.methodLinkNest RX5 25 yX1_init "BlueHue" ∈ tables_1 := bw_1 (List.mem_of_getElem? (i := 70) rfl)
theorem nw_X5_32 : Cond.methodLinkNest RX5 32 yX0_init "BlueHue" ∈ tables_1 := bw_1 (List.mem_of_getElem? (i := 123) rfl)
theorem nw_X0_60 : Cond.methodLinkNest RX0 60 yX5_bit "BlueHue" ∈ tables_1 := bw_2 (List.mem_of_getElem? (i := 195) rfl)
theorem nw_X1_49 : Cond.methodLinkNest RX1 49 yX5_bit "BlueHue" ∈ tables_1 := bw_2 (List.mem_of_getElem? (i := 119) rfl)
theorem nw_X2_17 : Cond.methodLinkNest RX2 17 yX0_init "BlueHue" ∈ tables_1 := bw_1 (List.mem_of_getElem? (i := 180) rfl)
theorem nw_X4_32 : Cond.methodLinkNest RX4 32 yX5_within "BlueHue" ∈ tables_1 := bw_2 (List.mem_of_getElem? (i := 104) rfl)
theorem no_I : Cond.arrayOver (.array .int) ∈ tables_1 := bw_1 (List.mem_of_getElem? (i := 26) rfl)
theorem no_X0 : Cond.arrayOver (.object RX0) ∈ tables_1 := bw_1 (List.mem_of_getElem? (i := 179) rfl)
theorem no_X1 : Cond.arrayOver (.object RX1) ∈ tables_1 := bw_1 (List.mem_of_getElem? (i := 192) rfl)
