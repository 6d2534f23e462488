abbrev rJ6_bitCount_0f7a4 : Room := { frames := 0, cells := 0, slots := 0, locals := 0 }
theorem hs_J6_bitCount_0f7a4 : MS yJ6_bitCount_0f7a4 cJ6_bitCount_0f7a4 1 (some .int) 1 := ⟨⟨wo_J6_bitCount_0f7a4, wi_J6, by decide +kernel, by decide +kernel, by decide +kernel⟩, wt_J6_bitCount_0f7a4⟩
abbrev rX0_become : Room := { frames := 0, cells := 0, slots := 0, locals := 0 }
theorem hv_X0_become : MV yX0_become cX0_become 3 none 2 := ⟨⟨wo_X0_become, wi_X0, by decide +kernel, by decide +kernel, by decide +kernel⟩, wv_X0_become, we_X0_become⟩
abbrev rX0_code : Room := { frames := 0, cells := 0, slots := 0, locals := 0 }
theorem hv_X0_code : MV yX0_code cX0_code 4 (some .long) 0 := ⟨⟨wo_X0_code, wi_X0, by decide +kernel, by decide +kernel, by decide +kernel⟩, wv_X0_code, we_X0_code⟩
abbrev rX0_decide : Room := { frames := 0, cells := 0, slots := 0, locals := 0 }
theorem hv_X0_decide : MV yX0_decide cX0_decide 5 (some .int) 1 := ⟨⟨wo_X0_decide, wi_X0, by decide +kernel, by decide +kernel, by decide +kernel⟩, wv_X0_decide, we_X0_decide⟩
abbrev rX0_force : Room := { frames := 1, cells := 0, slots := 0, locals := 22 }
theorem hv_X0_force : MV yX0_force cX0_force 5 (some .int) 2 := ⟨⟨wo_X0_force, wi_X0, by decide +kernel, by decide +kernel, by decide +kernel⟩, wv_X0_force, we_X0_force⟩
abbrev rX0_goesTo : Room := { frames := 1, cells := 0, slots := 0, locals := 24 }
theorem hv_X0_goesTo : MV yX0_goesTo cX0_goesTo 3 (some .int) 1 := ⟨⟨wo_X0_goesTo, wi_X0, by decide +kernel, by decide +kernel, by decide +kernel⟩, wv_X0_goesTo, we_X0_goesTo⟩
abbrev rX0_init : Room := { frames := 1, cells := 5, slots := 30, locals := 20 }
theorem hi_X0_init : MI yX0_init cX0_init 1 0 := ⟨⟨wo_X0_init, wi_X0, by decide +kernel, by decide +kernel, by decide +kernel⟩, wv_X0_init, rfl⟩
abbrev rX0_pass : Room := { frames := 3, cells := 0, slots := 0, locals := 68 }
theorem hv_X0_pass : MV yX0_pass cX0_pass 3 none 1 := ⟨⟨wo_X0_pass, wi_X0, by decide +kernel, by decide +kernel, by decide +kernel⟩, wv_X0_pass, we_X0_pass⟩
abbrev rX0_passMany : Room := { frames := 4, cells := 0, slots := 0, locals := 90 }
theorem hv_X0_passMany : MV yX0_passMany cX0_passMany 4 none 2 := ⟨⟨wo_X0_passMany, wi_X0, by decide +kernel, by decide +kernel, by decide +kernel⟩, wv_X0_passMany, we_X0_passMany⟩
abbrev rX0_take : Room := { frames := 1, cells := 0, slots := 0, locals := 60 }
theorem hv_X0_take : MV yX0_take cX0_take 2 none 1 := ⟨⟨wo_X0_take, wi_X0, by decide +kernel, by decide +kernel, by decide +kernel⟩, wv_X0_take, we_X0_take⟩
abbrev rX0_tire : Room := { frames := 2, cells := 0, slots := 0, locals := 44 }
theorem hv_X0_tire : MV yX0_tire cX0_tire 4 none 1 := ⟨⟨wo_X0_tire, wi_X0, by decide +kernel, by decide +kernel, by decide +kernel⟩, wv_X0_tire, we_X0_tire⟩
abbrev rX0_weigh : Room := { frames := 2, cells := 0, slots := 0, locals := 46 }
theorem hv_X0_weigh : MV yX0_weigh cX0_weigh 3 none 1 := ⟨⟨wo_X0_weigh, wi_X0, by decide +kernel, by decide +kernel, by decide +kernel⟩, wv_X0_weigh, we_X0_weigh⟩
abbrev rX0_wishes : Room := { frames := 1, cells := 0, slots := 0, locals := 21 }
theorem hv_X0_wishes : MV yX0_wishes cX0_wishes 4 (some .boolean) 2 := ⟨⟨wo_X0_wishes, wi_X0, by decide +kernel, by decide +kernel, by decide +kernel⟩, wv_X0_wishes, we_X0_wishes⟩
abbrev rX0_wishing : Room := { frames := 2, cells := 0, slots := 0, locals := 44 }
theorem hv_X0_wishing : MV yX0_wishing cX0_wishing 4 (some .int) 1 := ⟨⟨wo_X0_wishing, wi_X0, by decide +kernel, by decide +kernel, by decide +kernel⟩, wv_X0_wishing, we_X0_wishing⟩
abbrev rX1_clear : Room := { frames := 0, cells := 0, slots := 0, locals := 0 }
theorem hv_X1_clear : MV yX1_clear cX1_clear 2 none 0 := ⟨⟨wo_X1_clear, wi_X1, by decide +kernel, by decide +kernel, by decide +kernel⟩, wv_X1_clear, we_X1_clear⟩
abbrev rX1_everyone : Room := { frames := 0, cells := 0, slots := 0, locals := 0 }
theorem hv_X1_everyone : MV yX1_everyone cX1_everyone 1 (some .int) 0 := ⟨⟨wo_X1_everyone, wi_X1, by decide +kernel, by decide +kernel, by decide +kernel⟩, wv_X1_everyone, we_X1_everyone⟩
abbrev rX1_init : Room := { frames := 1, cells := 5, slots := 60, locals := 20 }
theorem hi_X1_init : MI yX1_init cX1_init 1 0 := ⟨⟨wo_X1_init, wi_X1, by decide +kernel, by decide +kernel, by decide +kernel⟩, wv_X1_init, rfl⟩
abbrev rX1_joins : Room := { frames := 1, cells := 0, slots := 0, locals := 21 }
theorem hv_X1_joins : MV yX1_joins cX1_joins 3 (some .boolean) 2 := ⟨⟨wo_X1_joins, wi_X1, by decide +kernel, by decide +kernel, by decide +kernel⟩, wv_X1_joins, we_X1_joins⟩
abbrev rX1_measure : Room := { frames := 1, cells := 0, slots := 0, locals := 22 }
theorem hv_X1_measure : MV yX1_measure cX1_measure 5 none 0 := ⟨⟨wo_X1_measure, wi_X1, by decide +kernel, by decide +kernel, by decide +kernel⟩, wv_X1_measure, we_X1_measure⟩
abbrev rX1_take : Room := { frames := 1, cells := 0, slots := 0, locals := 60 }
theorem hv_X1_take : MV yX1_take cX1_take 2 none 1 := ⟨⟨wo_X1_take, wi_X1, by decide +kernel, by decide +kernel, by decide +kernel⟩, wv_X1_take, we_X1_take⟩
abbrev rX1_way : Room := { frames := 0, cells := 0, slots := 0, locals := 0 }
theorem hv_X1_way : MV yX1_way cX1_way 3 (some .int) 2 := ⟨⟨wo_X1_way, wi_X1, by decide +kernel, by decide +kernel, by decide +kernel⟩, wv_X1_way, we_X1_way⟩
abbrev rX2_forget : Room := { frames := 0, cells := 0, slots := 0, locals := 0 }
theorem hv_X2_forget : MV yX2_forget cX2_forget 1 none 0 := ⟨⟨wo_X2_forget, wi_X2, by decide +kernel, by decide +kernel, by decide +kernel⟩, wv_X2_forget, we_X2_forget⟩
abbrev rX2_goBack : Room := { frames := 2, cells := 0, slots := 0, locals := 81 }
theorem hv_X2_goBack : MV yX2_goBack cX2_goBack 2 none 1 := ⟨⟨wo_X2_goBack, wi_X2, by decide +kernel, by decide +kernel, by decide +kernel⟩, wv_X2_goBack, we_X2_goBack⟩
abbrev rX2_init : Room := { frames := 2, cells := 145, slots := 1008, locals := 40 }
theorem hi_X2_init : MI yX2_init cX2_init 2 0 := ⟨⟨wo_X2_init, wi_X2, by decide +kernel, by decide +kernel, by decide +kernel⟩, wv_X2_init, rfl⟩
abbrev rX2_keep : Room := { frames := 2, cells := 0, slots := 0, locals := 81 }
theorem hv_X2_keep : MV yX2_keep cX2_keep 2 none 1 := ⟨⟨wo_X2_keep, wi_X2, by decide +kernel, by decide +kernel, by decide +kernel⟩, wv_X2_keep, we_X2_keep⟩
abbrev rX3_init : Room := { frames := 1, cells := 11, slots := 344, locals := 20 }
theorem hi_X3_init : MI yX3_init cX3_init 2 0 := ⟨⟨wo_X3_init, wi_X3, by decide +kernel, by decide +kernel, by decide +kernel⟩, wv_X3_init, rfl⟩
abbrev rX3_isMissing : Room := { frames := 0, cells := 0, slots := 0, locals := 0 }
theorem hv_X3_isMissing : MV yX3_isMissing cX3_isMissing 2 (some .boolean) 1 := ⟨⟨wo_X3_isMissing, wi_X3, by decide +kernel, by decide +kernel, by decide +kernel⟩, wv_X3_isMissing, we_X3_isMissing⟩
abbrev rX3_look : Room := { frames := 1, cells := 0, slots := 0, locals := 21 }
theorem hv_X3_look : MV yX3_look cX3_look 4 (some .int) 3 := ⟨⟨wo_X3_look, wi_X3, by decide +kernel, by decide +kernel, by decide +kernel⟩, wv_X3_look, we_X3_look⟩
abbrev rX3_make : Room := { frames := 0, cells := 0, slots := 0, locals := 0 }
theorem hv_X3_make : MV yX3_make cX3_make 5 none 3 := ⟨⟨wo_X3_make, wi_X3, by decide +kernel, by decide +kernel, by decide +kernel⟩, wv_X3_make, we_X3_make⟩
abbrev rX3_many : Room := { frames := 1, cells := 0, slots := 0, locals := 21 }
theorem hv_X3_many : MV yX3_many cX3_many 3 (some .int) 0 := ⟨⟨wo_X3_many, wi_X3, by decide +kernel, by decide +kernel, by decide +kernel⟩, wv_X3_many, we_X3_many⟩
abbrev rX3_put : Room := { frames := 0, cells := 0, slots := 0, locals := 0 }
theorem hv_X3_put : MV yX3_put cX3_put 5 (some .int) 3 := ⟨⟨wo_X3_put, wi_X3, by decide +kernel, by decide +kernel, by decide +kernel⟩, wv_X3_put, we_X3_put⟩
abbrev rX4_begin : Room := { frames := 0, cells := 0, slots := 0, locals := 0 }
theorem hv_X4_begin : MV yX4_begin cX4_begin 1 none 0 := ⟨⟨wo_X4_begin, wi_X4, by decide +kernel, by decide +kernel, by decide +kernel⟩, wv_X4_begin, we_X4_begin⟩
abbrev rX4_byteAt : Room := { frames := 0, cells := 0, slots := 0, locals := 0 }
theorem hv_X4_byteAt : MV yX4_byteAt cX4_byteAt 2 (some .int) 1 := ⟨⟨wo_X4_byteAt, wi_X4, by decide +kernel, by decide +kernel, by decide +kernel⟩, wv_X4_byteAt, we_X4_byteAt⟩
abbrev rX4_expect : Room := { frames := 2, cells := 0, slots := 0, locals := 41 }
theorem hv_X4_expect : MV yX4_expect cX4_expect 2 none 1 := ⟨⟨wo_X4_expect, wi_X4, by decide +kernel, by decide +kernel, by decide +kernel⟩, wv_X4_expect, we_X4_expect⟩
abbrev rX4_fail : Room := { frames := 0, cells := 0, slots := 0, locals := 0 }
theorem hv_X4_fail : MV yX4_fail cX4_fail 3 none 2 := ⟨⟨wo_X4_fail, wi_X4, by decide +kernel, by decide +kernel, by decide +kernel⟩, wv_X4_fail, we_X4_fail⟩
abbrev rX4_goesOn : Room := { frames := 0, cells := 0, slots := 0, locals := 0 }
theorem hv_X4_goesOn : MV yX4_goesOn cX4_goesOn 1 (some .boolean) 0 := ⟨⟨wo_X4_goesOn, wi_X4, by decide +kernel, by decide +kernel, by decide +kernel⟩, wv_X4_goesOn, we_X4_goesOn⟩
abbrev rX4_init : Room := { frames := 1, cells := 1, slots := 120, locals := 20 }
theorem hi_X4_init : MI yX4_init cX4_init 1 0 := ⟨⟨wo_X4_init, wi_X4, by decide +kernel, by decide +kernel, by decide +kernel⟩, wv_X4_init, rfl⟩
abbrev rX4_isFigure : Room := { frames := 1, cells := 0, slots := 0, locals := 22 }
theorem hv_X4_isFigure : MV yX4_isFigure cX4_isFigure 2 (some .boolean) 1 := ⟨⟨wo_X4_isFigure, wi_X4, by decide +kernel, by decide +kernel, by decide +kernel⟩, wv_X4_isFigure, we_X4_isFigure⟩
abbrev rX4_next : Room := { frames := 1, cells := 0, slots := 0, locals := 21 }
theorem hv_X4_next : MV yX4_next cX4_next 1 (some .int) 0 := ⟨⟨wo_X4_next, wi_X4, by decide +kernel, by decide +kernel, by decide +kernel⟩, wv_X4_next, we_X4_next⟩
abbrev rX4_number : Room := { frames := 2, cells := 0, slots := 0, locals := 43 }
theorem hv_X4_number : MV yX4_number cX4_number 5 (some .int) 2 := ⟨⟨wo_X4_number, wi_X4, by decide +kernel, by decide +kernel, by decide +kernel⟩, wv_X4_number, we_X4_number⟩
abbrev rX5_ahead : Room := { frames := 5, cells := 0, slots := 0, locals := 113 }
theorem hv_X5_ahead : MV yX5_ahead cX5_ahead 3 (some .int) 2 := ⟨⟨wo_X5_ahead, wi_X5, by decide +kernel, by decide +kernel, by decide +kernel⟩, wv_X5_ahead, we_X5_ahead⟩
abbrev rX5_as : Room := { frames := 2, cells := 0, slots := 0, locals := 43 }
theorem hv_X5_as : MV yX5_as cX5_as 3 (some .int) 2 := ⟨⟨wo_X5_as, wi_X5, by decide +kernel, by decide +kernel, by decide +kernel⟩, wv_X5_as, we_X5_as⟩
abbrev rX5_ask : Room := { frames := 6, cells := 0, slots := 0, locals := 127 }
theorem hv_X5_ask : MV yX5_ask cX5_ask 4 (some .int) 2 := ⟨⟨wo_X5_ask, wi_X5, by decide +kernel, by decide +kernel, by decide +kernel⟩, wv_X5_ask, we_X5_ask⟩
abbrev rX5_awake : Room := { frames := 4, cells := 0, slots := 0, locals := 89 }
theorem hv_X5_awake : MV yX5_awake cX5_awake 13 (some .long) 2 := ⟨⟨wo_X5_awake, wi_X5, by decide +kernel, by decide +kernel, by decide +kernel⟩, wv_X5_awake, we_X5_awake⟩
abbrev rX5_bit : Room := { frames := 0, cells := 0, slots := 0, locals := 0 }
theorem hs_X5_bit : MS yX5_bit cX5_bit 2 (some .int) 2 := ⟨⟨wo_X5_bit, wi_X5, by decide +kernel, by decide +kernel, by decide +kernel⟩, wt_X5_bit⟩
abbrev rX5_childMark : Room := { frames := 4, cells := 0, slots := 0, locals := 84 }
theorem hv_X5_childMark : MV yX5_childMark cX5_childMark 3 (some .int) 1 := ⟨⟨wo_X5_childMark, wi_X5, by decide +kernel, by decide +kernel, by decide +kernel⟩, wv_X5_childMark, we_X5_childMark⟩
abbrev rX5_childSize : Room := { frames := 3, cells := 0, slots := 0, locals := 63 }
theorem hv_X5_childSize : MV yX5_childSize cX5_childSize 2 (some .int) 1 := ⟨⟨wo_X5_childSize, wi_X5, by decide +kernel, by decide +kernel, by decide +kernel⟩, wv_X5_childSize, we_X5_childSize⟩
abbrev rX5_comes : Room := { frames := 4, cells := 0, slots := 0, locals := 90 }
theorem hv_X5_comes : MV yX5_comes cX5_comes 4 (some .int) 2 := ⟨⟨wo_X5_comes, wi_X5, by decide +kernel, by decide +kernel, by decide +kernel⟩, wv_X5_comes, we_X5_comes⟩
abbrev rX5_comesAsTold : Room := { frames := 4, cells := 0, slots := 0, locals := 90 }
theorem hv_X5_comesAsTold : MV yX5_comesAsTold cX5_comesAsTold 6 (some .boolean) 3 := ⟨⟨wo_X5_comesAsTold, wi_X5, by decide +kernel, by decide +kernel, by decide +kernel⟩, wv_X5_comesAsTold, we_X5_comesAsTold⟩
abbrev rX5_commonDivisor : Room := { frames := 0, cells := 0, slots := 0, locals := 0 }
theorem hs_X5_commonDivisor : MS yX5_commonDivisor cX5_commonDivisor 7 (some .long) 2 := ⟨⟨wo_X5_commonDivisor, wi_X5, by decide +kernel, by decide +kernel, by decide +kernel⟩, wt_X5_commonDivisor⟩
abbrev rX5_copy : Room := { frames := 2, cells := 0, slots := 0, locals := 60 }
theorem hv_X5_copy : MV yX5_copy cX5_copy 6 (some .int) 5 := ⟨⟨wo_X5_copy, wi_X5, by decide +kernel, by decide +kernel, by decide +kernel⟩, wv_X5_copy, we_X5_copy⟩
abbrev rX5_count : Room := { frames := 2, cells := 0, slots := 0, locals := 43 }
theorem hv_X5_count : MV yX5_count cX5_count 2 (some .int) 1 := ⟨⟨wo_X5_count, wi_X5, by decide +kernel, by decide +kernel, by decide +kernel⟩, wv_X5_count, we_X5_count⟩
abbrev rX5_drawn : Room := { frames := 4, cells := 0, slots := 0, locals := 90 }
theorem hv_X5_drawn : MV yX5_drawn cX5_drawn 7 (some .int) 3 := ⟨⟨wo_X5_drawn, wi_X5, by decide +kernel, by decide +kernel, by decide +kernel⟩, wv_X5_drawn, we_X5_drawn⟩
abbrev rX5_drop : Room := { frames := 2, cells := 0, slots := 0, locals := 42 }
theorem hv_X5_drop : MV yX5_drop cX5_drop 3 (some .int) 1 := ⟨⟨wo_X5_drop, wi_X5, by decide +kernel, by decide +kernel, by decide +kernel⟩, wv_X5_drop, we_X5_drop⟩
abbrev rX5_far : Room := { frames := 2, cells := 0, slots := 0, locals := 43 }
theorem hv_X5_far : MV yX5_far cX5_far 3 (some .int) 2 := ⟨⟨wo_X5_far, wi_X5, by decide +kernel, by decide +kernel, by decide +kernel⟩, wv_X5_far, we_X5_far⟩
abbrev rX5_fault : Room := { frames := 0, cells := 0, slots := 0, locals := 0 }
theorem hv_X5_fault : MV yX5_fault cX5_fault 1 (some .int) 0 := ⟨⟨wo_X5_fault, wi_X5, by decide +kernel, by decide +kernel, by decide +kernel⟩, wv_X5_fault, we_X5_fault⟩
abbrev rX5_feed : Room := { frames := 1, cells := 0, slots := 0, locals := 22 }
theorem hv_X5_feed : MV yX5_feed cX5_feed 2 (some .int) 1 := ⟨⟨wo_X5_feed, wi_X5, by decide +kernel, by decide +kernel, by decide +kernel⟩, wv_X5_feed, we_X5_feed⟩
abbrev rX5_fewest : Room := { frames := 6, cells := 0, slots := 0, locals := 136 }
theorem hv_X5_fewest : MV yX5_fewest cX5_fewest 7 (some .int) 3 := ⟨⟨wo_X5_fewest, wi_X5, by decide +kernel, by decide +kernel, by decide +kernel⟩, wv_X5_fewest, we_X5_fewest⟩
abbrev rX5_fine : Room := { frames := 0, cells := 0, slots := 0, locals := 0 }
theorem hv_X5_fine : MV yX5_fine cX5_fine 2 (some .int) 1 := ⟨⟨wo_X5_fine, wi_X5, by decide +kernel, by decide +kernel, by decide +kernel⟩, wv_X5_fine, we_X5_fine⟩
abbrev rX5_found : Room := { frames := 0, cells := 0, slots := 0, locals := 0 }
theorem hv_X5_found : MV yX5_found cX5_found 2 (some .int) 1 := ⟨⟨wo_X5_found, wi_X5, by decide +kernel, by decide +kernel, by decide +kernel⟩, wv_X5_found, we_X5_found⟩
abbrev rX5_goesBy : Room := { frames := 3, cells := 0, slots := 0, locals := 68 }
theorem hv_X5_goesBy : MV yX5_goesBy cX5_goesBy 2 (some .boolean) 1 := ⟨⟨wo_X5_goesBy, wi_X5, by decide +kernel, by decide +kernel, by decide +kernel⟩, wv_X5_goesBy, we_X5_goesBy⟩
abbrev rX5_grownMark : Room := { frames := 3, cells := 0, slots := 0, locals := 63 }
theorem hv_X5_grownMark : MV yX5_grownMark cX5_grownMark 2 (some .int) 1 := ⟨⟨wo_X5_grownMark, wi_X5, by decide +kernel, by decide +kernel, by decide +kernel⟩, wv_X5_grownMark, we_X5_grownMark⟩
abbrev rX5_grownSize : Room := { frames := 5, cells := 0, slots := 0, locals := 106 }
theorem hv_X5_grownSize : MV yX5_grownSize cX5_grownSize 2 (some .int) 1 := ⟨⟨wo_X5_grownSize, wi_X5, by decide +kernel, by decide +kernel, by decide +kernel⟩, wv_X5_grownSize, we_X5_grownSize⟩
abbrev rX5_half : Room := { frames := 4, cells := 0, slots := 0, locals := 90 }
theorem hv_X5_half : MV yX5_half cX5_half 3 (some .int) 1 := ⟨⟨wo_X5_half, wi_X5, by decide +kernel, by decide +kernel, by decide +kernel⟩, wv_X5_half, we_X5_half⟩
abbrev rX5_hard : Room := { frames := 5, cells := 0, slots := 0, locals := 113 }
theorem hv_X5_hard : MV yX5_hard cX5_hard 4 (some .int) 2 := ⟨⟨wo_X5_hard, wi_X5, by decide +kernel, by decide +kernel, by decide +kernel⟩, wv_X5_hard, we_X5_hard⟩
abbrev rX5_hasLand : Room := { frames := 0, cells := 0, slots := 0, locals := 0 }
theorem hv_X5_hasLand : MV yX5_hasLand cX5_hasLand 1 (some .boolean) 0 := ⟨⟨wo_X5_hasLand, wi_X5, by decide +kernel, by decide +kernel, by decide +kernel⟩, wv_X5_hasLand, we_X5_hasLand⟩
abbrev rX5_hours : Room := { frames := 4, cells := 0, slots := 0, locals := 102 }
theorem hv_X5_hours : MV yX5_hours cX5_hours 3 (some .int) 1 := ⟨⟨wo_X5_hours, wi_X5, by decide +kernel, by decide +kernel, by decide +kernel⟩, wv_X5_hours, we_X5_hours⟩
abbrev rX5_image : Room := { frames := 2, cells := 0, slots := 0, locals := 81 }
theorem hv_X5_image : MV yX5_image cX5_image 2 (some .int) 1 := ⟨⟨wo_X5_image, wi_X5, by decide +kernel, by decide +kernel, by decide +kernel⟩, wv_X5_image, we_X5_image⟩
abbrev rX5_init : Room := { frames := 3, cells := 218, slots := 2089, locals := 61 }
theorem hi_X5_init : MI yX5_init cX5_init 2 0 := ⟨⟨wo_X5_init, wi_X5, by decide +kernel, by decide +kernel, by decide +kernel⟩, wv_X5_init, rfl⟩
abbrev rX5_isA : Room := { frames := 0, cells := 0, slots := 0, locals := 0 }
theorem hs_X5_isA : MS yX5_isA cX5_isA 2 (some .boolean) 2 := ⟨⟨wo_X5_isA, wi_X5, by decide +kernel, by decide +kernel, by decide +kernel⟩, wt_X5_isA⟩
abbrev rX5_isPlace : Room := { frames := 1, cells := 0, slots := 0, locals := 22 }
theorem hv_X5_isPlace : MV yX5_isPlace cX5_isPlace 2 (some .boolean) 1 := ⟨⟨wo_X5_isPlace, wi_X5, by decide +kernel, by decide +kernel, by decide +kernel⟩, wv_X5_isPlace, we_X5_isPlace⟩
abbrev rX5_isRow : Room := { frames := 1, cells := 0, slots := 0, locals := 22 }
theorem hs_X5_isRow : MS yX5_isRow cX5_isRow 1 (some .boolean) 1 := ⟨⟨wo_X5_isRow, wi_X5, by decide +kernel, by decide +kernel, by decide +kernel⟩, wt_X5_isRow⟩
abbrev rX5_isThereBy : Room := { frames := 5, cells := 0, slots := 0, locals := 113 }
theorem hv_X5_isThereBy : MV yX5_isThereBy cX5_isThereBy 4 (some .boolean) 3 := ⟨⟨wo_X5_isThereBy, wi_X5, by decide +kernel, by decide +kernel, by decide +kernel⟩, wv_X5_isThereBy, we_X5_isThereBy⟩
abbrev rX5_isWisher : Room := { frames := 1, cells := 0, slots := 0, locals := 22 }
theorem hv_X5_isWisher : MV yX5_isWisher cX5_isWisher 2 (some .boolean) 1 := ⟨⟨wo_X5_isWisher, wi_X5, by decide +kernel, by decide +kernel, by decide +kernel⟩, wv_X5_isWisher, we_X5_isWisher⟩
abbrev rX5_kind : Room := { frames := 2, cells := 0, slots := 0, locals := 43 }
theorem hv_X5_kind : MV yX5_kind cX5_kind 2 (some .int) 1 := ⟨⟨wo_X5_kind, wi_X5, by decide +kernel, by decide +kernel, by decide +kernel⟩, wv_X5_kind, we_X5_kind⟩
abbrev rX5_land : Room := { frames := 5, cells := 0, slots := 0, locals := 112 }
theorem hv_X5_land : MV yX5_land cX5_land 1 (some .int) 0 := ⟨⟨wo_X5_land, wi_X5, by decide +kernel, by decide +kernel, by decide +kernel⟩, wv_X5_land, we_X5_land⟩
abbrev rX5_leave : Room := { frames := 0, cells := 0, slots := 0, locals := 0 }
theorem hv_X5_leave : MV yX5_leave cX5_leave 2 none 1 := ⟨⟨wo_X5_leave, wi_X5, by decide +kernel, by decide +kernel, by decide +kernel⟩, wv_X5_leave, we_X5_leave⟩
abbrev rX5_lentMark : Room := { frames := 1, cells := 0, slots := 0, locals := 21 }
theorem hv_X5_lentMark : MV yX5_lentMark cX5_lentMark 2 (some .int) 1 := ⟨⟨wo_X5_lentMark, wi_X5, by decide +kernel, by decide +kernel, by decide +kernel⟩, wv_X5_lentMark, we_X5_lentMark⟩
abbrev rX5_lentSize : Room := { frames := 1, cells := 0, slots := 0, locals := 21 }
theorem hv_X5_lentSize : MV yX5_lentSize cX5_lentSize 2 (some .int) 1 := ⟨⟨wo_X5_lentSize, wi_X5, by decide +kernel, by decide +kernel, by decide +kernel⟩, wv_X5_lentSize, we_X5_lentSize⟩
abbrev rX5_markOfGrown : Room := { frames := 2, cells := 0, slots := 0, locals := 42 }
theorem hv_X5_markOfGrown : MV yX5_markOfGrown cX5_markOfGrown 2 (some .int) 1 := ⟨⟨wo_X5_markOfGrown, wi_X5, by decide +kernel, by decide +kernel, by decide +kernel⟩, wv_X5_markOfGrown, we_X5_markOfGrown⟩
abbrev rX5_place : Room := { frames := 3, cells := 0, slots := 0, locals := 68 }
theorem hv_X5_place : MV yX5_place cX5_place 3 (some .int) 2 := ⟨⟨wo_X5_place, wi_X5, by decide +kernel, by decide +kernel, by decide +kernel⟩, wv_X5_place, we_X5_place⟩
abbrev rX5_power : Room := { frames := 0, cells := 0, slots := 0, locals := 0 }
theorem hs_X5_power : MS yX5_power cX5_power 5 (some .long) 2 := ⟨⟨wo_X5_power, wi_X5, by decide +kernel, by decide +kernel, by decide +kernel⟩, wt_X5_power⟩
abbrev rX5_readLaw : Room := { frames := 3, cells := 0, slots := 0, locals := 67 }
theorem hv_X5_readLaw : MV yX5_readLaw cX5_readLaw 1 none 0 := ⟨⟨wo_X5_readLaw, wi_X5, by decide +kernel, by decide +kernel, by decide +kernel⟩, wv_X5_readLaw, we_X5_readLaw⟩
abbrev rX5_readRoad : Room := { frames := 3, cells := 0, slots := 0, locals := 67 }
theorem hv_X5_readRoad : MV yX5_readRoad cX5_readRoad 4 none 0 := ⟨⟨wo_X5_readRoad, wi_X5, by decide +kernel, by decide +kernel, by decide +kernel⟩, wv_X5_readRoad, we_X5_readRoad⟩
abbrev rX5_readText : Room := { frames := 4, cells := 0, slots := 0, locals := 90 }
theorem hv_X5_readText : MV yX5_readText cX5_readText 3 none 0 := ⟨⟨wo_X5_readText, wi_X5, by decide +kernel, by decide +kernel, by decide +kernel⟩, wv_X5_readText, we_X5_readText⟩
abbrev rX5_readWisher : Room := { frames := 3, cells := 0, slots := 0, locals := 67 }
theorem hv_X5_readWisher : MV yX5_readWisher cX5_readWisher 3 none 1 := ⟨⟨wo_X5_readWisher, wi_X5, by decide +kernel, by decide +kernel, by decide +kernel⟩, wv_X5_readWisher, we_X5_readWisher⟩
abbrev rX5_rest : Room := { frames := 3, cells := 0, slots := 0, locals := 102 }
theorem hv_X5_rest : MV yX5_rest cX5_rest 3 (some .int) 2 := ⟨⟨wo_X5_rest, wi_X5, by decide +kernel, by decide +kernel, by decide +kernel⟩, wv_X5_rest, we_X5_rest⟩
abbrev rX5_restore : Room := { frames := 2, cells := 0, slots := 0, locals := 81 }
theorem hv_X5_restore : MV yX5_restore cX5_restore 2 (some .int) 1 := ⟨⟨wo_X5_restore, wi_X5, by decide +kernel, by decide +kernel, by decide +kernel⟩, wv_X5_restore, we_X5_restore⟩
abbrev rX5_round : Room := { frames := 4, cells := 0, slots := 0, locals := 90 }
theorem hv_X5_round : MV yX5_round cX5_round 4 (some .int) 1 := ⟨⟨wo_X5_round, wi_X5, by decide +kernel, by decide +kernel, by decide +kernel⟩, wv_X5_round, we_X5_round⟩
abbrev rX5_row : Room := { frames := 2, cells := 0, slots := 0, locals := 42 }
theorem hv_X5_row : MV yX5_row cX5_row 4 (some .int) 3 := ⟨⟨wo_X5_row, wi_X5, by decide +kernel, by decide +kernel, by decide +kernel⟩, wv_X5_row, we_X5_row⟩
abbrev rX5_seen : Room := { frames := 5, cells := 0, slots := 0, locals := 115 }
theorem hv_X5_seen : MV yX5_seen cX5_seen 9 (some .int) 4 := ⟨⟨wo_X5_seen, wi_X5, by decide +kernel, by decide +kernel, by decide +kernel⟩, wv_X5_seen, we_X5_seen⟩
abbrev rX5_set : Room := { frames := 2, cells := 0, slots := 0, locals := 44 }
theorem hv_X5_set : MV yX5_set cX5_set 5 (some .int) 3 := ⟨⟨wo_X5_set, wi_X5, by decide +kernel, by decide +kernel, by decide +kernel⟩, wv_X5_set, we_X5_set⟩
abbrev rX5_sizeOfChild : Room := { frames := 2, cells := 0, slots := 0, locals := 42 }
theorem hv_X5_sizeOfChild : MV yX5_sizeOfChild cX5_sizeOfChild 2 (some .int) 1 := ⟨⟨wo_X5_sizeOfChild, wi_X5, by decide +kernel, by decide +kernel, by decide +kernel⟩, wv_X5_sizeOfChild, we_X5_sizeOfChild⟩
abbrev rX5_sizeOfGrown : Room := { frames := 4, cells := 0, slots := 0, locals := 84 }
theorem hv_X5_sizeOfGrown : MV yX5_sizeOfGrown cX5_sizeOfGrown 3 (some .int) 1 := ⟨⟨wo_X5_sizeOfGrown, wi_X5, by decide +kernel, by decide +kernel, by decide +kernel⟩, wv_X5_sizeOfGrown, we_X5_sizeOfGrown⟩
abbrev rX5_sortOf : Room := { frames := 0, cells := 0, slots := 0, locals := 0 }
theorem hs_X5_sortOf : MS yX5_sortOf cX5_sortOf 1 (some .int) 1 := ⟨⟨wo_X5_sortOf, wi_X5, by decide +kernel, by decide +kernel, by decide +kernel⟩, wt_X5_sortOf⟩
abbrev rX5_status : Room := { frames := 0, cells := 0, slots := 0, locals := 0 }
theorem hv_X5_status : MV yX5_status cX5_status 1 (some .int) 0 := ⟨⟨wo_X5_status, wi_X5, by decide +kernel, by decide +kernel, by decide +kernel⟩, wv_X5_status, we_X5_status⟩
abbrev rX5_stolen : Room := { frames := 4, cells := 0, slots := 0, locals := 90 }
theorem hv_X5_stolen : MV yX5_stolen cX5_stolen 6 (some .int) 3 := ⟨⟨wo_X5_stolen, wi_X5, by decide +kernel, by decide +kernel, by decide +kernel⟩, wv_X5_stolen, we_X5_stolen⟩
abbrev rX5_trace : Room := { frames := 1, cells := 0, slots := 0, locals := 22 }
theorem hv_X5_trace : MV yX5_trace cX5_trace 2 (some .int) 1 := ⟨⟨wo_X5_trace, wi_X5, by decide +kernel, by decide +kernel, by decide +kernel⟩, wv_X5_trace, we_X5_trace⟩
abbrev rX5_undo : Room := { frames := 3, cells := 0, slots := 0, locals := 102 }
theorem hv_X5_undo : MV yX5_undo cX5_undo 1 (some .int) 0 := ⟨⟨wo_X5_undo, wi_X5, by decide +kernel, by decide +kernel, by decide +kernel⟩, wv_X5_undo, we_X5_undo⟩
abbrev rX5_visits : Room := { frames := 4, cells := 0, slots := 0, locals := 90 }
theorem hv_X5_visits : MV yX5_visits cX5_visits 4 (some .int) 1 := ⟨⟨wo_X5_visits, wi_X5, by decide +kernel, by decide +kernel, by decide +kernel⟩, wv_X5_visits, we_X5_visits⟩
abbrev rX5_who : Room := { frames := 5, cells := 0, slots := 0, locals := 115 }
theorem hv_X5_who : MV yX5_who cX5_who 8 (some .int) 4 := ⟨⟨wo_X5_who, wi_X5, by decide +kernel, by decide +kernel, by decide +kernel⟩, wv_X5_who, we_X5_who⟩
abbrev rX5_wish : Room := { frames := 3, cells := 0, slots := 0, locals := 102 }
theorem hv_X5_wish : MV yX5_wish cX5_wish 5 (some .int) 3 := ⟨⟨wo_X5_wish, wi_X5, by decide +kernel, by decide +kernel, by decide +kernel⟩, wv_X5_wish, we_X5_wish⟩
abbrev rX5_wisher : Room := { frames := 2, cells := 0, slots := 0, locals := 46 }
theorem hv_X5_wisher : MV yX5_wisher cX5_wisher 3 (some .int) 2 := ⟨⟨wo_X5_wisher, wi_X5, by decide +kernel, by decide +kernel, by decide +kernel⟩, wv_X5_wisher, we_X5_wisher⟩
abbrev rX5_within : Room := { frames := 0, cells := 0, slots := 0, locals := 0 }
theorem hs_X5_within : MS yX5_within cX5_within 3 (some .boolean) 3 := ⟨⟨wo_X5_within, wi_X5, by decide +kernel, by decide +kernel, by decide +kernel⟩, wt_X5_within⟩
abbrev rX6_ahead : Room := { frames := 6, cells := 0, slots := 0, locals := 142 }
theorem hv_X6_ahead : MV yX6_ahead cX6_ahead 4 (some .int) 2 := ⟨⟨wo_X6_ahead, wi_X6, by decide +kernel, by decide +kernel, by decide +kernel⟩, wv_X6_ahead, we_X6_ahead⟩
abbrev rX6_as : Room := { frames := 2, cells := 0, slots := 0, locals := 46 }
theorem hv_X6_as : MV yX6_as cX6_as 3 (some .int) 2 := ⟨⟨wo_X6_as, wi_X6, by decide +kernel, by decide +kernel, by decide +kernel⟩, wv_X6_as, we_X6_as⟩
abbrev rX6_ask : Room := { frames := 5, cells := 0, slots := 0, locals := 112 }
theorem hv_X6_ask : MV yX6_ask cX6_ask 3 (some .int) 2 := ⟨⟨wo_X6_ask, wi_X6, by decide +kernel, by decide +kernel, by decide +kernel⟩, wv_X6_ask, we_X6_ask⟩
abbrev rX6_atBehind : Room := { frames := 5, cells := 0, slots := 0, locals := 121 }
theorem hv_X6_atBehind : MV yX6_atBehind cX6_atBehind 2 (some .int) 1 := ⟨⟨wo_X6_atBehind, wi_X6, by decide +kernel, by decide +kernel, by decide +kernel⟩, wv_X6_atBehind, we_X6_atBehind⟩
abbrev rX6_atLeastNone : Room := { frames := 0, cells := 0, slots := 0, locals := 0 }
theorem hs_X6_atLeastNone : MS yX6_atLeastNone cX6_atLeastNone 1 (some .int) 1 := ⟨⟨wo_X6_atLeastNone, wi_X6, by decide +kernel, by decide +kernel, by decide +kernel⟩, wt_X6_atLeastNone⟩
abbrev rX6_awake : Room := { frames := 3, cells := 0, slots := 0, locals := 72 }
theorem hv_X6_awake : MV yX6_awake cX6_awake 14 (some .long) 2 := ⟨⟨wo_X6_awake, wi_X6, by decide +kernel, by decide +kernel, by decide +kernel⟩, wv_X6_awake, we_X6_awake⟩
abbrev rX6_bad : Room := { frames := 0, cells := 0, slots := 0, locals := 0 }
theorem hv_X6_bad : MV yX6_bad cX6_bad 2 none 1 := ⟨⟨wo_X6_bad, wi_X6, by decide +kernel, by decide +kernel, by decide +kernel⟩, wv_X6_bad, we_X6_bad⟩
abbrev rX6_began : Room := { frames := 0, cells := 0, slots := 0, locals := 0 }
theorem hv_X6_began : MV yX6_began cX6_began 2 none 1 := ⟨⟨wo_X6_began, wi_X6, by decide +kernel, by decide +kernel, by decide +kernel⟩, wv_X6_began, we_X6_began⟩
abbrev rX6_begin : Room := { frames := 2, cells := 0, slots := 0, locals := 45 }
theorem hv_X6_begin : MV yX6_begin cX6_begin 1 none 0 := ⟨⟨wo_X6_begin, wi_X6, by decide +kernel, by decide +kernel, by decide +kernel⟩, wv_X6_begin, we_X6_begin⟩
abbrev rX6_bits : Room := { frames := 0, cells := 0, slots := 0, locals := 0 }
theorem hs_X6_bits : MS yX6_bits cX6_bits 3 (some .int) 1 := ⟨⟨wo_X6_bits, wi_X6, by decide +kernel, by decide +kernel, by decide +kernel⟩, wt_X6_bits⟩
abbrev rX6_childSize : Room := { frames := 2, cells := 0, slots := 0, locals := 43 }
theorem hv_X6_childSize : MV yX6_childSize cX6_childSize 4 (some .int) 1 := ⟨⟨wo_X6_childSize, wi_X6, by decide +kernel, by decide +kernel, by decide +kernel⟩, wv_X6_childSize, we_X6_childSize⟩
abbrev rX6_comes : Room := { frames := 4, cells := 0, slots := 0, locals := 98 }
theorem hv_X6_comes : MV yX6_comes cX6_comes 4 (some .int) 2 := ⟨⟨wo_X6_comes, wi_X6, by decide +kernel, by decide +kernel, by decide +kernel⟩, wv_X6_comes, we_X6_comes⟩
abbrev rX6_comesSo : Room := { frames := 4, cells := 0, slots := 0, locals := 98 }
theorem hv_X6_comesSo : MV yX6_comesSo cX6_comesSo 5 (some .boolean) 2 := ⟨⟨wo_X6_comesSo, wi_X6, by decide +kernel, by decide +kernel, by decide +kernel⟩, wv_X6_comesSo, we_X6_comesSo⟩
abbrev rX6_copy : Room := { frames := 2, cells := 0, slots := 0, locals := 45 }
theorem hv_X6_copy : MV yX6_copy cX6_copy 9 (some .int) 5 := ⟨⟨wo_X6_copy, wi_X6, by decide +kernel, by decide +kernel, by decide +kernel⟩, wv_X6_copy, we_X6_copy⟩
abbrev rX6_count : Room := { frames := 1, cells := 0, slots := 0, locals := 20 }
theorem hv_X6_count : MV yX6_count cX6_count 4 (some .int) 1 := ⟨⟨wo_X6_count, wi_X6, by decide +kernel, by decide +kernel, by decide +kernel⟩, wv_X6_count, we_X6_count⟩
abbrev rX6_drawn : Room := { frames := 4, cells := 0, slots := 0, locals := 98 }
theorem hv_X6_drawn : MV yX6_drawn cX6_drawn 7 (some .int) 3 := ⟨⟨wo_X6_drawn, wi_X6, by decide +kernel, by decide +kernel, by decide +kernel⟩, wv_X6_drawn, we_X6_drawn⟩
abbrev rX6_drop : Room := { frames := 2, cells := 0, slots := 0, locals := 45 }
theorem hv_X6_drop : MV yX6_drop cX6_drop 2 (some .int) 1 := ⟨⟨wo_X6_drop, wi_X6, by decide +kernel, by decide +kernel, by decide +kernel⟩, wv_X6_drop, we_X6_drop⟩
abbrev rX6_failed : Room := { frames := 1, cells := 0, slots := 0, locals := 21 }
theorem hv_X6_failed : MV yX6_failed cX6_failed 1 (some .boolean) 0 := ⟨⟨wo_X6_failed, wi_X6, by decide +kernel, by decide +kernel, by decide +kernel⟩, wv_X6_failed, we_X6_failed⟩
abbrev rX6_far : Room := { frames := 2, cells := 0, slots := 0, locals := 46 }
theorem hv_X6_far : MV yX6_far cX6_far 3 (some .int) 2 := ⟨⟨wo_X6_far, wi_X6, by decide +kernel, by decide +kernel, by decide +kernel⟩, wv_X6_far, we_X6_far⟩
abbrev rX6_farBy : Room := { frames := 0, cells := 0, slots := 0, locals := 0 }
theorem hv_X6_farBy : MV yX6_farBy cX6_farBy 3 (some .int) 2 := ⟨⟨wo_X6_farBy, wi_X6, by decide +kernel, by decide +kernel, by decide +kernel⟩, wv_X6_farBy, we_X6_farBy⟩
abbrev rX6_fault : Room := { frames := 0, cells := 0, slots := 0, locals := 0 }
theorem hv_X6_fault : MV yX6_fault cX6_fault 1 (some .int) 0 := ⟨⟨wo_X6_fault, wi_X6, by decide +kernel, by decide +kernel, by decide +kernel⟩, wv_X6_fault, we_X6_fault⟩
abbrev rX6_feed : Room := { frames := 1, cells := 0, slots := 0, locals := 25 }
theorem hv_X6_feed : MV yX6_feed cX6_feed 2 (some .int) 1 := ⟨⟨wo_X6_feed, wi_X6, by decide +kernel, by decide +kernel, by decide +kernel⟩, wv_X6_feed, we_X6_feed⟩
abbrev rX6_fewest : Room := { frames := 6, cells := 0, slots := 0, locals := 142 }
theorem hv_X6_fewest : MV yX6_fewest cX6_fewest 7 (some .int) 3 := ⟨⟨wo_X6_fewest, wi_X6, by decide +kernel, by decide +kernel, by decide +kernel⟩, wv_X6_fewest, we_X6_fewest⟩
abbrev rX6_finding : Room := { frames := 0, cells := 0, slots := 0, locals := 0 }
theorem hv_X6_finding : MV yX6_finding cX6_finding 2 (some .int) 1 := ⟨⟨wo_X6_finding, wi_X6, by decide +kernel, by decide +kernel, by decide +kernel⟩, wv_X6_finding, we_X6_finding⟩
abbrev rX6_goesTo : Room := { frames := 0, cells := 0, slots := 0, locals := 0 }
theorem hv_X6_goesTo : MV yX6_goesTo cX6_goesTo 5 (some .int) 1 := ⟨⟨wo_X6_goesTo, wi_X6, by decide +kernel, by decide +kernel, by decide +kernel⟩, wv_X6_goesTo, we_X6_goesTo⟩
abbrev rX6_half : Room := { frames := 4, cells := 0, slots := 0, locals := 98 }
theorem hv_X6_half : MV yX6_half cX6_half 4 (some .int) 1 := ⟨⟨wo_X6_half, wi_X6, by decide +kernel, by decide +kernel, by decide +kernel⟩, wv_X6_half, we_X6_half⟩
abbrev rX6_hard : Room := { frames := 6, cells := 0, slots := 0, locals := 142 }
theorem hv_X6_hard : MV yX6_hard cX6_hard 4 (some .int) 2 := ⟨⟨wo_X6_hard, wi_X6, by decide +kernel, by decide +kernel, by decide +kernel⟩, wv_X6_hard, we_X6_hard⟩
abbrev rX6_hour : Room := { frames := 3, cells := 0, slots := 0, locals := 72 }
theorem hv_X6_hour : MV yX6_hour cX6_hour 7 none 3 := ⟨⟨wo_X6_hour, wi_X6, by decide +kernel, by decide +kernel, by decide +kernel⟩, wv_X6_hour, we_X6_hour⟩
abbrev rX6_hours : Room := { frames := 4, cells := 0, slots := 0, locals := 98 }
theorem hv_X6_hours : MV yX6_hours cX6_hours 3 (some .int) 1 := ⟨⟨wo_X6_hours, wi_X6, by decide +kernel, by decide +kernel, by decide +kernel⟩, wv_X6_hours, we_X6_hours⟩
abbrev rX6_hoursOf : Room := { frames := 4, cells := 0, slots := 0, locals := 98 }
theorem hv_X6_hoursOf : MV yX6_hoursOf cX6_hoursOf 4 none 2 := ⟨⟨wo_X6_hoursOf, wi_X6, by decide +kernel, by decide +kernel, by decide +kernel⟩, wv_X6_hoursOf, we_X6_hoursOf⟩
abbrev rX6_image : Room := { frames := 1, cells := 0, slots := 0, locals := 25 }
theorem hv_X6_image : MV yX6_image cX6_image 3 (some .int) 1 := ⟨⟨wo_X6_image, wi_X6, by decide +kernel, by decide +kernel, by decide +kernel⟩, wv_X6_image, we_X6_image⟩
abbrev rX6_in : Room := { frames := 0, cells := 0, slots := 0, locals := 0 }
theorem hs_X6_in : MS yX6_in cX6_in 6 (some .boolean) 3 := ⟨⟨wo_X6_in, wi_X6, by decide +kernel, by decide +kernel, by decide +kernel⟩, wt_X6_in⟩
abbrev rX6_init : Room := { frames := 1, cells := 14, slots := 2473, locals := 20 }
theorem hi_X6_init : MI yX6_init cX6_init 1 0 := ⟨⟨wo_X6_init, wi_X6, by decide +kernel, by decide +kernel, by decide +kernel⟩, wv_X6_init, rfl⟩
abbrev rX6_isLetter : Room := { frames := 0, cells := 0, slots := 0, locals := 0 }
theorem hv_X6_isLetter : MV yX6_isLetter cX6_isLetter 2 (some .boolean) 1 := ⟨⟨wo_X6_isLetter, wi_X6, by decide +kernel, by decide +kernel, by decide +kernel⟩, wv_X6_isLetter, we_X6_isLetter⟩
abbrev rX6_isOf : Room := { frames := 0, cells := 0, slots := 0, locals := 0 }
theorem hs_X6_isOf : MS yX6_isOf cX6_isOf 2 (some .boolean) 2 := ⟨⟨wo_X6_isOf, wi_X6, by decide +kernel, by decide +kernel, by decide +kernel⟩, wt_X6_isOf⟩
abbrev rX6_isPlace : Room := { frames := 1, cells := 0, slots := 0, locals := 25 }
theorem hv_X6_isPlace : MV yX6_isPlace cX6_isPlace 2 (some .boolean) 1 := ⟨⟨wo_X6_isPlace, wi_X6, by decide +kernel, by decide +kernel, by decide +kernel⟩, wv_X6_isPlace, we_X6_isPlace⟩
abbrev rX6_isRow : Room := { frames := 1, cells := 0, slots := 0, locals := 25 }
theorem hs_X6_isRow : MS yX6_isRow cX6_isRow 1 (some .boolean) 1 := ⟨⟨wo_X6_isRow, wi_X6, by decide +kernel, by decide +kernel, by decide +kernel⟩, wt_X6_isRow⟩
abbrev rX6_isThere : Room := { frames := 0, cells := 0, slots := 0, locals := 0 }
theorem hv_X6_isThere : MV yX6_isThere cX6_isThere 1 (some .boolean) 0 := ⟨⟨wo_X6_isThere, wi_X6, by decide +kernel, by decide +kernel, by decide +kernel⟩, wv_X6_isThere, we_X6_isThere⟩
abbrev rX6_isWisher : Room := { frames := 1, cells := 0, slots := 0, locals := 25 }
theorem hv_X6_isWisher : MV yX6_isWisher cX6_isWisher 2 (some .boolean) 1 := ⟨⟨wo_X6_isWisher, wi_X6, by decide +kernel, by decide +kernel, by decide +kernel⟩, wv_X6_isWisher, we_X6_isWisher⟩
abbrev rX6_keep : Room := { frames := 0, cells := 0, slots := 0, locals := 0 }
theorem hv_X6_keep : MV yX6_keep cX6_keep 2 none 0 := ⟨⟨wo_X6_keep, wi_X6, by decide +kernel, by decide +kernel, by decide +kernel⟩, wv_X6_keep, we_X6_keep⟩
abbrev rX6_kind : Room := { frames := 2, cells := 0, slots := 0, locals := 46 }
theorem hv_X6_kind : MV yX6_kind cX6_kind 2 (some .int) 1 := ⟨⟨wo_X6_kind, wi_X6, by decide +kernel, by decide +kernel, by decide +kernel⟩, wv_X6_kind, we_X6_kind⟩
abbrev rX6_kindBy : Room := { frames := 0, cells := 0, slots := 0, locals := 0 }
theorem hs_X6_kindBy : MS yX6_kindBy cX6_kindBy 1 (some .int) 1 := ⟨⟨wo_X6_kindBy, wi_X6, by decide +kernel, by decide +kernel, by decide +kernel⟩, wt_X6_kindBy⟩
abbrev rX6_land : Room := { frames := 5, cells := 0, slots := 0, locals := 116 }
theorem hv_X6_land : MV yX6_land cX6_land 2 (some .int) 0 := ⟨⟨wo_X6_land, wi_X6, by decide +kernel, by decide +kernel, by decide +kernel⟩, wv_X6_land, we_X6_land⟩
abbrev rX6_layFar : Room := { frames := 0, cells := 0, slots := 0, locals := 0 }
theorem hv_X6_layFar : MV yX6_layFar cX6_layFar 6 none 0 := ⟨⟨wo_X6_layFar, wi_X6, by decide +kernel, by decide +kernel, by decide +kernel⟩, wv_X6_layFar, we_X6_layFar⟩
abbrev rX6_layPulls : Room := { frames := 2, cells := 0, slots := 0, locals := 47 }
theorem hv_X6_layPulls : MV yX6_layPulls cX6_layPulls 6 none 4 := ⟨⟨wo_X6_layPulls, wi_X6, by decide +kernel, by decide +kernel, by decide +kernel⟩, wv_X6_layPulls, we_X6_layPulls⟩
abbrev rX6_layThen : Room := { frames := 0, cells := 0, slots := 0, locals := 0 }
theorem hv_X6_layThen : MV yX6_layThen cX6_layThen 2 none 0 := ⟨⟨wo_X6_layThen, wi_X6, by decide +kernel, by decide +kernel, by decide +kernel⟩, wv_X6_layThen, we_X6_layThen⟩
abbrev rX6_markOf : Room := { frames := 3, cells := 0, slots := 0, locals := 66 }
theorem hv_X6_markOf : MV yX6_markOf cX6_markOf 4 (some .int) 1 := ⟨⟨wo_X6_markOf, wi_X6, by decide +kernel, by decide +kernel, by decide +kernel⟩, wv_X6_markOf, we_X6_markOf⟩
abbrev rX6_must : Room := { frames := 2, cells := 0, slots := 0, locals := 45 }
theorem hv_X6_must : MV yX6_must cX6_must 2 none 1 := ⟨⟨wo_X6_must, wi_X6, by decide +kernel, by decide +kernel, by decide +kernel⟩, wv_X6_must, we_X6_must⟩
abbrev rX6_mustSign : Room := { frames := 3, cells := 0, slots := 0, locals := 66 }
theorem hv_X6_mustSign : MV yX6_mustSign cX6_mustSign 2 none 1 := ⟨⟨wo_X6_mustSign, wi_X6, by decide +kernel, by decide +kernel, by decide +kernel⟩, wv_X6_mustSign, we_X6_mustSign⟩
abbrev rX6_nextToken : Room := { frames := 1, cells := 0, slots := 0, locals := 25 }
theorem hv_X6_nextToken : MV yX6_nextToken cX6_nextToken 1 none 0 := ⟨⟨wo_X6_nextToken, wi_X6, by decide +kernel, by decide +kernel, by decide +kernel⟩, wv_X6_nextToken, we_X6_nextToken⟩
abbrev rX6_number : Room := { frames := 3, cells := 0, slots := 0, locals := 66 }
theorem hv_X6_number : MV yX6_number cX6_number 4 (some .int) 2 := ⟨⟨wo_X6_number, wi_X6, by decide +kernel, by decide +kernel, by decide +kernel⟩, wv_X6_number, we_X6_number⟩
abbrev rX6_of : Room := { frames := 0, cells := 0, slots := 0, locals := 0 }
theorem hs_X6_of : MS yX6_of cX6_of 3 (some .int) 3 := ⟨⟨wo_X6_of, wi_X6, by decide +kernel, by decide +kernel, by decide +kernel⟩, wt_X6_of⟩
abbrev rX6_place : Room := { frames := 3, cells := 0, slots := 0, locals := 72 }
theorem hv_X6_place : MV yX6_place cX6_place 3 (some .int) 2 := ⟨⟨wo_X6_place, wi_X6, by decide +kernel, by decide +kernel, by decide +kernel⟩, wv_X6_place, we_X6_place⟩
abbrev rX6_plainSize : Room := { frames := 1, cells := 0, slots := 0, locals := 22 }
theorem hv_X6_plainSize : MV yX6_plainSize cX6_plainSize 2 (some .int) 1 := ⟨⟨wo_X6_plainSize, wi_X6, by decide +kernel, by decide +kernel, by decide +kernel⟩, wv_X6_plainSize, we_X6_plainSize⟩
abbrev rX6_readRoad : Room := { frames := 4, cells := 0, slots := 0, locals := 89 }
theorem hv_X6_readRoad : MV yX6_readRoad cX6_readRoad 3 none 0 := ⟨⟨wo_X6_readRoad, wi_X6, by decide +kernel, by decide +kernel, by decide +kernel⟩, wv_X6_readRoad, we_X6_readRoad⟩
abbrev rX6_readWisher : Room := { frames := 4, cells := 0, slots := 0, locals := 89 }
theorem hv_X6_readWisher : MV yX6_readWisher cX6_readWisher 8 none 0 := ⟨⟨wo_X6_readWisher, wi_X6, by decide +kernel, by decide +kernel, by decide +kernel⟩, wv_X6_readWisher, we_X6_readWisher⟩
abbrev rX6_rest : Room := { frames := 2, cells := 0, slots := 0, locals := 46 }
theorem hv_X6_rest : MV yX6_rest cX6_rest 5 (some .int) 2 := ⟨⟨wo_X6_rest, wi_X6, by decide +kernel, by decide +kernel, by decide +kernel⟩, wv_X6_rest, we_X6_rest⟩
abbrev rX6_restore : Room := { frames := 1, cells := 0, slots := 0, locals := 25 }
theorem hv_X6_restore : MV yX6_restore cX6_restore 3 (some .int) 1 := ⟨⟨wo_X6_restore, wi_X6, by decide +kernel, by decide +kernel, by decide +kernel⟩, wv_X6_restore, we_X6_restore⟩
abbrev rX6_round : Room := { frames := 4, cells := 0, slots := 0, locals := 98 }
theorem hv_X6_round : MV yX6_round cX6_round 4 (some .int) 1 := ⟨⟨wo_X6_round, wi_X6, by decide +kernel, by decide +kernel, by decide +kernel⟩, wv_X6_round, we_X6_round⟩
abbrev rX6_row : Room := { frames := 2, cells := 0, slots := 0, locals := 45 }
theorem hv_X6_row : MV yX6_row cX6_row 5 (some .int) 3 := ⟨⟨wo_X6_row, wi_X6, by decide +kernel, by decide +kernel, by decide +kernel⟩, wv_X6_row, we_X6_row⟩
abbrev rX6_seen : Room := { frames := 5, cells := 0, slots := 0, locals := 122 }
theorem hv_X6_seen : MV yX6_seen cX6_seen 9 (some .int) 4 := ⟨⟨wo_X6_seen, wi_X6, by decide +kernel, by decide +kernel, by decide +kernel⟩, wv_X6_seen, we_X6_seen⟩
abbrev rX6_set : Room := { frames := 2, cells := 0, slots := 0, locals := 45 }
theorem hv_X6_set : MV yX6_set cX6_set 4 (some .int) 3 := ⟨⟨wo_X6_set, wi_X6, by decide +kernel, by decide +kernel, by decide +kernel⟩, wv_X6_set, we_X6_set⟩
abbrev rX6_sizeOf : Room := { frames := 4, cells := 0, slots := 0, locals := 89 }
theorem hv_X6_sizeOf : MV yX6_sizeOf cX6_sizeOf 4 (some .int) 1 := ⟨⟨wo_X6_sizeOf, wi_X6, by decide +kernel, by decide +kernel, by decide +kernel⟩, wv_X6_sizeOf, we_X6_sizeOf⟩
abbrev rX6_soNow : Room := { frames := 1, cells := 0, slots := 0, locals := 22 }
theorem hv_X6_soNow : MV yX6_soNow cX6_soNow 4 (some .long) 0 := ⟨⟨wo_X6_soNow, wi_X6, by decide +kernel, by decide +kernel, by decide +kernel⟩, wv_X6_soNow, we_X6_soNow⟩
abbrev rX6_status : Room := { frames := 0, cells := 0, slots := 0, locals := 0 }
theorem hv_X6_status : MV yX6_status cX6_status 1 (some .int) 0 := ⟨⟨wo_X6_status, wi_X6, by decide +kernel, by decide +kernel, by decide +kernel⟩, wv_X6_status, we_X6_status⟩
abbrev rX6_stolen : Room := { frames := 4, cells := 0, slots := 0, locals := 98 }
theorem hv_X6_stolen : MV yX6_stolen cX6_stolen 7 (some .int) 3 := ⟨⟨wo_X6_stolen, wi_X6, by decide +kernel, by decide +kernel, by decide +kernel⟩, wv_X6_stolen, we_X6_stolen⟩
abbrev rX6_trace : Room := { frames := 1, cells := 0, slots := 0, locals := 25 }
theorem hv_X6_trace : MV yX6_trace cX6_trace 2 (some .int) 1 := ⟨⟨wo_X6_trace, wi_X6, by decide +kernel, by decide +kernel, by decide +kernel⟩, wv_X6_trace, we_X6_trace⟩
abbrev rX6_undo : Room := { frames := 0, cells := 0, slots := 0, locals := 0 }
theorem hv_X6_undo : MV yX6_undo cX6_undo 2 (some .int) 0 := ⟨⟨wo_X6_undo, wi_X6, by decide +kernel, by decide +kernel, by decide +kernel⟩, wv_X6_undo, we_X6_undo⟩
abbrev rX6_visits : Room := { frames := 4, cells := 0, slots := 0, locals := 98 }
theorem hv_X6_visits : MV yX6_visits cX6_visits 4 (some .int) 1 := ⟨⟨wo_X6_visits, wi_X6, by decide +kernel, by decide +kernel, by decide +kernel⟩, wv_X6_visits, we_X6_visits⟩
abbrev rX6_who : Room := { frames := 5, cells := 0, slots := 0, locals := 122 }
theorem hv_X6_who : MV yX6_who cX6_who 7 (some .int) 4 := ⟨⟨wo_X6_who, wi_X6, by decide +kernel, by decide +kernel, by decide +kernel⟩, wv_X6_who, we_X6_who⟩
abbrev rX6_wish : Room := { frames := 2, cells := 0, slots := 0, locals := 46 }
theorem hv_X6_wish : MV yX6_wish cX6_wish 5 (some .int) 3 := ⟨⟨wo_X6_wish, wi_X6, by decide +kernel, by decide +kernel, by decide +kernel⟩, wv_X6_wish, we_X6_wish⟩
abbrev rX6_wishBy : Room := { frames := 1, cells := 0, slots := 0, locals := 22 }
theorem hv_X6_wishBy : MV yX6_wishBy cX6_wishBy 6 (some .int) 2 := ⟨⟨wo_X6_wishBy, wi_X6, by decide +kernel, by decide +kernel, by decide +kernel⟩, wv_X6_wishBy, we_X6_wishBy⟩
abbrev rX6_wisher : Room := { frames := 2, cells := 0, slots := 0, locals := 47 }
theorem hv_X6_wisher : MV yX6_wisher cX6_wisher 3 (some .int) 2 := ⟨⟨wo_X6_wisher, wi_X6, by decide +kernel, by decide +kernel, by decide +kernel⟩, wv_X6_wisher, we_X6_wisher⟩
abbrev rX6_wishes : Room := { frames := 1, cells := 0, slots := 0, locals := 22 }
theorem hs_X6_wishes : MS yX6_wishes cX6_wishes 2 (some .boolean) 2 := ⟨⟨wo_X6_wishes, wi_X6, by decide +kernel, by decide +kernel, by decide +kernel⟩, wt_X6_wishes⟩
def q_kds : List (Nat × Nat) := [(5, 16), (3, 3), (10, 8), (10, 8), (15, 8), (10, 40), (10, 40), (10, 40), (10, 40), (10, 40), (10, 40), (10, 40), (10, 40), (4, 5), (10, 120), (1, 10), (10, 6), (10, 36), (10, 6), (10, 6), (10, 6), (0, 11), (10, 6), (10, 6), (10, 6), (10, 6), (10, 6), (2, 3), (14, 24), (0, 11), (10, 6), (10, 6), (10, 6), (10, 6), (10, 6), (0, 11), (10, 6), (10, 6), (10, 6), (10, 6), (10, 6), (0, 11), (10, 6), (10, 6), (10, 6), (10, 6), (10, 6), (0, 11), (10, 6), (10, 6), (10, 6), (10, 6), (10, 6), (0, 11), (10, 6), (10, 6), (10, 6), (10, 6), (10, 6), (0, 11), (10, 6), (10, 6), (10, 6), (10, 6), (10, 6), (0, 11), (10, 6), (10, 6), (10, 6), (10, 6), (10, 6), (0, 11), (10, 6), (10, 6), (10, 6), (10, 6), (10, 6), (0, 11), (10, 6), (10, 6), (10, 6), (10, 6), (10, 6), (0, 11), (10, 6), (10, 6), (10, 6), (10, 6), (10, 6), (0, 11), (10, 6), (10, 6), (10, 6), (10, 6), (10, 6), (0, 11), (10, 6), (10, 6), (10, 6), (10, 6), (10, 6), (0, 11), (10, 6), (10, 6), (10, 6), (10, 6), (10, 6), (0, 11), (10, 6), (10, 6), (10, 6), (10, 6), (10, 6), (0, 11), (10, 6), (10, 6), (10, 6), (10, 6), (10, 6), (0, 11), (10, 6), (10, 6), (10, 6), (10, 6), (10, 6), (0, 11), (10, 6), (10, 6), (10, 6), (10, 6), (10, 6), (0, 11), (10, 6), (10, 6), (10, 6), (10, 6), (10, 6), (0, 11), (10, 6), (10, 6), (10, 6), (10, 6), (10, 6), (0, 11), (10, 6), (10, 6), (10, 6), (10, 6), (10, 6), (0, 11), (10, 6), (10, 6), (10, 6), (10, 6), (10, 6), (0, 11), (10, 6), (10, 6), (10, 6), (10, 6), (10, 6), (0, 11), (10, 6), (10, 6), (10, 6), (10, 6), (10, 6), (0, 11), (10, 6), (10, 6), (10, 6), (10, 6), (10, 6), (0, 11), (10, 6), (10, 6), (10, 6), (10, 6), (10, 6), (1, 10), (10, 6), (10, 36), (10, 6), (10, 6), (10, 6), (0, 11), (10, 6), (10, 6), (10, 6), (10, 6), (10, 6), (13, 2), (14, 2), (11, 101), (10, 16), (1, 10), (10, 6), (10, 36), (10, 6), (10, 6), (10, 6), (0, 11), (10, 6), (10, 6), (10, 6), (10, 6), (10, 6), (1, 10), (10, 6), (10, 36), (10, 6), (10, 6), (10, 6), (0, 11), (10, 6), (10, 6), (10, 6), (10, 6), (10, 6), (6, 26), (10, 8), (10, 8), (10, 320), (10, 64), (10, 64), (10, 64), (10, 1536), (10, 120), (10, 36), (10, 6), (11, 101), (12, 2), (10, 128), (10, 16)]
def q_rfs : List (Nat × List (Nat × Nat)) := [(0, [(0, 1), (1, 13), (2, 15), (3, 21), (4, 27), (5, 173), (6, 179), (7, 185), (8, 191), (9, 192), (11, 193), (12, 194)]), (1, [(0, 2), (1, 3), (2, 4)]), (4, [(0, 5), (1, 6), (2, 7), (3, 8), (4, 9), (5, 10), (6, 11), (7, 12)]), (13, [(0, 14)]), (15, [(5, 16), (6, 17), (7, 18), (8, 19), (9, 20)]), (21, [(6, 22), (7, 23), (8, 24), (9, 25), (10, 26)]), (27, [(0, 28)]), (28, [(0, 29), (1, 35), (2, 41), (3, 47), (4, 53), (5, 59), (6, 65), (7, 71), (8, 77), (9, 83), (10, 89), (11, 95), (12, 101), (13, 107), (14, 113), (15, 119), (16, 125), (17, 131), (18, 137), (19, 143), (20, 149), (21, 155), (22, 161), (23, 167)]), (29, [(6, 30), (7, 31), (8, 32), (9, 33), (10, 34)]), (35, [(6, 36), (7, 37), (8, 38), (9, 39), (10, 40)]), (41, [(6, 42), (7, 43), (8, 44), (9, 45), (10, 46)]), (47, [(6, 48), (7, 49), (8, 50), (9, 51), (10, 52)]), (53, [(6, 54), (7, 55), (8, 56), (9, 57), (10, 58)]), (59, [(6, 60), (7, 61), (8, 62), (9, 63), (10, 64)]), (65, [(6, 66), (7, 67), (8, 68), (9, 69), (10, 70)]), (71, [(6, 72), (7, 73), (8, 74), (9, 75), (10, 76)]), (77, [(6, 78), (7, 79), (8, 80), (9, 81), (10, 82)]), (83, [(6, 84), (7, 85), (8, 86), (9, 87), (10, 88)]), (89, [(6, 90), (7, 91), (8, 92), (9, 93), (10, 94)]), (95, [(6, 96), (7, 97), (8, 98), (9, 99), (10, 100)]), (101, [(6, 102), (7, 103), (8, 104), (9, 105), (10, 106)]), (107, [(6, 108), (7, 109), (8, 110), (9, 111), (10, 112)]), (113, [(6, 114), (7, 115), (8, 116), (9, 117), (10, 118)]), (119, [(6, 120), (7, 121), (8, 122), (9, 123), (10, 124)]), (125, [(6, 126), (7, 127), (8, 128), (9, 129), (10, 130)]), (131, [(6, 132), (7, 133), (8, 134), (9, 135), (10, 136)]), (137, [(6, 138), (7, 139), (8, 140), (9, 141), (10, 142)]), (143, [(6, 144), (7, 145), (8, 146), (9, 147), (10, 148)]), (149, [(6, 150), (7, 151), (8, 152), (9, 153), (10, 154)]), (155, [(6, 156), (7, 157), (8, 158), (9, 159), (10, 160)]), (161, [(6, 162), (7, 163), (8, 164), (9, 165), (10, 166)]), (167, [(6, 168), (7, 169), (8, 170), (9, 171), (10, 172)]), (173, [(6, 174), (7, 175), (8, 176), (9, 177), (10, 178)]), (179, [(5, 180), (6, 181), (7, 182), (8, 183), (9, 184)]), (185, [(6, 186), (7, 187), (8, 188), (9, 189), (10, 190)]), (191, [(0, 195), (1, 207)]), (192, [(0, 201), (1, 213)]), (195, [(5, 196), (6, 197), (7, 198), (8, 199), (9, 200)]), (201, [(6, 202), (7, 203), (8, 204), (9, 205), (10, 206)]), (207, [(5, 208), (6, 209), (7, 210), (8, 211), (9, 212)]), (213, [(6, 214), (7, 215), (8, 216), (9, 217), (10, 218)]), (219, [(2, 220), (3, 221), (4, 222), (5, 223), (6, 224), (7, 225), (8, 226), (10, 227), (19, 228), (20, 229), (21, 230), (22, 231), (23, 232), (24, 233)])]
def K0 (i : Nat) : Nat × Nat := q_kds.getD i (0, 0)
def R0 (i k : Nat) : Option Nat := (q_rfs.lookup i).bind (fun l => l.lookup k)
def Z0 : ZZ := (234, K0, R0)
theorem k_0 : Z0.2.1 0 = (5, 16) := by decide +kernel
theorem k_1 : Z0.2.1 1 = (3, 3) := by decide +kernel
theorem k_2 : Z0.2.1 2 = (10, 8) := by decide +kernel
theorem k_3 : Z0.2.1 3 = (10, 8) := by decide +kernel
theorem k_4 : Z0.2.1 4 = (15, 8) := by decide +kernel
theorem k_5 : Z0.2.1 5 = (10, 40) := by decide +kernel
theorem k_6 : Z0.2.1 6 = (10, 40) := by decide +kernel
theorem k_7 : Z0.2.1 7 = (10, 40) := by decide +kernel
theorem k_8 : Z0.2.1 8 = (10, 40) := by decide +kernel
theorem k_9 : Z0.2.1 9 = (10, 40) := by decide +kernel
theorem k_10 : Z0.2.1 10 = (10, 40) := by decide +kernel
theorem k_11 : Z0.2.1 11 = (10, 40) := by decide +kernel
theorem k_12 : Z0.2.1 12 = (10, 40) := by decide +kernel
theorem k_13 : Z0.2.1 13 = (4, 5) := by decide +kernel
theorem k_14 : Z0.2.1 14 = (10, 120) := by decide +kernel
theorem k_15 : Z0.2.1 15 = (1, 10) := by decide +kernel
theorem k_16 : Z0.2.1 16 = (10, 6) := by decide +kernel
theorem k_17 : Z0.2.1 17 = (10, 36) := by decide +kernel
theorem k_18 : Z0.2.1 18 = (10, 6) := by decide +kernel
theorem k_19 : Z0.2.1 19 = (10, 6) := by decide +kernel
theorem k_20 : Z0.2.1 20 = (10, 6) := by decide +kernel
theorem k_21 : Z0.2.1 21 = (0, 11) := by decide +kernel
theorem k_22 : Z0.2.1 22 = (10, 6) := by decide +kernel
theorem k_23 : Z0.2.1 23 = (10, 6) := by decide +kernel
theorem k_24 : Z0.2.1 24 = (10, 6) := by decide +kernel
theorem k_25 : Z0.2.1 25 = (10, 6) := by decide +kernel
theorem k_26 : Z0.2.1 26 = (10, 6) := by decide +kernel
theorem k_27 : Z0.2.1 27 = (2, 3) := by decide +kernel
theorem k_28 : Z0.2.1 28 = (14, 24) := by decide +kernel
theorem k_29 : Z0.2.1 29 = (0, 11) := by decide +kernel
theorem k_30 : Z0.2.1 30 = (10, 6) := by decide +kernel
theorem k_31 : Z0.2.1 31 = (10, 6) := by decide +kernel
theorem k_32 : Z0.2.1 32 = (10, 6) := by decide +kernel
theorem k_33 : Z0.2.1 33 = (10, 6) := by decide +kernel
theorem k_34 : Z0.2.1 34 = (10, 6) := by decide +kernel
theorem k_35 : Z0.2.1 35 = (0, 11) := by decide +kernel
theorem k_36 : Z0.2.1 36 = (10, 6) := by decide +kernel
theorem k_37 : Z0.2.1 37 = (10, 6) := by decide +kernel
theorem k_38 : Z0.2.1 38 = (10, 6) := by decide +kernel
theorem k_39 : Z0.2.1 39 = (10, 6) := by decide +kernel
theorem k_40 : Z0.2.1 40 = (10, 6) := by decide +kernel
theorem k_41 : Z0.2.1 41 = (0, 11) := by decide +kernel
theorem k_42 : Z0.2.1 42 = (10, 6) := by decide +kernel
theorem k_43 : Z0.2.1 43 = (10, 6) := by decide +kernel
theorem k_44 : Z0.2.1 44 = (10, 6) := by decide +kernel
theorem k_45 : Z0.2.1 45 = (10, 6) := by decide +kernel
theorem k_46 : Z0.2.1 46 = (10, 6) := by decide +kernel
theorem k_47 : Z0.2.1 47 = (0, 11) := by decide +kernel
theorem k_48 : Z0.2.1 48 = (10, 6) := by decide +kernel
theorem k_49 : Z0.2.1 49 = (10, 6) := by decide +kernel
theorem k_50 : Z0.2.1 50 = (10, 6) := by decide +kernel
theorem k_51 : Z0.2.1 51 = (10, 6) := by decide +kernel
theorem k_52 : Z0.2.1 52 = (10, 6) := by decide +kernel
theorem k_53 : Z0.2.1 53 = (0, 11) := by decide +kernel
theorem k_54 : Z0.2.1 54 = (10, 6) := by decide +kernel
theorem k_55 : Z0.2.1 55 = (10, 6) := by decide +kernel
theorem k_56 : Z0.2.1 56 = (10, 6) := by decide +kernel
theorem k_57 : Z0.2.1 57 = (10, 6) := by decide +kernel
theorem k_58 : Z0.2.1 58 = (10, 6) := by decide +kernel
theorem k_59 : Z0.2.1 59 = (0, 11) := by decide +kernel
theorem k_60 : Z0.2.1 60 = (10, 6) := by decide +kernel
theorem k_61 : Z0.2.1 61 = (10, 6) := by decide +kernel
theorem k_62 : Z0.2.1 62 = (10, 6) := by decide +kernel
theorem k_63 : Z0.2.1 63 = (10, 6) := by decide +kernel
theorem k_64 : Z0.2.1 64 = (10, 6) := by decide +kernel
theorem k_65 : Z0.2.1 65 = (0, 11) := by decide +kernel
theorem k_66 : Z0.2.1 66 = (10, 6) := by decide +kernel
theorem k_67 : Z0.2.1 67 = (10, 6) := by decide +kernel
theorem k_68 : Z0.2.1 68 = (10, 6) := by decide +kernel
theorem k_69 : Z0.2.1 69 = (10, 6) := by decide +kernel
theorem k_70 : Z0.2.1 70 = (10, 6) := by decide +kernel
theorem k_71 : Z0.2.1 71 = (0, 11) := by decide +kernel
theorem k_72 : Z0.2.1 72 = (10, 6) := by decide +kernel
theorem k_73 : Z0.2.1 73 = (10, 6) := by decide +kernel
theorem k_74 : Z0.2.1 74 = (10, 6) := by decide +kernel
theorem k_75 : Z0.2.1 75 = (10, 6) := by decide +kernel
theorem k_76 : Z0.2.1 76 = (10, 6) := by decide +kernel
theorem k_77 : Z0.2.1 77 = (0, 11) := by decide +kernel
theorem k_78 : Z0.2.1 78 = (10, 6) := by decide +kernel
theorem k_79 : Z0.2.1 79 = (10, 6) := by decide +kernel
theorem k_80 : Z0.2.1 80 = (10, 6) := by decide +kernel
theorem k_81 : Z0.2.1 81 = (10, 6) := by decide +kernel
theorem k_82 : Z0.2.1 82 = (10, 6) := by decide +kernel
theorem k_83 : Z0.2.1 83 = (0, 11) := by decide +kernel
theorem k_84 : Z0.2.1 84 = (10, 6) := by decide +kernel
theorem k_85 : Z0.2.1 85 = (10, 6) := by decide +kernel
theorem k_86 : Z0.2.1 86 = (10, 6) := by decide +kernel
theorem k_87 : Z0.2.1 87 = (10, 6) := by decide +kernel
theorem k_88 : Z0.2.1 88 = (10, 6) := by decide +kernel
theorem k_89 : Z0.2.1 89 = (0, 11) := by decide +kernel
theorem k_90 : Z0.2.1 90 = (10, 6) := by decide +kernel
theorem k_91 : Z0.2.1 91 = (10, 6) := by decide +kernel
theorem k_92 : Z0.2.1 92 = (10, 6) := by decide +kernel
theorem k_93 : Z0.2.1 93 = (10, 6) := by decide +kernel
theorem k_94 : Z0.2.1 94 = (10, 6) := by decide +kernel
theorem k_95 : Z0.2.1 95 = (0, 11) := by decide +kernel
theorem k_96 : Z0.2.1 96 = (10, 6) := by decide +kernel
theorem k_97 : Z0.2.1 97 = (10, 6) := by decide +kernel
theorem k_98 : Z0.2.1 98 = (10, 6) := by decide +kernel
theorem k_99 : Z0.2.1 99 = (10, 6) := by decide +kernel
theorem k_100 : Z0.2.1 100 = (10, 6) := by decide +kernel
theorem k_101 : Z0.2.1 101 = (0, 11) := by decide +kernel
theorem k_102 : Z0.2.1 102 = (10, 6) := by decide +kernel
theorem k_103 : Z0.2.1 103 = (10, 6) := by decide +kernel
theorem k_104 : Z0.2.1 104 = (10, 6) := by decide +kernel
theorem k_105 : Z0.2.1 105 = (10, 6) := by decide +kernel
theorem k_106 : Z0.2.1 106 = (10, 6) := by decide +kernel
theorem k_107 : Z0.2.1 107 = (0, 11) := by decide +kernel
theorem k_108 : Z0.2.1 108 = (10, 6) := by decide +kernel
theorem k_109 : Z0.2.1 109 = (10, 6) := by decide +kernel
theorem k_110 : Z0.2.1 110 = (10, 6) := by decide +kernel
theorem k_111 : Z0.2.1 111 = (10, 6) := by decide +kernel
theorem k_112 : Z0.2.1 112 = (10, 6) := by decide +kernel
theorem k_113 : Z0.2.1 113 = (0, 11) := by decide +kernel
theorem k_114 : Z0.2.1 114 = (10, 6) := by decide +kernel
theorem k_115 : Z0.2.1 115 = (10, 6) := by decide +kernel
theorem k_116 : Z0.2.1 116 = (10, 6) := by decide +kernel
theorem k_117 : Z0.2.1 117 = (10, 6) := by decide +kernel
theorem k_118 : Z0.2.1 118 = (10, 6) := by decide +kernel
theorem k_119 : Z0.2.1 119 = (0, 11) := by decide +kernel
theorem k_120 : Z0.2.1 120 = (10, 6) := by decide +kernel
theorem k_121 : Z0.2.1 121 = (10, 6) := by decide +kernel
theorem k_122 : Z0.2.1 122 = (10, 6) := by decide +kernel
theorem k_123 : Z0.2.1 123 = (10, 6) := by decide +kernel
theorem k_124 : Z0.2.1 124 = (10, 6) := by decide +kernel
theorem k_125 : Z0.2.1 125 = (0, 11) := by decide +kernel
theorem k_126 : Z0.2.1 126 = (10, 6) := by decide +kernel
theorem k_127 : Z0.2.1 127 = (10, 6) := by decide +kernel
theorem k_128 : Z0.2.1 128 = (10, 6) := by decide +kernel
theorem k_129 : Z0.2.1 129 = (10, 6) := by decide +kernel
theorem k_130 : Z0.2.1 130 = (10, 6) := by decide +kernel
theorem k_131 : Z0.2.1 131 = (0, 11) := by decide +kernel
theorem k_132 : Z0.2.1 132 = (10, 6) := by decide +kernel
theorem k_133 : Z0.2.1 133 = (10, 6) := by decide +kernel
theorem k_134 : Z0.2.1 134 = (10, 6) := by decide +kernel
theorem k_135 : Z0.2.1 135 = (10, 6) := by decide +kernel
theorem k_136 : Z0.2.1 136 = (10, 6) := by decide +kernel
theorem k_137 : Z0.2.1 137 = (0, 11) := by decide +kernel
theorem k_138 : Z0.2.1 138 = (10, 6) := by decide +kernel
theorem k_139 : Z0.2.1 139 = (10, 6) := by decide +kernel
theorem k_140 : Z0.2.1 140 = (10, 6) := by decide +kernel
theorem k_141 : Z0.2.1 141 = (10, 6) := by decide +kernel
theorem k_142 : Z0.2.1 142 = (10, 6) := by decide +kernel
theorem k_143 : Z0.2.1 143 = (0, 11) := by decide +kernel
theorem k_144 : Z0.2.1 144 = (10, 6) := by decide +kernel
theorem k_145 : Z0.2.1 145 = (10, 6) := by decide +kernel
theorem k_146 : Z0.2.1 146 = (10, 6) := by decide +kernel
theorem k_147 : Z0.2.1 147 = (10, 6) := by decide +kernel
theorem k_148 : Z0.2.1 148 = (10, 6) := by decide +kernel
theorem k_149 : Z0.2.1 149 = (0, 11) := by decide +kernel
theorem k_150 : Z0.2.1 150 = (10, 6) := by decide +kernel
theorem k_151 : Z0.2.1 151 = (10, 6) := by decide +kernel
theorem k_152 : Z0.2.1 152 = (10, 6) := by decide +kernel
theorem k_153 : Z0.2.1 153 = (10, 6) := by decide +kernel
theorem k_154 : Z0.2.1 154 = (10, 6) := by decide +kernel
theorem k_155 : Z0.2.1 155 = (0, 11) := by decide +kernel
theorem k_156 : Z0.2.1 156 = (10, 6) := by decide +kernel
theorem k_157 : Z0.2.1 157 = (10, 6) := by decide +kernel
theorem k_158 : Z0.2.1 158 = (10, 6) := by decide +kernel
theorem k_159 : Z0.2.1 159 = (10, 6) := by decide +kernel
theorem k_160 : Z0.2.1 160 = (10, 6) := by decide +kernel
theorem k_161 : Z0.2.1 161 = (0, 11) := by decide +kernel
theorem k_162 : Z0.2.1 162 = (10, 6) := by decide +kernel
theorem k_163 : Z0.2.1 163 = (10, 6) := by decide +kernel
theorem k_164 : Z0.2.1 164 = (10, 6) := by decide +kernel
theorem k_165 : Z0.2.1 165 = (10, 6) := by decide +kernel
theorem k_166 : Z0.2.1 166 = (10, 6) := by decide +kernel
theorem k_167 : Z0.2.1 167 = (0, 11) := by decide +kernel
theorem k_168 : Z0.2.1 168 = (10, 6) := by decide +kernel
theorem k_169 : Z0.2.1 169 = (10, 6) := by decide +kernel
theorem k_170 : Z0.2.1 170 = (10, 6) := by decide +kernel
theorem k_171 : Z0.2.1 171 = (10, 6) := by decide +kernel
theorem k_172 : Z0.2.1 172 = (10, 6) := by decide +kernel
theorem k_173 : Z0.2.1 173 = (0, 11) := by decide +kernel
theorem k_174 : Z0.2.1 174 = (10, 6) := by decide +kernel
theorem k_175 : Z0.2.1 175 = (10, 6) := by decide +kernel
theorem k_176 : Z0.2.1 176 = (10, 6) := by decide +kernel
theorem k_177 : Z0.2.1 177 = (10, 6) := by decide +kernel
theorem k_178 : Z0.2.1 178 = (10, 6) := by decide +kernel
theorem k_179 : Z0.2.1 179 = (1, 10) := by decide +kernel
theorem k_180 : Z0.2.1 180 = (10, 6) := by decide +kernel
theorem k_181 : Z0.2.1 181 = (10, 36) := by decide +kernel
theorem k_182 : Z0.2.1 182 = (10, 6) := by decide +kernel
theorem k_183 : Z0.2.1 183 = (10, 6) := by decide +kernel
theorem k_184 : Z0.2.1 184 = (10, 6) := by decide +kernel
theorem k_185 : Z0.2.1 185 = (0, 11) := by decide +kernel
theorem k_186 : Z0.2.1 186 = (10, 6) := by decide +kernel
theorem k_187 : Z0.2.1 187 = (10, 6) := by decide +kernel
theorem k_188 : Z0.2.1 188 = (10, 6) := by decide +kernel
theorem k_189 : Z0.2.1 189 = (10, 6) := by decide +kernel
theorem k_190 : Z0.2.1 190 = (10, 6) := by decide +kernel
theorem k_191 : Z0.2.1 191 = (13, 2) := by decide +kernel
theorem k_192 : Z0.2.1 192 = (14, 2) := by decide +kernel
theorem k_193 : Z0.2.1 193 = (11, 101) := by decide +kernel
theorem k_194 : Z0.2.1 194 = (10, 16) := by decide +kernel
theorem k_195 : Z0.2.1 195 = (1, 10) := by decide +kernel
theorem k_196 : Z0.2.1 196 = (10, 6) := by decide +kernel
theorem k_197 : Z0.2.1 197 = (10, 36) := by decide +kernel
theorem k_198 : Z0.2.1 198 = (10, 6) := by decide +kernel
theorem k_199 : Z0.2.1 199 = (10, 6) := by decide +kernel
theorem k_200 : Z0.2.1 200 = (10, 6) := by decide +kernel
theorem k_201 : Z0.2.1 201 = (0, 11) := by decide +kernel
theorem k_202 : Z0.2.1 202 = (10, 6) := by decide +kernel
theorem k_203 : Z0.2.1 203 = (10, 6) := by decide +kernel
theorem k_204 : Z0.2.1 204 = (10, 6) := by decide +kernel
theorem k_205 : Z0.2.1 205 = (10, 6) := by decide +kernel
theorem k_206 : Z0.2.1 206 = (10, 6) := by decide +kernel
theorem k_207 : Z0.2.1 207 = (1, 10) := by decide +kernel
theorem k_208 : Z0.2.1 208 = (10, 6) := by decide +kernel
theorem k_209 : Z0.2.1 209 = (10, 36) := by decide +kernel
theorem k_210 : Z0.2.1 210 = (10, 6) := by decide +kernel
theorem k_211 : Z0.2.1 211 = (10, 6) := by decide +kernel
theorem k_212 : Z0.2.1 212 = (10, 6) := by decide +kernel
theorem k_213 : Z0.2.1 213 = (0, 11) := by decide +kernel
theorem k_214 : Z0.2.1 214 = (10, 6) := by decide +kernel
theorem k_215 : Z0.2.1 215 = (10, 6) := by decide +kernel
theorem k_216 : Z0.2.1 216 = (10, 6) := by decide +kernel
theorem k_217 : Z0.2.1 217 = (10, 6) := by decide +kernel
theorem k_218 : Z0.2.1 218 = (10, 6) := by decide +kernel
theorem k_219 : Z0.2.1 219 = (6, 26) := by decide +kernel
theorem k_220 : Z0.2.1 220 = (10, 8) := by decide +kernel
theorem k_221 : Z0.2.1 221 = (10, 8) := by decide +kernel
theorem k_222 : Z0.2.1 222 = (10, 320) := by decide +kernel
theorem k_223 : Z0.2.1 223 = (10, 64) := by decide +kernel
theorem k_224 : Z0.2.1 224 = (10, 64) := by decide +kernel
theorem k_225 : Z0.2.1 225 = (10, 64) := by decide +kernel
theorem k_226 : Z0.2.1 226 = (10, 1536) := by decide +kernel
theorem k_227 : Z0.2.1 227 = (10, 120) := by decide +kernel
theorem k_228 : Z0.2.1 228 = (10, 36) := by decide +kernel
theorem k_229 : Z0.2.1 229 = (10, 6) := by decide +kernel
theorem k_230 : Z0.2.1 230 = (11, 101) := by decide +kernel
theorem k_231 : Z0.2.1 231 = (12, 2) := by decide +kernel
theorem k_232 : Z0.2.1 232 = (10, 128) := by decide +kernel
theorem k_233 : Z0.2.1 233 = (10, 16) := by decide +kernel
theorem z_0 : 0 < Z0.1 := by decide
theorem z_1 : 1 < Z0.1 := by decide
theorem z_2 : 2 < Z0.1 := by decide
theorem z_3 : 3 < Z0.1 := by decide
theorem z_4 : 4 < Z0.1 := by decide
theorem z_5 : 5 < Z0.1 := by decide
theorem z_6 : 6 < Z0.1 := by decide
theorem z_7 : 7 < Z0.1 := by decide
theorem z_8 : 8 < Z0.1 := by decide
theorem z_9 : 9 < Z0.1 := by decide
theorem z_10 : 10 < Z0.1 := by decide
theorem z_11 : 11 < Z0.1 := by decide
theorem z_12 : 12 < Z0.1 := by decide
theorem z_13 : 13 < Z0.1 := by decide
theorem z_14 : 14 < Z0.1 := by decide
theorem z_15 : 15 < Z0.1 := by decide
theorem z_16 : 16 < Z0.1 := by decide
theorem z_17 : 17 < Z0.1 := by decide
theorem z_18 : 18 < Z0.1 := by decide
theorem z_19 : 19 < Z0.1 := by decide
theorem z_20 : 20 < Z0.1 := by decide
theorem z_21 : 21 < Z0.1 := by decide
theorem z_22 : 22 < Z0.1 := by decide
theorem z_23 : 23 < Z0.1 := by decide
theorem z_24 : 24 < Z0.1 := by decide
theorem z_25 : 25 < Z0.1 := by decide
theorem z_26 : 26 < Z0.1 := by decide
theorem z_27 : 27 < Z0.1 := by decide
theorem z_28 : 28 < Z0.1 := by decide
theorem z_29 : 29 < Z0.1 := by decide
theorem z_30 : 30 < Z0.1 := by decide
theorem z_31 : 31 < Z0.1 := by decide
theorem z_32 : 32 < Z0.1 := by decide
theorem z_33 : 33 < Z0.1 := by decide
theorem z_34 : 34 < Z0.1 := by decide
theorem z_35 : 35 < Z0.1 := by decide
theorem z_36 : 36 < Z0.1 := by decide
theorem z_37 : 37 < Z0.1 := by decide
theorem z_38 : 38 < Z0.1 := by decide
theorem z_39 : 39 < Z0.1 := by decide
theorem z_40 : 40 < Z0.1 := by decide
theorem z_41 : 41 < Z0.1 := by decide
theorem z_42 : 42 < Z0.1 := by decide
theorem z_43 : 43 < Z0.1 := by decide
theorem z_44 : 44 < Z0.1 := by decide
theorem z_45 : 45 < Z0.1 := by decide
theorem z_46 : 46 < Z0.1 := by decide
theorem z_47 : 47 < Z0.1 := by decide
theorem z_48 : 48 < Z0.1 := by decide
theorem z_49 : 49 < Z0.1 := by decide
theorem z_50 : 50 < Z0.1 := by decide
theorem z_51 : 51 < Z0.1 := by decide
theorem z_52 : 52 < Z0.1 := by decide
theorem z_53 : 53 < Z0.1 := by decide
theorem z_54 : 54 < Z0.1 := by decide
theorem z_55 : 55 < Z0.1 := by decide
theorem z_56 : 56 < Z0.1 := by decide
theorem z_57 : 57 < Z0.1 := by decide
theorem z_58 : 58 < Z0.1 := by decide
theorem z_59 : 59 < Z0.1 := by decide
theorem z_60 : 60 < Z0.1 := by decide
theorem z_61 : 61 < Z0.1 := by decide
theorem z_62 : 62 < Z0.1 := by decide
theorem z_63 : 63 < Z0.1 := by decide
theorem z_64 : 64 < Z0.1 := by decide
theorem z_65 : 65 < Z0.1 := by decide
theorem z_66 : 66 < Z0.1 := by decide
theorem z_67 : 67 < Z0.1 := by decide
theorem z_68 : 68 < Z0.1 := by decide
theorem z_69 : 69 < Z0.1 := by decide
theorem z_70 : 70 < Z0.1 := by decide
theorem z_71 : 71 < Z0.1 := by decide
theorem z_72 : 72 < Z0.1 := by decide
theorem z_73 : 73 < Z0.1 := by decide
theorem z_74 : 74 < Z0.1 := by decide
theorem z_75 : 75 < Z0.1 := by decide
theorem z_76 : 76 < Z0.1 := by decide
theorem z_77 : 77 < Z0.1 := by decide
theorem z_78 : 78 < Z0.1 := by decide
theorem z_79 : 79 < Z0.1 := by decide
theorem z_80 : 80 < Z0.1 := by decide
theorem z_81 : 81 < Z0.1 := by decide
theorem z_82 : 82 < Z0.1 := by decide
theorem z_83 : 83 < Z0.1 := by decide
theorem z_84 : 84 < Z0.1 := by decide
theorem z_85 : 85 < Z0.1 := by decide
theorem z_86 : 86 < Z0.1 := by decide
theorem z_87 : 87 < Z0.1 := by decide
theorem z_88 : 88 < Z0.1 := by decide
theorem z_89 : 89 < Z0.1 := by decide
theorem z_90 : 90 < Z0.1 := by decide
theorem z_91 : 91 < Z0.1 := by decide
theorem z_92 : 92 < Z0.1 := by decide
theorem z_93 : 93 < Z0.1 := by decide
theorem z_94 : 94 < Z0.1 := by decide
theorem z_95 : 95 < Z0.1 := by decide
theorem z_96 : 96 < Z0.1 := by decide
theorem z_97 : 97 < Z0.1 := by decide
theorem z_98 : 98 < Z0.1 := by decide
theorem z_99 : 99 < Z0.1 := by decide
theorem z_100 : 100 < Z0.1 := by decide
theorem z_101 : 101 < Z0.1 := by decide
theorem z_102 : 102 < Z0.1 := by decide
theorem z_103 : 103 < Z0.1 := by decide
theorem z_104 : 104 < Z0.1 := by decide
theorem z_105 : 105 < Z0.1 := by decide
theorem z_106 : 106 < Z0.1 := by decide
theorem z_107 : 107 < Z0.1 := by decide
theorem z_108 : 108 < Z0.1 := by decide
theorem z_109 : 109 < Z0.1 := by decide
theorem z_110 : 110 < Z0.1 := by decide
theorem z_111 : 111 < Z0.1 := by decide
theorem z_112 : 112 < Z0.1 := by decide
theorem z_113 : 113 < Z0.1 := by decide
theorem z_114 : 114 < Z0.1 := by decide
theorem z_115 : 115 < Z0.1 := by decide
theorem z_116 : 116 < Z0.1 := by decide
theorem z_117 : 117 < Z0.1 := by decide
theorem z_118 : 118 < Z0.1 := by decide
theorem z_119 : 119 < Z0.1 := by decide
theorem z_120 : 120 < Z0.1 := by decide
theorem z_121 : 121 < Z0.1 := by decide
theorem z_122 : 122 < Z0.1 := by decide
theorem z_123 : 123 < Z0.1 := by decide
theorem z_124 : 124 < Z0.1 := by decide
theorem z_125 : 125 < Z0.1 := by decide
theorem z_126 : 126 < Z0.1 := by decide
theorem z_127 : 127 < Z0.1 := by decide
theorem z_128 : 128 < Z0.1 := by decide
theorem z_129 : 129 < Z0.1 := by decide
theorem z_130 : 130 < Z0.1 := by decide
theorem z_131 : 131 < Z0.1 := by decide
theorem z_132 : 132 < Z0.1 := by decide
theorem z_133 : 133 < Z0.1 := by decide
theorem z_134 : 134 < Z0.1 := by decide
theorem z_135 : 135 < Z0.1 := by decide
theorem z_136 : 136 < Z0.1 := by decide
theorem z_137 : 137 < Z0.1 := by decide
theorem z_138 : 138 < Z0.1 := by decide
theorem z_139 : 139 < Z0.1 := by decide
theorem z_140 : 140 < Z0.1 := by decide
theorem z_141 : 141 < Z0.1 := by decide
theorem z_142 : 142 < Z0.1 := by decide
theorem z_143 : 143 < Z0.1 := by decide
theorem z_144 : 144 < Z0.1 := by decide
theorem z_145 : 145 < Z0.1 := by decide
theorem z_146 : 146 < Z0.1 := by decide
theorem z_147 : 147 < Z0.1 := by decide
theorem z_148 : 148 < Z0.1 := by decide
theorem z_149 : 149 < Z0.1 := by decide
theorem z_150 : 150 < Z0.1 := by decide
theorem z_151 : 151 < Z0.1 := by decide
theorem z_152 : 152 < Z0.1 := by decide
theorem z_153 : 153 < Z0.1 := by decide
theorem z_154 : 154 < Z0.1 := by decide
theorem z_155 : 155 < Z0.1 := by decide
theorem z_156 : 156 < Z0.1 := by decide
theorem z_157 : 157 < Z0.1 := by decide
theorem z_158 : 158 < Z0.1 := by decide
theorem z_159 : 159 < Z0.1 := by decide
theorem z_160 : 160 < Z0.1 := by decide
theorem z_161 : 161 < Z0.1 := by decide
theorem z_162 : 162 < Z0.1 := by decide
theorem z_163 : 163 < Z0.1 := by decide
theorem z_164 : 164 < Z0.1 := by decide
theorem z_165 : 165 < Z0.1 := by decide
theorem z_166 : 166 < Z0.1 := by decide
theorem z_167 : 167 < Z0.1 := by decide
theorem z_168 : 168 < Z0.1 := by decide
theorem z_169 : 169 < Z0.1 := by decide
theorem z_170 : 170 < Z0.1 := by decide
theorem z_171 : 171 < Z0.1 := by decide
theorem z_172 : 172 < Z0.1 := by decide
theorem z_173 : 173 < Z0.1 := by decide
theorem z_174 : 174 < Z0.1 := by decide
theorem z_175 : 175 < Z0.1 := by decide
theorem z_176 : 176 < Z0.1 := by decide
theorem z_177 : 177 < Z0.1 := by decide
theorem z_178 : 178 < Z0.1 := by decide
theorem z_179 : 179 < Z0.1 := by decide
theorem z_180 : 180 < Z0.1 := by decide
theorem z_181 : 181 < Z0.1 := by decide
theorem z_182 : 182 < Z0.1 := by decide
theorem z_183 : 183 < Z0.1 := by decide
theorem z_184 : 184 < Z0.1 := by decide
theorem z_185 : 185 < Z0.1 := by decide
theorem z_186 : 186 < Z0.1 := by decide
theorem z_187 : 187 < Z0.1 := by decide
theorem z_188 : 188 < Z0.1 := by decide
theorem z_189 : 189 < Z0.1 := by decide
theorem z_190 : 190 < Z0.1 := by decide
theorem z_191 : 191 < Z0.1 := by decide
theorem z_192 : 192 < Z0.1 := by decide
theorem z_193 : 193 < Z0.1 := by decide
theorem z_194 : 194 < Z0.1 := by decide
theorem z_195 : 195 < Z0.1 := by decide
theorem z_196 : 196 < Z0.1 := by decide
theorem z_197 : 197 < Z0.1 := by decide
theorem z_198 : 198 < Z0.1 := by decide
theorem z_199 : 199 < Z0.1 := by decide
theorem z_200 : 200 < Z0.1 := by decide
theorem z_201 : 201 < Z0.1 := by decide
theorem z_202 : 202 < Z0.1 := by decide
theorem z_203 : 203 < Z0.1 := by decide
theorem z_204 : 204 < Z0.1 := by decide
theorem z_205 : 205 < Z0.1 := by decide
theorem z_206 : 206 < Z0.1 := by decide
theorem z_207 : 207 < Z0.1 := by decide
theorem z_208 : 208 < Z0.1 := by decide
theorem z_209 : 209 < Z0.1 := by decide
theorem z_210 : 210 < Z0.1 := by decide
theorem z_211 : 211 < Z0.1 := by decide
theorem z_212 : 212 < Z0.1 := by decide
theorem z_213 : 213 < Z0.1 := by decide
theorem z_214 : 214 < Z0.1 := by decide
theorem z_215 : 215 < Z0.1 := by decide
theorem z_216 : 216 < Z0.1 := by decide
theorem z_217 : 217 < Z0.1 := by decide
theorem z_218 : 218 < Z0.1 := by decide
theorem z_219 : 219 < Z0.1 := by decide
theorem z_220 : 220 < Z0.1 := by decide
theorem z_221 : 221 < Z0.1 := by decide
theorem z_222 : 222 < Z0.1 := by decide
theorem z_223 : 223 < Z0.1 := by decide
theorem z_224 : 224 < Z0.1 := by decide
theorem z_225 : 225 < Z0.1 := by decide
theorem z_226 : 226 < Z0.1 := by decide
theorem z_227 : 227 < Z0.1 := by decide
theorem z_228 : 228 < Z0.1 := by decide
theorem z_229 : 229 < Z0.1 := by decide
theorem z_230 : 230 < Z0.1 := by decide
theorem z_231 : 231 < Z0.1 := by decide
theorem z_232 : 232 < Z0.1 := by decide
theorem z_233 : 233 < Z0.1 := by decide
theorem f_0_0 : Z0.2.2 0 0 = some 1 := by decide +kernel
theorem f_0_1 : Z0.2.2 0 1 = some 13 := by decide +kernel
theorem f_0_2 : Z0.2.2 0 2 = some 15 := by decide +kernel
theorem f_0_3 : Z0.2.2 0 3 = some 21 := by decide +kernel
theorem f_0_4 : Z0.2.2 0 4 = some 27 := by decide +kernel
theorem f_0_5 : Z0.2.2 0 5 = some 173 := by decide +kernel
theorem f_0_6 : Z0.2.2 0 6 = some 179 := by decide +kernel
theorem f_0_7 : Z0.2.2 0 7 = some 185 := by decide +kernel
theorem f_0_8 : Z0.2.2 0 8 = some 191 := by decide +kernel
theorem f_0_9 : Z0.2.2 0 9 = some 192 := by decide +kernel
theorem f_0_11 : Z0.2.2 0 11 = some 193 := by decide +kernel
theorem f_0_12 : Z0.2.2 0 12 = some 194 := by decide +kernel
theorem f_1_0 : Z0.2.2 1 0 = some 2 := by decide +kernel
theorem f_1_1 : Z0.2.2 1 1 = some 3 := by decide +kernel
theorem f_1_2 : Z0.2.2 1 2 = some 4 := by decide +kernel
theorem f_4_0 : Z0.2.2 4 0 = some 5 := by decide +kernel
theorem f_4_1 : Z0.2.2 4 1 = some 6 := by decide +kernel
theorem f_4_2 : Z0.2.2 4 2 = some 7 := by decide +kernel
theorem f_4_3 : Z0.2.2 4 3 = some 8 := by decide +kernel
theorem f_4_4 : Z0.2.2 4 4 = some 9 := by decide +kernel
theorem f_4_5 : Z0.2.2 4 5 = some 10 := by decide +kernel
theorem f_4_6 : Z0.2.2 4 6 = some 11 := by decide +kernel
theorem f_4_7 : Z0.2.2 4 7 = some 12 := by decide +kernel
theorem f_13_0 : Z0.2.2 13 0 = some 14 := by decide +kernel
theorem f_15_5 : Z0.2.2 15 5 = some 16 := by decide +kernel
theorem f_15_6 : Z0.2.2 15 6 = some 17 := by decide +kernel
theorem f_15_7 : Z0.2.2 15 7 = some 18 := by decide +kernel
theorem f_15_8 : Z0.2.2 15 8 = some 19 := by decide +kernel
theorem f_15_9 : Z0.2.2 15 9 = some 20 := by decide +kernel
theorem f_21_6 : Z0.2.2 21 6 = some 22 := by decide +kernel
theorem f_21_7 : Z0.2.2 21 7 = some 23 := by decide +kernel
theorem f_21_8 : Z0.2.2 21 8 = some 24 := by decide +kernel
theorem f_21_9 : Z0.2.2 21 9 = some 25 := by decide +kernel
theorem f_21_10 : Z0.2.2 21 10 = some 26 := by decide +kernel
theorem f_27_0 : Z0.2.2 27 0 = some 28 := by decide +kernel
theorem f_28_0 : Z0.2.2 28 0 = some 29 := by decide +kernel
theorem f_28_1 : Z0.2.2 28 1 = some 35 := by decide +kernel
theorem f_28_2 : Z0.2.2 28 2 = some 41 := by decide +kernel
theorem f_28_3 : Z0.2.2 28 3 = some 47 := by decide +kernel
theorem f_28_4 : Z0.2.2 28 4 = some 53 := by decide +kernel
theorem f_28_5 : Z0.2.2 28 5 = some 59 := by decide +kernel
theorem f_28_6 : Z0.2.2 28 6 = some 65 := by decide +kernel
theorem f_28_7 : Z0.2.2 28 7 = some 71 := by decide +kernel
theorem f_28_8 : Z0.2.2 28 8 = some 77 := by decide +kernel
theorem f_28_9 : Z0.2.2 28 9 = some 83 := by decide +kernel
theorem f_28_10 : Z0.2.2 28 10 = some 89 := by decide +kernel
theorem f_28_11 : Z0.2.2 28 11 = some 95 := by decide +kernel
theorem f_28_12 : Z0.2.2 28 12 = some 101 := by decide +kernel
theorem f_28_13 : Z0.2.2 28 13 = some 107 := by decide +kernel
theorem f_28_14 : Z0.2.2 28 14 = some 113 := by decide +kernel
theorem f_28_15 : Z0.2.2 28 15 = some 119 := by decide +kernel
theorem f_28_16 : Z0.2.2 28 16 = some 125 := by decide +kernel
theorem f_28_17 : Z0.2.2 28 17 = some 131 := by decide +kernel
theorem f_28_18 : Z0.2.2 28 18 = some 137 := by decide +kernel
theorem f_28_19 : Z0.2.2 28 19 = some 143 := by decide +kernel
theorem f_28_20 : Z0.2.2 28 20 = some 149 := by decide +kernel
theorem f_28_21 : Z0.2.2 28 21 = some 155 := by decide +kernel
theorem f_28_22 : Z0.2.2 28 22 = some 161 := by decide +kernel
theorem f_28_23 : Z0.2.2 28 23 = some 167 := by decide +kernel
theorem f_29_6 : Z0.2.2 29 6 = some 30 := by decide +kernel
theorem f_29_7 : Z0.2.2 29 7 = some 31 := by decide +kernel
theorem f_29_8 : Z0.2.2 29 8 = some 32 := by decide +kernel
theorem f_29_9 : Z0.2.2 29 9 = some 33 := by decide +kernel
theorem f_29_10 : Z0.2.2 29 10 = some 34 := by decide +kernel
theorem f_35_6 : Z0.2.2 35 6 = some 36 := by decide +kernel
theorem f_35_7 : Z0.2.2 35 7 = some 37 := by decide +kernel
theorem f_35_8 : Z0.2.2 35 8 = some 38 := by decide +kernel
theorem f_35_9 : Z0.2.2 35 9 = some 39 := by decide +kernel
theorem f_35_10 : Z0.2.2 35 10 = some 40 := by decide +kernel
theorem f_41_6 : Z0.2.2 41 6 = some 42 := by decide +kernel
theorem f_41_7 : Z0.2.2 41 7 = some 43 := by decide +kernel
theorem f_41_8 : Z0.2.2 41 8 = some 44 := by decide +kernel
theorem f_41_9 : Z0.2.2 41 9 = some 45 := by decide +kernel
theorem f_41_10 : Z0.2.2 41 10 = some 46 := by decide +kernel
theorem f_47_6 : Z0.2.2 47 6 = some 48 := by decide +kernel
theorem f_47_7 : Z0.2.2 47 7 = some 49 := by decide +kernel
theorem f_47_8 : Z0.2.2 47 8 = some 50 := by decide +kernel
theorem f_47_9 : Z0.2.2 47 9 = some 51 := by decide +kernel
theorem f_47_10 : Z0.2.2 47 10 = some 52 := by decide +kernel
theorem f_53_6 : Z0.2.2 53 6 = some 54 := by decide +kernel
theorem f_53_7 : Z0.2.2 53 7 = some 55 := by decide +kernel
theorem f_53_8 : Z0.2.2 53 8 = some 56 := by decide +kernel
theorem f_53_9 : Z0.2.2 53 9 = some 57 := by decide +kernel
theorem f_53_10 : Z0.2.2 53 10 = some 58 := by decide +kernel
theorem f_59_6 : Z0.2.2 59 6 = some 60 := by decide +kernel
theorem f_59_7 : Z0.2.2 59 7 = some 61 := by decide +kernel
theorem f_59_8 : Z0.2.2 59 8 = some 62 := by decide +kernel
theorem f_59_9 : Z0.2.2 59 9 = some 63 := by decide +kernel
theorem f_59_10 : Z0.2.2 59 10 = some 64 := by decide +kernel
theorem f_65_6 : Z0.2.2 65 6 = some 66 := by decide +kernel
theorem f_65_7 : Z0.2.2 65 7 = some 67 := by decide +kernel
theorem f_65_8 : Z0.2.2 65 8 = some 68 := by decide +kernel
theorem f_65_9 : Z0.2.2 65 9 = some 69 := by decide +kernel
theorem f_65_10 : Z0.2.2 65 10 = some 70 := by decide +kernel
theorem f_71_6 : Z0.2.2 71 6 = some 72 := by decide +kernel
theorem f_71_7 : Z0.2.2 71 7 = some 73 := by decide +kernel
theorem f_71_8 : Z0.2.2 71 8 = some 74 := by decide +kernel
theorem f_71_9 : Z0.2.2 71 9 = some 75 := by decide +kernel
theorem f_71_10 : Z0.2.2 71 10 = some 76 := by decide +kernel
theorem f_77_6 : Z0.2.2 77 6 = some 78 := by decide +kernel
theorem f_77_7 : Z0.2.2 77 7 = some 79 := by decide +kernel
theorem f_77_8 : Z0.2.2 77 8 = some 80 := by decide +kernel
theorem f_77_9 : Z0.2.2 77 9 = some 81 := by decide +kernel
theorem f_77_10 : Z0.2.2 77 10 = some 82 := by decide +kernel
theorem f_83_6 : Z0.2.2 83 6 = some 84 := by decide +kernel
theorem f_83_7 : Z0.2.2 83 7 = some 85 := by decide +kernel
theorem f_83_8 : Z0.2.2 83 8 = some 86 := by decide +kernel
theorem f_83_9 : Z0.2.2 83 9 = some 87 := by decide +kernel
theorem f_83_10 : Z0.2.2 83 10 = some 88 := by decide +kernel
theorem f_89_6 : Z0.2.2 89 6 = some 90 := by decide +kernel
theorem f_89_7 : Z0.2.2 89 7 = some 91 := by decide +kernel
theorem f_89_8 : Z0.2.2 89 8 = some 92 := by decide +kernel
theorem f_89_9 : Z0.2.2 89 9 = some 93 := by decide +kernel
theorem f_89_10 : Z0.2.2 89 10 = some 94 := by decide +kernel
theorem f_95_6 : Z0.2.2 95 6 = some 96 := by decide +kernel
theorem f_95_7 : Z0.2.2 95 7 = some 97 := by decide +kernel
theorem f_95_8 : Z0.2.2 95 8 = some 98 := by decide +kernel
theorem f_95_9 : Z0.2.2 95 9 = some 99 := by decide +kernel
theorem f_95_10 : Z0.2.2 95 10 = some 100 := by decide +kernel
theorem f_101_6 : Z0.2.2 101 6 = some 102 := by decide +kernel
theorem f_101_7 : Z0.2.2 101 7 = some 103 := by decide +kernel
theorem f_101_8 : Z0.2.2 101 8 = some 104 := by decide +kernel
theorem f_101_9 : Z0.2.2 101 9 = some 105 := by decide +kernel
theorem f_101_10 : Z0.2.2 101 10 = some 106 := by decide +kernel
theorem f_107_6 : Z0.2.2 107 6 = some 108 := by decide +kernel
theorem f_107_7 : Z0.2.2 107 7 = some 109 := by decide +kernel
theorem f_107_8 : Z0.2.2 107 8 = some 110 := by decide +kernel
theorem f_107_9 : Z0.2.2 107 9 = some 111 := by decide +kernel
theorem f_107_10 : Z0.2.2 107 10 = some 112 := by decide +kernel
theorem f_113_6 : Z0.2.2 113 6 = some 114 := by decide +kernel
theorem f_113_7 : Z0.2.2 113 7 = some 115 := by decide +kernel
theorem f_113_8 : Z0.2.2 113 8 = some 116 := by decide +kernel
theorem f_113_9 : Z0.2.2 113 9 = some 117 := by decide +kernel
theorem f_113_10 : Z0.2.2 113 10 = some 118 := by decide +kernel
theorem f_119_6 : Z0.2.2 119 6 = some 120 := by decide +kernel
theorem f_119_7 : Z0.2.2 119 7 = some 121 := by decide +kernel
theorem f_119_8 : Z0.2.2 119 8 = some 122 := by decide +kernel
theorem f_119_9 : Z0.2.2 119 9 = some 123 := by decide +kernel
theorem f_119_10 : Z0.2.2 119 10 = some 124 := by decide +kernel
theorem f_125_6 : Z0.2.2 125 6 = some 126 := by decide +kernel
theorem f_125_7 : Z0.2.2 125 7 = some 127 := by decide +kernel
theorem f_125_8 : Z0.2.2 125 8 = some 128 := by decide +kernel
theorem f_125_9 : Z0.2.2 125 9 = some 129 := by decide +kernel
theorem f_125_10 : Z0.2.2 125 10 = some 130 := by decide +kernel
theorem f_131_6 : Z0.2.2 131 6 = some 132 := by decide +kernel
theorem f_131_7 : Z0.2.2 131 7 = some 133 := by decide +kernel
theorem f_131_8 : Z0.2.2 131 8 = some 134 := by decide +kernel
theorem f_131_9 : Z0.2.2 131 9 = some 135 := by decide +kernel
theorem f_131_10 : Z0.2.2 131 10 = some 136 := by decide +kernel
theorem f_137_6 : Z0.2.2 137 6 = some 138 := by decide +kernel
theorem f_137_7 : Z0.2.2 137 7 = some 139 := by decide +kernel
theorem f_137_8 : Z0.2.2 137 8 = some 140 := by decide +kernel
theorem f_137_9 : Z0.2.2 137 9 = some 141 := by decide +kernel
theorem f_137_10 : Z0.2.2 137 10 = some 142 := by decide +kernel
theorem f_143_6 : Z0.2.2 143 6 = some 144 := by decide +kernel
theorem f_143_7 : Z0.2.2 143 7 = some 145 := by decide +kernel
theorem f_143_8 : Z0.2.2 143 8 = some 146 := by decide +kernel
theorem f_143_9 : Z0.2.2 143 9 = some 147 := by decide +kernel
theorem f_143_10 : Z0.2.2 143 10 = some 148 := by decide +kernel
theorem f_149_6 : Z0.2.2 149 6 = some 150 := by decide +kernel
theorem f_149_7 : Z0.2.2 149 7 = some 151 := by decide +kernel
theorem f_149_8 : Z0.2.2 149 8 = some 152 := by decide +kernel
theorem f_149_9 : Z0.2.2 149 9 = some 153 := by decide +kernel
theorem f_149_10 : Z0.2.2 149 10 = some 154 := by decide +kernel
theorem f_155_6 : Z0.2.2 155 6 = some 156 := by decide +kernel
theorem f_155_7 : Z0.2.2 155 7 = some 157 := by decide +kernel
theorem f_155_8 : Z0.2.2 155 8 = some 158 := by decide +kernel
theorem f_155_9 : Z0.2.2 155 9 = some 159 := by decide +kernel
theorem f_155_10 : Z0.2.2 155 10 = some 160 := by decide +kernel
theorem f_161_6 : Z0.2.2 161 6 = some 162 := by decide +kernel
theorem f_161_7 : Z0.2.2 161 7 = some 163 := by decide +kernel
theorem f_161_8 : Z0.2.2 161 8 = some 164 := by decide +kernel
theorem f_161_9 : Z0.2.2 161 9 = some 165 := by decide +kernel
theorem f_161_10 : Z0.2.2 161 10 = some 166 := by decide +kernel
theorem f_167_6 : Z0.2.2 167 6 = some 168 := by decide +kernel
theorem f_167_7 : Z0.2.2 167 7 = some 169 := by decide +kernel
theorem f_167_8 : Z0.2.2 167 8 = some 170 := by decide +kernel
theorem f_167_9 : Z0.2.2 167 9 = some 171 := by decide +kernel
theorem f_167_10 : Z0.2.2 167 10 = some 172 := by decide +kernel
theorem f_173_6 : Z0.2.2 173 6 = some 174 := by decide +kernel
theorem f_173_7 : Z0.2.2 173 7 = some 175 := by decide +kernel
theorem f_173_8 : Z0.2.2 173 8 = some 176 := by decide +kernel
theorem f_173_9 : Z0.2.2 173 9 = some 177 := by decide +kernel
theorem f_173_10 : Z0.2.2 173 10 = some 178 := by decide +kernel
theorem f_179_5 : Z0.2.2 179 5 = some 180 := by decide +kernel
theorem f_179_6 : Z0.2.2 179 6 = some 181 := by decide +kernel
theorem f_179_7 : Z0.2.2 179 7 = some 182 := by decide +kernel
theorem f_179_8 : Z0.2.2 179 8 = some 183 := by decide +kernel
theorem f_179_9 : Z0.2.2 179 9 = some 184 := by decide +kernel
theorem f_185_6 : Z0.2.2 185 6 = some 186 := by decide +kernel
theorem f_185_7 : Z0.2.2 185 7 = some 187 := by decide +kernel
theorem f_185_8 : Z0.2.2 185 8 = some 188 := by decide +kernel
theorem f_185_9 : Z0.2.2 185 9 = some 189 := by decide +kernel
theorem f_185_10 : Z0.2.2 185 10 = some 190 := by decide +kernel
theorem f_191_0 : Z0.2.2 191 0 = some 195 := by decide +kernel
theorem f_191_1 : Z0.2.2 191 1 = some 207 := by decide +kernel
theorem f_192_0 : Z0.2.2 192 0 = some 201 := by decide +kernel
theorem f_192_1 : Z0.2.2 192 1 = some 213 := by decide +kernel
theorem f_195_5 : Z0.2.2 195 5 = some 196 := by decide +kernel
theorem f_195_6 : Z0.2.2 195 6 = some 197 := by decide +kernel
theorem f_195_7 : Z0.2.2 195 7 = some 198 := by decide +kernel
theorem f_195_8 : Z0.2.2 195 8 = some 199 := by decide +kernel
theorem f_195_9 : Z0.2.2 195 9 = some 200 := by decide +kernel
theorem f_201_6 : Z0.2.2 201 6 = some 202 := by decide +kernel
theorem f_201_7 : Z0.2.2 201 7 = some 203 := by decide +kernel
theorem f_201_8 : Z0.2.2 201 8 = some 204 := by decide +kernel
theorem f_201_9 : Z0.2.2 201 9 = some 205 := by decide +kernel
theorem f_201_10 : Z0.2.2 201 10 = some 206 := by decide +kernel
theorem f_207_5 : Z0.2.2 207 5 = some 208 := by decide +kernel
theorem f_207_6 : Z0.2.2 207 6 = some 209 := by decide +kernel
theorem f_207_7 : Z0.2.2 207 7 = some 210 := by decide +kernel
theorem f_207_8 : Z0.2.2 207 8 = some 211 := by decide +kernel
theorem f_207_9 : Z0.2.2 207 9 = some 212 := by decide +kernel
theorem f_213_6 : Z0.2.2 213 6 = some 214 := by decide +kernel
theorem f_213_7 : Z0.2.2 213 7 = some 215 := by decide +kernel
theorem f_213_8 : Z0.2.2 213 8 = some 216 := by decide +kernel
theorem f_213_9 : Z0.2.2 213 9 = some 217 := by decide +kernel
theorem f_213_10 : Z0.2.2 213 10 = some 218 := by decide +kernel
theorem f_219_2 : Z0.2.2 219 2 = some 220 := by decide +kernel
theorem f_219_3 : Z0.2.2 219 3 = some 221 := by decide +kernel
theorem f_219_4 : Z0.2.2 219 4 = some 222 := by decide +kernel
theorem f_219_5 : Z0.2.2 219 5 = some 223 := by decide +kernel
theorem f_219_6 : Z0.2.2 219 6 = some 224 := by decide +kernel
theorem f_219_7 : Z0.2.2 219 7 = some 225 := by decide +kernel
theorem f_219_8 : Z0.2.2 219 8 = some 226 := by decide +kernel
theorem f_219_10 : Z0.2.2 219 10 = some 227 := by decide +kernel
theorem f_219_19 : Z0.2.2 219 19 = some 228 := by decide +kernel
theorem f_219_20 : Z0.2.2 219 20 = some 229 := by decide +kernel
theorem f_219_21 : Z0.2.2 219 21 = some 230 := by decide +kernel
theorem f_219_22 : Z0.2.2 219 22 = some 231 := by decide +kernel
theorem f_219_23 : Z0.2.2 219 23 = some 232 := by decide +kernel
theorem f_219_24 : Z0.2.2 219 24 = some 233 := by decide +kernel
def cIds : List Nat := [21, 29, 35, 41, 47, 53, 59, 65, 71, 77, 83, 89, 95, 101, 107, 113, 119, 125, 131, 137, 143, 149, 155, 161, 167, 173, 185, 201, 213]
def lIds : List Nat := [15, 179, 195, 207]
/-- a Course, a Land of the shape: its arrays lie behind it -/
def isC (o : Nat) : Prop := (o < Z0.1 ∧ o + 1 < Z0.1 ∧ o + 2 < Z0.1 ∧ o + 3 < Z0.1 ∧ o + 4 < Z0.1 ∧ o + 5 < Z0.1) ∧ (Z0.2.1 o = (0, 11) ∧ Z0.2.1 (o + 1) = (10, 6) ∧ Z0.2.1 (o + 2) = (10, 6) ∧ Z0.2.1 (o + 3) = (10, 6) ∧ Z0.2.1 (o + 4) = (10, 6) ∧ Z0.2.1 (o + 5) = (10, 6)) ∧ (Z0.2.2 o 6 = some (o + 1) ∧ Z0.2.2 o 7 = some (o + 2) ∧ Z0.2.2 o 8 = some (o + 3) ∧ Z0.2.2 o 9 = some (o + 4) ∧ Z0.2.2 o 10 = some (o + 5))
def isL (o : Nat) : Prop := (o < Z0.1 ∧ o + 1 < Z0.1 ∧ o + 2 < Z0.1 ∧ o + 3 < Z0.1 ∧ o + 4 < Z0.1 ∧ o + 5 < Z0.1) ∧ (Z0.2.1 o = (1, 10) ∧ Z0.2.1 (o + 1) = (10, 6) ∧ Z0.2.1 (o + 2) = (10, 36) ∧ Z0.2.1 (o + 3) = (10, 6) ∧ Z0.2.1 (o + 4) = (10, 6) ∧ Z0.2.1 (o + 5) = (10, 6)) ∧ (Z0.2.2 o 5 = some (o + 1) ∧ Z0.2.2 o 6 = some (o + 2) ∧ Z0.2.2 o 7 = some (o + 3) ∧ Z0.2.2 o 8 = some (o + 4) ∧ Z0.2.2 o 9 = some (o + 5))
theorem isC_in : ∀ o, o ∈ cIds → isC o := by unfold isC; decide +kernel
theorem isL_in : ∀ o, o ∈ lIds → isL o := by unfold isL; decide +kernel
theorem r_getR {y : MethodName} {cc : ByteArray} {nL : Nat} {ret : Option FieldType} {rm : Room} {B : Nat} {Q : QQ} {Z : ZZ} {D : DD} {E : EE} {ce sl pc : Nat} {lv : List (Nat × Value)} {st : List Value} {i o ci nf k v : Nat} (hw : Cond.fieldLink y.cls i (q_T ci k).1 (q_T ci k).2.1 (q_T ci k).2.2.1 ∈ BW) (hd : decode cc pc = .ok (.getfield i, 3)) (ho : o < Z.1) (hz : Z.2.1 o = (ci, nf)) (hc : ci < 7) (hk : k < q_N ci) (ht : ∀ d : Int32, ∀ r, q_fv B (q_ty ci k) d r = va_rf (r.map (fun i => B + i))) (hr : Z.2.2 o k = some v) (kk : RW y cc nL ret rm B Q Z D E ce sl (pc + 3) lv (.ref (B + v) :: st)) : RW y cc nL ret rm B Q Z D E ce sl pc lv (.ref (B + o) :: st) := r_get hw hd ho hz hc hk (.ref (B + v)) (by rw [ht, hr]; rfl) kk
