/-! ===== pool entries resolved (laid by tools/mklinks.py) ===== -/
theorem mem_ix {w : Cond} (i : Nat) (h : tables_1[i]? = some w) (hg : goodWord w = true) : w ∈ tbG := List.mem_filter.mpr ⟨List.mem_append_right _ (List.mem_of_getElem? h), hg⟩
theorem mem_sx {w : Cond} (i : Nat) (h : (k2_sels lw_privs)[i]? = some w) (hg : goodWord w = true) : w ∈ tbG := List.mem_filter.mpr ⟨List.mem_append_left _ (List.mem_of_getElem? h), hg⟩
theorem tw_0 : (.fieldLink RX0 7 (TX0 4).1 (TX0 4).2.1 (TX0 4).2.2.1 : Cond) ∈ tbG := mem_ix 160 (by decide +kernel) (by decide +kernel)
theorem fk_X0_7 : fLink RX0 7 0 4 := ⟨(RX0, TX0, 8), rfl, by decide, tw_0⟩
theorem tw_1 : (.fieldLink RX0 13 (TX0 5).1 (TX0 5).2.1 (TX0 5).2.2.1 : Cond) ∈ tbG := mem_ix 162 (by decide +kernel) (by decide +kernel)
theorem fk_X0_13 : fLink RX0 13 0 5 := ⟨(RX0, TX0, 8), rfl, by decide, tw_1⟩
theorem tw_2 : (.fieldLink RX0 17 (TX0 6).1 (TX0 6).2.1 (TX0 6).2.2.1 : Cond) ∈ tbG := mem_ix 164 (by decide +kernel) (by decide +kernel)
theorem fk_X0_17 : fLink RX0 17 0 6 := ⟨(RX0, TX0, 8), rfl, by decide, tw_2⟩
theorem tw_3 : (.fieldLink RX0 21 (TX0 7).1 (TX0 7).2.1 (TX0 7).2.2.1 : Cond) ∈ tbG := mem_ix 166 (by decide +kernel) (by decide +kernel)
theorem fk_X0_21 : fLink RX0 21 0 7 := ⟨(RX0, TX0, 8), rfl, by decide, tw_3⟩
theorem tw_4 : (.fieldLink RX0 25 (TX0 0).1 (TX0 0).2.1 (TX0 0).2.2.1 : Cond) ∈ tbG := mem_ix 152 (by decide +kernel) (by decide +kernel)
theorem fk_X0_25 : fLink RX0 25 0 0 := ⟨(RX0, TX0, 8), rfl, by decide, tw_4⟩
theorem tw_5 : (.fieldLink RX0 28 (TX0 1).1 (TX0 1).2.1 (TX0 1).2.2.1 : Cond) ∈ tbG := mem_ix 154 (by decide +kernel) (by decide +kernel)
theorem fk_X0_28 : fLink RX0 28 0 1 := ⟨(RX0, TX0, 8), rfl, by decide, tw_5⟩
theorem tw_6 : (.fieldLink RX0 31 (TX0 2).1 (TX0 2).2.1 (TX0 2).2.2.1 : Cond) ∈ tbG := mem_ix 156 (by decide +kernel) (by decide +kernel)
theorem fk_X0_31 : fLink RX0 31 0 2 := ⟨(RX0, TX0, 8), rfl, by decide, tw_6⟩
theorem tw_7 : (.fieldLink RX0 34 (TX0 3).1 (TX0 3).2.1 (TX0 3).2.2.1 : Cond) ∈ tbG := mem_ix 158 (by decide +kernel) (by decide +kernel)
theorem fk_X0_34 : fLink RX0 34 0 3 := ⟨(RX0, TX0, 8), rfl, by decide, tw_7⟩
theorem tw_8 : (.fieldLink RX1 9 (TX1 0).1 (TX1 0).2.1 (TX1 0).2.2.1 : Cond) ∈ tbG := mem_ix 110 (by decide +kernel) (by decide +kernel)
theorem fk_X1_9 : fLink RX1 9 1 0 := ⟨(RX1, TX1, 7), rfl, by decide, tw_8⟩
theorem tw_9 : (.fieldLink RX1 15 (TX1 1).1 (TX1 1).2.1 (TX1 1).2.2.1 : Cond) ∈ tbG := mem_ix 112 (by decide +kernel) (by decide +kernel)
theorem fk_X1_15 : fLink RX1 15 1 1 := ⟨(RX1, TX1, 7), rfl, by decide, tw_9⟩
theorem tw_10 : (.fieldLink RX1 18 (TX1 2).1 (TX1 2).2.1 (TX1 2).2.2.1 : Cond) ∈ tbG := mem_ix 115 (by decide +kernel) (by decide +kernel)
theorem fk_X1_18 : fLink RX1 18 1 2 := ⟨(RX1, TX1, 7), rfl, by decide, tw_10⟩
theorem tw_11 : (.fieldLink RX1 22 (TX1 3).1 (TX1 3).2.1 (TX1 3).2.2.1 : Cond) ∈ tbG := mem_ix 117 (by decide +kernel) (by decide +kernel)
theorem fk_X1_22 : fLink RX1 22 1 3 := ⟨(RX1, TX1, 7), rfl, by decide, tw_11⟩
theorem tw_12 : (.fieldLink RX1 25 (TX1 4).1 (TX1 4).2.1 (TX1 4).2.2.1 : Cond) ∈ tbG := mem_ix 119 (by decide +kernel) (by decide +kernel)
theorem fk_X1_25 : fLink RX1 25 1 4 := ⟨(RX1, TX1, 7), rfl, by decide, tw_12⟩
theorem tw_13 : (.fieldLink RX1 29 (TX1 5).1 (TX1 5).2.1 (TX1 5).2.2.1 : Cond) ∈ tbG := mem_ix 121 (by decide +kernel) (by decide +kernel)
theorem fk_X1_29 : fLink RX1 29 1 5 := ⟨(RX1, TX1, 7), rfl, by decide, tw_13⟩
theorem tw_14 : (.fieldLink RX1 32 (TX1 6).1 (TX1 6).2.1 (TX1 6).2.2.1 : Cond) ∈ tbG := mem_ix 123 (by decide +kernel) (by decide +kernel)
theorem fk_X1_32 : fLink RX1 32 1 6 := ⟨(RX1, TX1, 7), rfl, by decide, tw_14⟩
theorem tw_15 : (.fieldLink RX1 53 (TX4 4).1 (TX4 4).2.1 (TX4 4).2.2.1 : Cond) ∈ tbG := mem_ix 414 (by decide +kernel) (by decide +kernel)
theorem fk_X1_53 : fLink RX1 53 3 4 := ⟨(RX4, TX4, 9), rfl, by decide, tw_15⟩
theorem tw_16 : (.fieldLink RX1 58 (TX4 3).1 (TX4 3).2.1 (TX4 3).2.2.1 : Cond) ∈ tbG := mem_ix 410 (by decide +kernel) (by decide +kernel)
theorem fk_X1_58 : fLink RX1 58 3 3 := ⟨(RX4, TX4, 9), rfl, by decide, tw_16⟩
theorem tw_17 : (.fieldLink RX3 11 (TX3 0).1 (TX3 0).2.1 (TX3 0).2.2.1 : Cond) ∈ tbG := mem_ix 573 (by decide +kernel) (by decide +kernel)
theorem fk_X3_11 : fLink RX3 11 2 0 := ⟨(RX3, TX3, 4), rfl, by decide, tw_17⟩
theorem tw_18 : (.fieldLink RX3 15 (TX3 1).1 (TX3 1).2.1 (TX3 1).2.2.1 : Cond) ∈ tbG := mem_ix 574 (by decide +kernel) (by decide +kernel)
theorem fk_X3_15 : fLink RX3 15 2 1 := ⟨(RX3, TX3, 4), rfl, by decide, tw_18⟩
theorem tw_19 : (.fieldLink RX3 18 (TX3 2).1 (TX3 2).2.1 (TX3 2).2.2.1 : Cond) ∈ tbG := mem_ix 575 (by decide +kernel) (by decide +kernel)
theorem fk_X3_18 : fLink RX3 18 2 2 := ⟨(RX3, TX3, 4), rfl, by decide, tw_19⟩
theorem tw_20 : (.fieldLink RX3 21 (TX3 3).1 (TX3 3).2.1 (TX3 3).2.2.1 : Cond) ∈ tbG := mem_ix 576 (by decide +kernel) (by decide +kernel)
theorem fk_X3_21 : fLink RX3 21 2 3 := ⟨(RX3, TX3, 4), rfl, by decide, tw_20⟩
theorem tw_21 : (.fieldLink RX3 25 (TX4 3).1 (TX4 3).2.1 (TX4 3).2.2.1 : Cond) ∈ tbG := mem_ix 409 (by decide +kernel) (by decide +kernel)
theorem fk_X3_25 : fLink RX3 25 3 3 := ⟨(RX4, TX4, 9), rfl, by decide, tw_21⟩
theorem tw_22 : (.fieldLink RX3 30 (TX4 4).1 (TX4 4).2.1 (TX4 4).2.2.1 : Cond) ∈ tbG := mem_ix 413 (by decide +kernel) (by decide +kernel)
theorem fk_X3_30 : fLink RX3 30 3 4 := ⟨(RX4, TX4, 9), rfl, by decide, tw_22⟩
theorem tw_23 : (.fieldLink RX3 50 (TX1 1).1 (TX1 1).2.1 (TX1 1).2.2.1 : Cond) ∈ tbG := mem_ix 114 (by decide +kernel) (by decide +kernel)
theorem fk_X3_50 : fLink RX3 50 1 1 := ⟨(RX1, TX1, 7), rfl, by decide, tw_23⟩
theorem tw_24 : (.fieldLink RX3 53 (TX1 0).1 (TX1 0).2.1 (TX1 0).2.2.1 : Cond) ∈ tbG := mem_ix 111 (by decide +kernel) (by decide +kernel)
theorem fk_X3_53 : fLink RX3 53 1 0 := ⟨(RX1, TX1, 7), rfl, by decide, tw_24⟩
theorem tw_25 : (.fieldLink RX4 9 (TX4 6).1 (TX4 6).2.1 (TX4 6).2.2.1 : Cond) ∈ tbG := mem_ix 418 (by decide +kernel) (by decide +kernel)
theorem fk_X4_9 : fLink RX4 9 3 6 := ⟨(RX4, TX4, 9), rfl, by decide, tw_25⟩
theorem tw_26 : (.fieldLink RX4 15 (TX4 7).1 (TX4 7).2.1 (TX4 7).2.2.1 : Cond) ∈ tbG := mem_ix 421 (by decide +kernel) (by decide +kernel)
theorem fk_X4_15 : fLink RX4 15 3 7 := ⟨(RX4, TX4, 9), rfl, by decide, tw_26⟩
theorem tw_27 : (.fieldLink RX4 18 (TX4 8).1 (TX4 8).2.1 (TX4 8).2.2.1 : Cond) ∈ tbG := mem_ix 424 (by decide +kernel) (by decide +kernel)
theorem fk_X4_18 : fLink RX4 18 3 8 := ⟨(RX4, TX4, 9), rfl, by decide, tw_27⟩
theorem tw_28 : (.fieldLink RX4 21 (TX4 0).1 (TX4 0).2.1 (TX4 0).2.2.1 : Cond) ∈ tbG := mem_ix 401 (by decide +kernel) (by decide +kernel)
theorem fk_X4_21 : fLink RX4 21 3 0 := ⟨(RX4, TX4, 9), rfl, by decide, tw_28⟩
theorem tw_29 : (.fieldLink RX4 25 (TX4 1).1 (TX4 1).2.1 (TX4 1).2.2.1 : Cond) ∈ tbG := mem_ix 403 (by decide +kernel) (by decide +kernel)
theorem fk_X4_25 : fLink RX4 25 3 1 := ⟨(RX4, TX4, 9), rfl, by decide, tw_29⟩
theorem tw_30 : (.fieldLink RX4 28 (TX4 2).1 (TX4 2).2.1 (TX4 2).2.2.1 : Cond) ∈ tbG := mem_ix 405 (by decide +kernel) (by decide +kernel)
theorem fk_X4_28 : fLink RX4 28 3 2 := ⟨(RX4, TX4, 9), rfl, by decide, tw_30⟩
theorem tw_31 : (.fieldLink RX4 31 (TX4 3).1 (TX4 3).2.1 (TX4 3).2.2.1 : Cond) ∈ tbG := mem_ix 408 (by decide +kernel) (by decide +kernel)
theorem fk_X4_31 : fLink RX4 31 3 3 := ⟨(RX4, TX4, 9), rfl, by decide, tw_31⟩
theorem tw_32 : (.fieldLink RX4 34 (TX4 4).1 (TX4 4).2.1 (TX4 4).2.2.1 : Cond) ∈ tbG := mem_ix 412 (by decide +kernel) (by decide +kernel)
theorem fk_X4_34 : fLink RX4 34 3 4 := ⟨(RX4, TX4, 9), rfl, by decide, tw_32⟩
theorem tw_33 : (.fieldLink RX4 37 (TX4 5).1 (TX4 5).2.1 (TX4 5).2.2.1 : Cond) ∈ tbG := mem_ix 416 (by decide +kernel) (by decide +kernel)
theorem fk_X4_37 : fLink RX4 37 3 5 := ⟨(RX4, TX4, 9), rfl, by decide, tw_33⟩
theorem tw_34 : (.fieldLink RX5 9 (TX5 3).1 (TX5 3).2.1 (TX5 3).2.2.1 : Cond) ∈ tbG := mem_ix 274 (by decide +kernel) (by decide +kernel)
theorem fk_X5_9 : fLink RX5 9 4 3 := ⟨(RX5, TX5, 13), rfl, by decide, tw_34⟩
theorem tw_35 : (.fieldLink RX5 15 (TX5 4).1 (TX5 4).2.1 (TX5 4).2.2.1 : Cond) ∈ tbG := mem_ix 276 (by decide +kernel) (by decide +kernel)
theorem fk_X5_15 : fLink RX5 15 4 4 := ⟨(RX5, TX5, 13), rfl, by decide, tw_35⟩
theorem tw_36 : (.fieldLink RX5 19 (TX5 5).1 (TX5 5).2.1 (TX5 5).2.2.1 : Cond) ∈ tbG := mem_ix 277 (by decide +kernel) (by decide +kernel)
theorem fk_X5_19 : fLink RX5 19 4 5 := ⟨(RX5, TX5, 13), rfl, by decide, tw_36⟩
theorem tw_37 : (.fieldLink RX5 22 (TX5 6).1 (TX5 6).2.1 (TX5 6).2.2.1 : Cond) ∈ tbG := mem_ix 279 (by decide +kernel) (by decide +kernel)
theorem fk_X5_22 : fLink RX5 22 4 6 := ⟨(RX5, TX5, 13), rfl, by decide, tw_37⟩
theorem tw_38 : (.fieldLink RX5 25 (TX5 7).1 (TX5 7).2.1 (TX5 7).2.2.1 : Cond) ∈ tbG := mem_ix 281 (by decide +kernel) (by decide +kernel)
theorem fk_X5_25 : fLink RX5 25 4 7 := ⟨(RX5, TX5, 13), rfl, by decide, tw_38⟩
theorem tw_39 : (.fieldLink RX5 29 (TX5 8).1 (TX5 8).2.1 (TX5 8).2.2.1 : Cond) ∈ tbG := mem_ix 283 (by decide +kernel) (by decide +kernel)
theorem fk_X5_29 : fLink RX5 29 4 8 := ⟨(RX5, TX5, 13), rfl, by decide, tw_39⟩
theorem tw_40 : (.fieldLink RX5 32 (TX5 9).1 (TX5 9).2.1 (TX5 9).2.2.1 : Cond) ∈ tbG := mem_ix 286 (by decide +kernel) (by decide +kernel)
theorem fk_X5_32 : fLink RX5 32 4 9 := ⟨(RX5, TX5, 13), rfl, by decide, tw_40⟩
theorem tw_41 : (.fieldLink RX5 36 (TX5 10).1 (TX5 10).2.1 (TX5 10).2.2.1 : Cond) ∈ tbG := mem_ix 288 (by decide +kernel) (by decide +kernel)
theorem fk_X5_36 : fLink RX5 36 4 10 := ⟨(RX5, TX5, 13), rfl, by decide, tw_41⟩
theorem tw_42 : (.fieldLink RX5 39 (TX5 11).1 (TX5 11).2.1 (TX5 11).2.2.1 : Cond) ∈ tbG := mem_ix 289 (by decide +kernel) (by decide +kernel)
theorem fk_X5_39 : fLink RX5 39 4 11 := ⟨(RX5, TX5, 13), rfl, by decide, tw_42⟩
theorem tw_43 : (.fieldLink RX5 42 (TX5 12).1 (TX5 12).2.1 (TX5 12).2.2.1 : Cond) ∈ tbG := mem_ix 291 (by decide +kernel) (by decide +kernel)
theorem fk_X5_42 : fLink RX5 42 4 12 := ⟨(RX5, TX5, 13), rfl, by decide, tw_43⟩
theorem tw_44 : (.fieldLink RX5 45 (TX5 0).1 (TX5 0).2.1 (TX5 0).2.2.1 : Cond) ∈ tbG := mem_ix 269 (by decide +kernel) (by decide +kernel)
theorem fk_X5_45 : fLink RX5 45 4 0 := ⟨(RX5, TX5, 13), rfl, by decide, tw_44⟩
theorem tw_45 : (.fieldLink RX5 49 (TX5 1).1 (TX5 1).2.1 (TX5 1).2.2.1 : Cond) ∈ tbG := mem_ix 270 (by decide +kernel) (by decide +kernel)
theorem fk_X5_49 : fLink RX5 49 4 1 := ⟨(RX5, TX5, 13), rfl, by decide, tw_45⟩
theorem tw_46 : (.fieldLink RX5 52 (TX5 2).1 (TX5 2).2.1 (TX5 2).2.2.1 : Cond) ∈ tbG := mem_ix 271 (by decide +kernel) (by decide +kernel)
theorem fk_X5_52 : fLink RX5 52 4 2 := ⟨(RX5, TX5, 13), rfl, by decide, tw_46⟩
theorem tw_47 : (.fieldLink RX5 91 (TX4 2).1 (TX4 2).2.1 (TX4 2).2.2.1 : Cond) ∈ tbG := mem_ix 406 (by decide +kernel) (by decide +kernel)
theorem fk_X5_91 : fLink RX5 91 3 2 := ⟨(RX4, TX4, 9), rfl, by decide, tw_47⟩
theorem tw_48 : (.fieldLink RX5 94 (TX4 6).1 (TX4 6).2.1 (TX4 6).2.2.1 : Cond) ∈ tbG := mem_ix 419 (by decide +kernel) (by decide +kernel)
theorem fk_X5_94 : fLink RX5 94 3 6 := ⟨(RX4, TX4, 9), rfl, by decide, tw_48⟩
theorem tw_49 : (.fieldLink RX5 97 (TX4 7).1 (TX4 7).2.1 (TX4 7).2.2.1 : Cond) ∈ tbG := mem_ix 422 (by decide +kernel) (by decide +kernel)
theorem fk_X5_97 : fLink RX5 97 3 7 := ⟨(RX4, TX4, 9), rfl, by decide, tw_49⟩
theorem tw_50 : (.fieldLink RX6 7 (TX6 2).1 (TX6 2).2.1 (TX6 2).2.2.1 : Cond) ∈ tbG := mem_ix 256 (by decide +kernel) (by decide +kernel)
theorem fk_X6_7 : fLink RX6 7 5 2 := ⟨(RX6, TX6, 3), rfl, by decide, tw_50⟩
theorem tw_51 : (.fieldLink RX6 13 (TX6 0).1 (TX6 0).2.1 (TX6 0).2.2.1 : Cond) ∈ tbG := mem_ix 254 (by decide +kernel) (by decide +kernel)
theorem fk_X6_13 : fLink RX6 13 5 0 := ⟨(RX6, TX6, 3), rfl, by decide, tw_51⟩
theorem tw_52 : (.fieldLink RX6 17 (TX6 1).1 (TX6 1).2.1 (TX6 1).2.2.1 : Cond) ∈ tbG := mem_ix 255 (by decide +kernel) (by decide +kernel)
theorem fk_X6_17 : fLink RX6 17 5 1 := ⟨(RX6, TX6, 3), rfl, by decide, tw_52⟩
theorem tw_53 : (.fieldLink RX7 9 (TX7 0).1 (TX7 0).2.1 (TX7 0).2.2.1 : Cond) ∈ tbG := mem_ix 36 (by decide +kernel) (by decide +kernel)
theorem fk_X7_9 : fLink RX7 9 6 0 := ⟨(RX7, TX7, 3), rfl, by decide, tw_53⟩
theorem tw_54 : (.fieldLink RX7 15 (TX7 1).1 (TX7 1).2.1 (TX7 1).2.2.1 : Cond) ∈ tbG := mem_ix 38 (by decide +kernel) (by decide +kernel)
theorem fk_X7_15 : fLink RX7 15 6 1 := ⟨(RX7, TX7, 3), rfl, by decide, tw_54⟩
theorem tw_55 : (.fieldLink RX7 18 (TX7 2).1 (TX7 2).2.1 (TX7 2).2.2.1 : Cond) ∈ tbG := mem_ix 40 (by decide +kernel) (by decide +kernel)
theorem fk_X7_18 : fLink RX7 18 6 2 := ⟨(RX7, TX7, 3), rfl, by decide, tw_55⟩
theorem tw_56 : (.fieldLink RX7 32 (TX5 8).1 (TX5 8).2.1 (TX5 8).2.2.1 : Cond) ∈ tbG := mem_ix 284 (by decide +kernel) (by decide +kernel)
theorem fk_X7_32 : fLink RX7 32 4 8 := ⟨(RX5, TX5, 13), rfl, by decide, tw_56⟩
theorem tw_57 : (.fieldLink RX7 38 (TX5 12).1 (TX5 12).2.1 (TX5 12).2.2.1 : Cond) ∈ tbG := mem_ix 292 (by decide +kernel) (by decide +kernel)
theorem fk_X7_38 : fLink RX7 38 4 12 := ⟨(RX5, TX5, 13), rfl, by decide, tw_57⟩
theorem tw_58 : (.fieldLink RX7 41 (TX5 2).1 (TX5 2).2.1 (TX5 2).2.2.1 : Cond) ∈ tbG := mem_ix 272 (by decide +kernel) (by decide +kernel)
theorem fk_X7_41 : fLink RX7 41 4 2 := ⟨(RX5, TX5, 13), rfl, by decide, tw_58⟩
theorem tw_59 : (.fieldLink RX7 52 (TX5 7).1 (TX5 7).2.1 (TX5 7).2.2.1 : Cond) ∈ tbG := mem_ix 282 (by decide +kernel) (by decide +kernel)
theorem fk_X7_52 : fLink RX7 52 4 7 := ⟨(RX5, TX5, 13), rfl, by decide, tw_59⟩
theorem tw_60 : (.fieldLink RX8 11 (TX8 0).1 (TX8 0).2.1 (TX8 0).2.2.1 : Cond) ∈ tbG := mem_ix 52 (by decide +kernel) (by decide +kernel)
theorem fk_X8_11 : fLink RX8 11 7 0 := ⟨(RX8, TX8, 9), rfl, by decide, tw_60⟩
theorem tw_61 : (.fieldLink RX8 15 (TX8 1).1 (TX8 1).2.1 (TX8 1).2.2.1 : Cond) ∈ tbG := mem_ix 53 (by decide +kernel) (by decide +kernel)
theorem fk_X8_15 : fLink RX8 15 7 1 := ⟨(RX8, TX8, 9), rfl, by decide, tw_61⟩
theorem tw_62 : (.fieldLink RX8 21 (TX8 2).1 (TX8 2).2.1 (TX8 2).2.2.1 : Cond) ∈ tbG := mem_ix 54 (by decide +kernel) (by decide +kernel)
theorem fk_X8_21 : fLink RX8 21 7 2 := ⟨(RX8, TX8, 9), rfl, by decide, tw_62⟩
theorem tw_63 : (.fieldLink RX8 25 (TX8 3).1 (TX8 3).2.1 (TX8 3).2.2.1 : Cond) ∈ tbG := mem_ix 55 (by decide +kernel) (by decide +kernel)
theorem fk_X8_25 : fLink RX8 25 7 3 := ⟨(RX8, TX8, 9), rfl, by decide, tw_63⟩
theorem tw_64 : (.fieldLink RX8 31 (TX8 4).1 (TX8 4).2.1 (TX8 4).2.2.1 : Cond) ∈ tbG := mem_ix 56 (by decide +kernel) (by decide +kernel)
theorem fk_X8_31 : fLink RX8 31 7 4 := ⟨(RX8, TX8, 9), rfl, by decide, tw_64⟩
theorem tw_65 : (.fieldLink RX8 37 (TX8 5).1 (TX8 5).2.1 (TX8 5).2.2.1 : Cond) ∈ tbG := mem_ix 57 (by decide +kernel) (by decide +kernel)
theorem fk_X8_37 : fLink RX8 37 7 5 := ⟨(RX8, TX8, 9), rfl, by decide, tw_65⟩
theorem tw_66 : (.fieldLink RX8 41 (TX8 6).1 (TX8 6).2.1 (TX8 6).2.2.1 : Cond) ∈ tbG := mem_ix 58 (by decide +kernel) (by decide +kernel)
theorem fk_X8_41 : fLink RX8 41 7 6 := ⟨(RX8, TX8, 9), rfl, by decide, tw_66⟩
theorem tw_67 : (.fieldLink RX8 44 (TX8 7).1 (TX8 7).2.1 (TX8 7).2.2.1 : Cond) ∈ tbG := mem_ix 59 (by decide +kernel) (by decide +kernel)
theorem fk_X8_44 : fLink RX8 44 7 7 := ⟨(RX8, TX8, 9), rfl, by decide, tw_67⟩
theorem tw_68 : (.fieldLink RX8 47 (TX8 8).1 (TX8 8).2.1 (TX8 8).2.2.1 : Cond) ∈ tbG := mem_ix 60 (by decide +kernel) (by decide +kernel)
theorem fk_X8_47 : fLink RX8 47 7 8 := ⟨(RX8, TX8, 9), rfl, by decide, tw_68⟩
theorem tw_69 : (.fieldLink RX8 80 (TX1 1).1 (TX1 1).2.1 (TX1 1).2.2.1 : Cond) ∈ tbG := mem_ix 113 (by decide +kernel) (by decide +kernel)
theorem fk_X8_80 : fLink RX8 80 1 1 := ⟨(RX1, TX1, 7), rfl, by decide, tw_69⟩
theorem tw_70 : (.fieldLink RX8 83 (TX1 5).1 (TX1 5).2.1 (TX1 5).2.2.1 : Cond) ∈ tbG := mem_ix 122 (by decide +kernel) (by decide +kernel)
theorem fk_X8_83 : fLink RX8 83 1 5 := ⟨(RX1, TX1, 7), rfl, by decide, tw_70⟩
theorem tw_71 : (.fieldLink RX8 86 (TX1 4).1 (TX1 4).2.1 (TX1 4).2.2.1 : Cond) ∈ tbG := mem_ix 120 (by decide +kernel) (by decide +kernel)
theorem fk_X8_86 : fLink RX8 86 1 4 := ⟨(RX1, TX1, 7), rfl, by decide, tw_71⟩
theorem tw_72 : (.fieldLink RX8 90 (TX0 5).1 (TX0 5).2.1 (TX0 5).2.2.1 : Cond) ∈ tbG := mem_ix 163 (by decide +kernel) (by decide +kernel)
theorem fk_X8_90 : fLink RX8 90 0 5 := ⟨(RX0, TX0, 8), rfl, by decide, tw_72⟩
theorem tw_73 : (.fieldLink RX8 110 (TX1 3).1 (TX1 3).2.1 (TX1 3).2.2.1 : Cond) ∈ tbG := mem_ix 118 (by decide +kernel) (by decide +kernel)
theorem fk_X8_110 : fLink RX8 110 1 3 := ⟨(RX1, TX1, 7), rfl, by decide, tw_73⟩
theorem tw_74 : (.fieldLink RX8 124 (TX5 2).1 (TX5 2).2.1 (TX5 2).2.2.1 : Cond) ∈ tbG := mem_ix 273 (by decide +kernel) (by decide +kernel)
theorem fk_X8_124 : fLink RX8 124 4 2 := ⟨(RX5, TX5, 13), rfl, by decide, tw_74⟩
theorem tw_75 : (.fieldLink RX8 131 (TX6 2).1 (TX6 2).2.1 (TX6 2).2.2.1 : Cond) ∈ tbG := mem_ix 257 (by decide +kernel) (by decide +kernel)
theorem fk_X8_131 : fLink RX8 131 5 2 := ⟨(RX6, TX6, 3), rfl, by decide, tw_75⟩
theorem tw_76 : (.fieldLink RX8 134 (TX0 6).1 (TX0 6).2.1 (TX0 6).2.2.1 : Cond) ∈ tbG := mem_ix 165 (by decide +kernel) (by decide +kernel)
theorem fk_X8_134 : fLink RX8 134 0 6 := ⟨(RX0, TX0, 8), rfl, by decide, tw_76⟩
theorem tw_77 : (.fieldLink RX8 143 (TX0 4).1 (TX0 4).2.1 (TX0 4).2.2.1 : Cond) ∈ tbG := mem_ix 161 (by decide +kernel) (by decide +kernel)
theorem fk_X8_143 : fLink RX8 143 0 4 := ⟨(RX0, TX0, 8), rfl, by decide, tw_77⟩
theorem tw_78 : (.fieldLink RX8 167 (TX5 5).1 (TX5 5).2.1 (TX5 5).2.2.1 : Cond) ∈ tbG := mem_ix 278 (by decide +kernel) (by decide +kernel)
theorem fk_X8_167 : fLink RX8 167 4 5 := ⟨(RX5, TX5, 13), rfl, by decide, tw_78⟩
theorem tw_79 : (.fieldLink RX8 174 (TX4 6).1 (TX4 6).2.1 (TX4 6).2.2.1 : Cond) ∈ tbG := mem_ix 420 (by decide +kernel) (by decide +kernel)
theorem fk_X8_174 : fLink RX8 174 3 6 := ⟨(RX4, TX4, 9), rfl, by decide, tw_79⟩
theorem tw_80 : (.fieldLink RX8 179 (TX5 6).1 (TX5 6).2.1 (TX5 6).2.2.1 : Cond) ∈ tbG := mem_ix 280 (by decide +kernel) (by decide +kernel)
theorem fk_X8_179 : fLink RX8 179 4 6 := ⟨(RX5, TX5, 13), rfl, by decide, tw_80⟩
theorem tw_81 : (.fieldLink RX8 186 (TX5 3).1 (TX5 3).2.1 (TX5 3).2.2.1 : Cond) ∈ tbG := mem_ix 275 (by decide +kernel) (by decide +kernel)
theorem fk_X8_186 : fLink RX8 186 4 3 := ⟨(RX5, TX5, 13), rfl, by decide, tw_81⟩
theorem tw_82 : (.fieldLink RX8 192 (TX5 8).1 (TX5 8).2.1 (TX5 8).2.2.1 : Cond) ∈ tbG := mem_ix 285 (by decide +kernel) (by decide +kernel)
theorem fk_X8_192 : fLink RX8 192 4 8 := ⟨(RX5, TX5, 13), rfl, by decide, tw_82⟩
theorem tw_83 : (.fieldLink RX8 195 (TX5 9).1 (TX5 9).2.1 (TX5 9).2.2.1 : Cond) ∈ tbG := mem_ix 287 (by decide +kernel) (by decide +kernel)
theorem fk_X8_195 : fLink RX8 195 4 9 := ⟨(RX5, TX5, 13), rfl, by decide, tw_83⟩
theorem tw_84 : (.fieldLink RX8 203 (TX5 11).1 (TX5 11).2.1 (TX5 11).2.2.1 : Cond) ∈ tbG := mem_ix 290 (by decide +kernel) (by decide +kernel)
theorem fk_X8_203 : fLink RX8 203 4 11 := ⟨(RX5, TX5, 13), rfl, by decide, tw_84⟩
theorem tw_85 : (.fieldLink RX8 214 (TX4 1).1 (TX4 1).2.1 (TX4 1).2.2.1 : Cond) ∈ tbG := mem_ix 404 (by decide +kernel) (by decide +kernel)
theorem fk_X8_214 : fLink RX8 214 3 1 := ⟨(RX4, TX4, 9), rfl, by decide, tw_85⟩
theorem tw_86 : (.fieldLink RX8 217 (TX4 2).1 (TX4 2).2.1 (TX4 2).2.2.1 : Cond) ∈ tbG := mem_ix 407 (by decide +kernel) (by decide +kernel)
theorem fk_X8_217 : fLink RX8 217 3 2 := ⟨(RX4, TX4, 9), rfl, by decide, tw_86⟩
theorem tw_87 : (.fieldLink RX8 220 (TX4 3).1 (TX4 3).2.1 (TX4 3).2.2.1 : Cond) ∈ tbG := mem_ix 411 (by decide +kernel) (by decide +kernel)
theorem fk_X8_220 : fLink RX8 220 3 3 := ⟨(RX4, TX4, 9), rfl, by decide, tw_87⟩
theorem tw_88 : (.fieldLink RX8 221 (TX4 4).1 (TX4 4).2.1 (TX4 4).2.2.1 : Cond) ∈ tbG := mem_ix 415 (by decide +kernel) (by decide +kernel)
theorem fk_X8_221 : fLink RX8 221 3 4 := ⟨(RX4, TX4, 9), rfl, by decide, tw_88⟩
theorem tw_89 : (.fieldLink RX8 224 (TX4 5).1 (TX4 5).2.1 (TX4 5).2.2.1 : Cond) ∈ tbG := mem_ix 417 (by decide +kernel) (by decide +kernel)
theorem fk_X8_224 : fLink RX8 224 3 5 := ⟨(RX4, TX4, 9), rfl, by decide, tw_89⟩
theorem tw_90 : (.fieldLink RX8 227 (TX4 7).1 (TX4 7).2.1 (TX4 7).2.2.1 : Cond) ∈ tbG := mem_ix 423 (by decide +kernel) (by decide +kernel)
theorem fk_X8_227 : fLink RX8 227 3 7 := ⟨(RX4, TX4, 9), rfl, by decide, tw_90⟩
theorem tw_91 : (.fieldLink RX8 230 (TX4 8).1 (TX4 8).2.1 (TX4 8).2.2.1 : Cond) ∈ tbG := mem_ix 425 (by decide +kernel) (by decide +kernel)
theorem fk_X8_230 : fLink RX8 230 3 8 := ⟨(RX4, TX4, 9), rfl, by decide, tw_91⟩
theorem tw_92 : (.fieldLink RX8 264 (TX0 7).1 (TX0 7).2.1 (TX0 7).2.2.1 : Cond) ∈ tbG := mem_ix 167 (by decide +kernel) (by decide +kernel)
theorem fk_X8_264 : fLink RX8 264 0 7 := ⟨(RX0, TX0, 8), rfl, by decide, tw_92⟩
theorem tw_93 : (.fieldLink RX8 294 (TX7 0).1 (TX7 0).2.1 (TX7 0).2.2.1 : Cond) ∈ tbG := mem_ix 37 (by decide +kernel) (by decide +kernel)
theorem fk_X8_294 : fLink RX8 294 6 0 := ⟨(RX7, TX7, 3), rfl, by decide, tw_93⟩
theorem tw_94 : (.fieldLink RX8 297 (TX7 1).1 (TX7 1).2.1 (TX7 1).2.2.1 : Cond) ∈ tbG := mem_ix 39 (by decide +kernel) (by decide +kernel)
theorem fk_X8_297 : fLink RX8 297 6 1 := ⟨(RX7, TX7, 3), rfl, by decide, tw_94⟩
theorem tw_95 : (.fieldLink RX8 327 (TX0 0).1 (TX0 0).2.1 (TX0 0).2.2.1 : Cond) ∈ tbG := mem_ix 153 (by decide +kernel) (by decide +kernel)
theorem fk_X8_327 : fLink RX8 327 0 0 := ⟨(RX0, TX0, 8), rfl, by decide, tw_95⟩
theorem tw_96 : (.fieldLink RX8 337 (TX0 1).1 (TX0 1).2.1 (TX0 1).2.2.1 : Cond) ∈ tbG := mem_ix 155 (by decide +kernel) (by decide +kernel)
theorem fk_X8_337 : fLink RX8 337 0 1 := ⟨(RX0, TX0, 8), rfl, by decide, tw_96⟩
theorem tw_97 : (.fieldLink RX8 344 (TX0 2).1 (TX0 2).2.1 (TX0 2).2.2.1 : Cond) ∈ tbG := mem_ix 157 (by decide +kernel) (by decide +kernel)
theorem fk_X8_344 : fLink RX8 344 0 2 := ⟨(RX0, TX0, 8), rfl, by decide, tw_97⟩
theorem tw_98 : (.fieldLink RX8 347 (TX0 3).1 (TX0 3).2.1 (TX0 3).2.2.1 : Cond) ∈ tbG := mem_ix 159 (by decide +kernel) (by decide +kernel)
theorem fk_X8_347 : fLink RX8 347 0 3 := ⟨(RX0, TX0, 8), rfl, by decide, tw_98⟩
theorem tw_99 : (.fieldLink RX8 372 (TX1 2).1 (TX1 2).2.1 (TX1 2).2.2.1 : Cond) ∈ tbG := mem_ix 116 (by decide +kernel) (by decide +kernel)
theorem fk_X8_372 : fLink RX8 372 1 2 := ⟨(RX1, TX1, 7), rfl, by decide, tw_99⟩
theorem tw_100 : (.fieldLink RX8 379 (TX4 0).1 (TX4 0).2.1 (TX4 0).2.2.1 : Cond) ∈ tbG := mem_ix 402 (by decide +kernel) (by decide +kernel)
theorem fk_X8_379 : fLink RX8 379 3 0 := ⟨(RX4, TX4, 9), rfl, by decide, tw_100⟩
theorem tw_101 : (.fieldLink RX9 7 (TX9 0).1 (TX9 0).2.1 (TX9 0).2.2.1 : Cond) ∈ tbG := mem_ix 763 (by decide +kernel) (by decide +kernel)
theorem fk_X9_7 : fLink RX9 7 8 0 := ⟨(RX9, TX9, 11), rfl, by decide, tw_101⟩
theorem tw_102 : (.fieldLink RX9 14 (TX9 1).1 (TX9 1).2.1 (TX9 1).2.2.1 : Cond) ∈ tbG := mem_ix 764 (by decide +kernel) (by decide +kernel)
theorem fk_X9_14 : fLink RX9 14 8 1 := ⟨(RX9, TX9, 11), rfl, by decide, tw_102⟩
theorem tw_103 : (.fieldLink RX9 17 (TX9 4).1 (TX9 4).2.1 (TX9 4).2.2.1 : Cond) ∈ tbG := mem_ix 767 (by decide +kernel) (by decide +kernel)
theorem fk_X9_17 : fLink RX9 17 8 4 := ⟨(RX9, TX9, 11), rfl, by decide, tw_103⟩
theorem tw_104 : (.fieldLink RX9 20 (TX9 5).1 (TX9 5).2.1 (TX9 5).2.2.1 : Cond) ∈ tbG := mem_ix 768 (by decide +kernel) (by decide +kernel)
theorem fk_X9_20 : fLink RX9 20 8 5 := ⟨(RX9, TX9, 11), rfl, by decide, tw_104⟩
theorem tw_105 : (.fieldLink RX9 23 (TX9 6).1 (TX9 6).2.1 (TX9 6).2.2.1 : Cond) ∈ tbG := mem_ix 769 (by decide +kernel) (by decide +kernel)
theorem fk_X9_23 : fLink RX9 23 8 6 := ⟨(RX9, TX9, 11), rfl, by decide, tw_105⟩
theorem tw_106 : (.fieldLink RX9 27 (TX9 7).1 (TX9 7).2.1 (TX9 7).2.2.1 : Cond) ∈ tbG := mem_ix 770 (by decide +kernel) (by decide +kernel)
theorem fk_X9_27 : fLink RX9 27 8 7 := ⟨(RX9, TX9, 11), rfl, by decide, tw_106⟩
theorem tw_107 : (.fieldLink RX9 30 (TX9 8).1 (TX9 8).2.1 (TX9 8).2.2.1 : Cond) ∈ tbG := mem_ix 771 (by decide +kernel) (by decide +kernel)
theorem fk_X9_30 : fLink RX9 30 8 8 := ⟨(RX9, TX9, 11), rfl, by decide, tw_107⟩
theorem tw_108 : (.fieldLink RX9 33 (TX9 9).1 (TX9 9).2.1 (TX9 9).2.2.1 : Cond) ∈ tbG := mem_ix 772 (by decide +kernel) (by decide +kernel)
theorem fk_X9_33 : fLink RX9 33 8 9 := ⟨(RX9, TX9, 11), rfl, by decide, tw_108⟩
theorem tw_109 : (.fieldLink RX9 36 (TX9 10).1 (TX9 10).2.1 (TX9 10).2.2.1 : Cond) ∈ tbG := mem_ix 773 (by decide +kernel) (by decide +kernel)
theorem fk_X9_36 : fLink RX9 36 8 10 := ⟨(RX9, TX9, 11), rfl, by decide, tw_109⟩
theorem tw_110 : (.fieldLink RX9 40 (TX9 3).1 (TX9 3).2.1 (TX9 3).2.2.1 : Cond) ∈ tbG := mem_ix 766 (by decide +kernel) (by decide +kernel)
theorem fk_X9_40 : fLink RX9 40 8 3 := ⟨(RX9, TX9, 11), rfl, by decide, tw_110⟩
theorem tw_111 : (.fieldLink RX9 44 (TX9 2).1 (TX9 2).2.1 (TX9 2).2.2.1 : Cond) ∈ tbG := mem_ix 765 (by decide +kernel) (by decide +kernel)
theorem fk_X9_44 : fLink RX9 44 8 2 := ⟨(RX9, TX9, 11), rfl, by decide, tw_111⟩
theorem tw_112 : (.code mX8_init.1 mX8_init.2.1 mX8_init.2.2.1 mX8_init.2.2.2 : Cond) ∈ tbG := mem_ix 18 (by decide +kernel) (by decide +kernel)
theorem tw_113 : (.initialized RX8 : Cond) ∈ tbG := mem_ix 1 (by decide +kernel) (by decide +kernel)
theorem tw_114 : (.methodLink RL 9 yX8_init : Cond) ∈ tbG := mem_ix 16 (by decide +kernel) (by decide +kernel)
theorem tw_115 : (.instanceMethod yX8_init : Cond) ∈ tbG := mem_ix 17 (by decide +kernel) (by decide +kernel)
theorem lk_L_9 : iLink RL 9 mX8_init 0 := ⟨by decide +kernel, by decide, rfl, rfl, List.forall_mem_cons.mpr ⟨tw_114, List.forall_mem_cons.mpr ⟨tw_115, List.forall_mem_cons.mpr ⟨tw_113, List.forall_mem_cons.mpr ⟨tw_112, fun _ h => absurd h List.not_mem_nil⟩⟩⟩⟩⟩
theorem tw_116 : (.code mX9_init.1 mX9_init.2.1 mX9_init.2.2.1 mX9_init.2.2.2 : Cond) ∈ tbG := mem_ix 759 (by decide +kernel) (by decide +kernel)
theorem tw_117 : (.initialized RX9 : Cond) ∈ tbG := mem_ix 4 (by decide +kernel) (by decide +kernel)
theorem tw_118 : (.methodLink RL 12 yX9_init : Cond) ∈ tbG := mem_ix 757 (by decide +kernel) (by decide +kernel)
theorem tw_119 : (.instanceMethod yX9_init : Cond) ∈ tbG := mem_ix 758 (by decide +kernel) (by decide +kernel)
theorem lk_L_12 : iLink RL 12 mX9_init 0 := ⟨by decide +kernel, by decide, rfl, rfl, List.forall_mem_cons.mpr ⟨tw_118, List.forall_mem_cons.mpr ⟨tw_119, List.forall_mem_cons.mpr ⟨tw_117, List.forall_mem_cons.mpr ⟨tw_116, fun _ h => absurd h List.not_mem_nil⟩⟩⟩⟩⟩
theorem tw_120 : (.code mX8_bolt.1 mX8_bolt.2.1 mX8_bolt.2.2.1 mX8_bolt.2.2.2 : Cond) ∈ tbG := mem_ix 83 (by decide +kernel) (by decide +kernel)
theorem tw_121 : (.methodLink RL 13 yX8_bolt : Cond) ∈ tbG := mem_ix 80 (by decide +kernel) (by decide +kernel)
theorem tw_122 : (.instanceMethod yX8_bolt : Cond) ∈ tbG := mem_ix 81 (by decide +kernel) (by decide +kernel)
theorem tw_123 : (.selects RX8 yX8_bolt yX8_bolt : Cond) ∈ tbG := mem_ix 82 (by decide +kernel) (by decide +kernel)
theorem lk_L_13 : vLink RL 13 7 mX8_bolt 3 := ⟨(RX8, TX8, 9), rfl, rfl, by decide +kernel, by decide, List.forall_mem_cons.mpr ⟨tw_121, List.forall_mem_cons.mpr ⟨tw_122, List.forall_mem_cons.mpr ⟨tw_123, List.forall_mem_cons.mpr ⟨tw_113, List.forall_mem_cons.mpr ⟨tw_120, fun _ h => absurd h List.not_mem_nil⟩⟩⟩⟩⟩⟩
theorem tw_124 : (.code mX9_bolt_.1 mX9_bolt_.2.1 mX9_bolt_.2.2.1 mX9_bolt_.2.2.2 : Cond) ∈ tbG := mem_ix 805 (by decide +kernel) (by decide +kernel)
theorem tw_125 : (.methodLink RL 17 yX9_bolt_ : Cond) ∈ tbG := mem_ix 802 (by decide +kernel) (by decide +kernel)
theorem tw_126 : (.instanceMethod yX9_bolt_ : Cond) ∈ tbG := mem_ix 803 (by decide +kernel) (by decide +kernel)
theorem tw_127 : (.selects RX9 yX9_bolt_ yX9_bolt_ : Cond) ∈ tbG := mem_ix 804 (by decide +kernel) (by decide +kernel)
theorem lk_L_17 : vLink RL 17 8 mX9_bolt_ 3 := ⟨(RX9, TX9, 11), rfl, rfl, by decide +kernel, by decide, List.forall_mem_cons.mpr ⟨tw_125, List.forall_mem_cons.mpr ⟨tw_126, List.forall_mem_cons.mpr ⟨tw_127, List.forall_mem_cons.mpr ⟨tw_117, List.forall_mem_cons.mpr ⟨tw_124, fun _ h => absurd h List.not_mem_nil⟩⟩⟩⟩⟩⟩
theorem tw_128 : (.code mX8_row.1 mX8_row.2.1 mX8_row.2.2.1 mX8_row.2.2.2 : Cond) ∈ tbG := mem_ix 195 (by decide +kernel) (by decide +kernel)
theorem tw_129 : (.methodLink RL 18 yX8_row : Cond) ∈ tbG := mem_ix 192 (by decide +kernel) (by decide +kernel)
theorem tw_130 : (.instanceMethod yX8_row : Cond) ∈ tbG := mem_ix 193 (by decide +kernel) (by decide +kernel)
theorem tw_131 : (.selects RX8 yX8_row yX8_row : Cond) ∈ tbG := mem_ix 194 (by decide +kernel) (by decide +kernel)
theorem lk_L_18 : vLink RL 18 7 mX8_row 2 := ⟨(RX8, TX8, 9), rfl, rfl, by decide +kernel, by decide, List.forall_mem_cons.mpr ⟨tw_129, List.forall_mem_cons.mpr ⟨tw_130, List.forall_mem_cons.mpr ⟨tw_131, List.forall_mem_cons.mpr ⟨tw_113, List.forall_mem_cons.mpr ⟨tw_128, fun _ h => absurd h List.not_mem_nil⟩⟩⟩⟩⟩⟩
theorem tw_132 : (.code mX9_row.1 mX9_row.2.1 mX9_row.2.2.1 mX9_row.2.2.2 : Cond) ∈ tbG := mem_ix 829 (by decide +kernel) (by decide +kernel)
theorem tw_133 : (.methodLink RL 22 yX9_row : Cond) ∈ tbG := mem_ix 826 (by decide +kernel) (by decide +kernel)
theorem tw_134 : (.instanceMethod yX9_row : Cond) ∈ tbG := mem_ix 827 (by decide +kernel) (by decide +kernel)
theorem tw_135 : (.selects RX9 yX9_row yX9_row : Cond) ∈ tbG := mem_ix 828 (by decide +kernel) (by decide +kernel)
theorem lk_L_22 : vLink RL 22 8 mX9_row 2 := ⟨(RX9, TX9, 11), rfl, rfl, by decide +kernel, by decide, List.forall_mem_cons.mpr ⟨tw_133, List.forall_mem_cons.mpr ⟨tw_134, List.forall_mem_cons.mpr ⟨tw_135, List.forall_mem_cons.mpr ⟨tw_117, List.forall_mem_cons.mpr ⟨tw_132, fun _ h => absurd h List.not_mem_nil⟩⟩⟩⟩⟩⟩
theorem tw_136 : (.code mX8_wear.1 mX8_wear.2.1 mX8_wear.2.2.1 mX8_wear.2.2.2 : Cond) ∈ tbG := mem_ix 204 (by decide +kernel) (by decide +kernel)
theorem tw_137 : (.methodLink RL 23 yX8_wear : Cond) ∈ tbG := mem_ix 201 (by decide +kernel) (by decide +kernel)
theorem tw_138 : (.instanceMethod yX8_wear : Cond) ∈ tbG := mem_ix 202 (by decide +kernel) (by decide +kernel)
theorem tw_139 : (.selects RX8 yX8_wear yX8_wear : Cond) ∈ tbG := mem_ix 203 (by decide +kernel) (by decide +kernel)
theorem lk_L_23 : vLink RL 23 7 mX8_wear 3 := ⟨(RX8, TX8, 9), rfl, rfl, by decide +kernel, by decide, List.forall_mem_cons.mpr ⟨tw_137, List.forall_mem_cons.mpr ⟨tw_138, List.forall_mem_cons.mpr ⟨tw_139, List.forall_mem_cons.mpr ⟨tw_113, List.forall_mem_cons.mpr ⟨tw_136, fun _ h => absurd h List.not_mem_nil⟩⟩⟩⟩⟩⟩
theorem tw_140 : (.code mX9_wear.1 mX9_wear.2.1 mX9_wear.2.2.1 mX9_wear.2.2.2 : Cond) ∈ tbG := mem_ix 853 (by decide +kernel) (by decide +kernel)
theorem tw_141 : (.methodLink RL 27 yX9_wear : Cond) ∈ tbG := mem_ix 850 (by decide +kernel) (by decide +kernel)
theorem tw_142 : (.instanceMethod yX9_wear : Cond) ∈ tbG := mem_ix 851 (by decide +kernel) (by decide +kernel)
theorem tw_143 : (.selects RX9 yX9_wear yX9_wear : Cond) ∈ tbG := mem_ix 852 (by decide +kernel) (by decide +kernel)
theorem lk_L_27 : vLink RL 27 8 mX9_wear 3 := ⟨(RX9, TX9, 11), rfl, rfl, by decide +kernel, by decide, List.forall_mem_cons.mpr ⟨tw_141, List.forall_mem_cons.mpr ⟨tw_142, List.forall_mem_cons.mpr ⟨tw_143, List.forall_mem_cons.mpr ⟨tw_117, List.forall_mem_cons.mpr ⟨tw_140, fun _ h => absurd h List.not_mem_nil⟩⟩⟩⟩⟩⟩
theorem tw_144 : (.code mX8_worn.1 mX8_worn.2.1 mX8_worn.2.2.1 mX8_worn.2.2.2 : Cond) ∈ tbG := mem_ix 221 (by decide +kernel) (by decide +kernel)
theorem tw_145 : (.methodLink RL 28 yX8_worn : Cond) ∈ tbG := mem_ix 218 (by decide +kernel) (by decide +kernel)
theorem tw_146 : (.instanceMethod yX8_worn : Cond) ∈ tbG := mem_ix 219 (by decide +kernel) (by decide +kernel)
theorem tw_147 : (.selects RX8 yX8_worn yX8_worn : Cond) ∈ tbG := mem_ix 220 (by decide +kernel) (by decide +kernel)
theorem lk_L_28 : vLink RL 28 7 mX8_worn 2 := ⟨(RX8, TX8, 9), rfl, rfl, by decide +kernel, by decide, List.forall_mem_cons.mpr ⟨tw_145, List.forall_mem_cons.mpr ⟨tw_146, List.forall_mem_cons.mpr ⟨tw_147, List.forall_mem_cons.mpr ⟨tw_113, List.forall_mem_cons.mpr ⟨tw_144, fun _ h => absurd h List.not_mem_nil⟩⟩⟩⟩⟩⟩
theorem tw_148 : (.code mX9_worn.1 mX9_worn.2.1 mX9_worn.2.2.1 mX9_worn.2.2.2 : Cond) ∈ tbG := mem_ix 857 (by decide +kernel) (by decide +kernel)
theorem tw_149 : (.methodLink RL 32 yX9_worn : Cond) ∈ tbG := mem_ix 854 (by decide +kernel) (by decide +kernel)
theorem tw_150 : (.instanceMethod yX9_worn : Cond) ∈ tbG := mem_ix 855 (by decide +kernel) (by decide +kernel)
theorem tw_151 : (.selects RX9 yX9_worn yX9_worn : Cond) ∈ tbG := mem_ix 856 (by decide +kernel) (by decide +kernel)
theorem lk_L_32 : vLink RL 32 8 mX9_worn 2 := ⟨(RX9, TX9, 11), rfl, rfl, by decide +kernel, by decide, List.forall_mem_cons.mpr ⟨tw_149, List.forall_mem_cons.mpr ⟨tw_150, List.forall_mem_cons.mpr ⟨tw_151, List.forall_mem_cons.mpr ⟨tw_117, List.forall_mem_cons.mpr ⟨tw_148, fun _ h => absurd h List.not_mem_nil⟩⟩⟩⟩⟩⟩
theorem tw_152 : (.code mX8_sail.1 mX8_sail.2.1 mX8_sail.2.2.1 mX8_sail.2.2.2 : Cond) ∈ tbG := mem_ix 246 (by decide +kernel) (by decide +kernel)
theorem tw_153 : (.methodLink RL 33 yX8_sail : Cond) ∈ tbG := mem_ix 243 (by decide +kernel) (by decide +kernel)
theorem tw_154 : (.instanceMethod yX8_sail : Cond) ∈ tbG := mem_ix 244 (by decide +kernel) (by decide +kernel)
theorem tw_155 : (.selects RX8 yX8_sail yX8_sail : Cond) ∈ tbG := mem_ix 245 (by decide +kernel) (by decide +kernel)
theorem lk_L_33 : vLink RL 33 7 mX8_sail 5 := ⟨(RX8, TX8, 9), rfl, rfl, by decide +kernel, by decide, List.forall_mem_cons.mpr ⟨tw_153, List.forall_mem_cons.mpr ⟨tw_154, List.forall_mem_cons.mpr ⟨tw_155, List.forall_mem_cons.mpr ⟨tw_113, List.forall_mem_cons.mpr ⟨tw_152, fun _ h => absurd h List.not_mem_nil⟩⟩⟩⟩⟩⟩
theorem tw_156 : (.code mX9_sail_.1 mX9_sail_.2.1 mX9_sail_.2.2.1 mX9_sail_.2.2.2 : Cond) ∈ tbG := mem_ix 861 (by decide +kernel) (by decide +kernel)
theorem tw_157 : (.methodLink RL 37 yX9_sail_ : Cond) ∈ tbG := mem_ix 858 (by decide +kernel) (by decide +kernel)
theorem tw_158 : (.instanceMethod yX9_sail_ : Cond) ∈ tbG := mem_ix 859 (by decide +kernel) (by decide +kernel)
theorem tw_159 : (.selects RX9 yX9_sail_ yX9_sail_ : Cond) ∈ tbG := mem_ix 860 (by decide +kernel) (by decide +kernel)
theorem lk_L_37 : vLink RL 37 8 mX9_sail_ 5 := ⟨(RX9, TX9, 11), rfl, rfl, by decide +kernel, by decide, List.forall_mem_cons.mpr ⟨tw_157, List.forall_mem_cons.mpr ⟨tw_158, List.forall_mem_cons.mpr ⟨tw_159, List.forall_mem_cons.mpr ⟨tw_117, List.forall_mem_cons.mpr ⟨tw_156, fun _ h => absurd h List.not_mem_nil⟩⟩⟩⟩⟩⟩
theorem tw_160 : (.code mX8_edge.1 mX8_edge.2.1 mX8_edge.2.2.1 mX8_edge.2.2.2 : Cond) ∈ tbG := mem_ix 323 (by decide +kernel) (by decide +kernel)
theorem tw_161 : (.methodLink RL 38 yX8_edge : Cond) ∈ tbG := mem_ix 320 (by decide +kernel) (by decide +kernel)
theorem tw_162 : (.instanceMethod yX8_edge : Cond) ∈ tbG := mem_ix 321 (by decide +kernel) (by decide +kernel)
theorem tw_163 : (.selects RX8 yX8_edge yX8_edge : Cond) ∈ tbG := mem_ix 322 (by decide +kernel) (by decide +kernel)
theorem lk_L_38 : vLink RL 38 7 mX8_edge 3 := ⟨(RX8, TX8, 9), rfl, rfl, by decide +kernel, by decide, List.forall_mem_cons.mpr ⟨tw_161, List.forall_mem_cons.mpr ⟨tw_162, List.forall_mem_cons.mpr ⟨tw_163, List.forall_mem_cons.mpr ⟨tw_113, List.forall_mem_cons.mpr ⟨tw_160, fun _ h => absurd h List.not_mem_nil⟩⟩⟩⟩⟩⟩
theorem tw_164 : (.code mX9_edge.1 mX9_edge.2.1 mX9_edge.2.2.1 mX9_edge.2.2.2 : Cond) ∈ tbG := mem_ix 872 (by decide +kernel) (by decide +kernel)
theorem tw_165 : (.methodLink RL 41 yX9_edge : Cond) ∈ tbG := mem_ix 869 (by decide +kernel) (by decide +kernel)
theorem tw_166 : (.instanceMethod yX9_edge : Cond) ∈ tbG := mem_ix 870 (by decide +kernel) (by decide +kernel)
theorem tw_167 : (.selects RX9 yX9_edge yX9_edge : Cond) ∈ tbG := mem_ix 871 (by decide +kernel) (by decide +kernel)
theorem lk_L_41 : vLink RL 41 8 mX9_edge 3 := ⟨(RX9, TX9, 11), rfl, rfl, by decide +kernel, by decide, List.forall_mem_cons.mpr ⟨tw_165, List.forall_mem_cons.mpr ⟨tw_166, List.forall_mem_cons.mpr ⟨tw_167, List.forall_mem_cons.mpr ⟨tw_117, List.forall_mem_cons.mpr ⟨tw_164, fun _ h => absurd h List.not_mem_nil⟩⟩⟩⟩⟩⟩
theorem tw_168 : (.code mX8_stand.1 mX8_stand.2.1 mX8_stand.2.2.1 mX8_stand.2.2.2 : Cond) ∈ tbG := mem_ix 339 (by decide +kernel) (by decide +kernel)
theorem tw_169 : (.methodLink RL 42 yX8_stand : Cond) ∈ tbG := mem_ix 336 (by decide +kernel) (by decide +kernel)
theorem tw_170 : (.instanceMethod yX8_stand : Cond) ∈ tbG := mem_ix 337 (by decide +kernel) (by decide +kernel)
theorem tw_171 : (.selects RX8 yX8_stand yX8_stand : Cond) ∈ tbG := mem_ix 338 (by decide +kernel) (by decide +kernel)
theorem lk_L_42 : vLink RL 42 7 mX8_stand 4 := ⟨(RX8, TX8, 9), rfl, rfl, by decide +kernel, by decide, List.forall_mem_cons.mpr ⟨tw_169, List.forall_mem_cons.mpr ⟨tw_170, List.forall_mem_cons.mpr ⟨tw_171, List.forall_mem_cons.mpr ⟨tw_113, List.forall_mem_cons.mpr ⟨tw_168, fun _ h => absurd h List.not_mem_nil⟩⟩⟩⟩⟩⟩
theorem tw_172 : (.code mX9_stand.1 mX9_stand.2.1 mX9_stand.2.2.1 mX9_stand.2.2.2 : Cond) ∈ tbG := mem_ix 884 (by decide +kernel) (by decide +kernel)
theorem tw_173 : (.methodLink RL 46 yX9_stand : Cond) ∈ tbG := mem_ix 881 (by decide +kernel) (by decide +kernel)
theorem tw_174 : (.instanceMethod yX9_stand : Cond) ∈ tbG := mem_ix 882 (by decide +kernel) (by decide +kernel)
theorem tw_175 : (.selects RX9 yX9_stand yX9_stand : Cond) ∈ tbG := mem_ix 883 (by decide +kernel) (by decide +kernel)
theorem lk_L_46 : vLink RL 46 8 mX9_stand 4 := ⟨(RX9, TX9, 11), rfl, rfl, by decide +kernel, by decide, List.forall_mem_cons.mpr ⟨tw_173, List.forall_mem_cons.mpr ⟨tw_174, List.forall_mem_cons.mpr ⟨tw_175, List.forall_mem_cons.mpr ⟨tw_117, List.forall_mem_cons.mpr ⟨tw_172, fun _ h => absurd h List.not_mem_nil⟩⟩⟩⟩⟩⟩
theorem tw_176 : (.code mX8_at.1 mX8_at.2.1 mX8_at.2.2.1 mX8_at.2.2.2 : Cond) ∈ tbG := mem_ix 356 (by decide +kernel) (by decide +kernel)
theorem tw_177 : (.methodLink RL 47 yX8_at : Cond) ∈ tbG := mem_ix 353 (by decide +kernel) (by decide +kernel)
theorem tw_178 : (.instanceMethod yX8_at : Cond) ∈ tbG := mem_ix 354 (by decide +kernel) (by decide +kernel)
theorem tw_179 : (.selects RX8 yX8_at yX8_at : Cond) ∈ tbG := mem_ix 355 (by decide +kernel) (by decide +kernel)
theorem lk_L_47 : vLink RL 47 7 mX8_at 3 := ⟨(RX8, TX8, 9), rfl, rfl, by decide +kernel, by decide, List.forall_mem_cons.mpr ⟨tw_177, List.forall_mem_cons.mpr ⟨tw_178, List.forall_mem_cons.mpr ⟨tw_179, List.forall_mem_cons.mpr ⟨tw_113, List.forall_mem_cons.mpr ⟨tw_176, fun _ h => absurd h List.not_mem_nil⟩⟩⟩⟩⟩⟩
theorem tw_180 : (.code mX9_at.1 mX9_at.2.1 mX9_at.2.2.1 mX9_at.2.2.2 : Cond) ∈ tbG := mem_ix 888 (by decide +kernel) (by decide +kernel)
theorem tw_181 : (.methodLink RL 50 yX9_at : Cond) ∈ tbG := mem_ix 885 (by decide +kernel) (by decide +kernel)
theorem tw_182 : (.instanceMethod yX9_at : Cond) ∈ tbG := mem_ix 886 (by decide +kernel) (by decide +kernel)
theorem tw_183 : (.selects RX9 yX9_at yX9_at : Cond) ∈ tbG := mem_ix 887 (by decide +kernel) (by decide +kernel)
theorem lk_L_50 : vLink RL 50 8 mX9_at 3 := ⟨(RX9, TX9, 11), rfl, rfl, by decide +kernel, by decide, List.forall_mem_cons.mpr ⟨tw_181, List.forall_mem_cons.mpr ⟨tw_182, List.forall_mem_cons.mpr ⟨tw_183, List.forall_mem_cons.mpr ⟨tw_117, List.forall_mem_cons.mpr ⟨tw_180, fun _ h => absurd h List.not_mem_nil⟩⟩⟩⟩⟩⟩
theorem tw_184 : (.code mX8_cut.1 mX8_cut.2.1 mX8_cut.2.2.1 mX8_cut.2.2.2 : Cond) ∈ tbG := mem_ix 365 (by decide +kernel) (by decide +kernel)
theorem tw_185 : (.methodLink RL 51 yX8_cut : Cond) ∈ tbG := mem_ix 362 (by decide +kernel) (by decide +kernel)
theorem tw_186 : (.instanceMethod yX8_cut : Cond) ∈ tbG := mem_ix 363 (by decide +kernel) (by decide +kernel)
theorem tw_187 : (.selects RX8 yX8_cut yX8_cut : Cond) ∈ tbG := mem_ix 364 (by decide +kernel) (by decide +kernel)
theorem lk_L_51 : vLink RL 51 7 mX8_cut 3 := ⟨(RX8, TX8, 9), rfl, rfl, by decide +kernel, by decide, List.forall_mem_cons.mpr ⟨tw_185, List.forall_mem_cons.mpr ⟨tw_186, List.forall_mem_cons.mpr ⟨tw_187, List.forall_mem_cons.mpr ⟨tw_113, List.forall_mem_cons.mpr ⟨tw_184, fun _ h => absurd h List.not_mem_nil⟩⟩⟩⟩⟩⟩
theorem tw_188 : (.code mX9_cut.1 mX9_cut.2.1 mX9_cut.2.2.1 mX9_cut.2.2.2 : Cond) ∈ tbG := mem_ix 896 (by decide +kernel) (by decide +kernel)
theorem tw_189 : (.methodLink RL 54 yX9_cut : Cond) ∈ tbG := mem_ix 893 (by decide +kernel) (by decide +kernel)
theorem tw_190 : (.instanceMethod yX9_cut : Cond) ∈ tbG := mem_ix 894 (by decide +kernel) (by decide +kernel)
theorem tw_191 : (.selects RX9 yX9_cut yX9_cut : Cond) ∈ tbG := mem_ix 895 (by decide +kernel) (by decide +kernel)
theorem lk_L_54 : vLink RL 54 8 mX9_cut 3 := ⟨(RX9, TX9, 11), rfl, rfl, by decide +kernel, by decide, List.forall_mem_cons.mpr ⟨tw_189, List.forall_mem_cons.mpr ⟨tw_190, List.forall_mem_cons.mpr ⟨tw_191, List.forall_mem_cons.mpr ⟨tw_117, List.forall_mem_cons.mpr ⟨tw_188, fun _ h => absurd h List.not_mem_nil⟩⟩⟩⟩⟩⟩
theorem tw_192 : (.code mX8_narrow.1 mX8_narrow.2.1 mX8_narrow.2.2.1 mX8_narrow.2.2.2 : Cond) ∈ tbG := mem_ix 448 (by decide +kernel) (by decide +kernel)
theorem tw_193 : (.methodLink RL 55 yX8_narrow : Cond) ∈ tbG := mem_ix 445 (by decide +kernel) (by decide +kernel)
theorem tw_194 : (.instanceMethod yX8_narrow : Cond) ∈ tbG := mem_ix 446 (by decide +kernel) (by decide +kernel)
theorem tw_195 : (.selects RX8 yX8_narrow yX8_narrow : Cond) ∈ tbG := mem_ix 447 (by decide +kernel) (by decide +kernel)
theorem lk_L_55 : vLink RL 55 7 mX8_narrow 3 := ⟨(RX8, TX8, 9), rfl, rfl, by decide +kernel, by decide, List.forall_mem_cons.mpr ⟨tw_193, List.forall_mem_cons.mpr ⟨tw_194, List.forall_mem_cons.mpr ⟨tw_195, List.forall_mem_cons.mpr ⟨tw_113, List.forall_mem_cons.mpr ⟨tw_192, fun _ h => absurd h List.not_mem_nil⟩⟩⟩⟩⟩⟩
theorem tw_196 : (.code mX9_narrow.1 mX9_narrow.2.1 mX9_narrow.2.2.1 mX9_narrow.2.2.2 : Cond) ∈ tbG := mem_ix 904 (by decide +kernel) (by decide +kernel)
theorem tw_197 : (.methodLink RL 58 yX9_narrow : Cond) ∈ tbG := mem_ix 901 (by decide +kernel) (by decide +kernel)
theorem tw_198 : (.instanceMethod yX9_narrow : Cond) ∈ tbG := mem_ix 902 (by decide +kernel) (by decide +kernel)
theorem tw_199 : (.selects RX9 yX9_narrow yX9_narrow : Cond) ∈ tbG := mem_ix 903 (by decide +kernel) (by decide +kernel)
theorem lk_L_58 : vLink RL 58 8 mX9_narrow 3 := ⟨(RX9, TX9, 11), rfl, rfl, by decide +kernel, by decide, List.forall_mem_cons.mpr ⟨tw_197, List.forall_mem_cons.mpr ⟨tw_198, List.forall_mem_cons.mpr ⟨tw_199, List.forall_mem_cons.mpr ⟨tw_117, List.forall_mem_cons.mpr ⟨tw_196, fun _ h => absurd h List.not_mem_nil⟩⟩⟩⟩⟩⟩
theorem tw_200 : (.code mX8_patch.1 mX8_patch.2.1 mX8_patch.2.2.1 mX8_patch.2.2.2 : Cond) ∈ tbG := mem_ix 456 (by decide +kernel) (by decide +kernel)
theorem tw_201 : (.methodLink RL 59 yX8_patch : Cond) ∈ tbG := mem_ix 453 (by decide +kernel) (by decide +kernel)
theorem tw_202 : (.instanceMethod yX8_patch : Cond) ∈ tbG := mem_ix 454 (by decide +kernel) (by decide +kernel)
theorem tw_203 : (.selects RX8 yX8_patch yX8_patch : Cond) ∈ tbG := mem_ix 455 (by decide +kernel) (by decide +kernel)
theorem lk_L_59 : vLink RL 59 7 mX8_patch 4 := ⟨(RX8, TX8, 9), rfl, rfl, by decide +kernel, by decide, List.forall_mem_cons.mpr ⟨tw_201, List.forall_mem_cons.mpr ⟨tw_202, List.forall_mem_cons.mpr ⟨tw_203, List.forall_mem_cons.mpr ⟨tw_113, List.forall_mem_cons.mpr ⟨tw_200, fun _ h => absurd h List.not_mem_nil⟩⟩⟩⟩⟩⟩
theorem tw_204 : (.code mX9_patch.1 mX9_patch.2.1 mX9_patch.2.2.1 mX9_patch.2.2.2 : Cond) ∈ tbG := mem_ix 912 (by decide +kernel) (by decide +kernel)
theorem tw_205 : (.methodLink RL 63 yX9_patch : Cond) ∈ tbG := mem_ix 909 (by decide +kernel) (by decide +kernel)
theorem tw_206 : (.instanceMethod yX9_patch : Cond) ∈ tbG := mem_ix 910 (by decide +kernel) (by decide +kernel)
theorem tw_207 : (.selects RX9 yX9_patch yX9_patch : Cond) ∈ tbG := mem_ix 911 (by decide +kernel) (by decide +kernel)
theorem lk_L_63 : vLink RL 63 8 mX9_patch 4 := ⟨(RX9, TX9, 11), rfl, rfl, by decide +kernel, by decide, List.forall_mem_cons.mpr ⟨tw_205, List.forall_mem_cons.mpr ⟨tw_206, List.forall_mem_cons.mpr ⟨tw_207, List.forall_mem_cons.mpr ⟨tw_117, List.forall_mem_cons.mpr ⟨tw_204, fun _ h => absurd h List.not_mem_nil⟩⟩⟩⟩⟩⟩
theorem tw_208 : (.code mX8_told.1 mX8_told.2.1 mX8_told.2.2.1 mX8_told.2.2.2 : Cond) ∈ tbG := mem_ix 464 (by decide +kernel) (by decide +kernel)
theorem tw_209 : (.methodLink RL 64 yX8_told : Cond) ∈ tbG := mem_ix 461 (by decide +kernel) (by decide +kernel)
theorem tw_210 : (.instanceMethod yX8_told : Cond) ∈ tbG := mem_ix 462 (by decide +kernel) (by decide +kernel)
theorem tw_211 : (.selects RX8 yX8_told yX8_told : Cond) ∈ tbG := mem_ix 463 (by decide +kernel) (by decide +kernel)
theorem lk_L_64 : vLink RL 64 7 mX8_told 2 := ⟨(RX8, TX8, 9), rfl, rfl, by decide +kernel, by decide, List.forall_mem_cons.mpr ⟨tw_209, List.forall_mem_cons.mpr ⟨tw_210, List.forall_mem_cons.mpr ⟨tw_211, List.forall_mem_cons.mpr ⟨tw_113, List.forall_mem_cons.mpr ⟨tw_208, fun _ h => absurd h List.not_mem_nil⟩⟩⟩⟩⟩⟩
theorem tw_212 : (.code mX9_told.1 mX9_told.2.1 mX9_told.2.2.1 mX9_told.2.2.2 : Cond) ∈ tbG := mem_ix 916 (by decide +kernel) (by decide +kernel)
theorem tw_213 : (.methodLink RL 67 yX9_told : Cond) ∈ tbG := mem_ix 913 (by decide +kernel) (by decide +kernel)
theorem tw_214 : (.instanceMethod yX9_told : Cond) ∈ tbG := mem_ix 914 (by decide +kernel) (by decide +kernel)
theorem tw_215 : (.selects RX9 yX9_told yX9_told : Cond) ∈ tbG := mem_ix 915 (by decide +kernel) (by decide +kernel)
theorem lk_L_67 : vLink RL 67 8 mX9_told 2 := ⟨(RX9, TX9, 11), rfl, rfl, by decide +kernel, by decide, List.forall_mem_cons.mpr ⟨tw_213, List.forall_mem_cons.mpr ⟨tw_214, List.forall_mem_cons.mpr ⟨tw_215, List.forall_mem_cons.mpr ⟨tw_117, List.forall_mem_cons.mpr ⟨tw_212, fun _ h => absurd h List.not_mem_nil⟩⟩⟩⟩⟩⟩
theorem tw_216 : (.code mX8_panel.1 mX8_panel.2.1 mX8_panel.2.2.1 mX8_panel.2.2.2 : Cond) ∈ tbG := mem_ix 478 (by decide +kernel) (by decide +kernel)
theorem tw_217 : (.methodLink RL 68 yX8_panel : Cond) ∈ tbG := mem_ix 475 (by decide +kernel) (by decide +kernel)
theorem tw_218 : (.instanceMethod yX8_panel : Cond) ∈ tbG := mem_ix 476 (by decide +kernel) (by decide +kernel)
theorem tw_219 : (.selects RX8 yX8_panel yX8_panel : Cond) ∈ tbG := mem_ix 477 (by decide +kernel) (by decide +kernel)
theorem lk_L_68 : vLink RL 68 7 mX8_panel 3 := ⟨(RX8, TX8, 9), rfl, rfl, by decide +kernel, by decide, List.forall_mem_cons.mpr ⟨tw_217, List.forall_mem_cons.mpr ⟨tw_218, List.forall_mem_cons.mpr ⟨tw_219, List.forall_mem_cons.mpr ⟨tw_113, List.forall_mem_cons.mpr ⟨tw_216, fun _ h => absurd h List.not_mem_nil⟩⟩⟩⟩⟩⟩
theorem tw_220 : (.code mX9_panel.1 mX9_panel.2.1 mX9_panel.2.2.1 mX9_panel.2.2.2 : Cond) ∈ tbG := mem_ix 949 (by decide +kernel) (by decide +kernel)
theorem tw_221 : (.methodLink RL 71 yX9_panel : Cond) ∈ tbG := mem_ix 946 (by decide +kernel) (by decide +kernel)
theorem tw_222 : (.instanceMethod yX9_panel : Cond) ∈ tbG := mem_ix 947 (by decide +kernel) (by decide +kernel)
theorem tw_223 : (.selects RX9 yX9_panel yX9_panel : Cond) ∈ tbG := mem_ix 948 (by decide +kernel) (by decide +kernel)
theorem lk_L_71 : vLink RL 71 8 mX9_panel 3 := ⟨(RX9, TX9, 11), rfl, rfl, by decide +kernel, by decide, List.forall_mem_cons.mpr ⟨tw_221, List.forall_mem_cons.mpr ⟨tw_222, List.forall_mem_cons.mpr ⟨tw_223, List.forall_mem_cons.mpr ⟨tw_117, List.forall_mem_cons.mpr ⟨tw_220, fun _ h => absurd h List.not_mem_nil⟩⟩⟩⟩⟩⟩
theorem tw_224 : (.code mX8_full.1 mX8_full.2.1 mX8_full.2.2.1 mX8_full.2.2.2 : Cond) ∈ tbG := mem_ix 489 (by decide +kernel) (by decide +kernel)
theorem tw_225 : (.methodLink RL 72 yX8_full : Cond) ∈ tbG := mem_ix 486 (by decide +kernel) (by decide +kernel)
theorem tw_226 : (.instanceMethod yX8_full : Cond) ∈ tbG := mem_ix 487 (by decide +kernel) (by decide +kernel)
theorem tw_227 : (.selects RX8 yX8_full yX8_full : Cond) ∈ tbG := mem_ix 488 (by decide +kernel) (by decide +kernel)
theorem lk_L_72 : vLink RL 72 7 mX8_full 2 := ⟨(RX8, TX8, 9), rfl, rfl, by decide +kernel, by decide, List.forall_mem_cons.mpr ⟨tw_225, List.forall_mem_cons.mpr ⟨tw_226, List.forall_mem_cons.mpr ⟨tw_227, List.forall_mem_cons.mpr ⟨tw_113, List.forall_mem_cons.mpr ⟨tw_224, fun _ h => absurd h List.not_mem_nil⟩⟩⟩⟩⟩⟩
theorem tw_228 : (.code mX9_full.1 mX9_full.2.1 mX9_full.2.2.1 mX9_full.2.2.2 : Cond) ∈ tbG := mem_ix 962 (by decide +kernel) (by decide +kernel)
theorem tw_229 : (.methodLink RL 75 yX9_full : Cond) ∈ tbG := mem_ix 959 (by decide +kernel) (by decide +kernel)
theorem tw_230 : (.instanceMethod yX9_full : Cond) ∈ tbG := mem_ix 960 (by decide +kernel) (by decide +kernel)
theorem tw_231 : (.selects RX9 yX9_full yX9_full : Cond) ∈ tbG := mem_ix 961 (by decide +kernel) (by decide +kernel)
theorem lk_L_75 : vLink RL 75 8 mX9_full 2 := ⟨(RX9, TX9, 11), rfl, rfl, by decide +kernel, by decide, List.forall_mem_cons.mpr ⟨tw_229, List.forall_mem_cons.mpr ⟨tw_230, List.forall_mem_cons.mpr ⟨tw_231, List.forall_mem_cons.mpr ⟨tw_117, List.forall_mem_cons.mpr ⟨tw_228, fun _ h => absurd h List.not_mem_nil⟩⟩⟩⟩⟩⟩
theorem tw_232 : (.code mX8_lay.1 mX8_lay.2.1 mX8_lay.2.2.1 mX8_lay.2.2.2 : Cond) ∈ tbG := mem_ix 498 (by decide +kernel) (by decide +kernel)
theorem tw_233 : (.methodLink RL 76 yX8_lay : Cond) ∈ tbG := mem_ix 495 (by decide +kernel) (by decide +kernel)
theorem tw_234 : (.instanceMethod yX8_lay : Cond) ∈ tbG := mem_ix 496 (by decide +kernel) (by decide +kernel)
theorem tw_235 : (.selects RX8 yX8_lay yX8_lay : Cond) ∈ tbG := mem_ix 497 (by decide +kernel) (by decide +kernel)
theorem lk_L_76 : vLink RL 76 7 mX8_lay 5 := ⟨(RX8, TX8, 9), rfl, rfl, by decide +kernel, by decide, List.forall_mem_cons.mpr ⟨tw_233, List.forall_mem_cons.mpr ⟨tw_234, List.forall_mem_cons.mpr ⟨tw_235, List.forall_mem_cons.mpr ⟨tw_113, List.forall_mem_cons.mpr ⟨tw_232, fun _ h => absurd h List.not_mem_nil⟩⟩⟩⟩⟩⟩
theorem tw_236 : (.code mX9_lay.1 mX9_lay.2.1 mX9_lay.2.2.1 mX9_lay.2.2.2 : Cond) ∈ tbG := mem_ix 966 (by decide +kernel) (by decide +kernel)
theorem tw_237 : (.methodLink RL 80 yX9_lay : Cond) ∈ tbG := mem_ix 963 (by decide +kernel) (by decide +kernel)
theorem tw_238 : (.instanceMethod yX9_lay : Cond) ∈ tbG := mem_ix 964 (by decide +kernel) (by decide +kernel)
theorem tw_239 : (.selects RX9 yX9_lay yX9_lay : Cond) ∈ tbG := mem_ix 965 (by decide +kernel) (by decide +kernel)
theorem lk_L_80 : vLink RL 80 8 mX9_lay 5 := ⟨(RX9, TX9, 11), rfl, rfl, by decide +kernel, by decide, List.forall_mem_cons.mpr ⟨tw_237, List.forall_mem_cons.mpr ⟨tw_238, List.forall_mem_cons.mpr ⟨tw_239, List.forall_mem_cons.mpr ⟨tw_117, List.forall_mem_cons.mpr ⟨tw_236, fun _ h => absurd h List.not_mem_nil⟩⟩⟩⟩⟩⟩
theorem tw_240 : (.code mX8_lift.1 mX8_lift.2.1 mX8_lift.2.2.1 mX8_lift.2.2.2 : Cond) ∈ tbG := mem_ix 526 (by decide +kernel) (by decide +kernel)
theorem tw_241 : (.methodLink RL 81 yX8_lift : Cond) ∈ tbG := mem_ix 523 (by decide +kernel) (by decide +kernel)
theorem tw_242 : (.instanceMethod yX8_lift : Cond) ∈ tbG := mem_ix 524 (by decide +kernel) (by decide +kernel)
theorem tw_243 : (.selects RX8 yX8_lift yX8_lift : Cond) ∈ tbG := mem_ix 525 (by decide +kernel) (by decide +kernel)
theorem lk_L_81 : vLink RL 81 7 mX8_lift 2 := ⟨(RX8, TX8, 9), rfl, rfl, by decide +kernel, by decide, List.forall_mem_cons.mpr ⟨tw_241, List.forall_mem_cons.mpr ⟨tw_242, List.forall_mem_cons.mpr ⟨tw_243, List.forall_mem_cons.mpr ⟨tw_113, List.forall_mem_cons.mpr ⟨tw_240, fun _ h => absurd h List.not_mem_nil⟩⟩⟩⟩⟩⟩
theorem tw_244 : (.code mX9_lift.1 mX9_lift.2.1 mX9_lift.2.2.1 mX9_lift.2.2.2 : Cond) ∈ tbG := mem_ix 987 (by decide +kernel) (by decide +kernel)
theorem tw_245 : (.methodLink RL 84 yX9_lift : Cond) ∈ tbG := mem_ix 984 (by decide +kernel) (by decide +kernel)
theorem tw_246 : (.instanceMethod yX9_lift : Cond) ∈ tbG := mem_ix 985 (by decide +kernel) (by decide +kernel)
theorem tw_247 : (.selects RX9 yX9_lift yX9_lift : Cond) ∈ tbG := mem_ix 986 (by decide +kernel) (by decide +kernel)
theorem lk_L_84 : vLink RL 84 8 mX9_lift 2 := ⟨(RX9, TX9, 11), rfl, rfl, by decide +kernel, by decide, List.forall_mem_cons.mpr ⟨tw_245, List.forall_mem_cons.mpr ⟨tw_246, List.forall_mem_cons.mpr ⟨tw_247, List.forall_mem_cons.mpr ⟨tw_117, List.forall_mem_cons.mpr ⟨tw_244, fun _ h => absurd h List.not_mem_nil⟩⟩⟩⟩⟩⟩
theorem tw_248 : (.code mX8_left.1 mX8_left.2.1 mX8_left.2.2.1 mX8_left.2.2.2 : Cond) ∈ tbG := mem_ix 229 (by decide +kernel) (by decide +kernel)
theorem tw_249 : (.methodLink RL 85 yX8_left : Cond) ∈ tbG := mem_ix 226 (by decide +kernel) (by decide +kernel)
theorem tw_250 : (.instanceMethod yX8_left : Cond) ∈ tbG := mem_ix 227 (by decide +kernel) (by decide +kernel)
theorem tw_251 : (.selects RX8 yX8_left yX8_left : Cond) ∈ tbG := mem_ix 228 (by decide +kernel) (by decide +kernel)
theorem lk_L_85 : vLink RL 85 7 mX8_left 1 := ⟨(RX8, TX8, 9), rfl, rfl, by decide +kernel, by decide, List.forall_mem_cons.mpr ⟨tw_249, List.forall_mem_cons.mpr ⟨tw_250, List.forall_mem_cons.mpr ⟨tw_251, List.forall_mem_cons.mpr ⟨tw_113, List.forall_mem_cons.mpr ⟨tw_248, fun _ h => absurd h List.not_mem_nil⟩⟩⟩⟩⟩⟩
theorem tw_252 : (.code mX9_left.1 mX9_left.2.1 mX9_left.2.2.1 mX9_left.2.2.2 : Cond) ∈ tbG := mem_ix 991 (by decide +kernel) (by decide +kernel)
theorem tw_253 : (.methodLink RL 89 yX9_left : Cond) ∈ tbG := mem_ix 988 (by decide +kernel) (by decide +kernel)
theorem tw_254 : (.instanceMethod yX9_left : Cond) ∈ tbG := mem_ix 989 (by decide +kernel) (by decide +kernel)
theorem tw_255 : (.selects RX9 yX9_left yX9_left : Cond) ∈ tbG := mem_ix 990 (by decide +kernel) (by decide +kernel)
theorem lk_L_89 : vLink RL 89 8 mX9_left 1 := ⟨(RX9, TX9, 11), rfl, rfl, by decide +kernel, by decide, List.forall_mem_cons.mpr ⟨tw_253, List.forall_mem_cons.mpr ⟨tw_254, List.forall_mem_cons.mpr ⟨tw_255, List.forall_mem_cons.mpr ⟨tw_117, List.forall_mem_cons.mpr ⟨tw_252, fun _ h => absurd h List.not_mem_nil⟩⟩⟩⟩⟩⟩
theorem tw_256 : (.code mX8_over.1 mX8_over.2.1 mX8_over.2.2.1 mX8_over.2.2.2 : Cond) ∈ tbG := mem_ix 233 (by decide +kernel) (by decide +kernel)
theorem tw_257 : (.methodLink RL 90 yX8_over : Cond) ∈ tbG := mem_ix 230 (by decide +kernel) (by decide +kernel)
theorem tw_258 : (.instanceMethod yX8_over : Cond) ∈ tbG := mem_ix 231 (by decide +kernel) (by decide +kernel)
theorem tw_259 : (.selects RX8 yX8_over yX8_over : Cond) ∈ tbG := mem_ix 232 (by decide +kernel) (by decide +kernel)
theorem lk_L_90 : vLink RL 90 7 mX8_over 2 := ⟨(RX8, TX8, 9), rfl, rfl, by decide +kernel, by decide, List.forall_mem_cons.mpr ⟨tw_257, List.forall_mem_cons.mpr ⟨tw_258, List.forall_mem_cons.mpr ⟨tw_259, List.forall_mem_cons.mpr ⟨tw_113, List.forall_mem_cons.mpr ⟨tw_256, fun _ h => absurd h List.not_mem_nil⟩⟩⟩⟩⟩⟩
theorem tw_260 : (.code mX9_over.1 mX9_over.2.1 mX9_over.2.2.1 mX9_over.2.2.2 : Cond) ∈ tbG := mem_ix 995 (by decide +kernel) (by decide +kernel)
theorem tw_261 : (.methodLink RL 93 yX9_over : Cond) ∈ tbG := mem_ix 992 (by decide +kernel) (by decide +kernel)
theorem tw_262 : (.instanceMethod yX9_over : Cond) ∈ tbG := mem_ix 993 (by decide +kernel) (by decide +kernel)
theorem tw_263 : (.selects RX9 yX9_over yX9_over : Cond) ∈ tbG := mem_ix 994 (by decide +kernel) (by decide +kernel)
theorem lk_L_93 : vLink RL 93 8 mX9_over 2 := ⟨(RX9, TX9, 11), rfl, rfl, by decide +kernel, by decide, List.forall_mem_cons.mpr ⟨tw_261, List.forall_mem_cons.mpr ⟨tw_262, List.forall_mem_cons.mpr ⟨tw_263, List.forall_mem_cons.mpr ⟨tw_117, List.forall_mem_cons.mpr ⟨tw_260, fun _ h => absurd h List.not_mem_nil⟩⟩⟩⟩⟩⟩
theorem tw_264 : (.code mX8_plan.1 mX8_plan.2.1 mX8_plan.2.2.1 mX8_plan.2.2.2 : Cond) ∈ tbG := mem_ix 538 (by decide +kernel) (by decide +kernel)
theorem tw_265 : (.methodLink RL 94 yX8_plan : Cond) ∈ tbG := mem_ix 535 (by decide +kernel) (by decide +kernel)
theorem tw_266 : (.instanceMethod yX8_plan : Cond) ∈ tbG := mem_ix 536 (by decide +kernel) (by decide +kernel)
theorem tw_267 : (.selects RX8 yX8_plan yX8_plan : Cond) ∈ tbG := mem_ix 537 (by decide +kernel) (by decide +kernel)
theorem lk_L_94 : vLink RL 94 7 mX8_plan 1 := ⟨(RX8, TX8, 9), rfl, rfl, by decide +kernel, by decide, List.forall_mem_cons.mpr ⟨tw_265, List.forall_mem_cons.mpr ⟨tw_266, List.forall_mem_cons.mpr ⟨tw_267, List.forall_mem_cons.mpr ⟨tw_113, List.forall_mem_cons.mpr ⟨tw_264, fun _ h => absurd h List.not_mem_nil⟩⟩⟩⟩⟩⟩
theorem tw_268 : (.code mX9_plan.1 mX9_plan.2.1 mX9_plan.2.2.1 mX9_plan.2.2.2 : Cond) ∈ tbG := mem_ix 999 (by decide +kernel) (by decide +kernel)
theorem tw_269 : (.methodLink RL 97 yX9_plan : Cond) ∈ tbG := mem_ix 996 (by decide +kernel) (by decide +kernel)
theorem tw_270 : (.instanceMethod yX9_plan : Cond) ∈ tbG := mem_ix 997 (by decide +kernel) (by decide +kernel)
theorem tw_271 : (.selects RX9 yX9_plan yX9_plan : Cond) ∈ tbG := mem_ix 998 (by decide +kernel) (by decide +kernel)
theorem lk_L_97 : vLink RL 97 8 mX9_plan 1 := ⟨(RX9, TX9, 11), rfl, rfl, by decide +kernel, by decide, List.forall_mem_cons.mpr ⟨tw_269, List.forall_mem_cons.mpr ⟨tw_270, List.forall_mem_cons.mpr ⟨tw_271, List.forall_mem_cons.mpr ⟨tw_117, List.forall_mem_cons.mpr ⟨tw_268, fun _ h => absurd h List.not_mem_nil⟩⟩⟩⟩⟩⟩
theorem tw_272 : (.code mX8_fewest.1 mX8_fewest.2.1 mX8_fewest.2.2.1 mX8_fewest.2.2.2 : Cond) ∈ tbG := mem_ix 566 (by decide +kernel) (by decide +kernel)
theorem tw_273 : (.methodLink RL 98 yX8_fewest : Cond) ∈ tbG := mem_ix 563 (by decide +kernel) (by decide +kernel)
theorem tw_274 : (.instanceMethod yX8_fewest : Cond) ∈ tbG := mem_ix 564 (by decide +kernel) (by decide +kernel)
theorem tw_275 : (.selects RX8 yX8_fewest yX8_fewest : Cond) ∈ tbG := mem_ix 565 (by decide +kernel) (by decide +kernel)
theorem lk_L_98 : vLink RL 98 7 mX8_fewest 2 := ⟨(RX8, TX8, 9), rfl, rfl, by decide +kernel, by decide, List.forall_mem_cons.mpr ⟨tw_273, List.forall_mem_cons.mpr ⟨tw_274, List.forall_mem_cons.mpr ⟨tw_275, List.forall_mem_cons.mpr ⟨tw_113, List.forall_mem_cons.mpr ⟨tw_272, fun _ h => absurd h List.not_mem_nil⟩⟩⟩⟩⟩⟩
theorem tw_276 : (.code mX9_fewest.1 mX9_fewest.2.1 mX9_fewest.2.2.1 mX9_fewest.2.2.2 : Cond) ∈ tbG := mem_ix 1007 (by decide +kernel) (by decide +kernel)
theorem tw_277 : (.methodLink RL 101 yX9_fewest : Cond) ∈ tbG := mem_ix 1004 (by decide +kernel) (by decide +kernel)
theorem tw_278 : (.instanceMethod yX9_fewest : Cond) ∈ tbG := mem_ix 1005 (by decide +kernel) (by decide +kernel)
theorem tw_279 : (.selects RX9 yX9_fewest yX9_fewest : Cond) ∈ tbG := mem_ix 1006 (by decide +kernel) (by decide +kernel)
theorem lk_L_101 : vLink RL 101 8 mX9_fewest 2 := ⟨(RX9, TX9, 11), rfl, rfl, by decide +kernel, by decide, List.forall_mem_cons.mpr ⟨tw_277, List.forall_mem_cons.mpr ⟨tw_278, List.forall_mem_cons.mpr ⟨tw_279, List.forall_mem_cons.mpr ⟨tw_117, List.forall_mem_cons.mpr ⟨tw_276, fun _ h => absurd h List.not_mem_nil⟩⟩⟩⟩⟩⟩
theorem tw_280 : (.code mX8_mast.1 mX8_mast.2.1 mX8_mast.2.2.1 mX8_mast.2.2.2 : Cond) ∈ tbG := mem_ix 628 (by decide +kernel) (by decide +kernel)
theorem tw_281 : (.methodLink RL 102 yX8_mast : Cond) ∈ tbG := mem_ix 625 (by decide +kernel) (by decide +kernel)
theorem tw_282 : (.instanceMethod yX8_mast : Cond) ∈ tbG := mem_ix 626 (by decide +kernel) (by decide +kernel)
theorem tw_283 : (.selects RX8 yX8_mast yX8_mast : Cond) ∈ tbG := mem_ix 627 (by decide +kernel) (by decide +kernel)
theorem lk_L_102 : vLink RL 102 7 mX8_mast 2 := ⟨(RX8, TX8, 9), rfl, rfl, by decide +kernel, by decide, List.forall_mem_cons.mpr ⟨tw_281, List.forall_mem_cons.mpr ⟨tw_282, List.forall_mem_cons.mpr ⟨tw_283, List.forall_mem_cons.mpr ⟨tw_113, List.forall_mem_cons.mpr ⟨tw_280, fun _ h => absurd h List.not_mem_nil⟩⟩⟩⟩⟩⟩
theorem tw_284 : (.code mX9_mast.1 mX9_mast.2.1 mX9_mast.2.2.1 mX9_mast.2.2.2 : Cond) ∈ tbG := mem_ix 1015 (by decide +kernel) (by decide +kernel)
theorem tw_285 : (.methodLink RL 105 yX9_mast : Cond) ∈ tbG := mem_ix 1012 (by decide +kernel) (by decide +kernel)
theorem tw_286 : (.instanceMethod yX9_mast : Cond) ∈ tbG := mem_ix 1013 (by decide +kernel) (by decide +kernel)
theorem tw_287 : (.selects RX9 yX9_mast yX9_mast : Cond) ∈ tbG := mem_ix 1014 (by decide +kernel) (by decide +kernel)
theorem lk_L_105 : vLink RL 105 8 mX9_mast 2 := ⟨(RX9, TX9, 11), rfl, rfl, by decide +kernel, by decide, List.forall_mem_cons.mpr ⟨tw_285, List.forall_mem_cons.mpr ⟨tw_286, List.forall_mem_cons.mpr ⟨tw_287, List.forall_mem_cons.mpr ⟨tw_117, List.forall_mem_cons.mpr ⟨tw_284, fun _ h => absurd h List.not_mem_nil⟩⟩⟩⟩⟩⟩
theorem tw_288 : (.code mX8_wind.1 mX8_wind.2.1 mX8_wind.2.2.1 mX8_wind.2.2.2 : Cond) ∈ tbG := mem_ix 633 (by decide +kernel) (by decide +kernel)
theorem tw_289 : (.methodLink RL 106 yX8_wind : Cond) ∈ tbG := mem_ix 630 (by decide +kernel) (by decide +kernel)
theorem tw_290 : (.instanceMethod yX8_wind : Cond) ∈ tbG := mem_ix 631 (by decide +kernel) (by decide +kernel)
theorem tw_291 : (.selects RX8 yX8_wind yX8_wind : Cond) ∈ tbG := mem_ix 632 (by decide +kernel) (by decide +kernel)
theorem lk_L_106 : vLink RL 106 7 mX8_wind 2 := ⟨(RX8, TX8, 9), rfl, rfl, by decide +kernel, by decide, List.forall_mem_cons.mpr ⟨tw_289, List.forall_mem_cons.mpr ⟨tw_290, List.forall_mem_cons.mpr ⟨tw_291, List.forall_mem_cons.mpr ⟨tw_113, List.forall_mem_cons.mpr ⟨tw_288, fun _ h => absurd h List.not_mem_nil⟩⟩⟩⟩⟩⟩
theorem tw_292 : (.code mX9_wind.1 mX9_wind.2.1 mX9_wind.2.2.1 mX9_wind.2.2.2 : Cond) ∈ tbG := mem_ix 1019 (by decide +kernel) (by decide +kernel)
theorem tw_293 : (.methodLink RL 109 yX9_wind : Cond) ∈ tbG := mem_ix 1016 (by decide +kernel) (by decide +kernel)
theorem tw_294 : (.instanceMethod yX9_wind : Cond) ∈ tbG := mem_ix 1017 (by decide +kernel) (by decide +kernel)
theorem tw_295 : (.selects RX9 yX9_wind yX9_wind : Cond) ∈ tbG := mem_ix 1018 (by decide +kernel) (by decide +kernel)
theorem lk_L_109 : vLink RL 109 8 mX9_wind 2 := ⟨(RX9, TX9, 11), rfl, rfl, by decide +kernel, by decide, List.forall_mem_cons.mpr ⟨tw_293, List.forall_mem_cons.mpr ⟨tw_294, List.forall_mem_cons.mpr ⟨tw_295, List.forall_mem_cons.mpr ⟨tw_117, List.forall_mem_cons.mpr ⟨tw_292, fun _ h => absurd h List.not_mem_nil⟩⟩⟩⟩⟩⟩
theorem tw_296 : (.code mX8_set.1 mX8_set.2.1 mX8_set.2.2.1 mX8_set.2.2.2 : Cond) ∈ tbG := mem_ix 637 (by decide +kernel) (by decide +kernel)
theorem tw_297 : (.methodLink RL 110 yX8_set : Cond) ∈ tbG := mem_ix 634 (by decide +kernel) (by decide +kernel)
theorem tw_298 : (.instanceMethod yX8_set : Cond) ∈ tbG := mem_ix 635 (by decide +kernel) (by decide +kernel)
theorem tw_299 : (.selects RX8 yX8_set yX8_set : Cond) ∈ tbG := mem_ix 636 (by decide +kernel) (by decide +kernel)
theorem lk_L_110 : vLink RL 110 7 mX8_set 2 := ⟨(RX8, TX8, 9), rfl, rfl, by decide +kernel, by decide, List.forall_mem_cons.mpr ⟨tw_297, List.forall_mem_cons.mpr ⟨tw_298, List.forall_mem_cons.mpr ⟨tw_299, List.forall_mem_cons.mpr ⟨tw_113, List.forall_mem_cons.mpr ⟨tw_296, fun _ h => absurd h List.not_mem_nil⟩⟩⟩⟩⟩⟩
theorem tw_300 : (.code mX9_set.1 mX9_set.2.1 mX9_set.2.2.1 mX9_set.2.2.2 : Cond) ∈ tbG := mem_ix 1023 (by decide +kernel) (by decide +kernel)
theorem tw_301 : (.methodLink RL 114 yX9_set : Cond) ∈ tbG := mem_ix 1020 (by decide +kernel) (by decide +kernel)
theorem tw_302 : (.instanceMethod yX9_set : Cond) ∈ tbG := mem_ix 1021 (by decide +kernel) (by decide +kernel)
theorem tw_303 : (.selects RX9 yX9_set yX9_set : Cond) ∈ tbG := mem_ix 1022 (by decide +kernel) (by decide +kernel)
theorem lk_L_114 : vLink RL 114 8 mX9_set 2 := ⟨(RX9, TX9, 11), rfl, rfl, by decide +kernel, by decide, List.forall_mem_cons.mpr ⟨tw_301, List.forall_mem_cons.mpr ⟨tw_302, List.forall_mem_cons.mpr ⟨tw_303, List.forall_mem_cons.mpr ⟨tw_117, List.forall_mem_cons.mpr ⟨tw_300, fun _ h => absurd h List.not_mem_nil⟩⟩⟩⟩⟩⟩
theorem tw_304 : (.code mX8_reef.1 mX8_reef.2.1 mX8_reef.2.2.1 mX8_reef.2.2.2 : Cond) ∈ tbG := mem_ix 641 (by decide +kernel) (by decide +kernel)
theorem tw_305 : (.methodLink RL 115 yX8_reef : Cond) ∈ tbG := mem_ix 638 (by decide +kernel) (by decide +kernel)
theorem tw_306 : (.instanceMethod yX8_reef : Cond) ∈ tbG := mem_ix 639 (by decide +kernel) (by decide +kernel)
theorem tw_307 : (.selects RX8 yX8_reef yX8_reef : Cond) ∈ tbG := mem_ix 640 (by decide +kernel) (by decide +kernel)
theorem lk_L_115 : vLink RL 115 7 mX8_reef 2 := ⟨(RX8, TX8, 9), rfl, rfl, by decide +kernel, by decide, List.forall_mem_cons.mpr ⟨tw_305, List.forall_mem_cons.mpr ⟨tw_306, List.forall_mem_cons.mpr ⟨tw_307, List.forall_mem_cons.mpr ⟨tw_113, List.forall_mem_cons.mpr ⟨tw_304, fun _ h => absurd h List.not_mem_nil⟩⟩⟩⟩⟩⟩
theorem tw_308 : (.code mX9_reef.1 mX9_reef.2.1 mX9_reef.2.2.1 mX9_reef.2.2.2 : Cond) ∈ tbG := mem_ix 1027 (by decide +kernel) (by decide +kernel)
theorem tw_309 : (.methodLink RL 118 yX9_reef : Cond) ∈ tbG := mem_ix 1024 (by decide +kernel) (by decide +kernel)
theorem tw_310 : (.instanceMethod yX9_reef : Cond) ∈ tbG := mem_ix 1025 (by decide +kernel) (by decide +kernel)
theorem tw_311 : (.selects RX9 yX9_reef yX9_reef : Cond) ∈ tbG := mem_ix 1026 (by decide +kernel) (by decide +kernel)
theorem lk_L_118 : vLink RL 118 8 mX9_reef 2 := ⟨(RX9, TX9, 11), rfl, rfl, by decide +kernel, by decide, List.forall_mem_cons.mpr ⟨tw_309, List.forall_mem_cons.mpr ⟨tw_310, List.forall_mem_cons.mpr ⟨tw_311, List.forall_mem_cons.mpr ⟨tw_117, List.forall_mem_cons.mpr ⟨tw_308, fun _ h => absurd h List.not_mem_nil⟩⟩⟩⟩⟩⟩
theorem tw_312 : (.code mX8_line.1 mX8_line.2.1 mX8_line.2.2.1 mX8_line.2.2.2 : Cond) ∈ tbG := mem_ix 645 (by decide +kernel) (by decide +kernel)
theorem tw_313 : (.methodLink RL 119 yX8_line : Cond) ∈ tbG := mem_ix 642 (by decide +kernel) (by decide +kernel)
theorem tw_314 : (.instanceMethod yX8_line : Cond) ∈ tbG := mem_ix 643 (by decide +kernel) (by decide +kernel)
theorem tw_315 : (.selects RX8 yX8_line yX8_line : Cond) ∈ tbG := mem_ix 644 (by decide +kernel) (by decide +kernel)
theorem lk_L_119 : vLink RL 119 7 mX8_line 2 := ⟨(RX8, TX8, 9), rfl, rfl, by decide +kernel, by decide, List.forall_mem_cons.mpr ⟨tw_313, List.forall_mem_cons.mpr ⟨tw_314, List.forall_mem_cons.mpr ⟨tw_315, List.forall_mem_cons.mpr ⟨tw_113, List.forall_mem_cons.mpr ⟨tw_312, fun _ h => absurd h List.not_mem_nil⟩⟩⟩⟩⟩⟩
theorem tw_316 : (.code mX9_line.1 mX9_line.2.1 mX9_line.2.2.1 mX9_line.2.2.2 : Cond) ∈ tbG := mem_ix 1031 (by decide +kernel) (by decide +kernel)
theorem tw_317 : (.methodLink RL 122 yX9_line : Cond) ∈ tbG := mem_ix 1028 (by decide +kernel) (by decide +kernel)
theorem tw_318 : (.instanceMethod yX9_line : Cond) ∈ tbG := mem_ix 1029 (by decide +kernel) (by decide +kernel)
theorem tw_319 : (.selects RX9 yX9_line yX9_line : Cond) ∈ tbG := mem_ix 1030 (by decide +kernel) (by decide +kernel)
theorem lk_L_122 : vLink RL 122 8 mX9_line 2 := ⟨(RX9, TX9, 11), rfl, rfl, by decide +kernel, by decide, List.forall_mem_cons.mpr ⟨tw_317, List.forall_mem_cons.mpr ⟨tw_318, List.forall_mem_cons.mpr ⟨tw_319, List.forall_mem_cons.mpr ⟨tw_117, List.forall_mem_cons.mpr ⟨tw_316, fun _ h => absurd h List.not_mem_nil⟩⟩⟩⟩⟩⟩
theorem tw_320 : (.code mX8_push.1 mX8_push.2.1 mX8_push.2.2.1 mX8_push.2.2.2 : Cond) ∈ tbG := mem_ix 657 (by decide +kernel) (by decide +kernel)
theorem tw_321 : (.methodLink RL 123 yX8_push : Cond) ∈ tbG := mem_ix 654 (by decide +kernel) (by decide +kernel)
theorem tw_322 : (.instanceMethod yX8_push : Cond) ∈ tbG := mem_ix 655 (by decide +kernel) (by decide +kernel)
theorem tw_323 : (.selects RX8 yX8_push yX8_push : Cond) ∈ tbG := mem_ix 656 (by decide +kernel) (by decide +kernel)
theorem lk_L_123 : vLink RL 123 7 mX8_push 1 := ⟨(RX8, TX8, 9), rfl, rfl, by decide +kernel, by decide, List.forall_mem_cons.mpr ⟨tw_321, List.forall_mem_cons.mpr ⟨tw_322, List.forall_mem_cons.mpr ⟨tw_323, List.forall_mem_cons.mpr ⟨tw_113, List.forall_mem_cons.mpr ⟨tw_320, fun _ h => absurd h List.not_mem_nil⟩⟩⟩⟩⟩⟩
theorem tw_324 : (.code mX9_push.1 mX9_push.2.1 mX9_push.2.2.1 mX9_push.2.2.2 : Cond) ∈ tbG := mem_ix 1035 (by decide +kernel) (by decide +kernel)
theorem tw_325 : (.methodLink RL 127 yX9_push : Cond) ∈ tbG := mem_ix 1032 (by decide +kernel) (by decide +kernel)
theorem tw_326 : (.instanceMethod yX9_push : Cond) ∈ tbG := mem_ix 1033 (by decide +kernel) (by decide +kernel)
theorem tw_327 : (.selects RX9 yX9_push yX9_push : Cond) ∈ tbG := mem_ix 1034 (by decide +kernel) (by decide +kernel)
theorem lk_L_127 : vLink RL 127 8 mX9_push 1 := ⟨(RX9, TX9, 11), rfl, rfl, by decide +kernel, by decide, List.forall_mem_cons.mpr ⟨tw_325, List.forall_mem_cons.mpr ⟨tw_326, List.forall_mem_cons.mpr ⟨tw_327, List.forall_mem_cons.mpr ⟨tw_117, List.forall_mem_cons.mpr ⟨tw_324, fun _ h => absurd h List.not_mem_nil⟩⟩⟩⟩⟩⟩
theorem tw_328 : (.code mX8_bears.1 mX8_bears.2.1 mX8_bears.2.2.1 mX8_bears.2.2.2 : Cond) ∈ tbG := mem_ix 690 (by decide +kernel) (by decide +kernel)
theorem tw_329 : (.methodLink RL 128 yX8_bears : Cond) ∈ tbG := mem_ix 687 (by decide +kernel) (by decide +kernel)
theorem tw_330 : (.instanceMethod yX8_bears : Cond) ∈ tbG := mem_ix 688 (by decide +kernel) (by decide +kernel)
theorem tw_331 : (.selects RX8 yX8_bears yX8_bears : Cond) ∈ tbG := mem_ix 689 (by decide +kernel) (by decide +kernel)
theorem lk_L_128 : vLink RL 128 7 mX8_bears 0 := ⟨(RX8, TX8, 9), rfl, rfl, by decide +kernel, by decide, List.forall_mem_cons.mpr ⟨tw_329, List.forall_mem_cons.mpr ⟨tw_330, List.forall_mem_cons.mpr ⟨tw_331, List.forall_mem_cons.mpr ⟨tw_113, List.forall_mem_cons.mpr ⟨tw_328, fun _ h => absurd h List.not_mem_nil⟩⟩⟩⟩⟩⟩
theorem tw_332 : (.code mX9_bears.1 mX9_bears.2.1 mX9_bears.2.2.1 mX9_bears.2.2.2 : Cond) ∈ tbG := mem_ix 1048 (by decide +kernel) (by decide +kernel)
theorem tw_333 : (.methodLink RL 132 yX9_bears : Cond) ∈ tbG := mem_ix 1045 (by decide +kernel) (by decide +kernel)
theorem tw_334 : (.instanceMethod yX9_bears : Cond) ∈ tbG := mem_ix 1046 (by decide +kernel) (by decide +kernel)
theorem tw_335 : (.selects RX9 yX9_bears yX9_bears : Cond) ∈ tbG := mem_ix 1047 (by decide +kernel) (by decide +kernel)
theorem lk_L_132 : vLink RL 132 8 mX9_bears 0 := ⟨(RX9, TX9, 11), rfl, rfl, by decide +kernel, by decide, List.forall_mem_cons.mpr ⟨tw_333, List.forall_mem_cons.mpr ⟨tw_334, List.forall_mem_cons.mpr ⟨tw_335, List.forall_mem_cons.mpr ⟨tw_117, List.forall_mem_cons.mpr ⟨tw_332, fun _ h => absurd h List.not_mem_nil⟩⟩⟩⟩⟩⟩
theorem tw_336 : (.code mX8_least.1 mX8_least.2.1 mX8_least.2.2.1 mX8_least.2.2.2 : Cond) ∈ tbG := mem_ix 700 (by decide +kernel) (by decide +kernel)
theorem tw_337 : (.methodLink RL 133 yX8_least : Cond) ∈ tbG := mem_ix 697 (by decide +kernel) (by decide +kernel)
theorem tw_338 : (.instanceMethod yX8_least : Cond) ∈ tbG := mem_ix 698 (by decide +kernel) (by decide +kernel)
theorem tw_339 : (.selects RX8 yX8_least yX8_least : Cond) ∈ tbG := mem_ix 699 (by decide +kernel) (by decide +kernel)
theorem lk_L_133 : vLink RL 133 7 mX8_least 0 := ⟨(RX8, TX8, 9), rfl, rfl, by decide +kernel, by decide, List.forall_mem_cons.mpr ⟨tw_337, List.forall_mem_cons.mpr ⟨tw_338, List.forall_mem_cons.mpr ⟨tw_339, List.forall_mem_cons.mpr ⟨tw_113, List.forall_mem_cons.mpr ⟨tw_336, fun _ h => absurd h List.not_mem_nil⟩⟩⟩⟩⟩⟩
theorem tw_340 : (.code mX9_least.1 mX9_least.2.1 mX9_least.2.2.1 mX9_least.2.2.2 : Cond) ∈ tbG := mem_ix 1057 (by decide +kernel) (by decide +kernel)
theorem tw_341 : (.methodLink RL 136 yX9_least : Cond) ∈ tbG := mem_ix 1054 (by decide +kernel) (by decide +kernel)
theorem tw_342 : (.instanceMethod yX9_least : Cond) ∈ tbG := mem_ix 1055 (by decide +kernel) (by decide +kernel)
theorem tw_343 : (.selects RX9 yX9_least yX9_least : Cond) ∈ tbG := mem_ix 1056 (by decide +kernel) (by decide +kernel)
theorem lk_L_136 : vLink RL 136 8 mX9_least 0 := ⟨(RX9, TX9, 11), rfl, rfl, by decide +kernel, by decide, List.forall_mem_cons.mpr ⟨tw_341, List.forall_mem_cons.mpr ⟨tw_342, List.forall_mem_cons.mpr ⟨tw_343, List.forall_mem_cons.mpr ⟨tw_117, List.forall_mem_cons.mpr ⟨tw_340, fun _ h => absurd h List.not_mem_nil⟩⟩⟩⟩⟩⟩
theorem tw_344 : (.code mX8_take.1 mX8_take.2.1 mX8_take.2.2.1 mX8_take.2.2.2 : Cond) ∈ tbG := mem_ix 619 (by decide +kernel) (by decide +kernel)
theorem tw_345 : (.methodLink RL 137 yX8_take : Cond) ∈ tbG := mem_ix 616 (by decide +kernel) (by decide +kernel)
theorem tw_346 : (.instanceMethod yX8_take : Cond) ∈ tbG := mem_ix 617 (by decide +kernel) (by decide +kernel)
theorem tw_347 : (.selects RX8 yX8_take yX8_take : Cond) ∈ tbG := mem_ix 618 (by decide +kernel) (by decide +kernel)
theorem lk_L_137 : vLink RL 137 7 mX8_take 1 := ⟨(RX8, TX8, 9), rfl, rfl, by decide +kernel, by decide, List.forall_mem_cons.mpr ⟨tw_345, List.forall_mem_cons.mpr ⟨tw_346, List.forall_mem_cons.mpr ⟨tw_347, List.forall_mem_cons.mpr ⟨tw_113, List.forall_mem_cons.mpr ⟨tw_344, fun _ h => absurd h List.not_mem_nil⟩⟩⟩⟩⟩⟩
theorem tw_348 : (.code mX9_take.1 mX9_take.2.1 mX9_take.2.2.1 mX9_take.2.2.2 : Cond) ∈ tbG := mem_ix 1061 (by decide +kernel) (by decide +kernel)
theorem tw_349 : (.methodLink RL 140 yX9_take : Cond) ∈ tbG := mem_ix 1058 (by decide +kernel) (by decide +kernel)
theorem tw_350 : (.instanceMethod yX9_take : Cond) ∈ tbG := mem_ix 1059 (by decide +kernel) (by decide +kernel)
theorem tw_351 : (.selects RX9 yX9_take yX9_take : Cond) ∈ tbG := mem_ix 1060 (by decide +kernel) (by decide +kernel)
theorem lk_L_140 : vLink RL 140 8 mX9_take 1 := ⟨(RX9, TX9, 11), rfl, rfl, by decide +kernel, by decide, List.forall_mem_cons.mpr ⟨tw_349, List.forall_mem_cons.mpr ⟨tw_350, List.forall_mem_cons.mpr ⟨tw_351, List.forall_mem_cons.mpr ⟨tw_117, List.forall_mem_cons.mpr ⟨tw_348, fun _ h => absurd h List.not_mem_nil⟩⟩⟩⟩⟩⟩
theorem tw_352 : (.code mX8_old.1 mX8_old.2.1 mX8_old.2.2.1 mX8_old.2.2.2 : Cond) ∈ tbG := mem_ix 242 (by decide +kernel) (by decide +kernel)
theorem tw_353 : (.methodLink RL 141 yX8_old : Cond) ∈ tbG := mem_ix 239 (by decide +kernel) (by decide +kernel)
theorem tw_354 : (.instanceMethod yX8_old : Cond) ∈ tbG := mem_ix 240 (by decide +kernel) (by decide +kernel)
theorem tw_355 : (.selects RX8 yX8_old yX8_old : Cond) ∈ tbG := mem_ix 241 (by decide +kernel) (by decide +kernel)
theorem lk_L_141 : vLink RL 141 7 mX8_old 1 := ⟨(RX8, TX8, 9), rfl, rfl, by decide +kernel, by decide, List.forall_mem_cons.mpr ⟨tw_353, List.forall_mem_cons.mpr ⟨tw_354, List.forall_mem_cons.mpr ⟨tw_355, List.forall_mem_cons.mpr ⟨tw_113, List.forall_mem_cons.mpr ⟨tw_352, fun _ h => absurd h List.not_mem_nil⟩⟩⟩⟩⟩⟩
theorem tw_356 : (.code mX9_old.1 mX9_old.2.1 mX9_old.2.2.1 mX9_old.2.2.2 : Cond) ∈ tbG := mem_ix 1065 (by decide +kernel) (by decide +kernel)
theorem tw_357 : (.methodLink RL 144 yX9_old : Cond) ∈ tbG := mem_ix 1062 (by decide +kernel) (by decide +kernel)
theorem tw_358 : (.instanceMethod yX9_old : Cond) ∈ tbG := mem_ix 1063 (by decide +kernel) (by decide +kernel)
theorem tw_359 : (.selects RX9 yX9_old yX9_old : Cond) ∈ tbG := mem_ix 1064 (by decide +kernel) (by decide +kernel)
theorem lk_L_144 : vLink RL 144 8 mX9_old 1 := ⟨(RX9, TX9, 11), rfl, rfl, by decide +kernel, by decide, List.forall_mem_cons.mpr ⟨tw_357, List.forall_mem_cons.mpr ⟨tw_358, List.forall_mem_cons.mpr ⟨tw_359, List.forall_mem_cons.mpr ⟨tw_117, List.forall_mem_cons.mpr ⟨tw_356, fun _ h => absurd h List.not_mem_nil⟩⟩⟩⟩⟩⟩
theorem tw_360 : (.code mX8_undo.1 mX8_undo.2.1 mX8_undo.2.2.1 mX8_undo.2.2.2 : Cond) ∈ tbG := mem_ix 712 (by decide +kernel) (by decide +kernel)
theorem tw_361 : (.methodLink RL 145 yX8_undo : Cond) ∈ tbG := mem_ix 709 (by decide +kernel) (by decide +kernel)
theorem tw_362 : (.instanceMethod yX8_undo : Cond) ∈ tbG := mem_ix 710 (by decide +kernel) (by decide +kernel)
theorem tw_363 : (.selects RX8 yX8_undo yX8_undo : Cond) ∈ tbG := mem_ix 711 (by decide +kernel) (by decide +kernel)
theorem lk_L_145 : vLink RL 145 7 mX8_undo 0 := ⟨(RX8, TX8, 9), rfl, rfl, by decide +kernel, by decide, List.forall_mem_cons.mpr ⟨tw_361, List.forall_mem_cons.mpr ⟨tw_362, List.forall_mem_cons.mpr ⟨tw_363, List.forall_mem_cons.mpr ⟨tw_113, List.forall_mem_cons.mpr ⟨tw_360, fun _ h => absurd h List.not_mem_nil⟩⟩⟩⟩⟩⟩
theorem tw_364 : (.code mX9_undo.1 mX9_undo.2.1 mX9_undo.2.2.1 mX9_undo.2.2.2 : Cond) ∈ tbG := mem_ix 801 (by decide +kernel) (by decide +kernel)
theorem tw_365 : (.methodLink RL 149 yX9_undo : Cond) ∈ tbG := mem_ix 798 (by decide +kernel) (by decide +kernel)
theorem tw_366 : (.instanceMethod yX9_undo : Cond) ∈ tbG := mem_ix 799 (by decide +kernel) (by decide +kernel)
theorem tw_367 : (.selects RX9 yX9_undo yX9_undo : Cond) ∈ tbG := mem_ix 800 (by decide +kernel) (by decide +kernel)
theorem lk_L_149 : vLink RL 149 8 mX9_undo 0 := ⟨(RX9, TX9, 11), rfl, rfl, by decide +kernel, by decide, List.forall_mem_cons.mpr ⟨tw_365, List.forall_mem_cons.mpr ⟨tw_366, List.forall_mem_cons.mpr ⟨tw_367, List.forall_mem_cons.mpr ⟨tw_117, List.forall_mem_cons.mpr ⟨tw_364, fun _ h => absurd h List.not_mem_nil⟩⟩⟩⟩⟩⟩
theorem tw_368 : (.code mX8_count.1 mX8_count.2.1 mX8_count.2.2.1 mX8_count.2.2.2 : Cond) ∈ tbG := mem_ix 754 (by decide +kernel) (by decide +kernel)
theorem tw_369 : (.methodLink RL 150 yX8_count : Cond) ∈ tbG := mem_ix 751 (by decide +kernel) (by decide +kernel)
theorem tw_370 : (.instanceMethod yX8_count : Cond) ∈ tbG := mem_ix 752 (by decide +kernel) (by decide +kernel)
theorem tw_371 : (.selects RX8 yX8_count yX8_count : Cond) ∈ tbG := mem_ix 753 (by decide +kernel) (by decide +kernel)
theorem lk_L_150 : vLink RL 150 7 mX8_count 1 := ⟨(RX8, TX8, 9), rfl, rfl, by decide +kernel, by decide, List.forall_mem_cons.mpr ⟨tw_369, List.forall_mem_cons.mpr ⟨tw_370, List.forall_mem_cons.mpr ⟨tw_371, List.forall_mem_cons.mpr ⟨tw_113, List.forall_mem_cons.mpr ⟨tw_368, fun _ h => absurd h List.not_mem_nil⟩⟩⟩⟩⟩⟩
theorem tw_372 : (.code mX9_count.1 mX9_count.2.1 mX9_count.2.2.1 mX9_count.2.2.2 : Cond) ∈ tbG := mem_ix 1069 (by decide +kernel) (by decide +kernel)
theorem tw_373 : (.methodLink RL 153 yX9_count : Cond) ∈ tbG := mem_ix 1066 (by decide +kernel) (by decide +kernel)
theorem tw_374 : (.instanceMethod yX9_count : Cond) ∈ tbG := mem_ix 1067 (by decide +kernel) (by decide +kernel)
theorem tw_375 : (.selects RX9 yX9_count yX9_count : Cond) ∈ tbG := mem_ix 1068 (by decide +kernel) (by decide +kernel)
theorem lk_L_153 : vLink RL 153 8 mX9_count 1 := ⟨(RX9, TX9, 11), rfl, rfl, by decide +kernel, by decide, List.forall_mem_cons.mpr ⟨tw_373, List.forall_mem_cons.mpr ⟨tw_374, List.forall_mem_cons.mpr ⟨tw_375, List.forall_mem_cons.mpr ⟨tw_117, List.forall_mem_cons.mpr ⟨tw_372, fun _ h => absurd h List.not_mem_nil⟩⟩⟩⟩⟩⟩
theorem tw_376 : (.methodLink RX0 1 objectInit : Cond) ∈ tbG := mem_ix 151 (by decide +kernel) (by decide +kernel)
theorem tw_377 : (.instanceMethod objectInit : Cond) ∈ tbG := mem_ix 20 (by decide +kernel) (by decide +kernel)
theorem tw_378 : (.code objectInit ⟨#[0xb1]⟩ 1 none : Cond) ∈ tbG := mem_ix 21 (by decide +kernel) (by decide +kernel)
theorem lk_X0_1 : ∀ w ∈ ([.methodLink RX0 1 objectInit, .instanceMethod objectInit, .code objectInit ⟨#[0xb1]⟩ 1 none] : List Cond), w ∈ tbG := List.forall_mem_cons.mpr ⟨tw_376, List.forall_mem_cons.mpr ⟨tw_377, List.forall_mem_cons.mpr ⟨tw_378, fun _ h => absurd h List.not_mem_nil⟩⟩⟩
theorem tw_379 : (.methodLink RX1 3 objectInit : Cond) ∈ tbG := mem_ix 109 (by decide +kernel) (by decide +kernel)
theorem lk_X1_3 : ∀ w ∈ ([.methodLink RX1 3 objectInit, .instanceMethod objectInit, .code objectInit ⟨#[0xb1]⟩ 1 none] : List Cond), w ∈ tbG := List.forall_mem_cons.mpr ⟨tw_379, List.forall_mem_cons.mpr ⟨tw_377, List.forall_mem_cons.mpr ⟨tw_378, fun _ h => absurd h List.not_mem_nil⟩⟩⟩
theorem tw_380 : (.code mJ7_fill_fb410.1 mJ7_fill_fb410.2.1 mJ7_fill_fb410.2.2.1 mJ7_fill_fb410.2.2.2 : Cond) ∈ tbG := mem_ix 146 (by decide +kernel) (by decide +kernel)
theorem tw_381 : (.initialized RJ7 : Cond) ∈ tbG := mem_ix 3 (by decide +kernel) (by decide +kernel)
theorem tw_382 : (.methodLink RX1 36 yJ7_fill_fb410 : Cond) ∈ tbG := mem_ix 144 (by decide +kernel) (by decide +kernel)
theorem tw_383 : (.static yJ7_fill_fb410 : Cond) ∈ tbG := mem_ix 145 (by decide +kernel) (by decide +kernel)
theorem lk_X1_36 : sLink RX1 36 mJ7_fill_fb410 2 := ⟨by decide +kernel, by decide, List.forall_mem_cons.mpr ⟨tw_382, List.forall_mem_cons.mpr ⟨tw_383, List.forall_mem_cons.mpr ⟨tw_381, List.forall_mem_cons.mpr ⟨tw_380, fun _ h => absurd h List.not_mem_nil⟩⟩⟩⟩⟩
theorem tw_384 : (.code mX1_tellsPlace.1 mX1_tellsPlace.2.1 mX1_tellsPlace.2.2.1 mX1_tellsPlace.2.2.2 : Cond) ∈ tbG := mem_ix 208 (by decide +kernel) (by decide +kernel)
theorem tw_385 : (.initialized RX1 : Cond) ∈ tbG := mem_ix 7 (by decide +kernel) (by decide +kernel)
theorem tw_386 : (.methodLink RX1 42 yX1_tellsPlace : Cond) ∈ tbG := mem_ix 213 (by decide +kernel) (by decide +kernel)
theorem tw_387 : (.instanceMethod yX1_tellsPlace : Cond) ∈ tbG := mem_ix 206 (by decide +kernel) (by decide +kernel)
theorem tw_388 : (.selects RX1 yX1_tellsPlace yX1_tellsPlace : Cond) ∈ tbG := mem_ix 207 (by decide +kernel) (by decide +kernel)
theorem lk_X1_42 : vLink RX1 42 1 mX1_tellsPlace 1 := ⟨(RX1, TX1, 7), rfl, rfl, by decide +kernel, by decide, List.forall_mem_cons.mpr ⟨tw_386, List.forall_mem_cons.mpr ⟨tw_387, List.forall_mem_cons.mpr ⟨tw_388, List.forall_mem_cons.mpr ⟨tw_385, List.forall_mem_cons.mpr ⟨tw_384, fun _ h => absurd h List.not_mem_nil⟩⟩⟩⟩⟩⟩
theorem tw_389 : (.code mX1_hasPlace.1 mX1_hasPlace.2.1 mX1_hasPlace.2.2.1 mX1_hasPlace.2.2.2 : Cond) ∈ tbG := mem_ix 225 (by decide +kernel) (by decide +kernel)
theorem tw_390 : (.methodLink RX1 46 yX1_hasPlace : Cond) ∈ tbG := mem_ix 238 (by decide +kernel) (by decide +kernel)
theorem tw_391 : (.instanceMethod yX1_hasPlace : Cond) ∈ tbG := mem_ix 223 (by decide +kernel) (by decide +kernel)
theorem tw_392 : (.selects RX1 yX1_hasPlace yX1_hasPlace : Cond) ∈ tbG := mem_ix 224 (by decide +kernel) (by decide +kernel)
theorem lk_X1_46 : vLink RX1 46 1 mX1_hasPlace 1 := ⟨(RX1, TX1, 7), rfl, rfl, by decide +kernel, by decide, List.forall_mem_cons.mpr ⟨tw_390, List.forall_mem_cons.mpr ⟨tw_391, List.forall_mem_cons.mpr ⟨tw_392, List.forall_mem_cons.mpr ⟨tw_385, List.forall_mem_cons.mpr ⟨tw_389, fun _ h => absurd h List.not_mem_nil⟩⟩⟩⟩⟩⟩
theorem tw_393 : (.code mX1_wornAt.1 mX1_wornAt.2.1 mX1_wornAt.2.2.1 mX1_wornAt.2.2.2 : Cond) ∈ tbG := mem_ix 212 (by decide +kernel) (by decide +kernel)
theorem tw_394 : (.methodLink RX1 49 yX1_wornAt : Cond) ∈ tbG := mem_ix 507 (by decide +kernel) (by decide +kernel)
theorem tw_395 : (.instanceMethod yX1_wornAt : Cond) ∈ tbG := mem_ix 210 (by decide +kernel) (by decide +kernel)
theorem tw_396 : (.selects RX1 yX1_wornAt yX1_wornAt : Cond) ∈ tbG := mem_ix 211 (by decide +kernel) (by decide +kernel)
theorem lk_X1_49 : vLink RX1 49 1 mX1_wornAt 1 := ⟨(RX1, TX1, 7), rfl, rfl, by decide +kernel, by decide, List.forall_mem_cons.mpr ⟨tw_394, List.forall_mem_cons.mpr ⟨tw_395, List.forall_mem_cons.mpr ⟨tw_396, List.forall_mem_cons.mpr ⟨tw_385, List.forall_mem_cons.mpr ⟨tw_393, fun _ h => absurd h List.not_mem_nil⟩⟩⟩⟩⟩⟩
theorem tw_397 : (.code mX1_isFree.1 mX1_isFree.2.1 mX1_isFree.2.2.1 mX1_isFree.2.2.2 : Cond) ∈ tbG := mem_ix 506 (by decide +kernel) (by decide +kernel)
theorem tw_398 : (.methodLink RX1 59 yX1_isFree : Cond) ∈ tbG := mem_ix 503 (by decide +kernel) (by decide +kernel)
theorem tw_399 : (.instanceMethod yX1_isFree : Cond) ∈ tbG := mem_ix 504 (by decide +kernel) (by decide +kernel)
theorem tw_400 : (.selects RX1 yX1_isFree yX1_isFree : Cond) ∈ tbG := mem_ix 505 (by decide +kernel) (by decide +kernel)
theorem lk_X1_59 : vLink RX1 59 1 mX1_isFree 2 := ⟨(RX1, TX1, 7), rfl, rfl, by decide +kernel, by decide, List.forall_mem_cons.mpr ⟨tw_398, List.forall_mem_cons.mpr ⟨tw_399, List.forall_mem_cons.mpr ⟨tw_400, List.forall_mem_cons.mpr ⟨tw_385, List.forall_mem_cons.mpr ⟨tw_397, fun _ h => absurd h List.not_mem_nil⟩⟩⟩⟩⟩⟩
theorem tw_401 : (.code mX1_fill.1 mX1_fill.2.1 mX1_fill.2.2.1 mX1_fill.2.2.2 : Cond) ∈ tbG := mem_ix 522 (by decide +kernel) (by decide +kernel)
theorem tw_402 : (.methodLink RX1 63 yX1_fill : Cond) ∈ tbG := mem_ix 519 (by decide +kernel) (by decide +kernel)
theorem tw_403 : (.instanceMethod yX1_fill : Cond) ∈ tbG := mem_ix 521 (by decide +kernel) (by decide +kernel)
theorem tw_404 : (.selects RX1 yX1_fill yX1_fill : Cond) ∈ tbG := mem_sx 9 (by decide +kernel) (by decide +kernel)
theorem lk_X1_63 : vLink RX1 63 1 mX1_fill 3 := ⟨(RX1, TX1, 7), rfl, rfl, by decide +kernel, by decide, List.forall_mem_cons.mpr ⟨tw_402, List.forall_mem_cons.mpr ⟨tw_403, List.forall_mem_cons.mpr ⟨tw_404, List.forall_mem_cons.mpr ⟨tw_385, List.forall_mem_cons.mpr ⟨tw_401, fun _ h => absurd h List.not_mem_nil⟩⟩⟩⟩⟩⟩
theorem tw_405 : (.methodLink RX2 19 Lib.Math.max.name : Cond) ∈ tbG := mem_ix 98 (by decide +kernel) (by decide +kernel)
theorem tw_406 : (.static Lib.Math.max.name : Cond) ∈ tbG := mem_ix 99 (by decide +kernel) (by decide +kernel)
theorem tw_407 : (.initialized "java/lang/Math" : Cond) ∈ tbG := mem_ix 6 (by decide +kernel) (by decide +kernel)
theorem tw_408 : (.code Lib.Math.max.name Lib.Math.max.code 2 (some .int) : Cond) ∈ tbG := mem_ix 100 (by decide +kernel) (by decide +kernel)
theorem lk_X2_19 : ∀ w ∈ ([.methodLink RX2 19 Lib.Math.max.name, .static Lib.Math.max.name, .initialized "java/lang/Math", .code Lib.Math.max.name Lib.Math.max.code 2 (some .int)] : List Cond), w ∈ tbG := List.forall_mem_cons.mpr ⟨tw_405, List.forall_mem_cons.mpr ⟨tw_406, List.forall_mem_cons.mpr ⟨tw_407, List.forall_mem_cons.mpr ⟨tw_408, fun _ h => absurd h List.not_mem_nil⟩⟩⟩⟩
theorem tw_409 : (.methodLink RX3 3 objectInit : Cond) ∈ tbG := mem_ix 572 (by decide +kernel) (by decide +kernel)
theorem lk_X3_3 : ∀ w ∈ ([.methodLink RX3 3 objectInit, .instanceMethod objectInit, .code objectInit ⟨#[0xb1]⟩ 1 none] : List Cond), w ∈ tbG := List.forall_mem_cons.mpr ⟨tw_409, List.forall_mem_cons.mpr ⟨tw_377, List.forall_mem_cons.mpr ⟨tw_378, fun _ h => absurd h List.not_mem_nil⟩⟩⟩
theorem tw_410 : (.methodLink RX3 33 Lib.Math.max.name : Cond) ∈ tbG := mem_ix 594 (by decide +kernel) (by decide +kernel)
theorem lk_X3_33 : ∀ w ∈ ([.methodLink RX3 33 Lib.Math.max.name, .static Lib.Math.max.name, .initialized "java/lang/Math", .code Lib.Math.max.name Lib.Math.max.code 2 (some .int)] : List Cond), w ∈ tbG := List.forall_mem_cons.mpr ⟨tw_410, List.forall_mem_cons.mpr ⟨tw_406, List.forall_mem_cons.mpr ⟨tw_407, List.forall_mem_cons.mpr ⟨tw_408, fun _ h => absurd h List.not_mem_nil⟩⟩⟩⟩
theorem tw_411 : (.methodLink RX3 39 Lib.Math.min.name : Cond) ∈ tbG := mem_ix 603 (by decide +kernel) (by decide +kernel)
theorem tw_412 : (.static Lib.Math.min.name : Cond) ∈ tbG := mem_ix 190 (by decide +kernel) (by decide +kernel)
theorem tw_413 : (.code Lib.Math.min.name Lib.Math.min.code 2 (some .int) : Cond) ∈ tbG := mem_ix 191 (by decide +kernel) (by decide +kernel)
theorem lk_X3_39 : ∀ w ∈ ([.methodLink RX3 39 Lib.Math.min.name, .static Lib.Math.min.name, .initialized "java/lang/Math", .code Lib.Math.min.name Lib.Math.min.code 2 (some .int)] : List Cond), w ∈ tbG := List.forall_mem_cons.mpr ⟨tw_411, List.forall_mem_cons.mpr ⟨tw_412, List.forall_mem_cons.mpr ⟨tw_407, List.forall_mem_cons.mpr ⟨tw_413, fun _ h => absurd h List.not_mem_nil⟩⟩⟩⟩
theorem tw_414 : (.code mX3_fits.1 mX3_fits.2.1 mX3_fits.2.2.1 mX3_fits.2.2.2 : Cond) ∈ tbG := mem_ix 607 (by decide +kernel) (by decide +kernel)
theorem tw_415 : (.initialized RX3 : Cond) ∈ tbG := mem_ix 13 (by decide +kernel) (by decide +kernel)
theorem tw_416 : (.methodLink RX3 42 yX3_fits : Cond) ∈ tbG := mem_ix 604 (by decide +kernel) (by decide +kernel)
theorem tw_417 : (.instanceMethod yX3_fits : Cond) ∈ tbG := mem_ix 606 (by decide +kernel) (by decide +kernel)
theorem tw_418 : (.selects RX3 yX3_fits yX3_fits : Cond) ∈ tbG := mem_sx 15 (by decide +kernel) (by decide +kernel)
theorem lk_X3_42 : vLink RX3 42 2 mX3_fits 2 := ⟨(RX3, TX3, 4), rfl, rfl, by decide +kernel, by decide, List.forall_mem_cons.mpr ⟨tw_416, List.forall_mem_cons.mpr ⟨tw_417, List.forall_mem_cons.mpr ⟨tw_418, List.forall_mem_cons.mpr ⟨tw_415, List.forall_mem_cons.mpr ⟨tw_414, fun _ h => absurd h List.not_mem_nil⟩⟩⟩⟩⟩⟩
theorem tw_419 : (.code mX3_betterBy.1 mX3_betterBy.2.1 mX3_betterBy.2.2.1 mX3_betterBy.2.2.2 : Cond) ∈ tbG := mem_ix 611 (by decide +kernel) (by decide +kernel)
theorem tw_420 : (.methodLink RX3 46 yX3_betterBy : Cond) ∈ tbG := mem_ix 608 (by decide +kernel) (by decide +kernel)
theorem tw_421 : (.instanceMethod yX3_betterBy : Cond) ∈ tbG := mem_ix 610 (by decide +kernel) (by decide +kernel)
theorem tw_422 : (.selects RX3 yX3_betterBy yX3_betterBy : Cond) ∈ tbG := mem_sx 16 (by decide +kernel) (by decide +kernel)
theorem lk_X3_46 : vLink RX3 46 2 mX3_betterBy 2 := ⟨(RX3, TX3, 4), rfl, rfl, by decide +kernel, by decide, List.forall_mem_cons.mpr ⟨tw_420, List.forall_mem_cons.mpr ⟨tw_421, List.forall_mem_cons.mpr ⟨tw_422, List.forall_mem_cons.mpr ⟨tw_415, List.forall_mem_cons.mpr ⟨tw_419, fun _ h => absurd h List.not_mem_nil⟩⟩⟩⟩⟩⟩
theorem tw_423 : (.methodLink RX4 3 objectInit : Cond) ∈ tbG := mem_ix 400 (by decide +kernel) (by decide +kernel)
theorem lk_X4_3 : ∀ w ∈ ([.methodLink RX4 3 objectInit, .instanceMethod objectInit, .code objectInit ⟨#[0xb1]⟩ 1 none] : List Cond), w ∈ tbG := List.forall_mem_cons.mpr ⟨tw_423, List.forall_mem_cons.mpr ⟨tw_377, List.forall_mem_cons.mpr ⟨tw_378, fun _ h => absurd h List.not_mem_nil⟩⟩⟩
theorem tw_424 : (.methodLink RX5 3 objectInit : Cond) ∈ tbG := mem_ix 268 (by decide +kernel) (by decide +kernel)
theorem lk_X5_3 : ∀ w ∈ ([.methodLink RX5 3 objectInit, .instanceMethod objectInit, .code objectInit ⟨#[0xb1]⟩ 1 none] : List Cond), w ∈ tbG := List.forall_mem_cons.mpr ⟨tw_424, List.forall_mem_cons.mpr ⟨tw_377, List.forall_mem_cons.mpr ⟨tw_378, fun _ h => absurd h List.not_mem_nil⟩⟩⟩
theorem tw_425 : (.code mX6_edgeAt.1 mX6_edgeAt.2.1 mX6_edgeAt.2.2.1 mX6_edgeAt.2.2.2 : Cond) ∈ tbG := mem_ix 360 (by decide +kernel) (by decide +kernel)
theorem tw_426 : (.initialized RX6 : Cond) ∈ tbG := mem_ix 11 (by decide +kernel) (by decide +kernel)
theorem tw_427 : (.methodLink RX5 55 yX6_edgeAt : Cond) ∈ tbG := mem_ix 378 (by decide +kernel) (by decide +kernel)
theorem tw_428 : (.instanceMethod yX6_edgeAt : Cond) ∈ tbG := mem_ix 358 (by decide +kernel) (by decide +kernel)
theorem tw_429 : (.selects RX6 yX6_edgeAt yX6_edgeAt : Cond) ∈ tbG := mem_ix 359 (by decide +kernel) (by decide +kernel)
theorem lk_X5_55 : vLink RX5 55 5 mX6_edgeAt 2 := ⟨(RX6, TX6, 3), rfl, rfl, by decide +kernel, by decide, List.forall_mem_cons.mpr ⟨tw_427, List.forall_mem_cons.mpr ⟨tw_428, List.forall_mem_cons.mpr ⟨tw_429, List.forall_mem_cons.mpr ⟨tw_426, List.forall_mem_cons.mpr ⟨tw_425, fun _ h => absurd h List.not_mem_nil⟩⟩⟩⟩⟩⟩
theorem tw_430 : (.code mX5_breadthAt.1 mX5_breadthAt.2.1 mX5_breadthAt.2.2.1 mX5_breadthAt.2.2.2 : Cond) ∈ tbG := mem_ix 377 (by decide +kernel) (by decide +kernel)
theorem tw_431 : (.initialized RX5 : Cond) ∈ tbG := mem_ix 10 (by decide +kernel) (by decide +kernel)
theorem tw_432 : (.methodLink RX5 61 yX5_breadthAt : Cond) ∈ tbG := mem_ix 374 (by decide +kernel) (by decide +kernel)
theorem tw_433 : (.instanceMethod yX5_breadthAt : Cond) ∈ tbG := mem_ix 375 (by decide +kernel) (by decide +kernel)
theorem tw_434 : (.selects RX5 yX5_breadthAt yX5_breadthAt : Cond) ∈ tbG := mem_ix 376 (by decide +kernel) (by decide +kernel)
theorem lk_X5_61 : vLink RX5 61 4 mX5_breadthAt 1 := ⟨(RX5, TX5, 13), rfl, rfl, by decide +kernel, by decide, List.forall_mem_cons.mpr ⟨tw_432, List.forall_mem_cons.mpr ⟨tw_433, List.forall_mem_cons.mpr ⟨tw_434, List.forall_mem_cons.mpr ⟨tw_431, List.forall_mem_cons.mpr ⟨tw_430, fun _ h => absurd h List.not_mem_nil⟩⟩⟩⟩⟩⟩
theorem tw_435 : (.methodLink RX5 65 Lib.Math.max.name : Cond) ∈ tbG := mem_ix 392 (by decide +kernel) (by decide +kernel)
theorem lk_X5_65 : ∀ w ∈ ([.methodLink RX5 65 Lib.Math.max.name, .static Lib.Math.max.name, .initialized "java/lang/Math", .code Lib.Math.max.name Lib.Math.max.code 2 (some .int)] : List Cond), w ∈ tbG := List.forall_mem_cons.mpr ⟨tw_435, List.forall_mem_cons.mpr ⟨tw_406, List.forall_mem_cons.mpr ⟨tw_407, List.forall_mem_cons.mpr ⟨tw_408, fun _ h => absurd h List.not_mem_nil⟩⟩⟩⟩
theorem tw_436 : (.methodLink RX5 70 Lib.Math.min.name : Cond) ∈ tbG := mem_ix 386 (by decide +kernel) (by decide +kernel)
theorem lk_X5_70 : ∀ w ∈ ([.methodLink RX5 70 Lib.Math.min.name, .static Lib.Math.min.name, .initialized "java/lang/Math", .code Lib.Math.min.name Lib.Math.min.code 2 (some .int)] : List Cond), w ∈ tbG := List.forall_mem_cons.mpr ⟨tw_436, List.forall_mem_cons.mpr ⟨tw_412, List.forall_mem_cons.mpr ⟨tw_407, List.forall_mem_cons.mpr ⟨tw_413, fun _ h => absurd h List.not_mem_nil⟩⟩⟩⟩
theorem tw_437 : (.code mX5_panelsOfHeight.1 mX5_panelsOfHeight.2.1 mX5_panelsOfHeight.2.2.1 mX5_panelsOfHeight.2.2.2 : Cond) ∈ tbG := mem_ix 369 (by decide +kernel) (by decide +kernel)
theorem tw_438 : (.methodLink RX5 75 yX5_panelsOfHeight : Cond) ∈ tbG := mem_ix 385 (by decide +kernel) (by decide +kernel)
theorem tw_439 : (.instanceMethod yX5_panelsOfHeight : Cond) ∈ tbG := mem_ix 367 (by decide +kernel) (by decide +kernel)
theorem tw_440 : (.selects RX5 yX5_panelsOfHeight yX5_panelsOfHeight : Cond) ∈ tbG := mem_ix 368 (by decide +kernel) (by decide +kernel)
theorem lk_X5_75 : vLink RX5 75 4 mX5_panelsOfHeight 1 := ⟨(RX5, TX5, 13), rfl, rfl, by decide +kernel, by decide, List.forall_mem_cons.mpr ⟨tw_438, List.forall_mem_cons.mpr ⟨tw_439, List.forall_mem_cons.mpr ⟨tw_440, List.forall_mem_cons.mpr ⟨tw_431, List.forall_mem_cons.mpr ⟨tw_437, fun _ h => absurd h List.not_mem_nil⟩⟩⟩⟩⟩⟩
theorem tw_441 : (.code mX5_lengthBetween.1 mX5_lengthBetween.2.1 mX5_lengthBetween.2.2.1 mX5_lengthBetween.2.2.2 : Cond) ∈ tbG := mem_ix 391 (by decide +kernel) (by decide +kernel)
theorem tw_442 : (.methodLink RX5 78 yX5_lengthBetween : Cond) ∈ tbG := mem_ix 388 (by decide +kernel) (by decide +kernel)
theorem tw_443 : (.instanceMethod yX5_lengthBetween : Cond) ∈ tbG := mem_ix 389 (by decide +kernel) (by decide +kernel)
theorem tw_444 : (.selects RX5 yX5_lengthBetween yX5_lengthBetween : Cond) ∈ tbG := mem_ix 390 (by decide +kernel) (by decide +kernel)
theorem lk_X5_78 : vLink RX5 78 4 mX5_lengthBetween 2 := ⟨(RX5, TX5, 13), rfl, rfl, by decide +kernel, by decide, List.forall_mem_cons.mpr ⟨tw_442, List.forall_mem_cons.mpr ⟨tw_443, List.forall_mem_cons.mpr ⟨tw_444, List.forall_mem_cons.mpr ⟨tw_431, List.forall_mem_cons.mpr ⟨tw_441, fun _ h => absurd h List.not_mem_nil⟩⟩⟩⟩⟩⟩
theorem tw_445 : (.code mX5_twiceBetween.1 mX5_twiceBetween.2.1 mX5_twiceBetween.2.2.1 mX5_twiceBetween.2.2.2 : Cond) ∈ tbG := mem_ix 396 (by decide +kernel) (by decide +kernel)
theorem tw_446 : (.methodLink RX5 81 yX5_twiceBetween : Cond) ∈ tbG := mem_ix 393 (by decide +kernel) (by decide +kernel)
theorem tw_447 : (.instanceMethod yX5_twiceBetween : Cond) ∈ tbG := mem_ix 394 (by decide +kernel) (by decide +kernel)
theorem tw_448 : (.selects RX5 yX5_twiceBetween yX5_twiceBetween : Cond) ∈ tbG := mem_ix 395 (by decide +kernel) (by decide +kernel)
theorem lk_X5_81 : vLink RX5 81 4 mX5_twiceBetween 2 := ⟨(RX5, TX5, 13), rfl, rfl, by decide +kernel, by decide, List.forall_mem_cons.mpr ⟨tw_446, List.forall_mem_cons.mpr ⟨tw_447, List.forall_mem_cons.mpr ⟨tw_448, List.forall_mem_cons.mpr ⟨tw_431, List.forall_mem_cons.mpr ⟨tw_445, fun _ h => absurd h List.not_mem_nil⟩⟩⟩⟩⟩⟩
theorem tw_449 : (.code mX4_init.1 mX4_init.2.1 mX4_init.2.2.1 mX4_init.2.2.2 : Cond) ∈ tbG := mem_ix 399 (by decide +kernel) (by decide +kernel)
theorem tw_450 : (.initialized RX4 : Cond) ∈ tbG := mem_ix 12 (by decide +kernel) (by decide +kernel)
theorem tw_451 : (.methodLink RX5 84 yX4_init : Cond) ∈ tbG := mem_ix 397 (by decide +kernel) (by decide +kernel)
theorem tw_452 : (.instanceMethod yX4_init : Cond) ∈ tbG := mem_ix 398 (by decide +kernel) (by decide +kernel)
theorem lk_X5_84 : iLink RX5 84 mX4_init 6 := ⟨by decide +kernel, by decide, rfl, rfl, List.forall_mem_cons.mpr ⟨tw_451, List.forall_mem_cons.mpr ⟨tw_452, List.forall_mem_cons.mpr ⟨tw_450, List.forall_mem_cons.mpr ⟨tw_449, fun _ h => absurd h List.not_mem_nil⟩⟩⟩⟩⟩
theorem tw_453 : (.code mX5_pieceNumbered.1 mX5_pieceNumbered.2.1 mX5_pieceNumbered.2.2.1 mX5_pieceNumbered.2.2.2 : Cond) ∈ tbG := mem_ix 452 (by decide +kernel) (by decide +kernel)
theorem tw_454 : (.methodLink RX5 87 yX5_pieceNumbered : Cond) ∈ tbG := mem_ix 494 (by decide +kernel) (by decide +kernel)
theorem tw_455 : (.instanceMethod yX5_pieceNumbered : Cond) ∈ tbG := mem_ix 450 (by decide +kernel) (by decide +kernel)
theorem tw_456 : (.selects RX5 yX5_pieceNumbered yX5_pieceNumbered : Cond) ∈ tbG := mem_ix 451 (by decide +kernel) (by decide +kernel)
theorem lk_X5_87 : vLink RX5 87 4 mX5_pieceNumbered 1 := ⟨(RX5, TX5, 13), rfl, rfl, by decide +kernel, by decide, List.forall_mem_cons.mpr ⟨tw_454, List.forall_mem_cons.mpr ⟨tw_455, List.forall_mem_cons.mpr ⟨tw_456, List.forall_mem_cons.mpr ⟨tw_431, List.forall_mem_cons.mpr ⟨tw_453, fun _ h => absurd h List.not_mem_nil⟩⟩⟩⟩⟩⟩
theorem tw_457 : (.code mX5_lastLine.1 mX5_lastLine.2.1 mX5_lastLine.2.2.1 mX5_lastLine.2.2.2 : Cond) ∈ tbG := mem_ix 653 (by decide +kernel) (by decide +kernel)
theorem tw_458 : (.methodLink RX5 100 yX5_lastLine : Cond) ∈ tbG := mem_ix 650 (by decide +kernel) (by decide +kernel)
theorem tw_459 : (.instanceMethod yX5_lastLine : Cond) ∈ tbG := mem_ix 652 (by decide +kernel) (by decide +kernel)
theorem tw_460 : (.selects RX5 yX5_lastLine yX5_lastLine : Cond) ∈ tbG := mem_sx 18 (by decide +kernel) (by decide +kernel)
theorem lk_X5_100 : vLink RX5 100 4 mX5_lastLine 0 := ⟨(RX5, TX5, 13), rfl, rfl, by decide +kernel, by decide, List.forall_mem_cons.mpr ⟨tw_458, List.forall_mem_cons.mpr ⟨tw_459, List.forall_mem_cons.mpr ⟨tw_460, List.forall_mem_cons.mpr ⟨tw_431, List.forall_mem_cons.mpr ⟨tw_457, fun _ h => absurd h List.not_mem_nil⟩⟩⟩⟩⟩⟩
theorem tw_461 : (.methodLink RX6 1 objectInit : Cond) ∈ tbG := mem_ix 253 (by decide +kernel) (by decide +kernel)
theorem lk_X6_1 : ∀ w ∈ ([.methodLink RX6 1 objectInit, .instanceMethod objectInit, .code objectInit ⟨#[0xb1]⟩ 1 none] : List Cond), w ∈ tbG := List.forall_mem_cons.mpr ⟨tw_461, List.forall_mem_cons.mpr ⟨tw_377, List.forall_mem_cons.mpr ⟨tw_378, fun _ h => absurd h List.not_mem_nil⟩⟩⟩
theorem tw_462 : (.code mX6_tellsHeight.1 mX6_tellsHeight.2.1 mX6_tellsHeight.2.2.1 mX6_tellsHeight.2.2.2 : Cond) ∈ tbG := mem_ix 343 (by decide +kernel) (by decide +kernel)
theorem tw_463 : (.methodLink RX6 20 yX6_tellsHeight : Cond) ∈ tbG := mem_ix 348 (by decide +kernel) (by decide +kernel)
theorem tw_464 : (.instanceMethod yX6_tellsHeight : Cond) ∈ tbG := mem_ix 341 (by decide +kernel) (by decide +kernel)
theorem tw_465 : (.selects RX6 yX6_tellsHeight yX6_tellsHeight : Cond) ∈ tbG := mem_ix 342 (by decide +kernel) (by decide +kernel)
theorem lk_X6_20 : vLink RX6 20 5 mX6_tellsHeight 1 := ⟨(RX6, TX6, 3), rfl, rfl, by decide +kernel, by decide, List.forall_mem_cons.mpr ⟨tw_463, List.forall_mem_cons.mpr ⟨tw_464, List.forall_mem_cons.mpr ⟨tw_465, List.forall_mem_cons.mpr ⟨tw_426, List.forall_mem_cons.mpr ⟨tw_462, fun _ h => absurd h List.not_mem_nil⟩⟩⟩⟩⟩⟩
theorem tw_466 : (.code mX6_standAt.1 mX6_standAt.2.1 mX6_standAt.2.2.1 mX6_standAt.2.2.2 : Cond) ∈ tbG := mem_ix 347 (by decide +kernel) (by decide +kernel)
theorem tw_467 : (.methodLink RX6 24 yX6_standAt : Cond) ∈ tbG := mem_ix 361 (by decide +kernel) (by decide +kernel)
theorem tw_468 : (.instanceMethod yX6_standAt : Cond) ∈ tbG := mem_ix 345 (by decide +kernel) (by decide +kernel)
theorem tw_469 : (.selects RX6 yX6_standAt yX6_standAt : Cond) ∈ tbG := mem_ix 346 (by decide +kernel) (by decide +kernel)
theorem lk_X6_24 : vLink RX6 24 5 mX6_standAt 1 := ⟨(RX6, TX6, 3), rfl, rfl, by decide +kernel, by decide, List.forall_mem_cons.mpr ⟨tw_467, List.forall_mem_cons.mpr ⟨tw_468, List.forall_mem_cons.mpr ⟨tw_469, List.forall_mem_cons.mpr ⟨tw_426, List.forall_mem_cons.mpr ⟨tw_466, fun _ h => absurd h List.not_mem_nil⟩⟩⟩⟩⟩⟩
theorem tw_470 : (.methodLink RX7 3 objectInit : Cond) ∈ tbG := mem_ix 31 (by decide +kernel) (by decide +kernel)
theorem lk_X7_3 : ∀ w ∈ ([.methodLink RX7 3 objectInit, .instanceMethod objectInit, .code objectInit ⟨#[0xb1]⟩ 1 none] : List Cond), w ∈ tbG := List.forall_mem_cons.mpr ⟨tw_470, List.forall_mem_cons.mpr ⟨tw_377, List.forall_mem_cons.mpr ⟨tw_378, fun _ h => absurd h List.not_mem_nil⟩⟩⟩
theorem tw_471 : (.code mJ7_fill_53178.1 mJ7_fill_53178.2.1 mJ7_fill_53178.2.2.1 mJ7_fill_53178.2.2.2 : Cond) ∈ tbG := mem_ix 35 (by decide +kernel) (by decide +kernel)
theorem tw_472 : (.methodLink RX7 23 yJ7_fill_53178 : Cond) ∈ tbG := mem_ix 33 (by decide +kernel) (by decide +kernel)
theorem tw_473 : (.static yJ7_fill_53178 : Cond) ∈ tbG := mem_ix 34 (by decide +kernel) (by decide +kernel)
theorem lk_X7_23 : sLink RX7 23 mJ7_fill_53178 2 := ⟨by decide +kernel, by decide, List.forall_mem_cons.mpr ⟨tw_472, List.forall_mem_cons.mpr ⟨tw_473, List.forall_mem_cons.mpr ⟨tw_381, List.forall_mem_cons.mpr ⟨tw_471, fun _ h => absurd h List.not_mem_nil⟩⟩⟩⟩⟩
theorem tw_474 : (.code mJ7_fill_d0a16.1 mJ7_fill_d0a16.2.1 mJ7_fill_d0a16.2.2.1 mJ7_fill_d0a16.2.2.2 : Cond) ∈ tbG := mem_ix 669 (by decide +kernel) (by decide +kernel)
theorem tw_475 : (.methodLink RX7 29 yJ7_fill_d0a16 : Cond) ∈ tbG := mem_ix 667 (by decide +kernel) (by decide +kernel)
theorem tw_476 : (.static yJ7_fill_d0a16 : Cond) ∈ tbG := mem_ix 668 (by decide +kernel) (by decide +kernel)
theorem lk_X7_29 : sLink RX7 29 mJ7_fill_d0a16 2 := ⟨by decide +kernel, by decide, List.forall_mem_cons.mpr ⟨tw_475, List.forall_mem_cons.mpr ⟨tw_476, List.forall_mem_cons.mpr ⟨tw_381, List.forall_mem_cons.mpr ⟨tw_474, fun _ h => absurd h List.not_mem_nil⟩⟩⟩⟩⟩
theorem tw_477 : (.code mX7_addStrips.1 mX7_addStrips.2.1 mX7_addStrips.2.2.1 mX7_addStrips.2.2.2 : Cond) ∈ tbG := mem_ix 677 (by decide +kernel) (by decide +kernel)
theorem tw_478 : (.initialized RX7 : Cond) ∈ tbG := mem_ix 2 (by decide +kernel) (by decide +kernel)
theorem tw_479 : (.methodLink RX7 44 yX7_addStrips : Cond) ∈ tbG := mem_ix 674 (by decide +kernel) (by decide +kernel)
theorem tw_480 : (.instanceMethod yX7_addStrips : Cond) ∈ tbG := mem_ix 676 (by decide +kernel) (by decide +kernel)
theorem tw_481 : (.selects RX7 yX7_addStrips yX7_addStrips : Cond) ∈ tbG := mem_sx 20 (by decide +kernel) (by decide +kernel)
theorem lk_X7_44 : vLink RX7 44 6 mX7_addStrips 4 := ⟨(RX7, TX7, 3), rfl, rfl, by decide +kernel, by decide, List.forall_mem_cons.mpr ⟨tw_479, List.forall_mem_cons.mpr ⟨tw_480, List.forall_mem_cons.mpr ⟨tw_481, List.forall_mem_cons.mpr ⟨tw_478, List.forall_mem_cons.mpr ⟨tw_477, fun _ h => absurd h List.not_mem_nil⟩⟩⟩⟩⟩⟩
theorem tw_482 : (.code mX5_firstLineAbove.1 mX5_firstLineAbove.2.1 mX5_firstLineAbove.2.2.1 mX5_firstLineAbove.2.2.2 : Cond) ∈ tbG := mem_ix 708 (by decide +kernel) (by decide +kernel)
theorem tw_483 : (.methodLink RX7 48 yX5_firstLineAbove : Cond) ∈ tbG := mem_ix 705 (by decide +kernel) (by decide +kernel)
theorem tw_484 : (.instanceMethod yX5_firstLineAbove : Cond) ∈ tbG := mem_ix 706 (by decide +kernel) (by decide +kernel)
theorem tw_485 : (.selects RX5 yX5_firstLineAbove yX5_firstLineAbove : Cond) ∈ tbG := mem_ix 707 (by decide +kernel) (by decide +kernel)
theorem lk_X7_48 : vLink RX7 48 4 mX5_firstLineAbove 1 := ⟨(RX5, TX5, 13), rfl, rfl, by decide +kernel, by decide, List.forall_mem_cons.mpr ⟨tw_483, List.forall_mem_cons.mpr ⟨tw_484, List.forall_mem_cons.mpr ⟨tw_485, List.forall_mem_cons.mpr ⟨tw_431, List.forall_mem_cons.mpr ⟨tw_482, fun _ h => absurd h List.not_mem_nil⟩⟩⟩⟩⟩⟩
theorem tw_486 : (.methodLink RX7 55 Lib.Math.min.name : Cond) ∈ tbG := mem_ix 678 (by decide +kernel) (by decide +kernel)
theorem lk_X7_55 : ∀ w ∈ ([.methodLink RX7 55 Lib.Math.min.name, .static Lib.Math.min.name, .initialized "java/lang/Math", .code Lib.Math.min.name Lib.Math.min.code 2 (some .int)] : List Cond), w ∈ tbG := List.forall_mem_cons.mpr ⟨tw_486, List.forall_mem_cons.mpr ⟨tw_412, List.forall_mem_cons.mpr ⟨tw_407, List.forall_mem_cons.mpr ⟨tw_413, fun _ h => absurd h List.not_mem_nil⟩⟩⟩⟩
theorem tw_487 : (.code mX7_forceAt.1 mX7_forceAt.2.1 mX7_forceAt.2.2.1 mX7_forceAt.2.2.2 : Cond) ∈ tbG := mem_ix 686 (by decide +kernel) (by decide +kernel)
theorem tw_488 : (.methodLink RX7 61 yX7_forceAt : Cond) ∈ tbG := mem_ix 683 (by decide +kernel) (by decide +kernel)
theorem tw_489 : (.instanceMethod yX7_forceAt : Cond) ∈ tbG := mem_ix 685 (by decide +kernel) (by decide +kernel)
theorem tw_490 : (.selects RX7 yX7_forceAt yX7_forceAt : Cond) ∈ tbG := mem_sx 21 (by decide +kernel) (by decide +kernel)
theorem lk_X7_61 : vLink RX7 61 6 mX7_forceAt 1 := ⟨(RX7, TX7, 3), rfl, rfl, by decide +kernel, by decide, List.forall_mem_cons.mpr ⟨tw_488, List.forall_mem_cons.mpr ⟨tw_489, List.forall_mem_cons.mpr ⟨tw_490, List.forall_mem_cons.mpr ⟨tw_478, List.forall_mem_cons.mpr ⟨tw_487, fun _ h => absurd h List.not_mem_nil⟩⟩⟩⟩⟩⟩
theorem tw_491 : (.code mX7_pushAt.1 mX7_pushAt.2.1 mX7_pushAt.2.2.1 mX7_pushAt.2.2.2 : Cond) ∈ tbG := mem_ix 682 (by decide +kernel) (by decide +kernel)
theorem tw_492 : (.methodLink RX7 65 yX7_pushAt : Cond) ∈ tbG := mem_ix 695 (by decide +kernel) (by decide +kernel)
theorem tw_493 : (.instanceMethod yX7_pushAt : Cond) ∈ tbG := mem_ix 680 (by decide +kernel) (by decide +kernel)
theorem tw_494 : (.selects RX7 yX7_pushAt yX7_pushAt : Cond) ∈ tbG := mem_ix 681 (by decide +kernel) (by decide +kernel)
theorem lk_X7_65 : vLink RX7 65 6 mX7_pushAt 1 := ⟨(RX7, TX7, 3), rfl, rfl, by decide +kernel, by decide, List.forall_mem_cons.mpr ⟨tw_492, List.forall_mem_cons.mpr ⟨tw_493, List.forall_mem_cons.mpr ⟨tw_494, List.forall_mem_cons.mpr ⟨tw_478, List.forall_mem_cons.mpr ⟨tw_491, fun _ h => absurd h List.not_mem_nil⟩⟩⟩⟩⟩⟩
theorem tw_495 : (.methodLink RX8 1 objectInit : Cond) ∈ tbG := mem_ix 19 (by decide +kernel) (by decide +kernel)
theorem lk_X8_1 : ∀ w ∈ ([.methodLink RX8 1 objectInit, .instanceMethod objectInit, .code objectInit ⟨#[0xb1]⟩ 1 none] : List Cond), w ∈ tbG := List.forall_mem_cons.mpr ⟨tw_495, List.forall_mem_cons.mpr ⟨tw_377, List.forall_mem_cons.mpr ⟨tw_378, fun _ h => absurd h List.not_mem_nil⟩⟩⟩
theorem tw_496 : (.code mX7_init.1 mX7_init.2.1 mX7_init.2.2.1 mX7_init.2.2.2 : Cond) ∈ tbG := mem_ix 30 (by decide +kernel) (by decide +kernel)
theorem tw_497 : (.methodLink RX8 30 yX7_init : Cond) ∈ tbG := mem_ix 28 (by decide +kernel) (by decide +kernel)
theorem tw_498 : (.instanceMethod yX7_init : Cond) ∈ tbG := mem_ix 29 (by decide +kernel) (by decide +kernel)
theorem lk_X8_30 : iLink RX8 30 mX7_init 0 := ⟨by decide +kernel, by decide, rfl, rfl, List.forall_mem_cons.mpr ⟨tw_497, List.forall_mem_cons.mpr ⟨tw_498, List.forall_mem_cons.mpr ⟨tw_478, List.forall_mem_cons.mpr ⟨tw_496, fun _ h => absurd h List.not_mem_nil⟩⟩⟩⟩⟩
theorem tw_499 : (.code mX8_isWithin.1 mX8_isWithin.2.1 mX8_isWithin.2.2.1 mX8_isWithin.2.2.2 : Cond) ∈ tbG := mem_ix 86 (by decide +kernel) (by decide +kernel)
theorem tw_500 : (.methodLink RX8 51 yX8_isWithin : Cond) ∈ tbG := mem_ix 84 (by decide +kernel) (by decide +kernel)
theorem tw_501 : (.static yX8_isWithin : Cond) ∈ tbG := mem_ix 85 (by decide +kernel) (by decide +kernel)
theorem lk_X8_51 : sLink RX8 51 mX8_isWithin 3 := ⟨by decide +kernel, by decide, List.forall_mem_cons.mpr ⟨tw_500, List.forall_mem_cons.mpr ⟨tw_501, List.forall_mem_cons.mpr ⟨tw_113, List.forall_mem_cons.mpr ⟨tw_499, fun _ h => absurd h List.not_mem_nil⟩⟩⟩⟩⟩
theorem tw_502 : (.code mX2_areTold.1 mX2_areTold.2.1 mX2_areTold.2.2.1 mX2_areTold.2.2.2 : Cond) ∈ tbG := mem_ix 89 (by decide +kernel) (by decide +kernel)
theorem tw_503 : (.initialized RX2 : Cond) ∈ tbG := mem_ix 5 (by decide +kernel) (by decide +kernel)
theorem tw_504 : (.methodLink RX8 55 yX2_areTold : Cond) ∈ tbG := mem_ix 87 (by decide +kernel) (by decide +kernel)
theorem tw_505 : (.static yX2_areTold : Cond) ∈ tbG := mem_ix 88 (by decide +kernel) (by decide +kernel)
theorem lk_X8_55 : sLink RX8 55 mX2_areTold 1 := ⟨by decide +kernel, by decide, List.forall_mem_cons.mpr ⟨tw_504, List.forall_mem_cons.mpr ⟨tw_505, List.forall_mem_cons.mpr ⟨tw_503, List.forall_mem_cons.mpr ⟨tw_502, fun _ h => absurd h List.not_mem_nil⟩⟩⟩⟩⟩
theorem tw_506 : (.code mX2_ofBits.1 mX2_ofBits.2.1 mX2_ofBits.2.2.1 mX2_ofBits.2.2.2 : Cond) ∈ tbG := mem_ix 95 (by decide +kernel) (by decide +kernel)
theorem tw_507 : (.methodLink RX8 61 yX2_ofBits : Cond) ∈ tbG := mem_ix 93 (by decide +kernel) (by decide +kernel)
theorem tw_508 : (.static yX2_ofBits : Cond) ∈ tbG := mem_ix 94 (by decide +kernel) (by decide +kernel)
theorem lk_X8_61 : sLink RX8 61 mX2_ofBits 1 := ⟨by decide +kernel, by decide, List.forall_mem_cons.mpr ⟨tw_507, List.forall_mem_cons.mpr ⟨tw_508, List.forall_mem_cons.mpr ⟨tw_503, List.forall_mem_cons.mpr ⟨tw_506, fun _ h => absurd h List.not_mem_nil⟩⟩⟩⟩⟩
theorem tw_509 : (.code mX8_addBolt.1 mX8_addBolt.2.1 mX8_addBolt.2.2.1 mX8_addBolt.2.2.2 : Cond) ∈ tbG := mem_ix 104 (by decide +kernel) (by decide +kernel)
theorem tw_510 : (.methodLink RX8 65 yX8_addBolt : Cond) ∈ tbG := mem_ix 101 (by decide +kernel) (by decide +kernel)
theorem tw_511 : (.instanceMethod yX8_addBolt : Cond) ∈ tbG := mem_ix 103 (by decide +kernel) (by decide +kernel)
theorem tw_512 : (.selects RX8 yX8_addBolt yX8_addBolt : Cond) ∈ tbG := mem_sx 0 (by decide +kernel) (by decide +kernel)
theorem lk_X8_65 : vLink RX8 65 7 mX8_addBolt 4 := ⟨(RX8, TX8, 9), rfl, rfl, by decide +kernel, by decide, List.forall_mem_cons.mpr ⟨tw_510, List.forall_mem_cons.mpr ⟨tw_511, List.forall_mem_cons.mpr ⟨tw_512, List.forall_mem_cons.mpr ⟨tw_113, List.forall_mem_cons.mpr ⟨tw_509, fun _ h => absurd h List.not_mem_nil⟩⟩⟩⟩⟩⟩
theorem tw_513 : (.code mX0_init.1 mX0_init.2.1 mX0_init.2.2.1 mX0_init.2.2.2 : Cond) ∈ tbG := mem_ix 150 (by decide +kernel) (by decide +kernel)
theorem tw_514 : (.initialized RX0 : Cond) ∈ tbG := mem_ix 8 (by decide +kernel) (by decide +kernel)
theorem tw_515 : (.methodLink RX8 69 yX0_init : Cond) ∈ tbG := mem_ix 148 (by decide +kernel) (by decide +kernel)
theorem tw_516 : (.instanceMethod yX0_init : Cond) ∈ tbG := mem_ix 149 (by decide +kernel) (by decide +kernel)
theorem lk_X8_69 : iLink RX8 69 mX0_init 4 := ⟨by decide +kernel, by decide, rfl, rfl, List.forall_mem_cons.mpr ⟨tw_515, List.forall_mem_cons.mpr ⟨tw_516, List.forall_mem_cons.mpr ⟨tw_514, List.forall_mem_cons.mpr ⟨tw_513, fun _ h => absurd h List.not_mem_nil⟩⟩⟩⟩⟩
theorem tw_517 : (.code mX8_remember.1 mX8_remember.2.1 mX8_remember.2.2.1 mX8_remember.2.2.2 : Cond) ∈ tbG := mem_ix 188 (by decide +kernel) (by decide +kernel)
theorem tw_518 : (.methodLink RX8 72 yX8_remember : Cond) ∈ tbG := mem_ix 185 (by decide +kernel) (by decide +kernel)
theorem tw_519 : (.instanceMethod yX8_remember : Cond) ∈ tbG := mem_ix 187 (by decide +kernel) (by decide +kernel)
theorem tw_520 : (.selects RX8 yX8_remember yX8_remember : Cond) ∈ tbG := mem_sx 1 (by decide +kernel) (by decide +kernel)
theorem lk_X8_72 : vLink RX8 72 7 mX8_remember 1 := ⟨(RX8, TX8, 9), rfl, rfl, by decide +kernel, by decide, List.forall_mem_cons.mpr ⟨tw_518, List.forall_mem_cons.mpr ⟨tw_519, List.forall_mem_cons.mpr ⟨tw_520, List.forall_mem_cons.mpr ⟨tw_113, List.forall_mem_cons.mpr ⟨tw_517, fun _ h => absurd h List.not_mem_nil⟩⟩⟩⟩⟩⟩
theorem tw_521 : (.code mX8_boltNumbered.1 mX8_boltNumbered.2.1 mX8_boltNumbered.2.2.1 mX8_boltNumbered.2.2.2 : Cond) ∈ tbG := mem_ix 199 (by decide +kernel) (by decide +kernel)
theorem tw_522 : (.methodLink RX8 76 yX8_boltNumbered : Cond) ∈ tbG := mem_ix 196 (by decide +kernel) (by decide +kernel)
theorem tw_523 : (.instanceMethod yX8_boltNumbered : Cond) ∈ tbG := mem_ix 198 (by decide +kernel) (by decide +kernel)
theorem tw_524 : (.selects RX8 yX8_boltNumbered yX8_boltNumbered : Cond) ∈ tbG := mem_sx 2 (by decide +kernel) (by decide +kernel)
theorem lk_X8_76 : vLink RX8 76 7 mX8_boltNumbered 1 := ⟨(RX8, TX8, 9), rfl, rfl, by decide +kernel, by decide, List.forall_mem_cons.mpr ⟨tw_522, List.forall_mem_cons.mpr ⟨tw_523, List.forall_mem_cons.mpr ⟨tw_524, List.forall_mem_cons.mpr ⟨tw_113, List.forall_mem_cons.mpr ⟨tw_521, fun _ h => absurd h List.not_mem_nil⟩⟩⟩⟩⟩⟩
theorem tw_525 : (.methodLink RX8 93 yX1_tellsPlace : Cond) ∈ tbG := mem_ix 205 (by decide +kernel) (by decide +kernel)
theorem lk_X8_93 : vLink RX8 93 1 mX1_tellsPlace 1 := ⟨(RX1, TX1, 7), rfl, rfl, by decide +kernel, by decide, List.forall_mem_cons.mpr ⟨tw_525, List.forall_mem_cons.mpr ⟨tw_387, List.forall_mem_cons.mpr ⟨tw_388, List.forall_mem_cons.mpr ⟨tw_385, List.forall_mem_cons.mpr ⟨tw_384, fun _ h => absurd h List.not_mem_nil⟩⟩⟩⟩⟩⟩
theorem tw_526 : (.methodLink RX8 96 yX1_wornAt : Cond) ∈ tbG := mem_ix 209 (by decide +kernel) (by decide +kernel)
theorem lk_X8_96 : vLink RX8 96 1 mX1_wornAt 1 := ⟨(RX1, TX1, 7), rfl, rfl, by decide +kernel, by decide, List.forall_mem_cons.mpr ⟨tw_526, List.forall_mem_cons.mpr ⟨tw_395, List.forall_mem_cons.mpr ⟨tw_396, List.forall_mem_cons.mpr ⟨tw_385, List.forall_mem_cons.mpr ⟨tw_393, fun _ h => absurd h List.not_mem_nil⟩⟩⟩⟩⟩⟩
theorem tw_527 : (.code mX1_putWorn.1 mX1_putWorn.2.1 mX1_putWorn.2.2.1 mX1_putWorn.2.2.2 : Cond) ∈ tbG := mem_ix 217 (by decide +kernel) (by decide +kernel)
theorem tw_528 : (.methodLink RX8 100 yX1_putWorn : Cond) ∈ tbG := mem_ix 214 (by decide +kernel) (by decide +kernel)
theorem tw_529 : (.instanceMethod yX1_putWorn : Cond) ∈ tbG := mem_ix 215 (by decide +kernel) (by decide +kernel)
theorem tw_530 : (.selects RX1 yX1_putWorn yX1_putWorn : Cond) ∈ tbG := mem_ix 216 (by decide +kernel) (by decide +kernel)
theorem lk_X8_100 : vLink RX8 100 1 mX1_putWorn 2 := ⟨(RX1, TX1, 7), rfl, rfl, by decide +kernel, by decide, List.forall_mem_cons.mpr ⟨tw_528, List.forall_mem_cons.mpr ⟨tw_529, List.forall_mem_cons.mpr ⟨tw_530, List.forall_mem_cons.mpr ⟨tw_385, List.forall_mem_cons.mpr ⟨tw_527, fun _ h => absurd h List.not_mem_nil⟩⟩⟩⟩⟩⟩
theorem tw_531 : (.methodLink RX8 104 yX1_hasPlace : Cond) ∈ tbG := mem_ix 222 (by decide +kernel) (by decide +kernel)
theorem lk_X8_104 : vLink RX8 104 1 mX1_hasPlace 1 := ⟨(RX1, TX1, 7), rfl, rfl, by decide +kernel, by decide, List.forall_mem_cons.mpr ⟨tw_531, List.forall_mem_cons.mpr ⟨tw_391, List.forall_mem_cons.mpr ⟨tw_392, List.forall_mem_cons.mpr ⟨tw_385, List.forall_mem_cons.mpr ⟨tw_389, fun _ h => absurd h List.not_mem_nil⟩⟩⟩⟩⟩⟩
theorem tw_532 : (.code mX1_codeAt.1 mX1_codeAt.2.1 mX1_codeAt.2.2.1 mX1_codeAt.2.2.2 : Cond) ∈ tbG := mem_ix 237 (by decide +kernel) (by decide +kernel)
theorem tw_533 : (.methodLink RX8 107 yX1_codeAt : Cond) ∈ tbG := mem_ix 234 (by decide +kernel) (by decide +kernel)
theorem tw_534 : (.instanceMethod yX1_codeAt : Cond) ∈ tbG := mem_ix 235 (by decide +kernel) (by decide +kernel)
theorem tw_535 : (.selects RX1 yX1_codeAt yX1_codeAt : Cond) ∈ tbG := mem_ix 236 (by decide +kernel) (by decide +kernel)
theorem lk_X8_107 : vLink RX8 107 1 mX1_codeAt 1 := ⟨(RX1, TX1, 7), rfl, rfl, by decide +kernel, by decide, List.forall_mem_cons.mpr ⟨tw_533, List.forall_mem_cons.mpr ⟨tw_534, List.forall_mem_cons.mpr ⟨tw_535, List.forall_mem_cons.mpr ⟨tw_385, List.forall_mem_cons.mpr ⟨tw_532, fun _ h => absurd h List.not_mem_nil⟩⟩⟩⟩⟩⟩
theorem tw_536 : (.code mX6_init.1 mX6_init.2.1 mX6_init.2.2.1 mX6_init.2.2.2 : Cond) ∈ tbG := mem_ix 252 (by decide +kernel) (by decide +kernel)
theorem tw_537 : (.methodLink RX8 115 yX6_init : Cond) ∈ tbG := mem_ix 250 (by decide +kernel) (by decide +kernel)
theorem tw_538 : (.instanceMethod yX6_init : Cond) ∈ tbG := mem_ix 251 (by decide +kernel) (by decide +kernel)
theorem lk_X8_115 : iLink RX8 115 mX6_init 2 := ⟨by decide +kernel, by decide, rfl, rfl, List.forall_mem_cons.mpr ⟨tw_537, List.forall_mem_cons.mpr ⟨tw_538, List.forall_mem_cons.mpr ⟨tw_426, List.forall_mem_cons.mpr ⟨tw_536, fun _ h => absurd h List.not_mem_nil⟩⟩⟩⟩⟩
theorem tw_539 : (.code mX5_init.1 mX5_init.2.1 mX5_init.2.2.1 mX5_init.2.2.2 : Cond) ∈ tbG := mem_ix 267 (by decide +kernel) (by decide +kernel)
theorem tw_540 : (.methodLink RX8 117 yX5_init : Cond) ∈ tbG := mem_ix 265 (by decide +kernel) (by decide +kernel)
theorem tw_541 : (.instanceMethod yX5_init : Cond) ∈ tbG := mem_ix 266 (by decide +kernel) (by decide +kernel)
theorem lk_X8_117 : iLink RX8 117 mX5_init 3 := ⟨by decide +kernel, by decide, rfl, rfl, List.forall_mem_cons.mpr ⟨tw_540, List.forall_mem_cons.mpr ⟨tw_541, List.forall_mem_cons.mpr ⟨tw_431, List.forall_mem_cons.mpr ⟨tw_539, fun _ h => absurd h List.not_mem_nil⟩⟩⟩⟩⟩
theorem tw_542 : (.code mX8_sailInState.1 mX8_sailInState.2.1 mX8_sailInState.2.2.1 mX8_sailInState.2.2.2 : Cond) ∈ tbG := mem_ix 327 (by decide +kernel) (by decide +kernel)
theorem tw_543 : (.methodLink RX8 120 yX8_sailInState : Cond) ∈ tbG := mem_ix 324 (by decide +kernel) (by decide +kernel)
theorem tw_544 : (.instanceMethod yX8_sailInState : Cond) ∈ tbG := mem_ix 326 (by decide +kernel) (by decide +kernel)
theorem tw_545 : (.selects RX8 yX8_sailInState yX8_sailInState : Cond) ∈ tbG := mem_sx 3 (by decide +kernel) (by decide +kernel)
theorem lk_X8_120 : vLink RX8 120 7 mX8_sailInState 2 := ⟨(RX8, TX8, 9), rfl, rfl, by decide +kernel, by decide, List.forall_mem_cons.mpr ⟨tw_543, List.forall_mem_cons.mpr ⟨tw_544, List.forall_mem_cons.mpr ⟨tw_545, List.forall_mem_cons.mpr ⟨tw_113, List.forall_mem_cons.mpr ⟨tw_542, fun _ h => absurd h List.not_mem_nil⟩⟩⟩⟩⟩⟩
theorem tw_546 : (.code mX5_sideNumbered.1 mX5_sideNumbered.2.1 mX5_sideNumbered.2.2.1 mX5_sideNumbered.2.2.2 : Cond) ∈ tbG := mem_ix 335 (by decide +kernel) (by decide +kernel)
theorem tw_547 : (.methodLink RX8 127 yX5_sideNumbered : Cond) ∈ tbG := mem_ix 332 (by decide +kernel) (by decide +kernel)
theorem tw_548 : (.instanceMethod yX5_sideNumbered : Cond) ∈ tbG := mem_ix 333 (by decide +kernel) (by decide +kernel)
theorem tw_549 : (.selects RX5 yX5_sideNumbered yX5_sideNumbered : Cond) ∈ tbG := mem_ix 334 (by decide +kernel) (by decide +kernel)
theorem lk_X8_127 : vLink RX8 127 4 mX5_sideNumbered 1 := ⟨(RX5, TX5, 13), rfl, rfl, by decide +kernel, by decide, List.forall_mem_cons.mpr ⟨tw_547, List.forall_mem_cons.mpr ⟨tw_548, List.forall_mem_cons.mpr ⟨tw_549, List.forall_mem_cons.mpr ⟨tw_431, List.forall_mem_cons.mpr ⟨tw_546, fun _ h => absurd h List.not_mem_nil⟩⟩⟩⟩⟩⟩
theorem tw_550 : (.methodLink RX8 137 yX6_tellsHeight : Cond) ∈ tbG := mem_ix 340 (by decide +kernel) (by decide +kernel)
theorem lk_X8_137 : vLink RX8 137 5 mX6_tellsHeight 1 := ⟨(RX6, TX6, 3), rfl, rfl, by decide +kernel, by decide, List.forall_mem_cons.mpr ⟨tw_550, List.forall_mem_cons.mpr ⟨tw_464, List.forall_mem_cons.mpr ⟨tw_465, List.forall_mem_cons.mpr ⟨tw_426, List.forall_mem_cons.mpr ⟨tw_462, fun _ h => absurd h List.not_mem_nil⟩⟩⟩⟩⟩⟩
theorem tw_551 : (.methodLink RX8 140 yX6_standAt : Cond) ∈ tbG := mem_ix 344 (by decide +kernel) (by decide +kernel)
theorem lk_X8_140 : vLink RX8 140 5 mX6_standAt 1 := ⟨(RX6, TX6, 3), rfl, rfl, by decide +kernel, by decide, List.forall_mem_cons.mpr ⟨tw_551, List.forall_mem_cons.mpr ⟨tw_468, List.forall_mem_cons.mpr ⟨tw_469, List.forall_mem_cons.mpr ⟨tw_426, List.forall_mem_cons.mpr ⟨tw_466, fun _ h => absurd h List.not_mem_nil⟩⟩⟩⟩⟩⟩
theorem tw_552 : (.code mX6_putStand.1 mX6_putStand.2.1 mX6_putStand.2.2.1 mX6_putStand.2.2.2 : Cond) ∈ tbG := mem_ix 352 (by decide +kernel) (by decide +kernel)
theorem tw_553 : (.methodLink RX8 146 yX6_putStand : Cond) ∈ tbG := mem_ix 349 (by decide +kernel) (by decide +kernel)
theorem tw_554 : (.instanceMethod yX6_putStand : Cond) ∈ tbG := mem_ix 350 (by decide +kernel) (by decide +kernel)
theorem tw_555 : (.selects RX6 yX6_putStand yX6_putStand : Cond) ∈ tbG := mem_ix 351 (by decide +kernel) (by decide +kernel)
theorem lk_X8_146 : vLink RX8 146 5 mX6_putStand 2 := ⟨(RX6, TX6, 3), rfl, rfl, by decide +kernel, by decide, List.forall_mem_cons.mpr ⟨tw_553, List.forall_mem_cons.mpr ⟨tw_554, List.forall_mem_cons.mpr ⟨tw_555, List.forall_mem_cons.mpr ⟨tw_426, List.forall_mem_cons.mpr ⟨tw_552, fun _ h => absurd h List.not_mem_nil⟩⟩⟩⟩⟩⟩
theorem tw_556 : (.code mX8_sailNumbered.1 mX8_sailNumbered.2.1 mX8_sailNumbered.2.2.1 mX8_sailNumbered.2.2.2 : Cond) ∈ tbG := mem_ix 331 (by decide +kernel) (by decide +kernel)
theorem tw_557 : (.methodLink RX8 149 yX8_sailNumbered : Cond) ∈ tbG := mem_ix 328 (by decide +kernel) (by decide +kernel)
theorem tw_558 : (.instanceMethod yX8_sailNumbered : Cond) ∈ tbG := mem_ix 330 (by decide +kernel) (by decide +kernel)
theorem tw_559 : (.selects RX8 yX8_sailNumbered yX8_sailNumbered : Cond) ∈ tbG := mem_sx 4 (by decide +kernel) (by decide +kernel)
theorem lk_X8_149 : vLink RX8 149 7 mX8_sailNumbered 1 := ⟨(RX8, TX8, 9), rfl, rfl, by decide +kernel, by decide, List.forall_mem_cons.mpr ⟨tw_557, List.forall_mem_cons.mpr ⟨tw_558, List.forall_mem_cons.mpr ⟨tw_559, List.forall_mem_cons.mpr ⟨tw_113, List.forall_mem_cons.mpr ⟨tw_556, fun _ h => absurd h List.not_mem_nil⟩⟩⟩⟩⟩⟩
theorem tw_560 : (.methodLink RX8 153 yX6_edgeAt : Cond) ∈ tbG := mem_ix 357 (by decide +kernel) (by decide +kernel)
theorem lk_X8_153 : vLink RX8 153 5 mX6_edgeAt 2 := ⟨(RX6, TX6, 3), rfl, rfl, by decide +kernel, by decide, List.forall_mem_cons.mpr ⟨tw_560, List.forall_mem_cons.mpr ⟨tw_428, List.forall_mem_cons.mpr ⟨tw_429, List.forall_mem_cons.mpr ⟨tw_426, List.forall_mem_cons.mpr ⟨tw_425, fun _ h => absurd h List.not_mem_nil⟩⟩⟩⟩⟩⟩
theorem tw_561 : (.methodLink RX8 157 yX5_panelsOfHeight : Cond) ∈ tbG := mem_ix 366 (by decide +kernel) (by decide +kernel)
theorem lk_X8_157 : vLink RX8 157 4 mX5_panelsOfHeight 1 := ⟨(RX5, TX5, 13), rfl, rfl, by decide +kernel, by decide, List.forall_mem_cons.mpr ⟨tw_561, List.forall_mem_cons.mpr ⟨tw_439, List.forall_mem_cons.mpr ⟨tw_440, List.forall_mem_cons.mpr ⟨tw_431, List.forall_mem_cons.mpr ⟨tw_437, fun _ h => absurd h List.not_mem_nil⟩⟩⟩⟩⟩⟩
theorem tw_562 : (.code mX5_edgesMeet.1 mX5_edgesMeet.2.1 mX5_edgesMeet.2.2.1 mX5_edgesMeet.2.2.2 : Cond) ∈ tbG := mem_ix 373 (by decide +kernel) (by decide +kernel)
theorem tw_563 : (.methodLink RX8 160 yX5_edgesMeet : Cond) ∈ tbG := mem_ix 370 (by decide +kernel) (by decide +kernel)
theorem tw_564 : (.instanceMethod yX5_edgesMeet : Cond) ∈ tbG := mem_ix 371 (by decide +kernel) (by decide +kernel)
theorem tw_565 : (.selects RX5 yX5_edgesMeet yX5_edgesMeet : Cond) ∈ tbG := mem_ix 372 (by decide +kernel) (by decide +kernel)
theorem lk_X8_160 : vLink RX8 160 4 mX5_edgesMeet 0 := ⟨(RX5, TX5, 13), rfl, rfl, by decide +kernel, by decide, List.forall_mem_cons.mpr ⟨tw_563, List.forall_mem_cons.mpr ⟨tw_564, List.forall_mem_cons.mpr ⟨tw_565, List.forall_mem_cons.mpr ⟨tw_431, List.forall_mem_cons.mpr ⟨tw_562, fun _ h => absurd h List.not_mem_nil⟩⟩⟩⟩⟩⟩
theorem tw_566 : (.code mX5_cutInto.1 mX5_cutInto.2.1 mX5_cutInto.2.2.1 mX5_cutInto.2.2.2 : Cond) ∈ tbG := mem_ix 382 (by decide +kernel) (by decide +kernel)
theorem tw_567 : (.methodLink RX8 164 yX5_cutInto : Cond) ∈ tbG := mem_ix 379 (by decide +kernel) (by decide +kernel)
theorem tw_568 : (.instanceMethod yX5_cutInto : Cond) ∈ tbG := mem_ix 380 (by decide +kernel) (by decide +kernel)
theorem tw_569 : (.selects RX5 yX5_cutInto yX5_cutInto : Cond) ∈ tbG := mem_ix 381 (by decide +kernel) (by decide +kernel)
theorem lk_X8_164 : vLink RX8 164 4 mX5_cutInto 2 := ⟨(RX5, TX5, 13), rfl, rfl, by decide +kernel, by decide, List.forall_mem_cons.mpr ⟨tw_567, List.forall_mem_cons.mpr ⟨tw_568, List.forall_mem_cons.mpr ⟨tw_569, List.forall_mem_cons.mpr ⟨tw_431, List.forall_mem_cons.mpr ⟨tw_566, fun _ h => absurd h List.not_mem_nil⟩⟩⟩⟩⟩⟩
theorem tw_570 : (.methodLink RX8 170 yX5_pieceNumbered : Cond) ∈ tbG := mem_ix 449 (by decide +kernel) (by decide +kernel)
theorem lk_X8_170 : vLink RX8 170 4 mX5_pieceNumbered 1 := ⟨(RX5, TX5, 13), rfl, rfl, by decide +kernel, by decide, List.forall_mem_cons.mpr ⟨tw_570, List.forall_mem_cons.mpr ⟨tw_455, List.forall_mem_cons.mpr ⟨tw_456, List.forall_mem_cons.mpr ⟨tw_431, List.forall_mem_cons.mpr ⟨tw_453, fun _ h => absurd h List.not_mem_nil⟩⟩⟩⟩⟩⟩
theorem tw_571 : (.code mX5_addPatch.1 mX5_addPatch.2.1 mX5_addPatch.2.2.1 mX5_addPatch.2.2.2 : Cond) ∈ tbG := mem_ix 460 (by decide +kernel) (by decide +kernel)
theorem tw_572 : (.methodLink RX8 182 yX5_addPatch : Cond) ∈ tbG := mem_ix 457 (by decide +kernel) (by decide +kernel)
theorem tw_573 : (.instanceMethod yX5_addPatch : Cond) ∈ tbG := mem_ix 458 (by decide +kernel) (by decide +kernel)
theorem tw_574 : (.selects RX5 yX5_addPatch yX5_addPatch : Cond) ∈ tbG := mem_ix 459 (by decide +kernel) (by decide +kernel)
theorem lk_X8_182 : vLink RX8 182 4 mX5_addPatch 3 := ⟨(RX5, TX5, 13), rfl, rfl, by decide +kernel, by decide, List.forall_mem_cons.mpr ⟨tw_572, List.forall_mem_cons.mpr ⟨tw_573, List.forall_mem_cons.mpr ⟨tw_574, List.forall_mem_cons.mpr ⟨tw_431, List.forall_mem_cons.mpr ⟨tw_571, fun _ h => absurd h List.not_mem_nil⟩⟩⟩⟩⟩⟩
theorem tw_575 : (.methodLink RX8 189 yX5_twiceBetween : Cond) ∈ tbG := mem_ix 465 (by decide +kernel) (by decide +kernel)
theorem lk_X8_189 : vLink RX8 189 4 mX5_twiceBetween 2 := ⟨(RX5, TX5, 13), rfl, rfl, by decide +kernel, by decide, List.forall_mem_cons.mpr ⟨tw_575, List.forall_mem_cons.mpr ⟨tw_447, List.forall_mem_cons.mpr ⟨tw_448, List.forall_mem_cons.mpr ⟨tw_431, List.forall_mem_cons.mpr ⟨tw_445, fun _ h => absurd h List.not_mem_nil⟩⟩⟩⟩⟩⟩
theorem tw_576 : (.code mX8_weightOfAll.1 mX8_weightOfAll.2.1 mX8_weightOfAll.2.2.1 mX8_weightOfAll.2.2.2 : Cond) ∈ tbG := mem_ix 469 (by decide +kernel) (by decide +kernel)
theorem tw_577 : (.methodLink RX8 199 yX8_weightOfAll : Cond) ∈ tbG := mem_ix 466 (by decide +kernel) (by decide +kernel)
theorem tw_578 : (.instanceMethod yX8_weightOfAll : Cond) ∈ tbG := mem_ix 468 (by decide +kernel) (by decide +kernel)
theorem tw_579 : (.selects RX8 yX8_weightOfAll yX8_weightOfAll : Cond) ∈ tbG := mem_sx 5 (by decide +kernel) (by decide +kernel)
theorem lk_X8_199 : vLink RX8 199 7 mX8_weightOfAll 1 := ⟨(RX8, TX8, 9), rfl, rfl, by decide +kernel, by decide, List.forall_mem_cons.mpr ⟨tw_577, List.forall_mem_cons.mpr ⟨tw_578, List.forall_mem_cons.mpr ⟨tw_579, List.forall_mem_cons.mpr ⟨tw_113, List.forall_mem_cons.mpr ⟨tw_576, fun _ h => absurd h List.not_mem_nil⟩⟩⟩⟩⟩⟩
theorem tw_580 : (.code mX8_pieceOf.1 mX8_pieceOf.2.1 mX8_pieceOf.2.2.1 mX8_pieceOf.2.2.2 : Cond) ∈ tbG := mem_ix 481 (by decide +kernel) (by decide +kernel)
theorem tw_581 : (.methodLink RX8 206 yX8_pieceOf : Cond) ∈ tbG := mem_ix 479 (by decide +kernel) (by decide +kernel)
theorem tw_582 : (.static yX8_pieceOf : Cond) ∈ tbG := mem_ix 480 (by decide +kernel) (by decide +kernel)
theorem lk_X8_206 : sLink RX8 206 mX8_pieceOf 2 := ⟨by decide +kernel, by decide, List.forall_mem_cons.mpr ⟨tw_581, List.forall_mem_cons.mpr ⟨tw_582, List.forall_mem_cons.mpr ⟨tw_113, List.forall_mem_cons.mpr ⟨tw_580, fun _ h => absurd h List.not_mem_nil⟩⟩⟩⟩⟩
theorem tw_583 : (.code mX8_kindOf.1 mX8_kindOf.2.1 mX8_kindOf.2.2.1 mX8_kindOf.2.2.2 : Cond) ∈ tbG := mem_ix 485 (by decide +kernel) (by decide +kernel)
theorem tw_584 : (.methodLink RX8 210 yX8_kindOf : Cond) ∈ tbG := mem_ix 482 (by decide +kernel) (by decide +kernel)
theorem tw_585 : (.instanceMethod yX8_kindOf : Cond) ∈ tbG := mem_ix 484 (by decide +kernel) (by decide +kernel)
theorem tw_586 : (.selects RX8 yX8_kindOf yX8_kindOf : Cond) ∈ tbG := mem_sx 7 (by decide +kernel) (by decide +kernel)
theorem lk_X8_210 : vLink RX8 210 7 mX8_kindOf 1 := ⟨(RX8, TX8, 9), rfl, rfl, by decide +kernel, by decide, List.forall_mem_cons.mpr ⟨tw_584, List.forall_mem_cons.mpr ⟨tw_585, List.forall_mem_cons.mpr ⟨tw_586, List.forall_mem_cons.mpr ⟨tw_113, List.forall_mem_cons.mpr ⟨tw_583, fun _ h => absurd h List.not_mem_nil⟩⟩⟩⟩⟩⟩
theorem tw_587 : (.code mX8_weightOf.1 mX8_weightOf.2.1 mX8_weightOf.2.2.1 mX8_weightOf.2.2.2 : Cond) ∈ tbG := mem_ix 473 (by decide +kernel) (by decide +kernel)
theorem tw_588 : (.methodLink RX8 231 yX8_weightOf : Cond) ∈ tbG := mem_ix 470 (by decide +kernel) (by decide +kernel)
theorem tw_589 : (.instanceMethod yX8_weightOf : Cond) ∈ tbG := mem_ix 472 (by decide +kernel) (by decide +kernel)
theorem tw_590 : (.selects RX8 yX8_weightOf yX8_weightOf : Cond) ∈ tbG := mem_sx 6 (by decide +kernel) (by decide +kernel)
theorem lk_X8_231 : vLink RX8 231 7 mX8_weightOf 1 := ⟨(RX8, TX8, 9), rfl, rfl, by decide +kernel, by decide, List.forall_mem_cons.mpr ⟨tw_588, List.forall_mem_cons.mpr ⟨tw_589, List.forall_mem_cons.mpr ⟨tw_590, List.forall_mem_cons.mpr ⟨tw_113, List.forall_mem_cons.mpr ⟨tw_587, fun _ h => absurd h List.not_mem_nil⟩⟩⟩⟩⟩⟩
theorem tw_591 : (.code mX5_letOutUpTo.1 mX5_letOutUpTo.2.1 mX5_letOutUpTo.2.2.1 mX5_letOutUpTo.2.2.2 : Cond) ∈ tbG := mem_ix 493 (by decide +kernel) (by decide +kernel)
theorem tw_592 : (.methodLink RX8 234 yX5_letOutUpTo : Cond) ∈ tbG := mem_ix 490 (by decide +kernel) (by decide +kernel)
theorem tw_593 : (.instanceMethod yX5_letOutUpTo : Cond) ∈ tbG := mem_ix 491 (by decide +kernel) (by decide +kernel)
theorem tw_594 : (.selects RX5 yX5_letOutUpTo yX5_letOutUpTo : Cond) ∈ tbG := mem_ix 492 (by decide +kernel) (by decide +kernel)
theorem lk_X8_234 : vLink RX8 234 4 mX5_letOutUpTo 1 := ⟨(RX5, TX5, 13), rfl, rfl, by decide +kernel, by decide, List.forall_mem_cons.mpr ⟨tw_592, List.forall_mem_cons.mpr ⟨tw_593, List.forall_mem_cons.mpr ⟨tw_594, List.forall_mem_cons.mpr ⟨tw_431, List.forall_mem_cons.mpr ⟨tw_591, fun _ h => absurd h List.not_mem_nil⟩⟩⟩⟩⟩⟩
theorem tw_595 : (.code mX1_takes.1 mX1_takes.2.1 mX1_takes.2.2.1 mX1_takes.2.2.2 : Cond) ∈ tbG := mem_ix 502 (by decide +kernel) (by decide +kernel)
theorem tw_596 : (.methodLink RX8 237 yX1_takes : Cond) ∈ tbG := mem_ix 499 (by decide +kernel) (by decide +kernel)
theorem tw_597 : (.instanceMethod yX1_takes : Cond) ∈ tbG := mem_ix 500 (by decide +kernel) (by decide +kernel)
theorem tw_598 : (.selects RX1 yX1_takes yX1_takes : Cond) ∈ tbG := mem_ix 501 (by decide +kernel) (by decide +kernel)
theorem lk_X8_237 : vLink RX8 237 1 mX1_takes 3 := ⟨(RX1, TX1, 7), rfl, rfl, by decide +kernel, by decide, List.forall_mem_cons.mpr ⟨tw_596, List.forall_mem_cons.mpr ⟨tw_597, List.forall_mem_cons.mpr ⟨tw_598, List.forall_mem_cons.mpr ⟨tw_385, List.forall_mem_cons.mpr ⟨tw_595, fun _ h => absurd h List.not_mem_nil⟩⟩⟩⟩⟩⟩
theorem tw_599 : (.code mX8_putDown.1 mX8_putDown.2.1 mX8_putDown.2.2.1 mX8_putDown.2.2.2 : Cond) ∈ tbG := mem_ix 511 (by decide +kernel) (by decide +kernel)
theorem tw_600 : (.methodLink RX8 241 yX8_putDown : Cond) ∈ tbG := mem_ix 508 (by decide +kernel) (by decide +kernel)
theorem tw_601 : (.instanceMethod yX8_putDown : Cond) ∈ tbG := mem_ix 510 (by decide +kernel) (by decide +kernel)
theorem tw_602 : (.selects RX8 yX8_putDown yX8_putDown : Cond) ∈ tbG := mem_sx 8 (by decide +kernel) (by decide +kernel)
theorem lk_X8_241 : vLink RX8 241 7 mX8_putDown 4 := ⟨(RX8, TX8, 9), rfl, rfl, by decide +kernel, by decide, List.forall_mem_cons.mpr ⟨tw_600, List.forall_mem_cons.mpr ⟨tw_601, List.forall_mem_cons.mpr ⟨tw_602, List.forall_mem_cons.mpr ⟨tw_113, List.forall_mem_cons.mpr ⟨tw_599, fun _ h => absurd h List.not_mem_nil⟩⟩⟩⟩⟩⟩
theorem tw_603 : (.code mX8_pickUp.1 mX8_pickUp.2.1 mX8_pickUp.2.2.1 mX8_pickUp.2.2.2 : Cond) ∈ tbG := mem_ix 530 (by decide +kernel) (by decide +kernel)
theorem tw_604 : (.methodLink RX8 244 yX8_pickUp : Cond) ∈ tbG := mem_ix 527 (by decide +kernel) (by decide +kernel)
theorem tw_605 : (.instanceMethod yX8_pickUp : Cond) ∈ tbG := mem_ix 529 (by decide +kernel) (by decide +kernel)
theorem tw_606 : (.selects RX8 yX8_pickUp yX8_pickUp : Cond) ∈ tbG := mem_sx 10 (by decide +kernel) (by decide +kernel)
theorem lk_X8_244 : vLink RX8 244 7 mX8_pickUp 2 := ⟨(RX8, TX8, 9), rfl, rfl, by decide +kernel, by decide, List.forall_mem_cons.mpr ⟨tw_604, List.forall_mem_cons.mpr ⟨tw_605, List.forall_mem_cons.mpr ⟨tw_606, List.forall_mem_cons.mpr ⟨tw_113, List.forall_mem_cons.mpr ⟨tw_603, fun _ h => absurd h List.not_mem_nil⟩⟩⟩⟩⟩⟩
theorem tw_607 : (.code mX8_countLoose.1 mX8_countLoose.2.1 mX8_countLoose.2.2.1 mX8_countLoose.2.2.2 : Cond) ∈ tbG := mem_ix 542 (by decide +kernel) (by decide +kernel)
theorem tw_608 : (.methodLink RX8 247 yX8_countLoose : Cond) ∈ tbG := mem_ix 539 (by decide +kernel) (by decide +kernel)
theorem tw_609 : (.instanceMethod yX8_countLoose : Cond) ∈ tbG := mem_ix 541 (by decide +kernel) (by decide +kernel)
theorem tw_610 : (.selects RX8 yX8_countLoose yX8_countLoose : Cond) ∈ tbG := mem_sx 11 (by decide +kernel) (by decide +kernel)
theorem lk_X8_247 : vLink RX8 247 7 mX8_countLoose 0 := ⟨(RX8, TX8, 9), rfl, rfl, by decide +kernel, by decide, List.forall_mem_cons.mpr ⟨tw_608, List.forall_mem_cons.mpr ⟨tw_609, List.forall_mem_cons.mpr ⟨tw_610, List.forall_mem_cons.mpr ⟨tw_113, List.forall_mem_cons.mpr ⟨tw_607, fun _ h => absurd h List.not_mem_nil⟩⟩⟩⟩⟩⟩
theorem tw_611 : (.code mX8_piecesToLay.1 mX8_piecesToLay.2.1 mX8_piecesToLay.2.2.1 mX8_piecesToLay.2.2.2 : Cond) ∈ tbG := mem_ix 550 (by decide +kernel) (by decide +kernel)
theorem tw_612 : (.methodLink RX8 251 yX8_piecesToLay : Cond) ∈ tbG := mem_ix 547 (by decide +kernel) (by decide +kernel)
theorem tw_613 : (.instanceMethod yX8_piecesToLay : Cond) ∈ tbG := mem_ix 549 (by decide +kernel) (by decide +kernel)
theorem tw_614 : (.selects RX8 yX8_piecesToLay yX8_piecesToLay : Cond) ∈ tbG := mem_sx 12 (by decide +kernel) (by decide +kernel)
theorem lk_X8_251 : vLink RX8 251 7 mX8_piecesToLay 1 := ⟨(RX8, TX8, 9), rfl, rfl, by decide +kernel, by decide, List.forall_mem_cons.mpr ⟨tw_612, List.forall_mem_cons.mpr ⟨tw_613, List.forall_mem_cons.mpr ⟨tw_614, List.forall_mem_cons.mpr ⟨tw_113, List.forall_mem_cons.mpr ⟨tw_611, fun _ h => absurd h List.not_mem_nil⟩⟩⟩⟩⟩⟩
theorem tw_615 : (.code mX8_isLoose.1 mX8_isLoose.2.1 mX8_isLoose.2.2.1 mX8_isLoose.2.2.2 : Cond) ∈ tbG := mem_ix 554 (by decide +kernel) (by decide +kernel)
theorem tw_616 : (.methodLink RX8 254 yX8_isLoose : Cond) ∈ tbG := mem_ix 551 (by decide +kernel) (by decide +kernel)
theorem tw_617 : (.instanceMethod yX8_isLoose : Cond) ∈ tbG := mem_ix 553 (by decide +kernel) (by decide +kernel)
theorem tw_618 : (.selects RX8 yX8_isLoose yX8_isLoose : Cond) ∈ tbG := mem_sx 13 (by decide +kernel) (by decide +kernel)
theorem lk_X8_254 : vLink RX8 254 7 mX8_isLoose 2 := ⟨(RX8, TX8, 9), rfl, rfl, by decide +kernel, by decide, List.forall_mem_cons.mpr ⟨tw_616, List.forall_mem_cons.mpr ⟨tw_617, List.forall_mem_cons.mpr ⟨tw_618, List.forall_mem_cons.mpr ⟨tw_113, List.forall_mem_cons.mpr ⟨tw_615, fun _ h => absurd h List.not_mem_nil⟩⟩⟩⟩⟩⟩
theorem tw_619 : (.code mX8_layAtFirst.1 mX8_layAtFirst.2.1 mX8_layAtFirst.2.2.1 mX8_layAtFirst.2.2.2 : Cond) ∈ tbG := mem_ix 558 (by decide +kernel) (by decide +kernel)
theorem tw_620 : (.methodLink RX8 258 yX8_layAtFirst : Cond) ∈ tbG := mem_ix 555 (by decide +kernel) (by decide +kernel)
theorem tw_621 : (.instanceMethod yX8_layAtFirst : Cond) ∈ tbG := mem_ix 557 (by decide +kernel) (by decide +kernel)
theorem tw_622 : (.selects RX8 yX8_layAtFirst yX8_layAtFirst : Cond) ∈ tbG := mem_sx 14 (by decide +kernel) (by decide +kernel)
theorem lk_X8_258 : vLink RX8 258 7 mX8_layAtFirst 3 := ⟨(RX8, TX8, 9), rfl, rfl, by decide +kernel, by decide, List.forall_mem_cons.mpr ⟨tw_620, List.forall_mem_cons.mpr ⟨tw_621, List.forall_mem_cons.mpr ⟨tw_622, List.forall_mem_cons.mpr ⟨tw_113, List.forall_mem_cons.mpr ⟨tw_619, fun _ h => absurd h List.not_mem_nil⟩⟩⟩⟩⟩⟩
theorem tw_623 : (.code mX8_codeOf.1 mX8_codeOf.2.1 mX8_codeOf.2.2.1 mX8_codeOf.2.2.2 : Cond) ∈ tbG := mem_ix 514 (by decide +kernel) (by decide +kernel)
theorem tw_624 : (.methodLink RX8 261 yX8_codeOf : Cond) ∈ tbG := mem_ix 512 (by decide +kernel) (by decide +kernel)
theorem tw_625 : (.static yX8_codeOf : Cond) ∈ tbG := mem_ix 513 (by decide +kernel) (by decide +kernel)
theorem lk_X8_261 : sLink RX8 261 mX8_codeOf 2 := ⟨by decide +kernel, by decide, List.forall_mem_cons.mpr ⟨tw_624, List.forall_mem_cons.mpr ⟨tw_625, List.forall_mem_cons.mpr ⟨tw_113, List.forall_mem_cons.mpr ⟨tw_623, fun _ h => absurd h List.not_mem_nil⟩⟩⟩⟩⟩
theorem tw_626 : (.code mX5_countLoose.1 mX5_countLoose.2.1 mX5_countLoose.2.2.1 mX5_countLoose.2.2.2 : Cond) ∈ tbG := mem_ix 546 (by decide +kernel) (by decide +kernel)
theorem tw_627 : (.methodLink RX8 268 yX5_countLoose : Cond) ∈ tbG := mem_ix 543 (by decide +kernel) (by decide +kernel)
theorem tw_628 : (.instanceMethod yX5_countLoose : Cond) ∈ tbG := mem_ix 544 (by decide +kernel) (by decide +kernel)
theorem tw_629 : (.selects RX5 yX5_countLoose yX5_countLoose : Cond) ∈ tbG := mem_ix 545 (by decide +kernel) (by decide +kernel)
theorem lk_X8_268 : vLink RX8 268 4 mX5_countLoose 0 := ⟨(RX5, TX5, 13), rfl, rfl, by decide +kernel, by decide, List.forall_mem_cons.mpr ⟨tw_627, List.forall_mem_cons.mpr ⟨tw_628, List.forall_mem_cons.mpr ⟨tw_629, List.forall_mem_cons.mpr ⟨tw_431, List.forall_mem_cons.mpr ⟨tw_626, fun _ h => absurd h List.not_mem_nil⟩⟩⟩⟩⟩⟩
theorem tw_630 : (.code mX3_begin.1 mX3_begin.2.1 mX3_begin.2.2.1 mX3_begin.2.2.2 : Cond) ∈ tbG := mem_ix 589 (by decide +kernel) (by decide +kernel)
theorem tw_631 : (.methodLink RX8 272 yX3_begin : Cond) ∈ tbG := mem_ix 586 (by decide +kernel) (by decide +kernel)
theorem tw_632 : (.instanceMethod yX3_begin : Cond) ∈ tbG := mem_ix 587 (by decide +kernel) (by decide +kernel)
theorem tw_633 : (.selects RX3 yX3_begin yX3_begin : Cond) ∈ tbG := mem_ix 588 (by decide +kernel) (by decide +kernel)
theorem lk_X8_272 : vLink RX8 272 2 mX3_begin 0 := ⟨(RX3, TX3, 4), rfl, rfl, by decide +kernel, by decide, List.forall_mem_cons.mpr ⟨tw_631, List.forall_mem_cons.mpr ⟨tw_632, List.forall_mem_cons.mpr ⟨tw_633, List.forall_mem_cons.mpr ⟨tw_415, List.forall_mem_cons.mpr ⟨tw_630, fun _ h => absurd h List.not_mem_nil⟩⟩⟩⟩⟩⟩
theorem tw_634 : (.code mX3_addPiece.1 mX3_addPiece.2.1 mX3_addPiece.2.2.1 mX3_addPiece.2.2.2 : Cond) ∈ tbG := mem_ix 593 (by decide +kernel) (by decide +kernel)
theorem tw_635 : (.methodLink RX8 275 yX3_addPiece : Cond) ∈ tbG := mem_ix 590 (by decide +kernel) (by decide +kernel)
theorem tw_636 : (.instanceMethod yX3_addPiece : Cond) ∈ tbG := mem_ix 591 (by decide +kernel) (by decide +kernel)
theorem tw_637 : (.selects RX3 yX3_addPiece yX3_addPiece : Cond) ∈ tbG := mem_ix 592 (by decide +kernel) (by decide +kernel)
theorem lk_X8_275 : vLink RX8 275 2 mX3_addPiece 1 := ⟨(RX3, TX3, 4), rfl, rfl, by decide +kernel, by decide, List.forall_mem_cons.mpr ⟨tw_635, List.forall_mem_cons.mpr ⟨tw_636, List.forall_mem_cons.mpr ⟨tw_637, List.forall_mem_cons.mpr ⟨tw_415, List.forall_mem_cons.mpr ⟨tw_634, fun _ h => absurd h List.not_mem_nil⟩⟩⟩⟩⟩⟩
theorem tw_638 : (.code mX1_isWornAtMost.1 mX1_isWornAtMost.2.1 mX1_isWornAtMost.2.2.1 mX1_isWornAtMost.2.2.2 : Cond) ∈ tbG := mem_ix 598 (by decide +kernel) (by decide +kernel)
theorem tw_639 : (.methodLink RX8 279 yX1_isWornAtMost : Cond) ∈ tbG := mem_ix 595 (by decide +kernel) (by decide +kernel)
theorem tw_640 : (.instanceMethod yX1_isWornAtMost : Cond) ∈ tbG := mem_ix 596 (by decide +kernel) (by decide +kernel)
theorem tw_641 : (.selects RX1 yX1_isWornAtMost yX1_isWornAtMost : Cond) ∈ tbG := mem_ix 597 (by decide +kernel) (by decide +kernel)
theorem lk_X8_279 : vLink RX8 279 1 mX1_isWornAtMost 1 := ⟨(RX1, TX1, 7), rfl, rfl, by decide +kernel, by decide, List.forall_mem_cons.mpr ⟨tw_639, List.forall_mem_cons.mpr ⟨tw_640, List.forall_mem_cons.mpr ⟨tw_641, List.forall_mem_cons.mpr ⟨tw_385, List.forall_mem_cons.mpr ⟨tw_638, fun _ h => absurd h List.not_mem_nil⟩⟩⟩⟩⟩⟩
theorem tw_642 : (.code mX3_offer.1 mX3_offer.2.1 mX3_offer.2.2.1 mX3_offer.2.2.2 : Cond) ∈ tbG := mem_ix 602 (by decide +kernel) (by decide +kernel)
theorem tw_643 : (.methodLink RX8 282 yX3_offer : Cond) ∈ tbG := mem_ix 599 (by decide +kernel) (by decide +kernel)
theorem tw_644 : (.instanceMethod yX3_offer : Cond) ∈ tbG := mem_ix 600 (by decide +kernel) (by decide +kernel)
theorem tw_645 : (.selects RX3 yX3_offer yX3_offer : Cond) ∈ tbG := mem_ix 601 (by decide +kernel) (by decide +kernel)
theorem lk_X8_282 : vLink RX8 282 2 mX3_offer 1 := ⟨(RX3, TX3, 4), rfl, rfl, by decide +kernel, by decide, List.forall_mem_cons.mpr ⟨tw_643, List.forall_mem_cons.mpr ⟨tw_644, List.forall_mem_cons.mpr ⟨tw_645, List.forall_mem_cons.mpr ⟨tw_415, List.forall_mem_cons.mpr ⟨tw_642, fun _ h => absurd h List.not_mem_nil⟩⟩⟩⟩⟩⟩
theorem tw_646 : (.code mX3_neededForAll.1 mX3_neededForAll.2.1 mX3_neededForAll.2.2.1 mX3_neededForAll.2.2.2 : Cond) ∈ tbG := mem_ix 615 (by decide +kernel) (by decide +kernel)
theorem tw_647 : (.methodLink RX8 286 yX3_neededForAll : Cond) ∈ tbG := mem_ix 612 (by decide +kernel) (by decide +kernel)
theorem tw_648 : (.instanceMethod yX3_neededForAll : Cond) ∈ tbG := mem_ix 613 (by decide +kernel) (by decide +kernel)
theorem tw_649 : (.selects RX3 yX3_neededForAll yX3_neededForAll : Cond) ∈ tbG := mem_ix 614 (by decide +kernel) (by decide +kernel)
theorem lk_X8_286 : vLink RX8 286 2 mX3_neededForAll 0 := ⟨(RX3, TX3, 4), rfl, rfl, by decide +kernel, by decide, List.forall_mem_cons.mpr ⟨tw_647, List.forall_mem_cons.mpr ⟨tw_648, List.forall_mem_cons.mpr ⟨tw_649, List.forall_mem_cons.mpr ⟨tw_415, List.forall_mem_cons.mpr ⟨tw_646, fun _ h => absurd h List.not_mem_nil⟩⟩⟩⟩⟩⟩
theorem tw_650 : (.code mX8_addBoltOf.1 mX8_addBoltOf.2.1 mX8_addBoltOf.2.2.1 mX8_addBoltOf.2.2.2 : Cond) ∈ tbG := mem_ix 623 (by decide +kernel) (by decide +kernel)
theorem tw_651 : (.methodLink RX8 289 yX8_addBoltOf : Cond) ∈ tbG := mem_ix 620 (by decide +kernel) (by decide +kernel)
theorem tw_652 : (.instanceMethod yX8_addBoltOf : Cond) ∈ tbG := mem_ix 622 (by decide +kernel) (by decide +kernel)
theorem tw_653 : (.selects RX8 yX8_addBoltOf yX8_addBoltOf : Cond) ∈ tbG := mem_sx 17 (by decide +kernel) (by decide +kernel)
theorem lk_X8_289 : vLink RX8 289 7 mX8_addBoltOf 2 := ⟨(RX8, TX8, 9), rfl, rfl, by decide +kernel, by decide, List.forall_mem_cons.mpr ⟨tw_651, List.forall_mem_cons.mpr ⟨tw_652, List.forall_mem_cons.mpr ⟨tw_653, List.forall_mem_cons.mpr ⟨tw_113, List.forall_mem_cons.mpr ⟨tw_650, fun _ h => absurd h List.not_mem_nil⟩⟩⟩⟩⟩⟩
theorem tw_654 : (.code mX5_addLine.1 mX5_addLine.2.1 mX5_addLine.2.2.1 mX5_addLine.2.2.2 : Cond) ∈ tbG := mem_ix 649 (by decide +kernel) (by decide +kernel)
theorem tw_655 : (.methodLink RX8 300 yX5_addLine : Cond) ∈ tbG := mem_ix 646 (by decide +kernel) (by decide +kernel)
theorem tw_656 : (.instanceMethod yX5_addLine : Cond) ∈ tbG := mem_ix 647 (by decide +kernel) (by decide +kernel)
theorem tw_657 : (.selects RX5 yX5_addLine yX5_addLine : Cond) ∈ tbG := mem_ix 648 (by decide +kernel) (by decide +kernel)
theorem lk_X8_300 : vLink RX8 300 4 mX5_addLine 1 := ⟨(RX5, TX5, 13), rfl, rfl, by decide +kernel, by decide, List.forall_mem_cons.mpr ⟨tw_655, List.forall_mem_cons.mpr ⟨tw_656, List.forall_mem_cons.mpr ⟨tw_657, List.forall_mem_cons.mpr ⟨tw_431, List.forall_mem_cons.mpr ⟨tw_654, fun _ h => absurd h List.not_mem_nil⟩⟩⟩⟩⟩⟩
theorem tw_658 : (.code mX8_hoistAll.1 mX8_hoistAll.2.1 mX8_hoistAll.2.2.1 mX8_hoistAll.2.2.2 : Cond) ∈ tbG := mem_ix 662 (by decide +kernel) (by decide +kernel)
theorem tw_659 : (.methodLink RX8 305 yX8_hoistAll : Cond) ∈ tbG := mem_ix 659 (by decide +kernel) (by decide +kernel)
theorem tw_660 : (.instanceMethod yX8_hoistAll : Cond) ∈ tbG := mem_ix 661 (by decide +kernel) (by decide +kernel)
theorem tw_661 : (.selects RX8 yX8_hoistAll yX8_hoistAll : Cond) ∈ tbG := mem_sx 19 (by decide +kernel) (by decide +kernel)
theorem lk_X8_305 : vLink RX8 305 7 mX8_hoistAll 0 := ⟨(RX8, TX8, 9), rfl, rfl, by decide +kernel, by decide, List.forall_mem_cons.mpr ⟨tw_659, List.forall_mem_cons.mpr ⟨tw_660, List.forall_mem_cons.mpr ⟨tw_661, List.forall_mem_cons.mpr ⟨tw_113, List.forall_mem_cons.mpr ⟨tw_658, fun _ h => absurd h List.not_mem_nil⟩⟩⟩⟩⟩⟩
theorem tw_662 : (.methodLink RX8 308 yX7_pushAt : Cond) ∈ tbG := mem_ix 679 (by decide +kernel) (by decide +kernel)
theorem lk_X8_308 : vLink RX8 308 6 mX7_pushAt 1 := ⟨(RX7, TX7, 3), rfl, rfl, by decide +kernel, by decide, List.forall_mem_cons.mpr ⟨tw_662, List.forall_mem_cons.mpr ⟨tw_493, List.forall_mem_cons.mpr ⟨tw_494, List.forall_mem_cons.mpr ⟨tw_478, List.forall_mem_cons.mpr ⟨tw_491, fun _ h => absurd h List.not_mem_nil⟩⟩⟩⟩⟩⟩
theorem tw_663 : (.code mX7_firstBreak.1 mX7_firstBreak.2.1 mX7_firstBreak.2.2.1 mX7_firstBreak.2.2.2 : Cond) ∈ tbG := mem_ix 694 (by decide +kernel) (by decide +kernel)
theorem tw_664 : (.methodLink RX8 312 yX7_firstBreak : Cond) ∈ tbG := mem_ix 691 (by decide +kernel) (by decide +kernel)
theorem tw_665 : (.instanceMethod yX7_firstBreak : Cond) ∈ tbG := mem_ix 692 (by decide +kernel) (by decide +kernel)
theorem tw_666 : (.selects RX7 yX7_firstBreak yX7_firstBreak : Cond) ∈ tbG := mem_ix 693 (by decide +kernel) (by decide +kernel)
theorem lk_X8_312 : vLink RX8 312 6 mX7_firstBreak 0 := ⟨(RX7, TX7, 3), rfl, rfl, by decide +kernel, by decide, List.forall_mem_cons.mpr ⟨tw_664, List.forall_mem_cons.mpr ⟨tw_665, List.forall_mem_cons.mpr ⟨tw_666, List.forall_mem_cons.mpr ⟨tw_478, List.forall_mem_cons.mpr ⟨tw_663, fun _ h => absurd h List.not_mem_nil⟩⟩⟩⟩⟩⟩
theorem tw_667 : (.code mX7_reefOnce.1 mX7_reefOnce.2.1 mX7_reefOnce.2.2.1 mX7_reefOnce.2.2.2 : Cond) ∈ tbG := mem_ix 704 (by decide +kernel) (by decide +kernel)
theorem tw_668 : (.methodLink RX8 315 yX7_reefOnce : Cond) ∈ tbG := mem_ix 701 (by decide +kernel) (by decide +kernel)
theorem tw_669 : (.instanceMethod yX7_reefOnce : Cond) ∈ tbG := mem_ix 702 (by decide +kernel) (by decide +kernel)
theorem tw_670 : (.selects RX7 yX7_reefOnce yX7_reefOnce : Cond) ∈ tbG := mem_ix 703 (by decide +kernel) (by decide +kernel)
theorem lk_X8_315 : vLink RX8 315 6 mX7_reefOnce 1 := ⟨(RX7, TX7, 3), rfl, rfl, by decide +kernel, by decide, List.forall_mem_cons.mpr ⟨tw_668, List.forall_mem_cons.mpr ⟨tw_669, List.forall_mem_cons.mpr ⟨tw_670, List.forall_mem_cons.mpr ⟨tw_478, List.forall_mem_cons.mpr ⟨tw_667, fun _ h => absurd h List.not_mem_nil⟩⟩⟩⟩⟩⟩
theorem tw_671 : (.code mX8_reverse.1 mX8_reverse.2.1 mX8_reverse.2.2.1 mX8_reverse.2.2.2 : Cond) ∈ tbG := mem_ix 716 (by decide +kernel) (by decide +kernel)
theorem tw_672 : (.methodLink RX8 319 yX8_reverse : Cond) ∈ tbG := mem_ix 713 (by decide +kernel) (by decide +kernel)
theorem tw_673 : (.instanceMethod yX8_reverse : Cond) ∈ tbG := mem_ix 715 (by decide +kernel) (by decide +kernel)
theorem tw_674 : (.selects RX8 yX8_reverse yX8_reverse : Cond) ∈ tbG := mem_sx 22 (by decide +kernel) (by decide +kernel)
theorem lk_X8_319 : vLink RX8 319 7 mX8_reverse 1 := ⟨(RX8, TX8, 9), rfl, rfl, by decide +kernel, by decide, List.forall_mem_cons.mpr ⟨tw_672, List.forall_mem_cons.mpr ⟨tw_673, List.forall_mem_cons.mpr ⟨tw_674, List.forall_mem_cons.mpr ⟨tw_113, List.forall_mem_cons.mpr ⟨tw_671, fun _ h => absurd h List.not_mem_nil⟩⟩⟩⟩⟩⟩
theorem tw_675 : (.methodLink RX8 322 Lib.Math.min.name : Cond) ∈ tbG := mem_ix 189 (by decide +kernel) (by decide +kernel)
theorem lk_X8_322 : ∀ w ∈ ([.methodLink RX8 322 Lib.Math.min.name, .static Lib.Math.min.name, .initialized "java/lang/Math", .code Lib.Math.min.name Lib.Math.min.code 2 (some .int)] : List Cond), w ∈ tbG := List.forall_mem_cons.mpr ⟨tw_675, List.forall_mem_cons.mpr ⟨tw_412, List.forall_mem_cons.mpr ⟨tw_407, List.forall_mem_cons.mpr ⟨tw_413, fun _ h => absurd h List.not_mem_nil⟩⟩⟩⟩
theorem tw_676 : (.code mX8_dropBolts.1 mX8_dropBolts.2.1 mX8_dropBolts.2.2.1 mX8_dropBolts.2.2.2 : Cond) ∈ tbG := mem_ix 720 (by decide +kernel) (by decide +kernel)
theorem tw_677 : (.methodLink RX8 330 yX8_dropBolts : Cond) ∈ tbG := mem_ix 717 (by decide +kernel) (by decide +kernel)
theorem tw_678 : (.instanceMethod yX8_dropBolts : Cond) ∈ tbG := mem_ix 719 (by decide +kernel) (by decide +kernel)
theorem tw_679 : (.selects RX8 yX8_dropBolts yX8_dropBolts : Cond) ∈ tbG := mem_sx 23 (by decide +kernel) (by decide +kernel)
theorem lk_X8_330 : vLink RX8 330 7 mX8_dropBolts 1 := ⟨(RX8, TX8, 9), rfl, rfl, by decide +kernel, by decide, List.forall_mem_cons.mpr ⟨tw_677, List.forall_mem_cons.mpr ⟨tw_678, List.forall_mem_cons.mpr ⟨tw_679, List.forall_mem_cons.mpr ⟨tw_113, List.forall_mem_cons.mpr ⟨tw_676, fun _ h => absurd h List.not_mem_nil⟩⟩⟩⟩⟩⟩
theorem tw_680 : (.code mX8_dropSail.1 mX8_dropSail.2.1 mX8_dropSail.2.2.1 mX8_dropSail.2.2.2 : Cond) ∈ tbG := mem_ix 724 (by decide +kernel) (by decide +kernel)
theorem tw_681 : (.methodLink RX8 334 yX8_dropSail : Cond) ∈ tbG := mem_ix 721 (by decide +kernel) (by decide +kernel)
theorem tw_682 : (.instanceMethod yX8_dropSail : Cond) ∈ tbG := mem_ix 723 (by decide +kernel) (by decide +kernel)
theorem tw_683 : (.selects RX8 yX8_dropSail yX8_dropSail : Cond) ∈ tbG := mem_sx 24 (by decide +kernel) (by decide +kernel)
theorem lk_X8_334 : vLink RX8 334 7 mX8_dropSail 0 := ⟨(RX8, TX8, 9), rfl, rfl, by decide +kernel, by decide, List.forall_mem_cons.mpr ⟨tw_681, List.forall_mem_cons.mpr ⟨tw_682, List.forall_mem_cons.mpr ⟨tw_683, List.forall_mem_cons.mpr ⟨tw_113, List.forall_mem_cons.mpr ⟨tw_680, fun _ h => absurd h List.not_mem_nil⟩⟩⟩⟩⟩⟩
theorem tw_684 : (.code mX8_reverseOnBolt.1 mX8_reverseOnBolt.2.1 mX8_reverseOnBolt.2.2.1 mX8_reverseOnBolt.2.2.2 : Cond) ∈ tbG := mem_ix 727 (by decide +kernel) (by decide +kernel)
theorem tw_685 : (.methodLink RX8 340 yX8_reverseOnBolt : Cond) ∈ tbG := mem_ix 725 (by decide +kernel) (by decide +kernel)
theorem tw_686 : (.static yX8_reverseOnBolt : Cond) ∈ tbG := mem_ix 726 (by decide +kernel) (by decide +kernel)
theorem lk_X8_340 : sLink RX8 340 mX8_reverseOnBolt 2 := ⟨by decide +kernel, by decide, List.forall_mem_cons.mpr ⟨tw_685, List.forall_mem_cons.mpr ⟨tw_686, List.forall_mem_cons.mpr ⟨tw_113, List.forall_mem_cons.mpr ⟨tw_684, fun _ h => absurd h List.not_mem_nil⟩⟩⟩⟩⟩
theorem tw_687 : (.code mX8_reversePlan.1 mX8_reversePlan.2.1 mX8_reversePlan.2.2.1 mX8_reversePlan.2.2.2 : Cond) ∈ tbG := mem_ix 731 (by decide +kernel) (by decide +kernel)
theorem tw_688 : (.methodLink RX8 350 yX8_reversePlan : Cond) ∈ tbG := mem_ix 728 (by decide +kernel) (by decide +kernel)
theorem tw_689 : (.instanceMethod yX8_reversePlan : Cond) ∈ tbG := mem_ix 730 (by decide +kernel) (by decide +kernel)
theorem tw_690 : (.selects RX8 yX8_reversePlan yX8_reversePlan : Cond) ∈ tbG := mem_sx 25 (by decide +kernel) (by decide +kernel)
theorem lk_X8_350 : vLink RX8 350 7 mX8_reversePlan 1 := ⟨(RX8, TX8, 9), rfl, rfl, by decide +kernel, by decide, List.forall_mem_cons.mpr ⟨tw_688, List.forall_mem_cons.mpr ⟨tw_689, List.forall_mem_cons.mpr ⟨tw_690, List.forall_mem_cons.mpr ⟨tw_113, List.forall_mem_cons.mpr ⟨tw_687, fun _ h => absurd h List.not_mem_nil⟩⟩⟩⟩⟩⟩
theorem tw_691 : (.code mX8_reverseMaking.1 mX8_reverseMaking.2.1 mX8_reverseMaking.2.2.1 mX8_reverseMaking.2.2.2 : Cond) ∈ tbG := mem_ix 734 (by decide +kernel) (by decide +kernel)
theorem tw_692 : (.methodLink RX8 353 yX8_reverseMaking : Cond) ∈ tbG := mem_ix 732 (by decide +kernel) (by decide +kernel)
theorem tw_693 : (.static yX8_reverseMaking : Cond) ∈ tbG := mem_ix 733 (by decide +kernel) (by decide +kernel)
theorem lk_X8_353 : sLink RX8 353 mX8_reverseMaking 2 := ⟨by decide +kernel, by decide, List.forall_mem_cons.mpr ⟨tw_692, List.forall_mem_cons.mpr ⟨tw_693, List.forall_mem_cons.mpr ⟨tw_113, List.forall_mem_cons.mpr ⟨tw_691, fun _ h => absurd h List.not_mem_nil⟩⟩⟩⟩⟩
theorem tw_694 : (.code mX8_reverseSailing.1 mX8_reverseSailing.2.1 mX8_reverseSailing.2.2.1 mX8_reverseSailing.2.2.2 : Cond) ∈ tbG := mem_ix 746 (by decide +kernel) (by decide +kernel)
theorem tw_695 : (.methodLink RX8 357 yX8_reverseSailing : Cond) ∈ tbG := mem_ix 743 (by decide +kernel) (by decide +kernel)
theorem tw_696 : (.instanceMethod yX8_reverseSailing : Cond) ∈ tbG := mem_ix 745 (by decide +kernel) (by decide +kernel)
theorem tw_697 : (.selects RX8 yX8_reverseSailing yX8_reverseSailing : Cond) ∈ tbG := mem_sx 26 (by decide +kernel) (by decide +kernel)
theorem lk_X8_357 : vLink RX8 357 7 mX8_reverseSailing 2 := ⟨(RX8, TX8, 9), rfl, rfl, by decide +kernel, by decide, List.forall_mem_cons.mpr ⟨tw_695, List.forall_mem_cons.mpr ⟨tw_696, List.forall_mem_cons.mpr ⟨tw_697, List.forall_mem_cons.mpr ⟨tw_113, List.forall_mem_cons.mpr ⟨tw_694, fun _ h => absurd h List.not_mem_nil⟩⟩⟩⟩⟩⟩
theorem tw_698 : (.code mX5_openAgain.1 mX5_openAgain.2.1 mX5_openAgain.2.2.1 mX5_openAgain.2.2.2 : Cond) ∈ tbG := mem_ix 738 (by decide +kernel) (by decide +kernel)
theorem tw_699 : (.methodLink RX8 360 yX5_openAgain : Cond) ∈ tbG := mem_ix 735 (by decide +kernel) (by decide +kernel)
theorem tw_700 : (.instanceMethod yX5_openAgain : Cond) ∈ tbG := mem_ix 736 (by decide +kernel) (by decide +kernel)
theorem tw_701 : (.selects RX5 yX5_openAgain yX5_openAgain : Cond) ∈ tbG := mem_ix 737 (by decide +kernel) (by decide +kernel)
theorem lk_X8_360 : vLink RX8 360 4 mX5_openAgain 0 := ⟨(RX5, TX5, 13), rfl, rfl, by decide +kernel, by decide, List.forall_mem_cons.mpr ⟨tw_699, List.forall_mem_cons.mpr ⟨tw_700, List.forall_mem_cons.mpr ⟨tw_701, List.forall_mem_cons.mpr ⟨tw_431, List.forall_mem_cons.mpr ⟨tw_698, fun _ h => absurd h List.not_mem_nil⟩⟩⟩⟩⟩⟩
theorem tw_702 : (.code mX5_dropPatch.1 mX5_dropPatch.2.1 mX5_dropPatch.2.2.1 mX5_dropPatch.2.2.2 : Cond) ∈ tbG := mem_ix 742 (by decide +kernel) (by decide +kernel)
theorem tw_703 : (.methodLink RX8 363 yX5_dropPatch : Cond) ∈ tbG := mem_ix 739 (by decide +kernel) (by decide +kernel)
theorem tw_704 : (.instanceMethod yX5_dropPatch : Cond) ∈ tbG := mem_ix 740 (by decide +kernel) (by decide +kernel)
theorem tw_705 : (.selects RX5 yX5_dropPatch yX5_dropPatch : Cond) ∈ tbG := mem_ix 741 (by decide +kernel) (by decide +kernel)
theorem lk_X8_363 : vLink RX8 363 4 mX5_dropPatch 0 := ⟨(RX5, TX5, 13), rfl, rfl, by decide +kernel, by decide, List.forall_mem_cons.mpr ⟨tw_703, List.forall_mem_cons.mpr ⟨tw_704, List.forall_mem_cons.mpr ⟨tw_705, List.forall_mem_cons.mpr ⟨tw_431, List.forall_mem_cons.mpr ⟨tw_702, fun _ h => absurd h List.not_mem_nil⟩⟩⟩⟩⟩⟩
theorem tw_706 : (.code mX5_dropLine.1 mX5_dropLine.2.1 mX5_dropLine.2.2.1 mX5_dropLine.2.2.2 : Cond) ∈ tbG := mem_ix 750 (by decide +kernel) (by decide +kernel)
theorem tw_707 : (.methodLink RX8 366 yX5_dropLine : Cond) ∈ tbG := mem_ix 747 (by decide +kernel) (by decide +kernel)
theorem tw_708 : (.instanceMethod yX5_dropLine : Cond) ∈ tbG := mem_ix 748 (by decide +kernel) (by decide +kernel)
theorem tw_709 : (.selects RX5 yX5_dropLine yX5_dropLine : Cond) ∈ tbG := mem_ix 749 (by decide +kernel) (by decide +kernel)
theorem lk_X8_366 : vLink RX8 366 4 mX5_dropLine 0 := ⟨(RX5, TX5, 13), rfl, rfl, by decide +kernel, by decide, List.forall_mem_cons.mpr ⟨tw_707, List.forall_mem_cons.mpr ⟨tw_708, List.forall_mem_cons.mpr ⟨tw_709, List.forall_mem_cons.mpr ⟨tw_431, List.forall_mem_cons.mpr ⟨tw_706, fun _ h => absurd h List.not_mem_nil⟩⟩⟩⟩⟩⟩
theorem tw_710 : (.code mX1_begin.1 mX1_begin.2.1 mX1_begin.2.2.1 mX1_begin.2.2.2 : Cond) ∈ tbG := mem_ix 143 (by decide +kernel) (by decide +kernel)
theorem tw_711 : (.methodLink RX8 370 yX1_begin : Cond) ∈ tbG := mem_ix 140 (by decide +kernel) (by decide +kernel)
theorem tw_712 : (.instanceMethod yX1_begin : Cond) ∈ tbG := mem_ix 141 (by decide +kernel) (by decide +kernel)
theorem tw_713 : (.selects RX1 yX1_begin yX1_begin : Cond) ∈ tbG := mem_ix 142 (by decide +kernel) (by decide +kernel)
theorem lk_X8_370 : vLink RX8 370 1 mX1_begin 4 := ⟨(RX1, TX1, 7), rfl, rfl, by decide +kernel, by decide, List.forall_mem_cons.mpr ⟨tw_711, List.forall_mem_cons.mpr ⟨tw_712, List.forall_mem_cons.mpr ⟨tw_713, List.forall_mem_cons.mpr ⟨tw_385, List.forall_mem_cons.mpr ⟨tw_710, fun _ h => absurd h List.not_mem_nil⟩⟩⟩⟩⟩⟩
theorem tw_714 : (.methodLink RX8 376 Lib.Math.max.name : Cond) ∈ tbG := mem_ix 624 (by decide +kernel) (by decide +kernel)
theorem lk_X8_376 : ∀ w ∈ ([.methodLink RX8 376 Lib.Math.max.name, .static Lib.Math.max.name, .initialized "java/lang/Math", .code Lib.Math.max.name Lib.Math.max.code 2 (some .int)] : List Cond), w ∈ tbG := List.forall_mem_cons.mpr ⟨tw_714, List.forall_mem_cons.mpr ⟨tw_406, List.forall_mem_cons.mpr ⟨tw_407, List.forall_mem_cons.mpr ⟨tw_408, fun _ h => absurd h List.not_mem_nil⟩⟩⟩⟩
theorem tw_715 : (.code mX1_cover.1 mX1_cover.2.1 mX1_cover.2.2.1 mX1_cover.2.2.2 : Cond) ∈ tbG := mem_ix 518 (by decide +kernel) (by decide +kernel)
theorem tw_716 : (.methodLink RX8 383 yX1_cover : Cond) ∈ tbG := mem_ix 515 (by decide +kernel) (by decide +kernel)
theorem tw_717 : (.instanceMethod yX1_cover : Cond) ∈ tbG := mem_ix 516 (by decide +kernel) (by decide +kernel)
theorem tw_718 : (.selects RX1 yX1_cover yX1_cover : Cond) ∈ tbG := mem_ix 517 (by decide +kernel) (by decide +kernel)
theorem lk_X8_383 : vLink RX8 383 1 mX1_cover 3 := ⟨(RX1, TX1, 7), rfl, rfl, by decide +kernel, by decide, List.forall_mem_cons.mpr ⟨tw_716, List.forall_mem_cons.mpr ⟨tw_717, List.forall_mem_cons.mpr ⟨tw_718, List.forall_mem_cons.mpr ⟨tw_385, List.forall_mem_cons.mpr ⟨tw_715, fun _ h => absurd h List.not_mem_nil⟩⟩⟩⟩⟩⟩
theorem tw_719 : (.code mX1_uncover.1 mX1_uncover.2.1 mX1_uncover.2.2.1 mX1_uncover.2.2.2 : Cond) ∈ tbG := mem_ix 534 (by decide +kernel) (by decide +kernel)
theorem tw_720 : (.methodLink RX8 386 yX1_uncover : Cond) ∈ tbG := mem_ix 531 (by decide +kernel) (by decide +kernel)
theorem tw_721 : (.instanceMethod yX1_uncover : Cond) ∈ tbG := mem_ix 532 (by decide +kernel) (by decide +kernel)
theorem tw_722 : (.selects RX1 yX1_uncover yX1_uncover : Cond) ∈ tbG := mem_ix 533 (by decide +kernel) (by decide +kernel)
theorem lk_X8_386 : vLink RX8 386 1 mX1_uncover 2 := ⟨(RX1, TX1, 7), rfl, rfl, by decide +kernel, by decide, List.forall_mem_cons.mpr ⟨tw_720, List.forall_mem_cons.mpr ⟨tw_721, List.forall_mem_cons.mpr ⟨tw_722, List.forall_mem_cons.mpr ⟨tw_385, List.forall_mem_cons.mpr ⟨tw_719, fun _ h => absurd h List.not_mem_nil⟩⟩⟩⟩⟩⟩
theorem tw_723 : (.code mX1_firstPlaceFor.1 mX1_firstPlaceFor.2.1 mX1_firstPlaceFor.2.2.1 mX1_firstPlaceFor.2.2.2 : Cond) ∈ tbG := mem_ix 562 (by decide +kernel) (by decide +kernel)
theorem tw_724 : (.methodLink RX8 389 yX1_firstPlaceFor : Cond) ∈ tbG := mem_ix 559 (by decide +kernel) (by decide +kernel)
theorem tw_725 : (.instanceMethod yX1_firstPlaceFor : Cond) ∈ tbG := mem_ix 560 (by decide +kernel) (by decide +kernel)
theorem tw_726 : (.selects RX1 yX1_firstPlaceFor yX1_firstPlaceFor : Cond) ∈ tbG := mem_ix 561 (by decide +kernel) (by decide +kernel)
theorem lk_X8_389 : vLink RX8 389 1 mX1_firstPlaceFor 2 := ⟨(RX1, TX1, 7), rfl, rfl, by decide +kernel, by decide, List.forall_mem_cons.mpr ⟨tw_724, List.forall_mem_cons.mpr ⟨tw_725, List.forall_mem_cons.mpr ⟨tw_726, List.forall_mem_cons.mpr ⟨tw_385, List.forall_mem_cons.mpr ⟨tw_723, fun _ h => absurd h List.not_mem_nil⟩⟩⟩⟩⟩⟩
theorem tw_727 : (.code mX7_clear.1 mX7_clear.2.1 mX7_clear.2.2.1 mX7_clear.2.2.2 : Cond) ∈ tbG := mem_ix 666 (by decide +kernel) (by decide +kernel)
theorem tw_728 : (.methodLink RX8 393 yX7_clear : Cond) ∈ tbG := mem_ix 663 (by decide +kernel) (by decide +kernel)
theorem tw_729 : (.instanceMethod yX7_clear : Cond) ∈ tbG := mem_ix 664 (by decide +kernel) (by decide +kernel)
theorem tw_730 : (.selects RX7 yX7_clear yX7_clear : Cond) ∈ tbG := mem_ix 665 (by decide +kernel) (by decide +kernel)
theorem lk_X8_393 : vLink RX8 393 6 mX7_clear 0 := ⟨(RX7, TX7, 3), rfl, rfl, by decide +kernel, by decide, List.forall_mem_cons.mpr ⟨tw_728, List.forall_mem_cons.mpr ⟨tw_729, List.forall_mem_cons.mpr ⟨tw_730, List.forall_mem_cons.mpr ⟨tw_478, List.forall_mem_cons.mpr ⟨tw_727, fun _ h => absurd h List.not_mem_nil⟩⟩⟩⟩⟩⟩
theorem tw_731 : (.code mX7_hoist.1 mX7_hoist.2.1 mX7_hoist.2.2.1 mX7_hoist.2.2.2 : Cond) ∈ tbG := mem_ix 673 (by decide +kernel) (by decide +kernel)
theorem tw_732 : (.methodLink RX8 396 yX7_hoist : Cond) ∈ tbG := mem_ix 670 (by decide +kernel) (by decide +kernel)
theorem tw_733 : (.instanceMethod yX7_hoist : Cond) ∈ tbG := mem_ix 671 (by decide +kernel) (by decide +kernel)
theorem tw_734 : (.selects RX7 yX7_hoist yX7_hoist : Cond) ∈ tbG := mem_ix 672 (by decide +kernel) (by decide +kernel)
theorem lk_X8_396 : vLink RX8 396 6 mX7_hoist 1 := ⟨(RX7, TX7, 3), rfl, rfl, by decide +kernel, by decide, List.forall_mem_cons.mpr ⟨tw_732, List.forall_mem_cons.mpr ⟨tw_733, List.forall_mem_cons.mpr ⟨tw_734, List.forall_mem_cons.mpr ⟨tw_478, List.forall_mem_cons.mpr ⟨tw_731, fun _ h => absurd h List.not_mem_nil⟩⟩⟩⟩⟩⟩
theorem tw_735 : (.methodLink RX9 1 objectInit : Cond) ∈ tbG := mem_ix 760 (by decide +kernel) (by decide +kernel)
theorem lk_X9_1 : ∀ w ∈ ([.methodLink RX9 1 objectInit, .instanceMethod objectInit, .code objectInit ⟨#[0xb1]⟩ 1 none] : List Cond), w ∈ tbG := List.forall_mem_cons.mpr ⟨tw_735, List.forall_mem_cons.mpr ⟨tw_377, List.forall_mem_cons.mpr ⟨tw_378, fun _ h => absurd h List.not_mem_nil⟩⟩⟩
theorem tw_736 : (.methodLink RX9 47 Lib.Math.min.name : Cond) ∈ tbG := mem_ix 817 (by decide +kernel) (by decide +kernel)
theorem lk_X9_47 : ∀ w ∈ ([.methodLink RX9 47 Lib.Math.min.name, .static Lib.Math.min.name, .initialized "java/lang/Math", .code Lib.Math.min.name Lib.Math.min.code 2 (some .int)] : List Cond), w ∈ tbG := List.forall_mem_cons.mpr ⟨tw_736, List.forall_mem_cons.mpr ⟨tw_412, List.forall_mem_cons.mpr ⟨tw_407, List.forall_mem_cons.mpr ⟨tw_413, fun _ h => absurd h List.not_mem_nil⟩⟩⟩⟩
theorem tw_737 : (.code mX9_isSail.1 mX9_isSail.2.1 mX9_isSail.2.2.1 mX9_isSail.2.2.2 : Cond) ∈ tbG := mem_ix 880 (by decide +kernel) (by decide +kernel)
theorem tw_738 : (.methodLink RX9 53 yX9_isSail : Cond) ∈ tbG := mem_ix 877 (by decide +kernel) (by decide +kernel)
theorem tw_739 : (.instanceMethod yX9_isSail : Cond) ∈ tbG := mem_ix 879 (by decide +kernel) (by decide +kernel)
theorem tw_740 : (.selects RX9 yX9_isSail yX9_isSail : Cond) ∈ tbG := mem_sx 37 (by decide +kernel) (by decide +kernel)
theorem lk_X9_53 : vLink RX9 53 8 mX9_isSail 1 := ⟨(RX9, TX9, 11), rfl, rfl, by decide +kernel, by decide, List.forall_mem_cons.mpr ⟨tw_738, List.forall_mem_cons.mpr ⟨tw_739, List.forall_mem_cons.mpr ⟨tw_740, List.forall_mem_cons.mpr ⟨tw_117, List.forall_mem_cons.mpr ⟨tw_737, fun _ h => absurd h List.not_mem_nil⟩⟩⟩⟩⟩⟩
theorem tw_741 : (.code mX9_sail.1 mX9_sail.2.1 mX9_sail.2.2.1 mX9_sail.2.2.2 : Cond) ∈ tbG := mem_ix 849 (by decide +kernel) (by decide +kernel)
theorem tw_742 : (.methodLink RX9 57 yX9_sail : Cond) ∈ tbG := mem_ix 846 (by decide +kernel) (by decide +kernel)
theorem tw_743 : (.instanceMethod yX9_sail : Cond) ∈ tbG := mem_ix 848 (by decide +kernel) (by decide +kernel)
theorem tw_744 : (.selects RX9 yX9_sail yX9_sail : Cond) ∈ tbG := mem_sx 34 (by decide +kernel) (by decide +kernel)
theorem lk_X9_57 : vLink RX9 57 8 mX9_sail 2 := ⟨(RX9, TX9, 11), rfl, rfl, by decide +kernel, by decide, List.forall_mem_cons.mpr ⟨tw_742, List.forall_mem_cons.mpr ⟨tw_743, List.forall_mem_cons.mpr ⟨tw_744, List.forall_mem_cons.mpr ⟨tw_117, List.forall_mem_cons.mpr ⟨tw_741, fun _ h => absurd h List.not_mem_nil⟩⟩⟩⟩⟩⟩
theorem tw_745 : (.code mX9_putBolt.1 mX9_putBolt.2.1 mX9_putBolt.2.2.1 mX9_putBolt.2.2.2 : Cond) ∈ tbG := mem_ix 825 (by decide +kernel) (by decide +kernel)
theorem tw_746 : (.methodLink RX9 60 yX9_putBolt : Cond) ∈ tbG := mem_ix 822 (by decide +kernel) (by decide +kernel)
theorem tw_747 : (.instanceMethod yX9_putBolt : Cond) ∈ tbG := mem_ix 824 (by decide +kernel) (by decide +kernel)
theorem tw_748 : (.selects RX9 yX9_putBolt yX9_putBolt : Cond) ∈ tbG := mem_sx 29 (by decide +kernel) (by decide +kernel)
theorem lk_X9_60 : vLink RX9 60 8 mX9_putBolt 3 := ⟨(RX9, TX9, 11), rfl, rfl, by decide +kernel, by decide, List.forall_mem_cons.mpr ⟨tw_746, List.forall_mem_cons.mpr ⟨tw_747, List.forall_mem_cons.mpr ⟨tw_748, List.forall_mem_cons.mpr ⟨tw_117, List.forall_mem_cons.mpr ⟨tw_745, fun _ h => absurd h List.not_mem_nil⟩⟩⟩⟩⟩⟩
theorem tw_749 : (.methodLink RX9 64 yi2f : Cond) ∈ tbG := mem_ix 806 (by decide +kernel) (by decide +kernel)
theorem tw_750 : (.native yi2f : Cond) ∈ tbG := mem_ix 808 (by decide +kernel) (by decide +kernel)
theorem tw_751 : (.static yi2f : Cond) ∈ tbG := mem_ix 807 (by decide +kernel) (by decide +kernel)
theorem tw_752 : (.initialized "java/lang/Float" : Cond) ∈ tbG := mem_ix 9 (by decide +kernel) (by decide +kernel)
theorem lk_X9_64 : ∀ w ∈ ([.methodLink RX9 64 yi2f, .native yi2f, .static yi2f, .initialized "java/lang/Float"] : List Cond), w ∈ tbG := List.forall_mem_cons.mpr ⟨tw_749, List.forall_mem_cons.mpr ⟨tw_750, List.forall_mem_cons.mpr ⟨tw_751, List.forall_mem_cons.mpr ⟨tw_752, fun _ h => absurd h List.not_mem_nil⟩⟩⟩⟩
theorem tw_753 : (.code mX9_isIn.1 mX9_isIn.2.1 mX9_isIn.2.2.1 mX9_isIn.2.2.2 : Cond) ∈ tbG := mem_ix 811 (by decide +kernel) (by decide +kernel)
theorem tw_754 : (.methodLink RX9 70 yX9_isIn : Cond) ∈ tbG := mem_ix 809 (by decide +kernel) (by decide +kernel)
theorem tw_755 : (.static yX9_isIn : Cond) ∈ tbG := mem_ix 810 (by decide +kernel) (by decide +kernel)
theorem lk_X9_70 : sLink RX9 70 mX9_isIn 3 := ⟨by decide +kernel, by decide, List.forall_mem_cons.mpr ⟨tw_754, List.forall_mem_cons.mpr ⟨tw_755, List.forall_mem_cons.mpr ⟨tw_117, List.forall_mem_cons.mpr ⟨tw_753, fun _ h => absurd h List.not_mem_nil⟩⟩⟩⟩⟩
theorem tw_756 : (.code mX9_act.1 mX9_act.2.1 mX9_act.2.2.1 mX9_act.2.2.2 : Cond) ∈ tbG := mem_ix 816 (by decide +kernel) (by decide +kernel)
theorem tw_757 : (.methodLink RX9 75 yX9_act : Cond) ∈ tbG := mem_ix 813 (by decide +kernel) (by decide +kernel)
theorem tw_758 : (.instanceMethod yX9_act : Cond) ∈ tbG := mem_ix 815 (by decide +kernel) (by decide +kernel)
theorem tw_759 : (.selects RX9 yX9_act yX9_act : Cond) ∈ tbG := mem_sx 27 (by decide +kernel) (by decide +kernel)
theorem lk_X9_75 : vLink RX9 75 8 mX9_act 0 := ⟨(RX9, TX9, 11), rfl, rfl, by decide +kernel, by decide, List.forall_mem_cons.mpr ⟨tw_757, List.forall_mem_cons.mpr ⟨tw_758, List.forall_mem_cons.mpr ⟨tw_759, List.forall_mem_cons.mpr ⟨tw_117, List.forall_mem_cons.mpr ⟨tw_756, fun _ h => absurd h List.not_mem_nil⟩⟩⟩⟩⟩⟩
theorem tw_760 : (.code mX9_newBolt.1 mX9_newBolt.2.1 mX9_newBolt.2.2.1 mX9_newBolt.2.2.2 : Cond) ∈ tbG := mem_ix 821 (by decide +kernel) (by decide +kernel)
theorem tw_761 : (.methodLink RX9 78 yX9_newBolt : Cond) ∈ tbG := mem_ix 818 (by decide +kernel) (by decide +kernel)
theorem tw_762 : (.instanceMethod yX9_newBolt : Cond) ∈ tbG := mem_ix 820 (by decide +kernel) (by decide +kernel)
theorem tw_763 : (.selects RX9 yX9_newBolt yX9_newBolt : Cond) ∈ tbG := mem_sx 28 (by decide +kernel) (by decide +kernel)
theorem lk_X9_78 : vLink RX9 78 8 mX9_newBolt 4 := ⟨(RX9, TX9, 11), rfl, rfl, by decide +kernel, by decide, List.forall_mem_cons.mpr ⟨tw_761, List.forall_mem_cons.mpr ⟨tw_762, List.forall_mem_cons.mpr ⟨tw_763, List.forall_mem_cons.mpr ⟨tw_117, List.forall_mem_cons.mpr ⟨tw_760, fun _ h => absurd h List.not_mem_nil⟩⟩⟩⟩⟩⟩
theorem tw_764 : (.code mX9_pieces.1 mX9_pieces.2.1 mX9_pieces.2.2.1 mX9_pieces.2.2.2 : Cond) ∈ tbG := mem_ix 845 (by decide +kernel) (by decide +kernel)
theorem tw_765 : (.methodLink RX9 82 yX9_pieces : Cond) ∈ tbG := mem_ix 842 (by decide +kernel) (by decide +kernel)
theorem tw_766 : (.instanceMethod yX9_pieces : Cond) ∈ tbG := mem_ix 844 (by decide +kernel) (by decide +kernel)
theorem tw_767 : (.selects RX9 yX9_pieces yX9_pieces : Cond) ∈ tbG := mem_sx 33 (by decide +kernel) (by decide +kernel)
theorem lk_X9_82 : vLink RX9 82 8 mX9_pieces 1 := ⟨(RX9, TX9, 11), rfl, rfl, by decide +kernel, by decide, List.forall_mem_cons.mpr ⟨tw_765, List.forall_mem_cons.mpr ⟨tw_766, List.forall_mem_cons.mpr ⟨tw_767, List.forall_mem_cons.mpr ⟨tw_117, List.forall_mem_cons.mpr ⟨tw_764, fun _ h => absurd h List.not_mem_nil⟩⟩⟩⟩⟩⟩
theorem tw_768 : (.code mX9_length.1 mX9_length.2.1 mX9_length.2.2.1 mX9_length.2.2.2 : Cond) ∈ tbG := mem_ix 953 (by decide +kernel) (by decide +kernel)
theorem tw_769 : (.methodLink RX9 86 yX9_length : Cond) ∈ tbG := mem_ix 950 (by decide +kernel) (by decide +kernel)
theorem tw_770 : (.instanceMethod yX9_length : Cond) ∈ tbG := mem_ix 952 (by decide +kernel) (by decide +kernel)
theorem tw_771 : (.selects RX9 yX9_length yX9_length : Cond) ∈ tbG := mem_sx 48 (by decide +kernel) (by decide +kernel)
theorem lk_X9_86 : vLink RX9 86 8 mX9_length 2 := ⟨(RX9, TX9, 11), rfl, rfl, by decide +kernel, by decide, List.forall_mem_cons.mpr ⟨tw_769, List.forall_mem_cons.mpr ⟨tw_770, List.forall_mem_cons.mpr ⟨tw_771, List.forall_mem_cons.mpr ⟨tw_117, List.forall_mem_cons.mpr ⟨tw_768, fun _ h => absurd h List.not_mem_nil⟩⟩⟩⟩⟩⟩
theorem tw_772 : (.code mX9_isBolt.1 mX9_isBolt.2.1 mX9_isBolt.2.2.1 mX9_isBolt.2.2.2 : Cond) ∈ tbG := mem_ix 833 (by decide +kernel) (by decide +kernel)
theorem tw_773 : (.methodLink RX9 89 yX9_isBolt : Cond) ∈ tbG := mem_ix 830 (by decide +kernel) (by decide +kernel)
theorem tw_774 : (.instanceMethod yX9_isBolt : Cond) ∈ tbG := mem_ix 832 (by decide +kernel) (by decide +kernel)
theorem tw_775 : (.selects RX9 yX9_isBolt yX9_isBolt : Cond) ∈ tbG := mem_sx 30 (by decide +kernel) (by decide +kernel)
theorem lk_X9_89 : vLink RX9 89 8 mX9_isBolt 1 := ⟨(RX9, TX9, 11), rfl, rfl, by decide +kernel, by decide, List.forall_mem_cons.mpr ⟨tw_773, List.forall_mem_cons.mpr ⟨tw_774, List.forall_mem_cons.mpr ⟨tw_775, List.forall_mem_cons.mpr ⟨tw_117, List.forall_mem_cons.mpr ⟨tw_772, fun _ h => absurd h List.not_mem_nil⟩⟩⟩⟩⟩⟩
theorem tw_776 : (.code mX9_bolt.1 mX9_bolt.2.1 mX9_bolt.2.2.1 mX9_bolt.2.2.2 : Cond) ∈ tbG := mem_ix 837 (by decide +kernel) (by decide +kernel)
theorem tw_777 : (.methodLink RX9 92 yX9_bolt : Cond) ∈ tbG := mem_ix 834 (by decide +kernel) (by decide +kernel)
theorem tw_778 : (.instanceMethod yX9_bolt : Cond) ∈ tbG := mem_ix 836 (by decide +kernel) (by decide +kernel)
theorem tw_779 : (.selects RX9 yX9_bolt yX9_bolt : Cond) ∈ tbG := mem_sx 31 (by decide +kernel) (by decide +kernel)
theorem lk_X9_92 : vLink RX9 92 8 mX9_bolt 2 := ⟨(RX9, TX9, 11), rfl, rfl, by decide +kernel, by decide, List.forall_mem_cons.mpr ⟨tw_777, List.forall_mem_cons.mpr ⟨tw_778, List.forall_mem_cons.mpr ⟨tw_779, List.forall_mem_cons.mpr ⟨tw_117, List.forall_mem_cons.mpr ⟨tw_776, fun _ h => absurd h List.not_mem_nil⟩⟩⟩⟩⟩⟩
theorem tw_780 : (.code mX9_isBare.1 mX9_isBare.2.1 mX9_isBare.2.2.1 mX9_isBare.2.2.2 : Cond) ∈ tbG := mem_ix 841 (by decide +kernel) (by decide +kernel)
theorem tw_781 : (.methodLink RX9 95 yX9_isBare : Cond) ∈ tbG := mem_ix 838 (by decide +kernel) (by decide +kernel)
theorem tw_782 : (.instanceMethod yX9_isBare : Cond) ∈ tbG := mem_ix 840 (by decide +kernel) (by decide +kernel)
theorem tw_783 : (.selects RX9 yX9_isBare yX9_isBare : Cond) ∈ tbG := mem_sx 32 (by decide +kernel) (by decide +kernel)
theorem lk_X9_95 : vLink RX9 95 8 mX9_isBare 1 := ⟨(RX9, TX9, 11), rfl, rfl, by decide +kernel, by decide, List.forall_mem_cons.mpr ⟨tw_781, List.forall_mem_cons.mpr ⟨tw_782, List.forall_mem_cons.mpr ⟨tw_783, List.forall_mem_cons.mpr ⟨tw_117, List.forall_mem_cons.mpr ⟨tw_780, fun _ h => absurd h List.not_mem_nil⟩⟩⟩⟩⟩⟩
theorem tw_784 : (.code mX9_isEnd.1 mX9_isEnd.2.1 mX9_isEnd.2.2.1 mX9_isEnd.2.2.2 : Cond) ∈ tbG := mem_ix 864 (by decide +kernel) (by decide +kernel)
theorem tw_785 : (.methodLink RX9 98 yX9_isEnd : Cond) ∈ tbG := mem_ix 862 (by decide +kernel) (by decide +kernel)
theorem tw_786 : (.static yX9_isEnd : Cond) ∈ tbG := mem_ix 863 (by decide +kernel) (by decide +kernel)
theorem lk_X9_98 : sLink RX9 98 mX9_isEnd 1 := ⟨by decide +kernel, by decide, List.forall_mem_cons.mpr ⟨tw_785, List.forall_mem_cons.mpr ⟨tw_786, List.forall_mem_cons.mpr ⟨tw_117, List.forall_mem_cons.mpr ⟨tw_784, fun _ h => absurd h List.not_mem_nil⟩⟩⟩⟩⟩
theorem tw_787 : (.code mX9_putSail.1 mX9_putSail.2.1 mX9_putSail.2.2.1 mX9_putSail.2.2.2 : Cond) ∈ tbG := mem_ix 868 (by decide +kernel) (by decide +kernel)
theorem tw_788 : (.methodLink RX9 101 yX9_putSail : Cond) ∈ tbG := mem_ix 865 (by decide +kernel) (by decide +kernel)
theorem tw_789 : (.instanceMethod yX9_putSail : Cond) ∈ tbG := mem_ix 867 (by decide +kernel) (by decide +kernel)
theorem tw_790 : (.selects RX9 yX9_putSail yX9_putSail : Cond) ∈ tbG := mem_sx 35 (by decide +kernel) (by decide +kernel)
theorem lk_X9_101 : vLink RX9 101 8 mX9_putSail 3 := ⟨(RX9, TX9, 11), rfl, rfl, by decide +kernel, by decide, List.forall_mem_cons.mpr ⟨tw_788, List.forall_mem_cons.mpr ⟨tw_789, List.forall_mem_cons.mpr ⟨tw_790, List.forall_mem_cons.mpr ⟨tw_117, List.forall_mem_cons.mpr ⟨tw_787, fun _ h => absurd h List.not_mem_nil⟩⟩⟩⟩⟩⟩
theorem tw_791 : (.code mX9_isOpen.1 mX9_isOpen.2.1 mX9_isOpen.2.2.1 mX9_isOpen.2.2.2 : Cond) ∈ tbG := mem_ix 876 (by decide +kernel) (by decide +kernel)
theorem tw_792 : (.methodLink RX9 104 yX9_isOpen : Cond) ∈ tbG := mem_ix 873 (by decide +kernel) (by decide +kernel)
theorem tw_793 : (.instanceMethod yX9_isOpen : Cond) ∈ tbG := mem_ix 875 (by decide +kernel) (by decide +kernel)
theorem tw_794 : (.selects RX9 yX9_isOpen yX9_isOpen : Cond) ∈ tbG := mem_sx 36 (by decide +kernel) (by decide +kernel)
theorem lk_X9_104 : vLink RX9 104 8 mX9_isOpen 1 := ⟨(RX9, TX9, 11), rfl, rfl, by decide +kernel, by decide, List.forall_mem_cons.mpr ⟨tw_792, List.forall_mem_cons.mpr ⟨tw_793, List.forall_mem_cons.mpr ⟨tw_794, List.forall_mem_cons.mpr ⟨tw_117, List.forall_mem_cons.mpr ⟨tw_791, fun _ h => absurd h List.not_mem_nil⟩⟩⟩⟩⟩⟩
theorem tw_795 : (.code mX9_edgeAt.1 mX9_edgeAt.2.1 mX9_edgeAt.2.2.1 mX9_edgeAt.2.2.2 : Cond) ∈ tbG := mem_ix 892 (by decide +kernel) (by decide +kernel)
theorem tw_796 : (.methodLink RX9 107 yX9_edgeAt : Cond) ∈ tbG := mem_ix 889 (by decide +kernel) (by decide +kernel)
theorem tw_797 : (.instanceMethod yX9_edgeAt : Cond) ∈ tbG := mem_ix 891 (by decide +kernel) (by decide +kernel)
theorem tw_798 : (.selects RX9 yX9_edgeAt yX9_edgeAt : Cond) ∈ tbG := mem_sx 38 (by decide +kernel) (by decide +kernel)
theorem lk_X9_107 : vLink RX9 107 8 mX9_edgeAt 3 := ⟨(RX9, TX9, 11), rfl, rfl, by decide +kernel, by decide, List.forall_mem_cons.mpr ⟨tw_796, List.forall_mem_cons.mpr ⟨tw_797, List.forall_mem_cons.mpr ⟨tw_798, List.forall_mem_cons.mpr ⟨tw_117, List.forall_mem_cons.mpr ⟨tw_795, fun _ h => absurd h List.not_mem_nil⟩⟩⟩⟩⟩⟩
theorem tw_799 : (.code mX9_across.1 mX9_across.2.1 mX9_across.2.2.1 mX9_across.2.2.2 : Cond) ∈ tbG := mem_ix 900 (by decide +kernel) (by decide +kernel)
theorem tw_800 : (.methodLink RX9 111 yX9_across : Cond) ∈ tbG := mem_ix 897 (by decide +kernel) (by decide +kernel)
theorem tw_801 : (.instanceMethod yX9_across : Cond) ∈ tbG := mem_ix 899 (by decide +kernel) (by decide +kernel)
theorem tw_802 : (.selects RX9 yX9_across yX9_across : Cond) ∈ tbG := mem_sx 39 (by decide +kernel) (by decide +kernel)
theorem lk_X9_111 : vLink RX9 111 8 mX9_across 2 := ⟨(RX9, TX9, 11), rfl, rfl, by decide +kernel, by decide, List.forall_mem_cons.mpr ⟨tw_800, List.forall_mem_cons.mpr ⟨tw_801, List.forall_mem_cons.mpr ⟨tw_802, List.forall_mem_cons.mpr ⟨tw_117, List.forall_mem_cons.mpr ⟨tw_799, fun _ h => absurd h List.not_mem_nil⟩⟩⟩⟩⟩⟩
theorem tw_803 : (.code mX9_strip.1 mX9_strip.2.1 mX9_strip.2.2.1 mX9_strip.2.2.2 : Cond) ∈ tbG := mem_ix 924 (by decide +kernel) (by decide +kernel)
theorem tw_804 : (.methodLink RX9 114 yX9_strip : Cond) ∈ tbG := mem_ix 921 (by decide +kernel) (by decide +kernel)
theorem tw_805 : (.instanceMethod yX9_strip : Cond) ∈ tbG := mem_ix 923 (by decide +kernel) (by decide +kernel)
theorem tw_806 : (.selects RX9 yX9_strip yX9_strip : Cond) ∈ tbG := mem_sx 42 (by decide +kernel) (by decide +kernel)
theorem lk_X9_114 : vLink RX9 114 8 mX9_strip 2 := ⟨(RX9, TX9, 11), rfl, rfl, by decide +kernel, by decide, List.forall_mem_cons.mpr ⟨tw_804, List.forall_mem_cons.mpr ⟨tw_805, List.forall_mem_cons.mpr ⟨tw_806, List.forall_mem_cons.mpr ⟨tw_117, List.forall_mem_cons.mpr ⟨tw_803, fun _ h => absurd h List.not_mem_nil⟩⟩⟩⟩⟩⟩
theorem tw_807 : (.code mX9_isPanel.1 mX9_isPanel.2.1 mX9_isPanel.2.2.1 mX9_isPanel.2.2.2 : Cond) ∈ tbG := mem_ix 936 (by decide +kernel) (by decide +kernel)
theorem tw_808 : (.methodLink RX9 117 yX9_isPanel : Cond) ∈ tbG := mem_ix 933 (by decide +kernel) (by decide +kernel)
theorem tw_809 : (.instanceMethod yX9_isPanel : Cond) ∈ tbG := mem_ix 935 (by decide +kernel) (by decide +kernel)
theorem tw_810 : (.selects RX9 yX9_isPanel yX9_isPanel : Cond) ∈ tbG := mem_sx 45 (by decide +kernel) (by decide +kernel)
theorem lk_X9_117 : vLink RX9 117 8 mX9_isPanel 2 := ⟨(RX9, TX9, 11), rfl, rfl, by decide +kernel, by decide, List.forall_mem_cons.mpr ⟨tw_808, List.forall_mem_cons.mpr ⟨tw_809, List.forall_mem_cons.mpr ⟨tw_810, List.forall_mem_cons.mpr ⟨tw_117, List.forall_mem_cons.mpr ⟨tw_807, fun _ h => absurd h List.not_mem_nil⟩⟩⟩⟩⟩⟩
theorem tw_811 : (.code mX9_high.1 mX9_high.2.1 mX9_high.2.2.1 mX9_high.2.2.2 : Cond) ∈ tbG := mem_ix 944 (by decide +kernel) (by decide +kernel)
theorem tw_812 : (.methodLink RX9 121 yX9_high : Cond) ∈ tbG := mem_ix 941 (by decide +kernel) (by decide +kernel)
theorem tw_813 : (.instanceMethod yX9_high : Cond) ∈ tbG := mem_ix 943 (by decide +kernel) (by decide +kernel)
theorem tw_814 : (.selects RX9 yX9_high yX9_high : Cond) ∈ tbG := mem_sx 47 (by decide +kernel) (by decide +kernel)
theorem lk_X9_121 : vLink RX9 121 8 mX9_high 2 := ⟨(RX9, TX9, 11), rfl, rfl, by decide +kernel, by decide, List.forall_mem_cons.mpr ⟨tw_812, List.forall_mem_cons.mpr ⟨tw_813, List.forall_mem_cons.mpr ⟨tw_814, List.forall_mem_cons.mpr ⟨tw_117, List.forall_mem_cons.mpr ⟨tw_811, fun _ h => absurd h List.not_mem_nil⟩⟩⟩⟩⟩⟩
theorem tw_815 : (.code mX9_low.1 mX9_low.2.1 mX9_low.2.2.1 mX9_low.2.2.2 : Cond) ∈ tbG := mem_ix 940 (by decide +kernel) (by decide +kernel)
theorem tw_816 : (.methodLink RX9 124 yX9_low : Cond) ∈ tbG := mem_ix 937 (by decide +kernel) (by decide +kernel)
theorem tw_817 : (.instanceMethod yX9_low : Cond) ∈ tbG := mem_ix 939 (by decide +kernel) (by decide +kernel)
theorem tw_818 : (.selects RX9 yX9_low yX9_low : Cond) ∈ tbG := mem_sx 46 (by decide +kernel) (by decide +kernel)
theorem lk_X9_124 : vLink RX9 124 8 mX9_low 2 := ⟨(RX9, TX9, 11), rfl, rfl, by decide +kernel, by decide, List.forall_mem_cons.mpr ⟨tw_816, List.forall_mem_cons.mpr ⟨tw_817, List.forall_mem_cons.mpr ⟨tw_818, List.forall_mem_cons.mpr ⟨tw_117, List.forall_mem_cons.mpr ⟨tw_815, fun _ h => absurd h List.not_mem_nil⟩⟩⟩⟩⟩⟩
theorem tw_819 : (.methodLink RX9 127 Lib.Math.max.name : Cond) ∈ tbG := mem_ix 954 (by decide +kernel) (by decide +kernel)
theorem lk_X9_127 : ∀ w ∈ ([.methodLink RX9 127 Lib.Math.max.name, .static Lib.Math.max.name, .initialized "java/lang/Math", .code Lib.Math.max.name Lib.Math.max.code 2 (some .int)] : List Cond), w ∈ tbG := List.forall_mem_cons.mpr ⟨tw_819, List.forall_mem_cons.mpr ⟨tw_406, List.forall_mem_cons.mpr ⟨tw_407, List.forall_mem_cons.mpr ⟨tw_408, fun _ h => absurd h List.not_mem_nil⟩⟩⟩⟩
theorem tw_820 : (.code mX9_strips.1 mX9_strips.2.1 mX9_strips.2.2.1 mX9_strips.2.2.2 : Cond) ∈ tbG := mem_ix 920 (by decide +kernel) (by decide +kernel)
theorem tw_821 : (.methodLink RX9 130 yX9_strips : Cond) ∈ tbG := mem_ix 917 (by decide +kernel) (by decide +kernel)
theorem tw_822 : (.instanceMethod yX9_strips : Cond) ∈ tbG := mem_ix 919 (by decide +kernel) (by decide +kernel)
theorem tw_823 : (.selects RX9 yX9_strips yX9_strips : Cond) ∈ tbG := mem_sx 41 (by decide +kernel) (by decide +kernel)
theorem lk_X9_130 : vLink RX9 130 8 mX9_strips 3 := ⟨(RX9, TX9, 11), rfl, rfl, by decide +kernel, by decide, List.forall_mem_cons.mpr ⟨tw_821, List.forall_mem_cons.mpr ⟨tw_822, List.forall_mem_cons.mpr ⟨tw_823, List.forall_mem_cons.mpr ⟨tw_117, List.forall_mem_cons.mpr ⟨tw_820, fun _ h => absurd h List.not_mem_nil⟩⟩⟩⟩⟩⟩
theorem tw_824 : (.code mX9_area.1 mX9_area.2.1 mX9_area.2.2.1 mX9_area.2.2.2 : Cond) ∈ tbG := mem_ix 932 (by decide +kernel) (by decide +kernel)
theorem tw_825 : (.methodLink RX9 133 yX9_area : Cond) ∈ tbG := mem_ix 929 (by decide +kernel) (by decide +kernel)
theorem tw_826 : (.instanceMethod yX9_area : Cond) ∈ tbG := mem_ix 931 (by decide +kernel) (by decide +kernel)
theorem tw_827 : (.selects RX9 yX9_area yX9_area : Cond) ∈ tbG := mem_sx 44 (by decide +kernel) (by decide +kernel)
theorem lk_X9_133 : vLink RX9 133 8 mX9_area 2 := ⟨(RX9, TX9, 11), rfl, rfl, by decide +kernel, by decide, List.forall_mem_cons.mpr ⟨tw_825, List.forall_mem_cons.mpr ⟨tw_826, List.forall_mem_cons.mpr ⟨tw_827, List.forall_mem_cons.mpr ⟨tw_117, List.forall_mem_cons.mpr ⟨tw_824, fun _ h => absurd h List.not_mem_nil⟩⟩⟩⟩⟩⟩
theorem tw_828 : (.code mX9_isCut.1 mX9_isCut.2.1 mX9_isCut.2.2.1 mX9_isCut.2.2.2 : Cond) ∈ tbG := mem_ix 908 (by decide +kernel) (by decide +kernel)
theorem tw_829 : (.methodLink RX9 137 yX9_isCut : Cond) ∈ tbG := mem_ix 905 (by decide +kernel) (by decide +kernel)
theorem tw_830 : (.instanceMethod yX9_isCut : Cond) ∈ tbG := mem_ix 907 (by decide +kernel) (by decide +kernel)
theorem tw_831 : (.selects RX9 yX9_isCut yX9_isCut : Cond) ∈ tbG := mem_sx 40 (by decide +kernel) (by decide +kernel)
theorem lk_X9_137 : vLink RX9 137 8 mX9_isCut 1 := ⟨(RX9, TX9, 11), rfl, rfl, by decide +kernel, by decide, List.forall_mem_cons.mpr ⟨tw_829, List.forall_mem_cons.mpr ⟨tw_830, List.forall_mem_cons.mpr ⟨tw_831, List.forall_mem_cons.mpr ⟨tw_117, List.forall_mem_cons.mpr ⟨tw_828, fun _ h => absurd h List.not_mem_nil⟩⟩⟩⟩⟩⟩
theorem tw_832 : (.code mX9_weight.1 mX9_weight.2.1 mX9_weight.2.2.1 mX9_weight.2.2.2 : Cond) ∈ tbG := mem_ix 928 (by decide +kernel) (by decide +kernel)
theorem tw_833 : (.methodLink RX9 140 yX9_weight : Cond) ∈ tbG := mem_ix 925 (by decide +kernel) (by decide +kernel)
theorem tw_834 : (.instanceMethod yX9_weight : Cond) ∈ tbG := mem_ix 927 (by decide +kernel) (by decide +kernel)
theorem tw_835 : (.selects RX9 yX9_weight yX9_weight : Cond) ∈ tbG := mem_sx 43 (by decide +kernel) (by decide +kernel)
theorem lk_X9_140 : vLink RX9 140 8 mX9_weight 2 := ⟨(RX9, TX9, 11), rfl, rfl, by decide +kernel, by decide, List.forall_mem_cons.mpr ⟨tw_833, List.forall_mem_cons.mpr ⟨tw_834, List.forall_mem_cons.mpr ⟨tw_835, List.forall_mem_cons.mpr ⟨tw_117, List.forall_mem_cons.mpr ⟨tw_832, fun _ h => absurd h List.not_mem_nil⟩⟩⟩⟩⟩⟩
theorem tw_836 : (.code mX9_breadth.1 mX9_breadth.2.1 mX9_breadth.2.2.1 mX9_breadth.2.2.2 : Cond) ∈ tbG := mem_ix 958 (by decide +kernel) (by decide +kernel)
theorem tw_837 : (.methodLink RX9 143 yX9_breadth : Cond) ∈ tbG := mem_ix 955 (by decide +kernel) (by decide +kernel)
theorem tw_838 : (.instanceMethod yX9_breadth : Cond) ∈ tbG := mem_ix 957 (by decide +kernel) (by decide +kernel)
theorem tw_839 : (.selects RX9 yX9_breadth yX9_breadth : Cond) ∈ tbG := mem_sx 49 (by decide +kernel) (by decide +kernel)
theorem lk_X9_143 : vLink RX9 143 8 mX9_breadth 2 := ⟨(RX9, TX9, 11), rfl, rfl, by decide +kernel, by decide, List.forall_mem_cons.mpr ⟨tw_837, List.forall_mem_cons.mpr ⟨tw_838, List.forall_mem_cons.mpr ⟨tw_839, List.forall_mem_cons.mpr ⟨tw_117, List.forall_mem_cons.mpr ⟨tw_836, fun _ h => absurd h List.not_mem_nil⟩⟩⟩⟩⟩⟩
theorem tw_840 : (.methodLink RX9 146 yX9_worn : Cond) ∈ tbG := mem_ix 975 (by decide +kernel) (by decide +kernel)
theorem lk_X9_146 : vLink RX9 146 8 mX9_worn 2 := ⟨(RX9, TX9, 11), rfl, rfl, by decide +kernel, by decide, List.forall_mem_cons.mpr ⟨tw_840, List.forall_mem_cons.mpr ⟨tw_150, List.forall_mem_cons.mpr ⟨tw_151, List.forall_mem_cons.mpr ⟨tw_117, List.forall_mem_cons.mpr ⟨tw_148, fun _ h => absurd h List.not_mem_nil⟩⟩⟩⟩⟩⟩
theorem tw_841 : (.code mX9_lies.1 mX9_lies.2.1 mX9_lies.2.2.1 mX9_lies.2.2.2 : Cond) ∈ tbG := mem_ix 979 (by decide +kernel) (by decide +kernel)
theorem tw_842 : (.methodLink RX9 149 yX9_lies : Cond) ∈ tbG := mem_ix 976 (by decide +kernel) (by decide +kernel)
theorem tw_843 : (.instanceMethod yX9_lies : Cond) ∈ tbG := mem_ix 978 (by decide +kernel) (by decide +kernel)
theorem tw_844 : (.selects RX9 yX9_lies yX9_lies : Cond) ∈ tbG := mem_sx 52 (by decide +kernel) (by decide +kernel)
theorem lk_X9_149 : vLink RX9 149 8 mX9_lies 2 := ⟨(RX9, TX9, 11), rfl, rfl, by decide +kernel, by decide, List.forall_mem_cons.mpr ⟨tw_842, List.forall_mem_cons.mpr ⟨tw_843, List.forall_mem_cons.mpr ⟨tw_844, List.forall_mem_cons.mpr ⟨tw_117, List.forall_mem_cons.mpr ⟨tw_841, fun _ h => absurd h List.not_mem_nil⟩⟩⟩⟩⟩⟩
theorem tw_845 : (.code mX9_isPiece.1 mX9_isPiece.2.1 mX9_isPiece.2.2.1 mX9_isPiece.2.2.2 : Cond) ∈ tbG := mem_ix 970 (by decide +kernel) (by decide +kernel)
theorem tw_846 : (.methodLink RX9 152 yX9_isPiece : Cond) ∈ tbG := mem_ix 967 (by decide +kernel) (by decide +kernel)
theorem tw_847 : (.instanceMethod yX9_isPiece : Cond) ∈ tbG := mem_ix 969 (by decide +kernel) (by decide +kernel)
theorem tw_848 : (.selects RX9 yX9_isPiece yX9_isPiece : Cond) ∈ tbG := mem_sx 50 (by decide +kernel) (by decide +kernel)
theorem lk_X9_152 : vLink RX9 152 8 mX9_isPiece 2 := ⟨(RX9, TX9, 11), rfl, rfl, by decide +kernel, by decide, List.forall_mem_cons.mpr ⟨tw_846, List.forall_mem_cons.mpr ⟨tw_847, List.forall_mem_cons.mpr ⟨tw_848, List.forall_mem_cons.mpr ⟨tw_117, List.forall_mem_cons.mpr ⟨tw_845, fun _ h => absurd h List.not_mem_nil⟩⟩⟩⟩⟩⟩
theorem tw_849 : (.code mX9_takes.1 mX9_takes.2.1 mX9_takes.2.2.1 mX9_takes.2.2.2 : Cond) ∈ tbG := mem_ix 974 (by decide +kernel) (by decide +kernel)
theorem tw_850 : (.methodLink RX9 155 yX9_takes : Cond) ∈ tbG := mem_ix 971 (by decide +kernel) (by decide +kernel)
theorem tw_851 : (.instanceMethod yX9_takes : Cond) ∈ tbG := mem_ix 973 (by decide +kernel) (by decide +kernel)
theorem tw_852 : (.selects RX9 yX9_takes yX9_takes : Cond) ∈ tbG := mem_sx 51 (by decide +kernel) (by decide +kernel)
theorem lk_X9_155 : vLink RX9 155 8 mX9_takes 5 := ⟨(RX9, TX9, 11), rfl, rfl, by decide +kernel, by decide, List.forall_mem_cons.mpr ⟨tw_850, List.forall_mem_cons.mpr ⟨tw_851, List.forall_mem_cons.mpr ⟨tw_852, List.forall_mem_cons.mpr ⟨tw_117, List.forall_mem_cons.mpr ⟨tw_849, fun _ h => absurd h List.not_mem_nil⟩⟩⟩⟩⟩⟩
theorem tw_853 : (.code mX9_put.1 mX9_put.2.1 mX9_put.2.2.1 mX9_put.2.2.2 : Cond) ∈ tbG := mem_ix 983 (by decide +kernel) (by decide +kernel)
theorem tw_854 : (.methodLink RX9 159 yX9_put : Cond) ∈ tbG := mem_ix 980 (by decide +kernel) (by decide +kernel)
theorem tw_855 : (.instanceMethod yX9_put : Cond) ∈ tbG := mem_ix 982 (by decide +kernel) (by decide +kernel)
theorem tw_856 : (.selects RX9 yX9_put yX9_put : Cond) ∈ tbG := mem_sx 53 (by decide +kernel) (by decide +kernel)
theorem lk_X9_159 : vLink RX9 159 8 mX9_put 4 := ⟨(RX9, TX9, 11), rfl, rfl, by decide +kernel, by decide, List.forall_mem_cons.mpr ⟨tw_854, List.forall_mem_cons.mpr ⟨tw_855, List.forall_mem_cons.mpr ⟨tw_856, List.forall_mem_cons.mpr ⟨tw_117, List.forall_mem_cons.mpr ⟨tw_853, fun _ h => absurd h List.not_mem_nil⟩⟩⟩⟩⟩⟩
theorem tw_857 : (.code mX9_firstPlace.1 mX9_firstPlace.2.1 mX9_firstPlace.2.2.1 mX9_firstPlace.2.2.2 : Cond) ∈ tbG := mem_ix 1003 (by decide +kernel) (by decide +kernel)
theorem tw_858 : (.methodLink RX9 163 yX9_firstPlace : Cond) ∈ tbG := mem_ix 1000 (by decide +kernel) (by decide +kernel)
theorem tw_859 : (.instanceMethod yX9_firstPlace : Cond) ∈ tbG := mem_ix 1002 (by decide +kernel) (by decide +kernel)
theorem tw_860 : (.selects RX9 yX9_firstPlace yX9_firstPlace : Cond) ∈ tbG := mem_sx 54 (by decide +kernel) (by decide +kernel)
theorem lk_X9_163 : vLink RX9 163 8 mX9_firstPlace 4 := ⟨(RX9, TX9, 11), rfl, rfl, by decide +kernel, by decide, List.forall_mem_cons.mpr ⟨tw_858, List.forall_mem_cons.mpr ⟨tw_859, List.forall_mem_cons.mpr ⟨tw_860, List.forall_mem_cons.mpr ⟨tw_117, List.forall_mem_cons.mpr ⟨tw_857, fun _ h => absurd h List.not_mem_nil⟩⟩⟩⟩⟩⟩
theorem tw_861 : (.code mX9_fits.1 mX9_fits.2.1 mX9_fits.2.2.1 mX9_fits.2.2.2 : Cond) ∈ tbG := mem_ix 1011 (by decide +kernel) (by decide +kernel)
theorem tw_862 : (.methodLink RX9 166 yX9_fits : Cond) ∈ tbG := mem_ix 1008 (by decide +kernel) (by decide +kernel)
theorem tw_863 : (.instanceMethod yX9_fits : Cond) ∈ tbG := mem_ix 1010 (by decide +kernel) (by decide +kernel)
theorem tw_864 : (.selects RX9 yX9_fits yX9_fits : Cond) ∈ tbG := mem_sx 55 (by decide +kernel) (by decide +kernel)
theorem lk_X9_166 : vLink RX9 166 8 mX9_fits 4 := ⟨(RX9, TX9, 11), rfl, rfl, by decide +kernel, by decide, List.forall_mem_cons.mpr ⟨tw_862, List.forall_mem_cons.mpr ⟨tw_863, List.forall_mem_cons.mpr ⟨tw_864, List.forall_mem_cons.mpr ⟨tw_117, List.forall_mem_cons.mpr ⟨tw_861, fun _ h => absurd h List.not_mem_nil⟩⟩⟩⟩⟩⟩
theorem tw_865 : (.code mX9_pushAt.1 mX9_pushAt.2.1 mX9_pushAt.2.2.1 mX9_pushAt.2.2.2 : Cond) ∈ tbG := mem_ix 1043 (by decide +kernel) (by decide +kernel)
theorem tw_866 : (.methodLink RX9 170 yX9_pushAt : Cond) ∈ tbG := mem_ix 1040 (by decide +kernel) (by decide +kernel)
theorem tw_867 : (.instanceMethod yX9_pushAt : Cond) ∈ tbG := mem_ix 1042 (by decide +kernel) (by decide +kernel)
theorem tw_868 : (.selects RX9 yX9_pushAt yX9_pushAt : Cond) ∈ tbG := mem_sx 57 (by decide +kernel) (by decide +kernel)
theorem lk_X9_170 : vLink RX9 170 8 mX9_pushAt 1 := ⟨(RX9, TX9, 11), rfl, rfl, by decide +kernel, by decide, List.forall_mem_cons.mpr ⟨tw_866, List.forall_mem_cons.mpr ⟨tw_867, List.forall_mem_cons.mpr ⟨tw_868, List.forall_mem_cons.mpr ⟨tw_117, List.forall_mem_cons.mpr ⟨tw_865, fun _ h => absurd h List.not_mem_nil⟩⟩⟩⟩⟩⟩
theorem tw_869 : (.code mX9_asTheyAre.1 mX9_asTheyAre.2.1 mX9_asTheyAre.2.2.1 mX9_asTheyAre.2.2.2 : Cond) ∈ tbG := mem_ix 1039 (by decide +kernel) (by decide +kernel)
theorem tw_870 : (.methodLink RX9 176 yX9_asTheyAre : Cond) ∈ tbG := mem_ix 1036 (by decide +kernel) (by decide +kernel)
theorem tw_871 : (.instanceMethod yX9_asTheyAre : Cond) ∈ tbG := mem_ix 1038 (by decide +kernel) (by decide +kernel)
theorem tw_872 : (.selects RX9 yX9_asTheyAre yX9_asTheyAre : Cond) ∈ tbG := mem_sx 56 (by decide +kernel) (by decide +kernel)
theorem lk_X9_176 : vLink RX9 176 8 mX9_asTheyAre 0 := ⟨(RX9, TX9, 11), rfl, rfl, by decide +kernel, by decide, List.forall_mem_cons.mpr ⟨tw_870, List.forall_mem_cons.mpr ⟨tw_871, List.forall_mem_cons.mpr ⟨tw_872, List.forall_mem_cons.mpr ⟨tw_117, List.forall_mem_cons.mpr ⟨tw_869, fun _ h => absurd h List.not_mem_nil⟩⟩⟩⟩⟩⟩
theorem tw_873 : (.code mX9_firstBreak.1 mX9_firstBreak.2.1 mX9_firstBreak.2.2.1 mX9_firstBreak.2.2.2 : Cond) ∈ tbG := mem_ix 1052 (by decide +kernel) (by decide +kernel)
theorem tw_874 : (.methodLink RX9 181 yX9_firstBreak : Cond) ∈ tbG := mem_ix 1049 (by decide +kernel) (by decide +kernel)
theorem tw_875 : (.instanceMethod yX9_firstBreak : Cond) ∈ tbG := mem_ix 1051 (by decide +kernel) (by decide +kernel)
theorem tw_876 : (.selects RX9 yX9_firstBreak yX9_firstBreak : Cond) ∈ tbG := mem_sx 58 (by decide +kernel) (by decide +kernel)
theorem lk_X9_181 : vLink RX9 181 8 mX9_firstBreak 0 := ⟨(RX9, TX9, 11), rfl, rfl, by decide +kernel, by decide, List.forall_mem_cons.mpr ⟨tw_874, List.forall_mem_cons.mpr ⟨tw_875, List.forall_mem_cons.mpr ⟨tw_876, List.forall_mem_cons.mpr ⟨tw_117, List.forall_mem_cons.mpr ⟨tw_873, fun _ h => absurd h List.not_mem_nil⟩⟩⟩⟩⟩⟩
theorem lk_X2_11 : snLink RX2 11 mX8_isWithin 3 RX8 := ⟨by decide +kernel, by decide, by decide +kernel, List.forall_mem_cons.mpr ⟨tw_501, List.forall_mem_cons.mpr ⟨tw_113, List.forall_mem_cons.mpr ⟨tw_499, fun _ h => absurd h List.not_mem_nil⟩⟩⟩⟩
theorem tw_877 : (.code mX3_init.1 mX3_init.2.1 mX3_init.2.2.1 mX3_init.2.2.2 : Cond) ∈ tbG := mem_ix 571 (by decide +kernel) (by decide +kernel)
theorem tw_878 : (.instanceMethod yX3_init : Cond) ∈ tbG := mem_ix 570 (by decide +kernel) (by decide +kernel)
theorem lk_X8_271 : inLink RX8 271 mX3_init 0 RX8 := ⟨by decide +kernel, by decide, rfl, rfl, by decide +kernel, List.forall_mem_cons.mpr ⟨tw_878, List.forall_mem_cons.mpr ⟨tw_415, List.forall_mem_cons.mpr ⟨tw_877, fun _ h => absurd h List.not_mem_nil⟩⟩⟩⟩
theorem tw_879 : (.code mX1_init.1 mX1_init.2.1 mX1_init.2.2.1 mX1_init.2.2.2 : Cond) ∈ tbG := mem_ix 108 (by decide +kernel) (by decide +kernel)
theorem tw_880 : (.instanceMethod yX1_init : Cond) ∈ tbG := mem_ix 107 (by decide +kernel) (by decide +kernel)
theorem lk_X8_369 : inLink RX8 369 mX1_init 0 RX8 := ⟨by decide +kernel, by decide, rfl, rfl, by decide +kernel, List.forall_mem_cons.mpr ⟨tw_880, List.forall_mem_cons.mpr ⟨tw_385, List.forall_mem_cons.mpr ⟨tw_879, fun _ h => absurd h List.not_mem_nil⟩⟩⟩⟩
theorem tw_881 : (.classLink RL 7 RX8 : Cond) ∈ tbG := mem_ix 14 (by decide +kernel) (by decide +kernel)
theorem ck_L_7 : Cond.classLink RL 7 RX8 ∈ tbG := tw_881
theorem tw_882 : (.classLink RL 10 RX9 : Cond) ∈ tbG := mem_ix 755 (by decide +kernel) (by decide +kernel)
theorem ck_L_10 : Cond.classLink RL 10 RX9 ∈ tbG := tw_882
theorem tw_883 : (.classLink RX5 73 RX4 : Cond) ∈ tbG := mem_ix 383 (by decide +kernel) (by decide +kernel)
theorem ck_X5_73 : Cond.classLink RX5 73 RX4 ∈ tbG := tw_883
theorem tw_884 : (.classLink RX8 9 RX1 : Cond) ∈ tbG := mem_ix 22 (by decide +kernel) (by decide +kernel)
theorem ck_X8_9 : Cond.classLink RX8 9 RX1 ∈ tbG := tw_884
theorem tw_885 : (.classLink RX8 19 RX5 : Cond) ∈ tbG := mem_ix 24 (by decide +kernel) (by decide +kernel)
theorem ck_X8_19 : Cond.classLink RX8 19 RX5 ∈ tbG := tw_885
theorem tw_886 : (.classLink RX8 28 RX7 : Cond) ∈ tbG := mem_ix 26 (by decide +kernel) (by decide +kernel)
theorem ck_X8_28 : Cond.classLink RX8 28 RX7 ∈ tbG := tw_886
theorem tw_887 : (.classLink RX8 35 RX0 : Cond) ∈ tbG := mem_ix 50 (by decide +kernel) (by decide +kernel)
theorem ck_X8_35 : Cond.classLink RX8 35 RX0 ∈ tbG := tw_887
theorem tw_888 : (.classLink RX8 113 RX6 : Cond) ∈ tbG := mem_ix 248 (by decide +kernel) (by decide +kernel)
theorem ck_X8_113 : Cond.classLink RX8 113 RX6 ∈ tbG := tw_888
theorem tw_889 : (.classLink RX8 269 RX3 : Cond) ∈ tbG := mem_ix 567 (by decide +kernel) (by decide +kernel)
theorem ck_X8_269 : Cond.classLink RX8 269 RX3 ∈ tbG := tw_889
theorem tw_890 : (.constant RX2 9 (-2147483648) : Cond) ∈ tbG := mem_ix 90 (by decide +kernel) (by decide +kernel)
theorem kk_X2_9 : Cond.constant RX2 9 (-2147483648) ∈ tbG := tw_890
theorem tw_891 : (.constant RX2 10 (1148846080) : Cond) ∈ tbG := mem_ix 91 (by decide +kernel) (by decide +kernel)
theorem kk_X2_10 : Cond.constant RX2 10 (1148846080) ∈ tbG := tw_891
theorem tw_892 : (.constant RX2 17 (8388607) : Cond) ∈ tbG := mem_ix 96 (by decide +kernel) (by decide +kernel)
theorem kk_X2_17 : Cond.constant RX2 17 (8388607) ∈ tbG := tw_892
theorem tw_893 : (.constant RX2 18 (8388608) : Cond) ∈ tbG := mem_ix 97 (by decide +kernel) (by decide +kernel)
theorem kk_X2_18 : Cond.constant RX2 18 (8388608) ∈ tbG := tw_893
theorem tw_894 : (.constant RX7 22 (2000000000) : Cond) ∈ tbG := mem_ix 32 (by decide +kernel) (by decide +kernel)
theorem kk_X7_22 : Cond.constant RX7 22 (2000000000) ∈ tbG := tw_894
theorem tw_895 : (.constantLong RX7 68 (4) : Cond) ∈ tbG := mem_ix 696 (by decide +kernel) (by decide +kernel)
theorem kk_X7_68 : Cond.constantLong RX7 68 (4) ∈ tbG := tw_895
theorem tw_896 : (.constant RX8 293 (2000000000) : Cond) ∈ tbG := mem_ix 629 (by decide +kernel) (by decide +kernel)
theorem kk_X8_293 : Cond.constant RX8 293 (2000000000) ∈ tbG := tw_896
theorem tw_897 : (.constantLong RX8 303 (-1) : Cond) ∈ tbG := mem_ix 658 (by decide +kernel) (by decide +kernel)
theorem kk_X8_303 : Cond.constantLong RX8 303 (-1) ∈ tbG := tw_897
theorem tw_898 : (.constant RX8 382 (1000000) : Cond) ∈ tbG := mem_ix 474 (by decide +kernel) (by decide +kernel)
theorem kk_X8_382 : Cond.constant RX8 382 (1000000) ∈ tbG := tw_898
theorem tw_899 : (.constant RX9 13 (144000) : Cond) ∈ tbG := mem_ix 761 (by decide +kernel) (by decide +kernel)
theorem kk_X9_13 : Cond.constant RX9 13 (144000) ∈ tbG := tw_899
theorem tw_900 : (.constant RX9 39 (2000000000) : Cond) ∈ tbG := mem_ix 762 (by decide +kernel) (by decide +kernel)
theorem kk_X9_39 : Cond.constant RX9 39 (2000000000) ∈ tbG := tw_900
theorem tw_901 : (.constantFloat RX9 74 (1148846080) : Cond) ∈ tbG := mem_ix 812 (by decide +kernel) (by decide +kernel)
theorem kk_X9_74 : Cond.constantFloat RX9 74 (1148846080) ∈ tbG := tw_901
theorem tw_902 : (.constant RX9 136 (1000000) : Cond) ∈ tbG := mem_ix 945 (by decide +kernel) (by decide +kernel)
theorem kk_X9_136 : Cond.constant RX9 136 (1000000) ∈ tbG := tw_902
theorem tw_903 : (.constantLong RX9 174 (4) : Cond) ∈ tbG := mem_ix 1053 (by decide +kernel) (by decide +kernel)
theorem kk_X9_174 : Cond.constantLong RX9 174 (4) ∈ tbG := tw_903
theorem tw_904 : (.constantLong RX9 179 (-1) : Cond) ∈ tbG := mem_ix 1044 (by decide +kernel) (by decide +kernel)
theorem kk_X9_179 : Cond.constantLong RX9 179 (-1) ∈ tbG := tw_904
theorem ak_20 : Cond.arrayClass (elt 20) ∈ tbG := mem_tb (by decide +kernel)
theorem ak_21 : Cond.arrayClass (elt 21) ∈ tbG := mem_tb (by decide +kernel)
theorem ak_22 : Cond.arrayClass (elt 22) ∈ tbG := mem_tb (by decide +kernel)
theorem ak_23 : Cond.arrayClass (elt 23) ∈ tbG := mem_tb (by decide +kernel)
theorem ak_24 : Cond.arrayClass (elt 24) ∈ tbG := mem_tb (by decide +kernel)
