section
/-- a word that the tables have and that may be handed on -/
noncomputable def lw_in (w : Cond) : Prop := w ∈ lw_tbl ∧ ((w.onTables && w.keeps) = true ∨ ∃ ty, w = .arrayClass ty)
theorem lw_t {w : Cond} (h : w ∈ tables_1) : w ∈ lw_tbl := List.mem_append_right _ h
theorem gi_nil {big : List Cond} : GoodIn big [] := fun _ h => absurd h List.not_mem_nil
theorem gi_cons {w : Cond} {l : List Cond} (h : lw_in w) (hl : GoodIn lw_tbl l) : GoodIn lw_tbl (w :: l) := fun z hz => (List.mem_cons.mp hz).elim (fun e => by subst e; exact h) (hl z)
set_option maxRecDepth 100000 in
theorem dw_0 : lw_in (Cond.code yX10_feed cX10_feed 6 (some .int)) := ⟨lw_t (tm_2 (List.mem_of_getElem? (i := 230) rfl)), good_of_word (by decide +kernel)⟩
theorem dw_1 : lw_in (Cond.selects RX7 yX7_addFour yX7_addFour) := ⟨List.mem_of_getElem? (i := 9) rfl, good_of_word (by decide +kernel)⟩
theorem dw_2 : lw_in (Cond.instanceMethod yX7_addFour) := ⟨lw_t (tm_2 (List.mem_of_getElem? (i := 237) rfl)), good_of_word (by decide +kernel)⟩
theorem dw_3 : lw_in (Cond.selects RX7 yX7_hasRoomFor yX7_hasRoomFor) := ⟨List.mem_of_getElem? (i := 8) rfl, good_of_word (by decide +kernel)⟩
theorem dw_4 : lw_in (Cond.initialized RX7) := ⟨lw_t (tm_1 (List.mem_of_getElem? (i := 2) rfl)), good_of_word (by decide +kernel)⟩
theorem dw_5 : lw_in (Cond.instanceMethod yX7_hasRoomFor) := ⟨lw_t (tm_2 (List.mem_of_getElem? (i := 233) rfl)), good_of_word (by decide +kernel)⟩
theorem dw_6 : lw_in (Cond.fieldLink RX10 10 "GuessFerry" "tape" "LGuessFerry$Tape;") := ⟨lw_t (tm_2 (List.mem_of_getElem? (i := 199) rfl)), good_of_word (by decide +kernel)⟩
set_option maxRecDepth 100000 in
theorem dw_7 : lw_in (Cond.code yX7_hasRoomFor cX7_hasRoomFor 2 (some .boolean)) := ⟨lw_t (tm_2 (List.mem_of_getElem? (i := 234) rfl)), good_of_word (by decide +kernel)⟩
theorem dw_8 : lw_in (Cond.fieldLink RX7 15 "GuessFerry$Tape" "length" "I") := ⟨lw_t (tm_1 (List.mem_of_getElem? (i := 37) rfl)), good_of_word (by decide +kernel)⟩
theorem dw_9 : lw_in (Cond.fieldLink RX7 9 "GuessFerry$Tape" "bytes" "[B") := ⟨lw_t (tm_1 (List.mem_of_getElem? (i := 36) rfl)), good_of_word (by decide +kernel)⟩
set_option maxRecDepth 100000 in
theorem dw_10 : lw_in (Cond.code yX7_addFour cX7_addFour 3 none) := ⟨lw_t (tm_2 (List.mem_of_getElem? (i := 238) rfl)), good_of_word (by decide +kernel)⟩
theorem dw_11 : lw_in (Cond.initialized RX10) := ⟨lw_t (tm_1 (List.mem_of_getElem? (i := 1) rfl)), good_of_word (by decide +kernel)⟩
theorem dw_12 : lw_in (Cond.selects RX10 yX10_feed yX10_feed) := ⟨lw_t (tm_2 (List.mem_of_getElem? (i := 229) rfl)), good_of_word (by decide +kernel)⟩
theorem dw_13 : lw_in (Cond.instanceMethod yX10_feed) := ⟨lw_t (tm_2 (List.mem_of_getElem? (i := 228) rfl)), good_of_word (by decide +kernel)⟩
theorem dw_14 : lw_in (Cond.methodLink R_law 13 yX10_feed) := ⟨lw_t (tm_2 (List.mem_of_getElem? (i := 227) rfl)), good_of_word (by decide +kernel)⟩
set_option maxRecDepth 100000 in
theorem dw_15 : lw_in (Cond.code yX11_feed cX11_feed 6 (some .int)) := ⟨lw_t (tm_6 (List.mem_of_getElem? (i := 173) rfl)), good_of_word (by decide +kernel)⟩
theorem dw_16 : lw_in (Cond.initialized RX11) := ⟨lw_t (tm_1 (List.mem_of_getElem? (i := 17) rfl)), good_of_word (by decide +kernel)⟩
theorem dw_17 : lw_in (Cond.selects RX11 yX11_put yX11_put) := ⟨List.mem_of_getElem? (i := 104) rfl, good_of_word (by decide +kernel)⟩
theorem dw_18 : lw_in (Cond.instanceMethod yX11_put) := ⟨lw_t (tm_6 (List.mem_of_getElem? (i := 176) rfl)), good_of_word (by decide +kernel)⟩
theorem dw_19 : lw_in (Cond.methodLink RX11 151 yX11_put) := ⟨lw_t (tm_6 (List.mem_of_getElem? (i := 174) rfl)), good_of_word (by decide +kernel)⟩
theorem dw_20 : lw_in (Cond.fieldLink RX11 148 "GuessFerryModel" "taped" "I") := ⟨lw_t (tm_5 (List.mem_of_getElem? (i := 237) rfl)), good_of_word (by decide +kernel)⟩
set_option maxRecDepth 100000 in
theorem dw_21 : lw_in (Cond.code yX11_put cX11_put 3 none) := ⟨lw_t (tm_6 (List.mem_of_getElem? (i := 177) rfl)), good_of_word (by decide +kernel)⟩
theorem dw_22 : lw_in (Cond.fieldLink RX11 13 "GuessFerryModel" "tape" "[B") := ⟨lw_t (tm_5 (List.mem_of_getElem? (i := 236) rfl)), good_of_word (by decide +kernel)⟩
theorem dw_23 : lw_in (Cond.selects RX11 yX11_feed yX11_feed) := ⟨lw_t (tm_6 (List.mem_of_getElem? (i := 172) rfl)), good_of_word (by decide +kernel)⟩
theorem dw_24 : lw_in (Cond.instanceMethod yX11_feed) := ⟨lw_t (tm_6 (List.mem_of_getElem? (i := 171) rfl)), good_of_word (by decide +kernel)⟩
theorem dw_25 : lw_in (Cond.methodLink R_law 17 yX11_feed) := ⟨lw_t (tm_6 (List.mem_of_getElem? (i := 170) rfl)), good_of_word (by decide +kernel)⟩
set_option maxRecDepth 100000 in
theorem dw_26 : lw_in (Cond.code yX10_back cX10_back 2 (some .int)) := ⟨lw_t (tm_3 (List.mem_of_getElem? (i := 2) rfl)), good_of_word (by decide +kernel)⟩
theorem dw_27 : lw_in (Cond.selects RX10 yX10_back yX10_back) := ⟨lw_t (tm_3 (List.mem_of_getElem? (i := 1) rfl)), good_of_word (by decide +kernel)⟩
theorem dw_28 : lw_in (Cond.instanceMethod yX10_back) := ⟨lw_t (tm_3 (List.mem_of_getElem? (i := 0) rfl)), good_of_word (by decide +kernel)⟩
theorem dw_29 : lw_in (Cond.methodLink R_law 18 yX10_back) := ⟨lw_t (tm_2 (List.mem_of_getElem? (i := 239) rfl)), good_of_word (by decide +kernel)⟩
set_option maxRecDepth 100000 in
theorem dw_30 : lw_in (Cond.code yX11_back cX11_back 2 (some .int)) := ⟨lw_t (tm_6 (List.mem_of_getElem? (i := 181) rfl)), good_of_word (by decide +kernel)⟩
theorem dw_31 : lw_in (Cond.selects RX11 yX11_back yX11_back) := ⟨lw_t (tm_6 (List.mem_of_getElem? (i := 180) rfl)), good_of_word (by decide +kernel)⟩
theorem dw_32 : lw_in (Cond.instanceMethod yX11_back) := ⟨lw_t (tm_6 (List.mem_of_getElem? (i := 179) rfl)), good_of_word (by decide +kernel)⟩
theorem dw_33 : lw_in (Cond.methodLink R_law 22 yX11_back) := ⟨lw_t (tm_6 (List.mem_of_getElem? (i := 178) rfl)), good_of_word (by decide +kernel)⟩
set_option maxRecDepth 100000 in
theorem dw_34 : lw_in (Cond.code yX10_read cX10_read 2 (some .int)) := ⟨lw_t (tm_3 (List.mem_of_getElem? (i := 6) rfl)), good_of_word (by decide +kernel)⟩
theorem dw_35 : lw_in (Cond.selects RX3 yX3_forgetAll yX3_forgetAll) := ⟨List.mem_of_getElem? (i := 36) rfl, good_of_word (by decide +kernel)⟩
theorem dw_36 : lw_in (Cond.initialized RX3) := ⟨lw_t (tm_1 (List.mem_of_getElem? (i := 12) rfl)), good_of_word (by decide +kernel)⟩
theorem dw_37 : lw_in (Cond.instanceMethod yX3_forgetAll) := ⟨lw_t (tm_3 (List.mem_of_getElem? (i := 190) rfl)), good_of_word (by decide +kernel)⟩
theorem dw_38 : lw_in (Cond.selects RX6 yX6_startOver yX6_startOver) := ⟨List.mem_of_getElem? (i := 7) rfl, good_of_word (by decide +kernel)⟩
theorem dw_39 : lw_in (Cond.initialized RX6) := ⟨lw_t (tm_1 (List.mem_of_getElem? (i := 11) rfl)), good_of_word (by decide +kernel)⟩
theorem dw_40 : lw_in (Cond.instanceMethod yX6_startOver) := ⟨lw_t (tm_2 (List.mem_of_getElem? (i := 194) rfl)), good_of_word (by decide +kernel)⟩
theorem dw_41 : lw_in (Cond.selects RX5 yX5_copyFrom yX5_copyFrom) := ⟨List.mem_of_getElem? (i := 34) rfl, good_of_word (by decide +kernel)⟩
theorem dw_42 : lw_in (Cond.instanceMethod yX5_copyFrom) := ⟨lw_t (tm_3 (List.mem_of_getElem? (i := 178) rfl)), good_of_word (by decide +kernel)⟩
theorem dw_43 : lw_in (Cond.initialized RX5) := ⟨lw_t (tm_1 (List.mem_of_getElem? (i := 3) rfl)), good_of_word (by decide +kernel)⟩
theorem dw_44 : lw_in (Cond.selects RX4 yX4_readTape yX4_readTape) := ⟨List.mem_of_getElem? (i := 10) rfl, good_of_word (by decide +kernel)⟩
theorem dw_45 : lw_in (Cond.initialized RX4) := ⟨lw_t (tm_1 (List.mem_of_getElem? (i := 5) rfl)), good_of_word (by decide +kernel)⟩
theorem dw_46 : lw_in (Cond.instanceMethod yX4_readTape) := ⟨lw_t (tm_3 (List.mem_of_getElem? (i := 9) rfl)), good_of_word (by decide +kernel)⟩
theorem dw_47 : lw_in (Cond.fieldLink RX10 70 "GuessFerry" "tellers" "LGuessFerry$Tellers;") := ⟨lw_t (tm_2 (List.mem_of_getElem? (i := 207) rfl)), good_of_word (by decide +kernel)⟩
theorem dw_48 : lw_in (Cond.fieldLink RX10 45 "GuessFerry" "past" "LGuessFerry$Past;") := ⟨lw_t (tm_2 (List.mem_of_getElem? (i := 204) rfl)), good_of_word (by decide +kernel)⟩
theorem dw_49 : lw_in (Cond.fieldLink RX10 35 "GuessFerry" "now" "LGuessFerry$Standing;") := ⟨lw_t (tm_2 (List.mem_of_getElem? (i := 202) rfl)), good_of_word (by decide +kernel)⟩
theorem dw_50 : lw_in (Cond.fieldLink RX10 19 "GuessFerry" "sound" "LGuessFerry$Sound;") := ⟨lw_t (tm_2 (List.mem_of_getElem? (i := 200) rfl)), good_of_word (by decide +kernel)⟩
theorem dw_51 : lw_in (Cond.fieldLink RX10 28 "GuessFerry" "reader" "LGuessFerry$Reader;") := ⟨lw_t (tm_2 (List.mem_of_getElem? (i := 201) rfl)), good_of_word (by decide +kernel)⟩
set_option maxRecDepth 100000 in
theorem dw_52 : lw_in (Cond.code yX4_readTape cX4_readTape 2 (some .int)) := ⟨lw_t (tm_3 (List.mem_of_getElem? (i := 10) rfl)), good_of_word (by decide +kernel)⟩
theorem dw_53 : lw_in (Cond.selects RX5 yX5_addUp yX5_addUp) := ⟨List.mem_of_getElem? (i := 32) rfl, good_of_word (by decide +kernel)⟩
theorem dw_54 : lw_in (Cond.instanceMethod yX5_addUp) := ⟨lw_t (tm_3 (List.mem_of_getElem? (i := 170) rfl)), good_of_word (by decide +kernel)⟩
theorem dw_55 : lw_in (Cond.selects RX4 yX4_readTell yX4_readTell) := ⟨List.mem_of_getElem? (i := 18) rfl, good_of_word (by decide +kernel)⟩
theorem dw_56 : lw_in (Cond.instanceMethod yX4_readTell) := ⟨lw_t (tm_3 (List.mem_of_getElem? (i := 110) rfl)), good_of_word (by decide +kernel)⟩
theorem dw_57 : lw_in (Cond.methodLink RX4 57 yX4_readTell) := ⟨lw_t (tm_3 (List.mem_of_getElem? (i := 108) rfl)), good_of_word (by decide +kernel)⟩
theorem dw_58 : lw_in (Cond.selects RX4 yX4_isAt yX4_isAt) := ⟨List.mem_of_getElem? (i := 17) rfl, good_of_word (by decide +kernel)⟩
theorem dw_59 : lw_in (Cond.instanceMethod yX4_isAt) := ⟨lw_t (tm_3 (List.mem_of_getElem? (i := 106) rfl)), good_of_word (by decide +kernel)⟩
theorem dw_60 : lw_in (Cond.methodLink RX4 53 yX4_isAt) := ⟨lw_t (tm_3 (List.mem_of_getElem? (i := 104) rfl)), good_of_word (by decide +kernel)⟩
theorem dw_61 : lw_in (Cond.selects RX9 yX9_split yX9_split) := ⟨List.mem_of_getElem? (i := 11) rfl, good_of_word (by decide +kernel)⟩
theorem dw_62 : lw_in (Cond.initialized RX9) := ⟨lw_t (tm_1 (List.mem_of_getElem? (i := 6) rfl)), good_of_word (by decide +kernel)⟩
theorem dw_63 : lw_in (Cond.instanceMethod yX9_split) := ⟨lw_t (tm_3 (List.mem_of_getElem? (i := 14) rfl)), good_of_word (by decide +kernel)⟩
theorem dw_64 : lw_in (Cond.selects RX5 yX5_clear yX5_clear) := ⟨List.mem_of_getElem? (i := 0) rfl, good_of_word (by decide +kernel)⟩
theorem dw_65 : lw_in (Cond.instanceMethod yX5_clear) := ⟨lw_t (tm_1 (List.mem_of_getElem? (i := 90) rfl)), good_of_word (by decide +kernel)⟩
theorem dw_66 : lw_in (Cond.fieldLink RX4 31 "GuessFerry$Reader" "tokens" "LGuessFerry$Tokens;") := ⟨lw_t (tm_2 (List.mem_of_getElem? (i := 23) rfl)), good_of_word (by decide +kernel)⟩
theorem dw_67 : lw_in (Cond.fieldLink RX4 47 "GuessFerry$Reader" "laterPlace" "I") := ⟨lw_t (tm_2 (List.mem_of_getElem? (i := 32) rfl)), good_of_word (by decide +kernel)⟩
theorem dw_68 : lw_in (Cond.fieldLink RX4 44 "GuessFerry$Reader" "laterFault" "I") := ⟨lw_t (tm_2 (List.mem_of_getElem? (i := 31) rfl)), good_of_word (by decide +kernel)⟩
theorem dw_69 : lw_in (Cond.fieldLink RX4 22 "GuessFerry$Reader" "faultPlace" "I") := ⟨lw_t (tm_2 (List.mem_of_getElem? (i := 29) rfl)), good_of_word (by decide +kernel)⟩
theorem dw_70 : lw_in (Cond.fieldLink RX4 41 "GuessFerry$Reader" "fault" "I") := ⟨lw_t (tm_2 (List.mem_of_getElem? (i := 28) rfl)), good_of_word (by decide +kernel)⟩
theorem dw_71 : lw_in (Cond.fieldLink RX4 38 "GuessFerry$Reader" "at" "I") := ⟨lw_t (tm_2 (List.mem_of_getElem? (i := 27) rfl)), good_of_word (by decide +kernel)⟩
theorem dw_72 : lw_in (Cond.fieldLink RX4 12 "GuessFerry$Reader" "draft" "LGuessFerry$Sound;") := ⟨lw_t (tm_2 (List.mem_of_getElem? (i := 24) rfl)), good_of_word (by decide +kernel)⟩
set_option maxRecDepth 100000 in
theorem dw_73 : lw_in (Cond.code yX5_clear cX5_clear 1 none) := ⟨lw_t (tm_1 (List.mem_of_getElem? (i := 91) rfl)), good_of_word (by decide +kernel)⟩
theorem dw_74 : lw_in (Cond.selects RX1 yX1_clear yX1_clear) := ⟨List.mem_of_getElem? (i := 1) rfl, good_of_word (by decide +kernel)⟩
theorem dw_75 : lw_in (Cond.initialized RX1) := ⟨lw_t (tm_1 (List.mem_of_getElem? (i := 4) rfl)), good_of_word (by decide +kernel)⟩
theorem dw_76 : lw_in (Cond.instanceMethod yX1_clear) := ⟨lw_t (tm_1 (List.mem_of_getElem? (i := 94) rfl)), good_of_word (by decide +kernel)⟩
theorem dw_77 : lw_in (Cond.fieldLink RX5 30 "GuessFerry$Sound" "laws" "LGuessFerry$Laws;") := ⟨lw_t (tm_1 (List.mem_of_getElem? (i := 130) rfl)), good_of_word (by decide +kernel)⟩
theorem dw_78 : lw_in (Cond.fieldLink RX5 47 "GuessFerry$Sound" "seed" "I") := ⟨lw_t (tm_1 (List.mem_of_getElem? (i := 143) rfl)), good_of_word (by decide +kernel)⟩
theorem dw_79 : lw_in (Cond.fieldLink RX5 44 "GuessFerry$Sound" "guesses" "I") := ⟨lw_t (tm_1 (List.mem_of_getElem? (i := 141) rfl)), good_of_word (by decide +kernel)⟩
theorem dw_80 : lw_in (Cond.fieldLink RX5 41 "GuessFerry$Sound" "parties" "I") := ⟨lw_t (tm_1 (List.mem_of_getElem? (i := 138) rfl)), good_of_word (by decide +kernel)⟩
theorem dw_81 : lw_in (Cond.fieldLink RX5 37 "GuessFerry$Sound" "waves" "I") := ⟨lw_t (tm_1 (List.mem_of_getElem? (i := 132) rfl)), good_of_word (by decide +kernel)⟩
set_option maxRecDepth 100000 in
theorem dw_82 : lw_in (Cond.code yX1_clear cX1_clear 1 none) := ⟨lw_t (tm_1 (List.mem_of_getElem? (i := 95) rfl)), good_of_word (by decide +kernel)⟩
theorem dw_83 : lw_in (Cond.selects RX1 yX1_putNumber yX1_putNumber) := ⟨List.mem_of_getElem? (i := 6) rfl, good_of_word (by decide +kernel)⟩
theorem dw_84 : lw_in (Cond.instanceMethod yX1_putNumber) := ⟨lw_t (tm_1 (List.mem_of_getElem? (i := 114) rfl)), good_of_word (by decide +kernel)⟩
theorem dw_85 : lw_in (Cond.methodLink RX1 48 yX1_putNumber) := ⟨lw_t (tm_1 (List.mem_of_getElem? (i := 112) rfl)), good_of_word (by decide +kernel)⟩
theorem dw_86 : lw_in (Cond.selects RX1 yX1_endPart yX1_endPart) := ⟨List.mem_of_getElem? (i := 5) rfl, good_of_word (by decide +kernel)⟩
theorem dw_87 : lw_in (Cond.instanceMethod yX1_endPart) := ⟨lw_t (tm_1 (List.mem_of_getElem? (i := 110) rfl)), good_of_word (by decide +kernel)⟩
theorem dw_88 : lw_in (Cond.methodLink RX1 45 yX1_endPart) := ⟨lw_t (tm_1 (List.mem_of_getElem? (i := 108) rfl)), good_of_word (by decide +kernel)⟩
theorem dw_89 : lw_in (Cond.selects RX1 yX1_putVar yX1_putVar) := ⟨List.mem_of_getElem? (i := 3) rfl, good_of_word (by decide +kernel)⟩
theorem dw_90 : lw_in (Cond.instanceMethod yX1_putVar) := ⟨lw_t (tm_1 (List.mem_of_getElem? (i := 102) rfl)), good_of_word (by decide +kernel)⟩
theorem dw_91 : lw_in (Cond.methodLink RX1 42 yX1_putVar) := ⟨lw_t (tm_1 (List.mem_of_getElem? (i := 100) rfl)), good_of_word (by decide +kernel)⟩
theorem dw_92 : lw_in (Cond.selects RX1 yX1_begin yX1_begin) := ⟨List.mem_of_getElem? (i := 2) rfl, good_of_word (by decide +kernel)⟩
theorem dw_93 : lw_in (Cond.instanceMethod yX1_begin) := ⟨lw_t (tm_1 (List.mem_of_getElem? (i := 98) rfl)), good_of_word (by decide +kernel)⟩
theorem dw_94 : lw_in (Cond.methodLink RX1 38 yX1_begin) := ⟨lw_t (tm_1 (List.mem_of_getElem? (i := 96) rfl)), good_of_word (by decide +kernel)⟩
theorem dw_95 : lw_in (Cond.fieldLink RX1 34 "GuessFerry$Laws" "length" "I") := ⟨lw_t (tm_1 (List.mem_of_getElem? (i := 65) rfl)), good_of_word (by decide +kernel)⟩
set_option maxRecDepth 100000 in
theorem dw_96 : lw_in (Cond.code yX1_begin cX1_begin 2 none) := ⟨lw_t (tm_1 (List.mem_of_getElem? (i := 99) rfl)), good_of_word (by decide +kernel)⟩
theorem dw_97 : lw_in (Cond.fieldLink RX1 25 "GuessFerry$Laws" "partCounts" "[I") := ⟨lw_t (tm_1 (List.mem_of_getElem? (i := 61) rfl)), good_of_word (by decide +kernel)⟩
theorem dw_98 : lw_in (Cond.fieldLink RX1 22 "GuessFerry$Laws" "lawStarts" "[I") := ⟨lw_t (tm_1 (List.mem_of_getElem? (i := 60) rfl)), good_of_word (by decide +kernel)⟩
theorem dw_99 : lw_in (Cond.fieldLink RX1 57 "GuessFerry$Laws" "current" "I") := ⟨lw_t (tm_1 (List.mem_of_getElem? (i := 66) rfl)), good_of_word (by decide +kernel)⟩
set_option maxRecDepth 100000 in
theorem dw_100 : lw_in (Cond.code yX1_putVar cX1_putVar 2 none) := ⟨lw_t (tm_1 (List.mem_of_getElem? (i := 103) rfl)), good_of_word (by decide +kernel)⟩
theorem dw_101 : lw_in (Cond.selects RX1 yX1_put yX1_put) := ⟨List.mem_of_getElem? (i := 4) rfl, good_of_word (by decide +kernel)⟩
theorem dw_102 : lw_in (Cond.instanceMethod yX1_put) := ⟨lw_t (tm_1 (List.mem_of_getElem? (i := 106) rfl)), good_of_word (by decide +kernel)⟩
theorem dw_103 : lw_in (Cond.methodLink RX1 60 yX1_put) := ⟨lw_t (tm_1 (List.mem_of_getElem? (i := 104) rfl)), good_of_word (by decide +kernel)⟩
set_option maxRecDepth 100000 in
theorem dw_104 : lw_in (Cond.code yX1_put cX1_put 2 none) := ⟨lw_t (tm_1 (List.mem_of_getElem? (i := 107) rfl)), good_of_word (by decide +kernel)⟩
theorem dw_105 : lw_in (Cond.fieldLink RX1 15 "GuessFerry$Laws" "steps" "[I") := ⟨lw_t (tm_1 (List.mem_of_getElem? (i := 58) rfl)), good_of_word (by decide +kernel)⟩
set_option maxRecDepth 100000 in
theorem dw_106 : lw_in (Cond.code yX1_endPart cX1_endPart 2 none) := ⟨lw_t (tm_1 (List.mem_of_getElem? (i := 111) rfl)), good_of_word (by decide +kernel)⟩
theorem dw_107 : lw_in (Cond.fieldLink RX1 19 "GuessFerry$Laws" "partEnds" "[I") := ⟨lw_t (tm_1 (List.mem_of_getElem? (i := 59) rfl)), good_of_word (by decide +kernel)⟩
set_option maxRecDepth 100000 in
theorem dw_108 : lw_in (Cond.code yX1_putNumber cX1_putNumber 2 none) := ⟨lw_t (tm_1 (List.mem_of_getElem? (i := 115) rfl)), good_of_word (by decide +kernel)⟩
set_option maxRecDepth 100000 in
theorem dw_109 : lw_in (Cond.code yX9_split cX9_split 3 none) := ⟨lw_t (tm_3 (List.mem_of_getElem? (i := 15) rfl)), good_of_word (by decide +kernel)⟩
theorem dw_110 : lw_in (Cond.selects RX9 yX9_splitOne yX9_splitOne) := ⟨List.mem_of_getElem? (i := 14) rfl, good_of_word (by decide +kernel)⟩
theorem dw_111 : lw_in (Cond.instanceMethod yX9_splitOne) := ⟨lw_t (tm_3 (List.mem_of_getElem? (i := 29) rfl)), good_of_word (by decide +kernel)⟩
theorem dw_112 : lw_in (Cond.methodLink RX9 54 yX9_splitOne) := ⟨lw_t (tm_3 (List.mem_of_getElem? (i := 27) rfl)), good_of_word (by decide +kernel)⟩
theorem dw_113 : lw_in (Cond.selects RX9 yX9_skipBlanks yX9_skipBlanks) := ⟨List.mem_of_getElem? (i := 12) rfl, good_of_word (by decide +kernel)⟩
theorem dw_114 : lw_in (Cond.instanceMethod yX9_skipBlanks) := ⟨lw_t (tm_3 (List.mem_of_getElem? (i := 18) rfl)), good_of_word (by decide +kernel)⟩
theorem dw_115 : lw_in (Cond.methodLink RX9 51 yX9_skipBlanks) := ⟨lw_t (tm_3 (List.mem_of_getElem? (i := 16) rfl)), good_of_word (by decide +kernel)⟩
theorem dw_116 : lw_in (Cond.fieldLink RX9 57 "GuessFerry$Tokens" "value" "J") := ⟨lw_t (tm_2 (List.mem_of_getElem? (i := 6) rfl)), good_of_word (by decide +kernel)⟩
theorem dw_117 : lw_in (Cond.fieldLink RX9 20 "GuessFerry$Tokens" "values" "[J") := ⟨lw_t (tm_2 (List.mem_of_getElem? (i := 3) rfl)), good_of_word (by decide +kernel)⟩
theorem dw_118 : lw_in (Cond.fieldLink RX9 13 "GuessFerry$Tokens" "kinds" "[I") := ⟨lw_t (tm_1 (List.mem_of_getElem? (i := 239) rfl)), good_of_word (by decide +kernel)⟩
theorem dw_119 : lw_in (Cond.fieldLink RX9 17 "GuessFerry$Tokens" "starts" "[I") := ⟨lw_t (tm_2 (List.mem_of_getElem? (i := 1) rfl)), good_of_word (by decide +kernel)⟩
theorem dw_120 : lw_in (Cond.fieldLink RX9 47 "GuessFerry$Tokens" "end" "I") := ⟨lw_t (tm_2 (List.mem_of_getElem? (i := 5) rfl)), good_of_word (by decide +kernel)⟩
set_option maxRecDepth 100000 in
theorem dw_121 : lw_in (Cond.code yX9_skipBlanks cX9_skipBlanks 1 none) := ⟨lw_t (tm_3 (List.mem_of_getElem? (i := 19) rfl)), good_of_word (by decide +kernel)⟩
theorem dw_122 : lw_in (Cond.static yX9_isBlank) := ⟨lw_t (tm_3 (List.mem_of_getElem? (i := 25) rfl)), good_of_word (by decide +kernel)⟩
theorem dw_123 : lw_in (Cond.methodLink RX9 69 yX9_isBlank) := ⟨lw_t (tm_3 (List.mem_of_getElem? (i := 24) rfl)), good_of_word (by decide +kernel)⟩
theorem dw_124 : lw_in (Cond.selects RX7 yX7_byteAt yX7_byteAt) := ⟨List.mem_of_getElem? (i := 13) rfl, good_of_word (by decide +kernel)⟩
theorem dw_125 : lw_in (Cond.instanceMethod yX7_byteAt) := ⟨lw_t (tm_3 (List.mem_of_getElem? (i := 22) rfl)), good_of_word (by decide +kernel)⟩
theorem dw_126 : lw_in (Cond.fieldLink RX9 23 "GuessFerry$Tokens" "tape" "LGuessFerry$Tape;") := ⟨lw_t (tm_1 (List.mem_of_getElem? (i := 237) rfl)), good_of_word (by decide +kernel)⟩
set_option maxRecDepth 100000 in
theorem dw_127 : lw_in (Cond.code yX7_byteAt cX7_byteAt 2 (some .int)) := ⟨lw_t (tm_3 (List.mem_of_getElem? (i := 23) rfl)), good_of_word (by decide +kernel)⟩
set_option maxRecDepth 100000 in
theorem dw_128 : lw_in (Cond.code yX9_isBlank cX9_isBlank 1 (some .boolean)) := ⟨lw_t (tm_3 (List.mem_of_getElem? (i := 26) rfl)), good_of_word (by decide +kernel)⟩
set_option maxRecDepth 100000 in
theorem dw_129 : lw_in (Cond.code yX9_splitOne cX9_splitOne 2 (some .int)) := ⟨lw_t (tm_3 (List.mem_of_getElem? (i := 30) rfl)), good_of_word (by decide +kernel)⟩
theorem dw_130 : lw_in (Cond.initialized RJ11) := ⟨lw_t (tm_1 (List.mem_of_getElem? (i := 19) rfl)), good_of_word (by decide +kernel)⟩
theorem dw_131 : lw_in (Cond.initialized RJ3) := ⟨lw_t (tm_1 (List.mem_of_getElem? (i := 9) rfl)), good_of_word (by decide +kernel)⟩
theorem dw_132 : lw_in (Cond.initialized RJ2) := ⟨lw_t (tm_1 (List.mem_of_getElem? (i := 10) rfl)), good_of_word (by decide +kernel)⟩
theorem dw_133 : lw_in (Cond.initialized "java/lang/Math") := ⟨lw_t (tm_1 (List.mem_of_getElem? (i := 18) rfl)), good_of_word (by decide +kernel)⟩
theorem dw_134 : lw_in (Cond.initialized RJ1) := ⟨lw_t (tm_1 (List.mem_of_getElem? (i := 8) rfl)), good_of_word (by decide +kernel)⟩
theorem dw_135 : lw_in (Cond.initialized RJ0) := ⟨lw_t (tm_1 (List.mem_of_getElem? (i := 7) rfl)), good_of_word (by decide +kernel)⟩
theorem dw_136 : lw_in (Cond.selects RJ0 yJ0_indexOf_0f7a4 yJ0_indexOf_0f7a4) := ⟨lw_t (tm_3 (List.mem_of_getElem? (i := 47) rfl)), good_of_word (by decide +kernel)⟩
theorem dw_137 : lw_in (Cond.instanceMethod yJ0_indexOf_0f7a4) := ⟨lw_t (tm_3 (List.mem_of_getElem? (i := 46) rfl)), good_of_word (by decide +kernel)⟩
theorem dw_138 : lw_in (Cond.methodLink RX9 83 yJ0_indexOf_0f7a4) := ⟨lw_t (tm_3 (List.mem_of_getElem? (i := 45) rfl)), good_of_word (by decide +kernel)⟩
theorem dw_139 : lw_in (Cond.selects RX9 yX9_splitDigits yX9_splitDigits) := ⟨List.mem_of_getElem? (i := 16) rfl, good_of_word (by decide +kernel)⟩
theorem dw_140 : lw_in (Cond.instanceMethod yX9_splitDigits) := ⟨lw_t (tm_3 (List.mem_of_getElem? (i := 40) rfl)), good_of_word (by decide +kernel)⟩
theorem dw_141 : lw_in (Cond.methodLink RX9 78 yX9_splitDigits) := ⟨lw_t (tm_3 (List.mem_of_getElem? (i := 38) rfl)), good_of_word (by decide +kernel)⟩
theorem dw_142 : lw_in (Cond.static yX9_isDigit) := ⟨lw_t (tm_3 (List.mem_of_getElem? (i := 36) rfl)), good_of_word (by decide +kernel)⟩
theorem dw_143 : lw_in (Cond.methodLink RX9 75 yX9_isDigit) := ⟨lw_t (tm_3 (List.mem_of_getElem? (i := 35) rfl)), good_of_word (by decide +kernel)⟩
theorem dw_144 : lw_in (Cond.selects RX9 yX9_splitLetters yX9_splitLetters) := ⟨List.mem_of_getElem? (i := 15) rfl, good_of_word (by decide +kernel)⟩
theorem dw_145 : lw_in (Cond.instanceMethod yX9_splitLetters) := ⟨lw_t (tm_3 (List.mem_of_getElem? (i := 33) rfl)), good_of_word (by decide +kernel)⟩
theorem dw_146 : lw_in (Cond.methodLink RX9 72 yX9_splitLetters) := ⟨lw_t (tm_3 (List.mem_of_getElem? (i := 31) rfl)), good_of_word (by decide +kernel)⟩
theorem dw_147 : lw_in (Cond.static yX9_isLetter) := ⟨lw_t (tm_1 (List.mem_of_getElem? (i := 232) rfl)), good_of_word (by decide +kernel)⟩
theorem dw_148 : lw_in (Cond.methodLink RX9 39 yX9_isLetter) := ⟨lw_t (tm_1 (List.mem_of_getElem? (i := 231) rfl)), good_of_word (by decide +kernel)⟩
set_option maxRecDepth 100000 in
theorem dw_149 : lw_in (Cond.code yX9_isLetter cX9_isLetter 1 (some .boolean)) := ⟨lw_t (tm_1 (List.mem_of_getElem? (i := 233) rfl)), good_of_word (by decide +kernel)⟩
set_option maxRecDepth 100000 in
theorem dw_150 : lw_in (Cond.code yX9_splitLetters cX9_splitLetters 3 (some .int)) := ⟨lw_t (tm_3 (List.mem_of_getElem? (i := 34) rfl)), good_of_word (by decide +kernel)⟩
theorem dw_151 : lw_in (Cond.static yX9_withLetter) := ⟨lw_t (tm_1 (List.mem_of_getElem? (i := 235) rfl)), good_of_word (by decide +kernel)⟩
theorem dw_152 : lw_in (Cond.methodLink RX9 43 yX9_withLetter) := ⟨lw_t (tm_1 (List.mem_of_getElem? (i := 234) rfl)), good_of_word (by decide +kernel)⟩
theorem dw_153 : lw_in (Cond.fieldLink RX9 9 "GuessFerry$Tokens" "words" "[J") := ⟨lw_t (tm_1 (List.mem_of_getElem? (i := 238) rfl)), good_of_word (by decide +kernel)⟩
set_option maxRecDepth 100000 in
theorem dw_154 : lw_in (Cond.code yX9_withLetter cX9_withLetter 3 (some .long)) := ⟨lw_t (tm_1 (List.mem_of_getElem? (i := 236) rfl)), good_of_word (by decide +kernel)⟩
set_option maxRecDepth 100000 in
theorem dw_155 : lw_in (Cond.code yX9_isDigit cX9_isDigit 1 (some .boolean)) := ⟨lw_t (tm_3 (List.mem_of_getElem? (i := 37) rfl)), good_of_word (by decide +kernel)⟩
set_option maxRecDepth 100000 in
theorem dw_156 : lw_in (Cond.code yX9_splitDigits cX9_splitDigits 2 (some .int)) := ⟨lw_t (tm_3 (List.mem_of_getElem? (i := 41) rfl)), good_of_word (by decide +kernel)⟩
theorem dw_157 : lw_in (Cond.constantLong RX9 88 (48)) := ⟨lw_t (tm_3 (List.mem_of_getElem? (i := 43) rfl)), good_of_word (by decide +kernel)⟩
theorem dw_158 : lw_in (Cond.constantLong RX9 86 (10)) := ⟨lw_t (tm_3 (List.mem_of_getElem? (i := 42) rfl)), good_of_word (by decide +kernel)⟩
set_option maxRecDepth 100000 in
theorem dw_159 : lw_in (Cond.code yJ0_indexOf_0f7a4 cJ0_indexOf_0f7a4 2 (some .int)) := ⟨lw_t (tm_3 (List.mem_of_getElem? (i := 48) rfl)), good_of_word (by decide +kernel)⟩
theorem dw_160 : lw_in (Cond.selects RJ0 yJ0_indexOf_7cf53 yJ0_indexOf_7cf53) := ⟨lw_t (tm_3 (List.mem_of_getElem? (i := 51) rfl)), good_of_word (by decide +kernel)⟩
theorem dw_161 : lw_in (Cond.instanceMethod yJ0_indexOf_7cf53) := ⟨lw_t (tm_3 (List.mem_of_getElem? (i := 50) rfl)), good_of_word (by decide +kernel)⟩
theorem dw_162 : lw_in (Cond.methodLink RJ0 633 yJ0_indexOf_7cf53) := ⟨lw_t (tm_3 (List.mem_of_getElem? (i := 49) rfl)), good_of_word (by decide +kernel)⟩
set_option maxRecDepth 100000 in
theorem dw_163 : lw_in (Cond.code yJ0_indexOf_7cf53 cJ0_indexOf_7cf53 3 (some .int)) := ⟨lw_t (tm_3 (List.mem_of_getElem? (i := 52) rfl)), good_of_word (by decide +kernel)⟩
theorem dw_164 : lw_in (Cond.static yJ2_indexOf_4cfef) := ⟨lw_t (tm_3 (List.mem_of_getElem? (i := 70) rfl)), good_of_word (by decide +kernel)⟩
theorem dw_165 : lw_in (Cond.methodLink RJ0 640 yJ2_indexOf_4cfef) := ⟨lw_t (tm_3 (List.mem_of_getElem? (i := 69) rfl)), good_of_word (by decide +kernel)⟩
theorem dw_166 : lw_in (Cond.static yJ1_indexOf_4cfef) := ⟨lw_t (tm_3 (List.mem_of_getElem? (i := 55) rfl)), good_of_word (by decide +kernel)⟩
theorem dw_167 : lw_in (Cond.methodLink RJ0 637 yJ1_indexOf_4cfef) := ⟨lw_t (tm_3 (List.mem_of_getElem? (i := 54) rfl)), good_of_word (by decide +kernel)⟩
theorem dw_168 : lw_in (Cond.selects RJ0 yJ0_length_8abf5 yJ0_length_8abf5) := ⟨lw_t (tm_1 (List.mem_of_getElem? (i := 185) rfl)), good_of_word (by decide +kernel)⟩
theorem dw_169 : lw_in (Cond.instanceMethod yJ0_length_8abf5) := ⟨lw_t (tm_1 (List.mem_of_getElem? (i := 184) rfl)), good_of_word (by decide +kernel)⟩
theorem dw_170 : lw_in (Cond.methodLink RJ0 505 yJ0_length_8abf5) := ⟨lw_t (tm_3 (List.mem_of_getElem? (i := 53) rfl)), good_of_word (by decide +kernel)⟩
theorem dw_171 : lw_in (Cond.selects RJ0 yJ0_isLatin1_aae02 yJ0_isLatin1_aae02) := ⟨lw_t (tm_1 (List.mem_of_getElem? (i := 199) rfl)), good_of_word (by decide +kernel)⟩
theorem dw_172 : lw_in (Cond.instanceMethod yJ0_isLatin1_aae02) := ⟨lw_t (tm_1 (List.mem_of_getElem? (i := 198) rfl)), good_of_word (by decide +kernel)⟩
theorem dw_173 : lw_in (Cond.methodLink RJ0 492 yJ0_isLatin1_aae02) := ⟨lw_t (tm_1 (List.mem_of_getElem? (i := 197) rfl)), good_of_word (by decide +kernel)⟩
theorem dw_174 : lw_in (Cond.fieldLink RJ0 9 "java/lang/String" "value" "[B") := ⟨lw_t (tm_8 (List.mem_of_getElem? (i := 160) rfl)), good_of_word (by decide +kernel)⟩
set_option maxRecDepth 100000 in
theorem dw_175 : lw_in (Cond.code yJ0_isLatin1_aae02 cJ0_isLatin1_aae02 1 (some .boolean)) := ⟨lw_t (tm_1 (List.mem_of_getElem? (i := 200) rfl)), good_of_word (by decide +kernel)⟩
theorem dw_176 : lw_in (Cond.fieldLink RJ0 15 "java/lang/String" "coder" "B") := ⟨lw_t (tm_8 (List.mem_of_getElem? (i := 161) rfl)), good_of_word (by decide +kernel)⟩
theorem dw_177 : lw_in (Cond.fieldLink RJ0 38 "java/lang/String" "COMPACT_STRINGS" "Z") := ⟨lw_t (tm_1 (List.mem_of_getElem? (i := 191) rfl)), good_of_word (by decide +kernel)⟩
set_option maxRecDepth 100000 in
theorem dw_178 : lw_in (Cond.code yJ0_length_8abf5 cJ0_length_8abf5 1 (some .int)) := ⟨lw_t (tm_1 (List.mem_of_getElem? (i := 186) rfl)), good_of_word (by decide +kernel)⟩
theorem dw_179 : lw_in (Cond.selects RJ0 yJ0_coder_7d493 yJ0_coder_7d493) := ⟨lw_t (tm_1 (List.mem_of_getElem? (i := 189) rfl)), good_of_word (by decide +kernel)⟩
theorem dw_180 : lw_in (Cond.instanceMethod yJ0_coder_7d493) := ⟨lw_t (tm_1 (List.mem_of_getElem? (i := 188) rfl)), good_of_word (by decide +kernel)⟩
theorem dw_181 : lw_in (Cond.methodLink RJ0 335 yJ0_coder_7d493) := ⟨lw_t (tm_1 (List.mem_of_getElem? (i := 187) rfl)), good_of_word (by decide +kernel)⟩
set_option maxRecDepth 100000 in
theorem dw_182 : lw_in (Cond.code yJ0_coder_7d493 cJ0_coder_7d493 1 (some .byte)) := ⟨lw_t (tm_1 (List.mem_of_getElem? (i := 190) rfl)), good_of_word (by decide +kernel)⟩
set_option maxRecDepth 100000 in
theorem dw_183 : lw_in (Cond.code yJ1_indexOf_4cfef cJ1_indexOf_4cfef 4 (some .int)) := ⟨lw_t (tm_3 (List.mem_of_getElem? (i := 56) rfl)), good_of_word (by decide +kernel)⟩
theorem dw_184 : lw_in (Cond.static yJ1_indexOfChar_4cfef) := ⟨lw_t (tm_3 (List.mem_of_getElem? (i := 67) rfl)), good_of_word (by decide +kernel)⟩
theorem dw_185 : lw_in (Cond.methodLink RJ1 95 yJ1_indexOfChar_4cfef) := ⟨lw_t (tm_3 (List.mem_of_getElem? (i := 66) rfl)), good_of_word (by decide +kernel)⟩
theorem dw_186 : lw_in (Cond.static yJ1_canEncode_9a6ad) := ⟨lw_t (tm_3 (List.mem_of_getElem? (i := 58) rfl)), good_of_word (by decide +kernel)⟩
theorem dw_187 : lw_in (Cond.methodLink RJ1 88 yJ1_canEncode_9a6ad) := ⟨lw_t (tm_3 (List.mem_of_getElem? (i := 57) rfl)), good_of_word (by decide +kernel)⟩
set_option maxRecDepth 100000 in
theorem dw_188 : lw_in (Cond.code Lib.Math.min.name Lib.Math.min.code 2 (some .int)) := ⟨lw_t (tm_3 (List.mem_of_getElem? (i := 65) rfl)), good_of_word (by decide +kernel)⟩
theorem dw_189 : lw_in (Cond.static Lib.Math.min.name) := ⟨lw_t (tm_3 (List.mem_of_getElem? (i := 64) rfl)), good_of_word (by decide +kernel)⟩
theorem dw_190 : lw_in (Cond.methodLink RJ1 38 Lib.Math.min.name) := ⟨lw_t (tm_3 (List.mem_of_getElem? (i := 63) rfl)), good_of_word (by decide +kernel)⟩
set_option maxRecDepth 100000 in
theorem dw_191 : lw_in (Cond.code Lib.Math.max.name Lib.Math.max.code 2 (some .int)) := ⟨lw_t (tm_3 (List.mem_of_getElem? (i := 62) rfl)), good_of_word (by decide +kernel)⟩
theorem dw_192 : lw_in (Cond.static Lib.Math.max.name) := ⟨lw_t (tm_3 (List.mem_of_getElem? (i := 61) rfl)), good_of_word (by decide +kernel)⟩
theorem dw_193 : lw_in (Cond.methodLink RJ1 92 Lib.Math.max.name) := ⟨lw_t (tm_3 (List.mem_of_getElem? (i := 60) rfl)), good_of_word (by decide +kernel)⟩
set_option maxRecDepth 100000 in
theorem dw_194 : lw_in (Cond.code yJ1_canEncode_9a6ad cJ1_canEncode_9a6ad 1 (some .boolean)) := ⟨lw_t (tm_3 (List.mem_of_getElem? (i := 59) rfl)), good_of_word (by decide +kernel)⟩
set_option maxRecDepth 100000 in
theorem dw_195 : lw_in (Cond.code yJ1_indexOfChar_4cfef cJ1_indexOfChar_4cfef 6 (some .int)) := ⟨lw_t (tm_3 (List.mem_of_getElem? (i := 68) rfl)), good_of_word (by decide +kernel)⟩
set_option maxRecDepth 100000 in
theorem dw_196 : lw_in (Cond.code yJ2_indexOf_4cfef cJ2_indexOf_4cfef 4 (some .int)) := ⟨lw_t (tm_3 (List.mem_of_getElem? (i := 71) rfl)), good_of_word (by decide +kernel)⟩
theorem dw_197 : lw_in (Cond.static yJ2_indexOfSupplementary_4cfef) := ⟨lw_t (tm_3 (List.mem_of_getElem? (i := 91) rfl)), good_of_word (by decide +kernel)⟩
theorem dw_198 : lw_in (Cond.methodLink RJ2 232 yJ2_indexOfSupplementary_4cfef) := ⟨lw_t (tm_3 (List.mem_of_getElem? (i := 90) rfl)), good_of_word (by decide +kernel)⟩
theorem dw_199 : lw_in (Cond.static yJ2_indexOfChar_4cfef) := ⟨lw_t (tm_3 (List.mem_of_getElem? (i := 76) rfl)), good_of_word (by decide +kernel)⟩
theorem dw_200 : lw_in (Cond.methodLink RJ2 228 yJ2_indexOfChar_4cfef) := ⟨lw_t (tm_3 (List.mem_of_getElem? (i := 75) rfl)), good_of_word (by decide +kernel)⟩
theorem dw_201 : lw_in (Cond.constant RJ2 227 (65536)) := ⟨lw_t (tm_3 (List.mem_of_getElem? (i := 74) rfl)), good_of_word (by decide +kernel)⟩
theorem dw_202 : lw_in (Cond.methodLink RJ2 183 Lib.Math.min.name) := ⟨lw_t (tm_3 (List.mem_of_getElem? (i := 73) rfl)), good_of_word (by decide +kernel)⟩
theorem dw_203 : lw_in (Cond.methodLink RJ2 224 Lib.Math.max.name) := ⟨lw_t (tm_3 (List.mem_of_getElem? (i := 72) rfl)), good_of_word (by decide +kernel)⟩
set_option maxRecDepth 100000 in
theorem dw_204 : lw_in (Cond.code yJ2_indexOfChar_4cfef cJ2_indexOfChar_4cfef 4 (some .int)) := ⟨lw_t (tm_3 (List.mem_of_getElem? (i := 77) rfl)), good_of_word (by decide +kernel)⟩
theorem dw_205 : lw_in (Cond.static yJ2_indexOfCharUnsafe_4cfef) := ⟨lw_t (tm_3 (List.mem_of_getElem? (i := 88) rfl)), good_of_word (by decide +kernel)⟩
theorem dw_206 : lw_in (Cond.methodLink RJ2 244 yJ2_indexOfCharUnsafe_4cfef) := ⟨lw_t (tm_3 (List.mem_of_getElem? (i := 87) rfl)), good_of_word (by decide +kernel)⟩
theorem dw_207 : lw_in (Cond.static yJ2_checkBoundsBeginEnd_d044e) := ⟨lw_t (tm_3 (List.mem_of_getElem? (i := 79) rfl)), good_of_word (by decide +kernel)⟩
theorem dw_208 : lw_in (Cond.methodLink RJ2 96 yJ2_checkBoundsBeginEnd_d044e) := ⟨lw_t (tm_3 (List.mem_of_getElem? (i := 78) rfl)), good_of_word (by decide +kernel)⟩
set_option maxRecDepth 100000 in
theorem dw_209 : lw_in (Cond.code yJ2_checkBoundsBeginEnd_d044e cJ2_checkBoundsBeginEnd_d044e 3 none) := ⟨lw_t (tm_3 (List.mem_of_getElem? (i := 80) rfl)), good_of_word (by decide +kernel)⟩
theorem dw_210 : lw_in (Cond.static yJ0_checkBoundsBeginEnd_23922) := ⟨lw_t (tm_3 (List.mem_of_getElem? (i := 82) rfl)), good_of_word (by decide +kernel)⟩
theorem dw_211 : lw_in (Cond.methodLink RJ2 241 yJ0_checkBoundsBeginEnd_23922) := ⟨lw_t (tm_3 (List.mem_of_getElem? (i := 81) rfl)), good_of_word (by decide +kernel)⟩
theorem dw_212 : lw_in (Cond.static yJ2_length_9d52b) := ⟨lw_t (tm_1 (List.mem_of_getElem? (i := 219) rfl)), good_of_word (by decide +kernel)⟩
theorem dw_213 : lw_in (Cond.methodLink RJ2 48 yJ2_length_9d52b) := ⟨lw_t (tm_1 (List.mem_of_getElem? (i := 218) rfl)), good_of_word (by decide +kernel)⟩
set_option maxRecDepth 100000 in
theorem dw_214 : lw_in (Cond.code yJ2_length_9d52b cJ2_length_9d52b 1 (some .int)) := ⟨lw_t (tm_1 (List.mem_of_getElem? (i := 220) rfl)), good_of_word (by decide +kernel)⟩
set_option maxRecDepth 100000 in
theorem dw_215 : lw_in (Cond.code yJ0_checkBoundsBeginEnd_23922 cJ0_checkBoundsBeginEnd_23922 3 none) := ⟨lw_t (tm_3 (List.mem_of_getElem? (i := 83) rfl)), good_of_word (by decide +kernel)⟩
theorem dw_216 : lw_in (Cond.static yJ3_checkFromToIndex_8c36e) := ⟨lw_t (tm_3 (List.mem_of_getElem? (i := 85) rfl)), good_of_word (by decide +kernel)⟩
theorem dw_217 : lw_in (Cond.methodLink RJ0 1062 yJ3_checkFromToIndex_8c36e) := ⟨lw_t (tm_3 (List.mem_of_getElem? (i := 84) rfl)), good_of_word (by decide +kernel)⟩
theorem dw_218 : lw_in (Cond.fieldLink RJ0 1053 "jdk/internal/util/Preconditions" "SIOOBE_FORMATTER" "Ljava/util/function/BiFunction;") := ⟨lw_t (tm_1 (List.mem_of_getElem? (i := 207) rfl)), good_of_word (by decide +kernel)⟩
set_option maxRecDepth 100000 in
theorem dw_219 : lw_in (Cond.code yJ3_checkFromToIndex_8c36e cJ3_checkFromToIndex_8c36e 4 (some .int)) := ⟨lw_t (tm_3 (List.mem_of_getElem? (i := 86) rfl)), good_of_word (by decide +kernel)⟩
set_option maxRecDepth 100000 in
theorem dw_220 : lw_in (Cond.code yJ2_indexOfCharUnsafe_4cfef cJ2_indexOfCharUnsafe_4cfef 5 (some .int)) := ⟨lw_t (tm_3 (List.mem_of_getElem? (i := 89) rfl)), good_of_word (by decide +kernel)⟩
theorem dw_221 : lw_in (Cond.static yJ2_getChar_3b067) := ⟨lw_t (tm_1 (List.mem_of_getElem? (i := 223) rfl)), good_of_word (by decide +kernel)⟩
theorem dw_222 : lw_in (Cond.methodLink RJ2 71 yJ2_getChar_3b067) := ⟨lw_t (tm_1 (List.mem_of_getElem? (i := 222) rfl)), good_of_word (by decide +kernel)⟩
set_option maxRecDepth 100000 in
theorem dw_223 : lw_in (Cond.code yJ2_getChar_3b067 cJ2_getChar_3b067 2 (some .char)) := ⟨lw_t (tm_1 (List.mem_of_getElem? (i := 224) rfl)), good_of_word (by decide +kernel)⟩
theorem dw_224 : lw_in (Cond.fieldLink RJ2 63 "java/lang/StringUTF16" "LO_BYTE_SHIFT" "I") := ⟨lw_t (tm_1 (List.mem_of_getElem? (i := 229) rfl)), good_of_word (by decide +kernel)⟩
theorem dw_225 : lw_in (Cond.fieldLink RJ2 59 "java/lang/StringUTF16" "HI_BYTE_SHIFT" "I") := ⟨lw_t (tm_1 (List.mem_of_getElem? (i := 227) rfl)), good_of_word (by decide +kernel)⟩
theorem dw_226 : lw_in (Cond.fieldLink RJ2 44 "java/lang/StringUTF16" "$assertionsDisabled" "Z") := ⟨lw_t (tm_1 (List.mem_of_getElem? (i := 225) rfl)), good_of_word (by decide +kernel)⟩
set_option maxRecDepth 100000 in
theorem dw_227 : lw_in (Cond.code yJ2_indexOfSupplementary_4cfef cJ2_indexOfSupplementary_4cfef 7 (some .int)) := ⟨lw_t (tm_3 (List.mem_of_getElem? (i := 92) rfl)), good_of_word (by decide +kernel)⟩
theorem dw_228 : lw_in (Cond.static yJ11_lowSurrogate_5068e) := ⟨lw_t (tm_3 (List.mem_of_getElem? (i := 101) rfl)), good_of_word (by decide +kernel)⟩
theorem dw_229 : lw_in (Cond.methodLink RJ2 161 yJ11_lowSurrogate_5068e) := ⟨lw_t (tm_3 (List.mem_of_getElem? (i := 100) rfl)), good_of_word (by decide +kernel)⟩
theorem dw_230 : lw_in (Cond.static yJ11_highSurrogate_5068e) := ⟨lw_t (tm_3 (List.mem_of_getElem? (i := 97) rfl)), good_of_word (by decide +kernel)⟩
theorem dw_231 : lw_in (Cond.methodLink RJ2 157 yJ11_highSurrogate_5068e) := ⟨lw_t (tm_3 (List.mem_of_getElem? (i := 96) rfl)), good_of_word (by decide +kernel)⟩
theorem dw_232 : lw_in (Cond.static yJ11_isValidCodePoint_9a6ad) := ⟨lw_t (tm_3 (List.mem_of_getElem? (i := 94) rfl)), good_of_word (by decide +kernel)⟩
theorem dw_233 : lw_in (Cond.methodLink RJ2 164 yJ11_isValidCodePoint_9a6ad) := ⟨lw_t (tm_3 (List.mem_of_getElem? (i := 93) rfl)), good_of_word (by decide +kernel)⟩
set_option maxRecDepth 100000 in
theorem dw_234 : lw_in (Cond.code yJ11_isValidCodePoint_9a6ad cJ11_isValidCodePoint_9a6ad 2 (some .boolean)) := ⟨lw_t (tm_3 (List.mem_of_getElem? (i := 95) rfl)), good_of_word (by decide +kernel)⟩
set_option maxRecDepth 100000 in
theorem dw_235 : lw_in (Cond.code yJ11_highSurrogate_5068e cJ11_highSurrogate_5068e 1 (some .char)) := ⟨lw_t (tm_3 (List.mem_of_getElem? (i := 98) rfl)), good_of_word (by decide +kernel)⟩
theorem dw_236 : lw_in (Cond.constant RJ11 110 (55232)) := ⟨lw_t (tm_3 (List.mem_of_getElem? (i := 99) rfl)), good_of_word (by decide +kernel)⟩
set_option maxRecDepth 100000 in
theorem dw_237 : lw_in (Cond.code yJ11_lowSurrogate_5068e cJ11_lowSurrogate_5068e 1 (some .char)) := ⟨lw_t (tm_3 (List.mem_of_getElem? (i := 102) rfl)), good_of_word (by decide +kernel)⟩
theorem dw_238 : lw_in (Cond.constant RJ11 76 (56320)) := ⟨lw_t (tm_3 (List.mem_of_getElem? (i := 103) rfl)), good_of_word (by decide +kernel)⟩
set_option maxRecDepth 100000 in
theorem dw_239 : lw_in (Cond.code yX4_isAt cX4_isAt 2 (some .boolean)) := ⟨lw_t (tm_3 (List.mem_of_getElem? (i := 107) rfl)), good_of_word (by decide +kernel)⟩
set_option maxRecDepth 100000 in
theorem dw_240 : lw_in (Cond.code yX4_readTell cX4_readTell 3 none) := ⟨lw_t (tm_3 (List.mem_of_getElem? (i := 111) rfl)), good_of_word (by decide +kernel)⟩
theorem dw_241 : lw_in (Cond.selects RX4 yX4_readLaw yX4_readLaw) := ⟨List.mem_of_getElem? (i := 26) rfl, good_of_word (by decide +kernel)⟩
theorem dw_242 : lw_in (Cond.instanceMethod yX4_readLaw) := ⟨lw_t (tm_3 (List.mem_of_getElem? (i := 142) rfl)), good_of_word (by decide +kernel)⟩
theorem dw_243 : lw_in (Cond.methodLink RX4 97 yX4_readLaw) := ⟨lw_t (tm_3 (List.mem_of_getElem? (i := 140) rfl)), good_of_word (by decide +kernel)⟩
theorem dw_244 : lw_in (Cond.selects RX4 yX4_readParty yX4_readParty) := ⟨List.mem_of_getElem? (i := 24) rfl, good_of_word (by decide +kernel)⟩
theorem dw_245 : lw_in (Cond.instanceMethod yX4_readParty) := ⟨lw_t (tm_3 (List.mem_of_getElem? (i := 134) rfl)), good_of_word (by decide +kernel)⟩
theorem dw_246 : lw_in (Cond.methodLink RX4 87 yX4_readParty) := ⟨lw_t (tm_3 (List.mem_of_getElem? (i := 132) rfl)), good_of_word (by decide +kernel)⟩
theorem dw_247 : lw_in (Cond.selects RX4 yX4_takeInt yX4_takeInt) := ⟨List.mem_of_getElem? (i := 22) rfl, good_of_word (by decide +kernel)⟩
theorem dw_248 : lw_in (Cond.instanceMethod yX4_takeInt) := ⟨lw_t (tm_3 (List.mem_of_getElem? (i := 126) rfl)), good_of_word (by decide +kernel)⟩
theorem dw_249 : lw_in (Cond.methodLink RX4 90 yX4_takeInt) := ⟨lw_t (tm_3 (List.mem_of_getElem? (i := 124) rfl)), good_of_word (by decide +kernel)⟩
end
section
theorem dw_250 : lw_in (Cond.selects RX4 yX4_take yX4_take) := ⟨List.mem_of_getElem? (i := 21) rfl, good_of_word (by decide +kernel)⟩
theorem dw_251 : lw_in (Cond.instanceMethod yX4_take) := ⟨lw_t (tm_3 (List.mem_of_getElem? (i := 122) rfl)), good_of_word (by decide +kernel)⟩
theorem dw_252 : lw_in (Cond.methodLink RX4 81 yX4_take) := ⟨lw_t (tm_3 (List.mem_of_getElem? (i := 120) rfl)), good_of_word (by decide +kernel)⟩
theorem dw_253 : lw_in (Cond.selects RX4 yX4_fail yX4_fail) := ⟨List.mem_of_getElem? (i := 20) rfl, good_of_word (by decide +kernel)⟩
theorem dw_254 : lw_in (Cond.instanceMethod yX4_fail) := ⟨lw_t (tm_3 (List.mem_of_getElem? (i := 118) rfl)), good_of_word (by decide +kernel)⟩
theorem dw_255 : lw_in (Cond.methodLink RX4 70 yX4_fail) := ⟨lw_t (tm_3 (List.mem_of_getElem? (i := 116) rfl)), good_of_word (by decide +kernel)⟩
theorem dw_256 : lw_in (Cond.selects RX4 yX4_readWave yX4_readWave) := ⟨List.mem_of_getElem? (i := 19) rfl, good_of_word (by decide +kernel)⟩
theorem dw_257 : lw_in (Cond.instanceMethod yX4_readWave) := ⟨lw_t (tm_3 (List.mem_of_getElem? (i := 114) rfl)), good_of_word (by decide +kernel)⟩
theorem dw_258 : lw_in (Cond.methodLink RX4 84 yX4_readWave) := ⟨lw_t (tm_3 (List.mem_of_getElem? (i := 112) rfl)), good_of_word (by decide +kernel)⟩
set_option maxRecDepth 100000 in
theorem dw_259 : lw_in (Cond.code yX4_readWave cX4_readWave 5 none) := ⟨lw_t (tm_3 (List.mem_of_getElem? (i := 115) rfl)), good_of_word (by decide +kernel)⟩
theorem dw_260 : lw_in (Cond.selects RX4 yX4_failLater yX4_failLater) := ⟨List.mem_of_getElem? (i := 23) rfl, good_of_word (by decide +kernel)⟩
theorem dw_261 : lw_in (Cond.instanceMethod yX4_failLater) := ⟨lw_t (tm_3 (List.mem_of_getElem? (i := 130) rfl)), good_of_word (by decide +kernel)⟩
theorem dw_262 : lw_in (Cond.methodLink RX4 77 yX4_failLater) := ⟨lw_t (tm_3 (List.mem_of_getElem? (i := 128) rfl)), good_of_word (by decide +kernel)⟩
set_option maxRecDepth 100000 in
theorem dw_263 : lw_in (Cond.code yX4_fail cX4_fail 2 none) := ⟨lw_t (tm_3 (List.mem_of_getElem? (i := 119) rfl)), good_of_word (by decide +kernel)⟩
set_option maxRecDepth 100000 in
theorem dw_264 : lw_in (Cond.code yX4_take cX4_take 2 none) := ⟨lw_t (tm_3 (List.mem_of_getElem? (i := 123) rfl)), good_of_word (by decide +kernel)⟩
set_option maxRecDepth 100000 in
theorem dw_265 : lw_in (Cond.code yX4_takeInt cX4_takeInt 3 (some .int)) := ⟨lw_t (tm_3 (List.mem_of_getElem? (i := 127) rfl)), good_of_word (by decide +kernel)⟩
set_option maxRecDepth 100000 in
theorem dw_266 : lw_in (Cond.code yX4_failLater cX4_failLater 3 none) := ⟨lw_t (tm_3 (List.mem_of_getElem? (i := 131) rfl)), good_of_word (by decide +kernel)⟩
set_option maxRecDepth 100000 in
theorem dw_267 : lw_in (Cond.code yX4_readParty cX4_readParty 3 none) := ⟨lw_t (tm_3 (List.mem_of_getElem? (i := 135) rfl)), good_of_word (by decide +kernel)⟩
theorem dw_268 : lw_in (Cond.selects RX4 yX4_isTold yX4_isTold) := ⟨List.mem_of_getElem? (i := 25) rfl, good_of_word (by decide +kernel)⟩
theorem dw_269 : lw_in (Cond.instanceMethod yX4_isTold) := ⟨lw_t (tm_3 (List.mem_of_getElem? (i := 138) rfl)), good_of_word (by decide +kernel)⟩
theorem dw_270 : lw_in (Cond.methodLink RX4 109 yX4_isTold) := ⟨lw_t (tm_3 (List.mem_of_getElem? (i := 136) rfl)), good_of_word (by decide +kernel)⟩
theorem dw_271 : lw_in (Cond.fieldLink RX4 18 "GuessFerry$Reader" "names" "[J") := ⟨lw_t (tm_2 (List.mem_of_getElem? (i := 26) rfl)), good_of_word (by decide +kernel)⟩
set_option maxRecDepth 100000 in
theorem dw_272 : lw_in (Cond.code yX4_isTold cX4_isTold 4 (some .boolean)) := ⟨lw_t (tm_3 (List.mem_of_getElem? (i := 139) rfl)), good_of_word (by decide +kernel)⟩
set_option maxRecDepth 100000 in
theorem dw_273 : lw_in (Cond.code yX4_readLaw cX4_readLaw 3 none) := ⟨lw_t (tm_3 (List.mem_of_getElem? (i := 143) rfl)), good_of_word (by decide +kernel)⟩
theorem dw_274 : lw_in (Cond.selects RX4 yX4_readPart yX4_readPart) := ⟨List.mem_of_getElem? (i := 27) rfl, good_of_word (by decide +kernel)⟩
theorem dw_275 : lw_in (Cond.instanceMethod yX4_readPart) := ⟨lw_t (tm_3 (List.mem_of_getElem? (i := 147) rfl)), good_of_word (by decide +kernel)⟩
theorem dw_276 : lw_in (Cond.methodLink RX4 128 yX4_readPart) := ⟨lw_t (tm_3 (List.mem_of_getElem? (i := 145) rfl)), good_of_word (by decide +kernel)⟩
set_option maxRecDepth 100000 in
theorem dw_277 : lw_in (Cond.code yX4_readPart cX4_readPart 2 none) := ⟨lw_t (tm_3 (List.mem_of_getElem? (i := 148) rfl)), good_of_word (by decide +kernel)⟩
theorem dw_278 : lw_in (Cond.selects RX4 yX4_readSum yX4_readSum) := ⟨List.mem_of_getElem? (i := 28) rfl, good_of_word (by decide +kernel)⟩
theorem dw_279 : lw_in (Cond.instanceMethod yX4_readSum) := ⟨lw_t (tm_3 (List.mem_of_getElem? (i := 151) rfl)), good_of_word (by decide +kernel)⟩
theorem dw_280 : lw_in (Cond.methodLink RX4 131 yX4_readSum) := ⟨lw_t (tm_3 (List.mem_of_getElem? (i := 149) rfl)), good_of_word (by decide +kernel)⟩
set_option maxRecDepth 100000 in
theorem dw_281 : lw_in (Cond.code yX4_readSum cX4_readSum 4 none) := ⟨lw_t (tm_3 (List.mem_of_getElem? (i := 152) rfl)), good_of_word (by decide +kernel)⟩
set_option maxRecDepth 100000 in
theorem dw_282 : lw_in (Cond.code yX4_readUnit cX4_readUnit 4 none) := ⟨lw_t (tm_3 (List.mem_of_getElem? (i := 160) rfl)), good_of_word (by decide +kernel)⟩
set_option maxRecDepth 100000 in
theorem dw_283 : lw_in (Cond.code yX4_readProduct cX4_readProduct 4 none) := ⟨lw_t (tm_3 (List.mem_of_getElem? (i := 156) rfl)), good_of_word (by decide +kernel)⟩
theorem dw_284 : lw_in (Cond.selects RX4 yX4_readProduct yX4_readProduct) := ⟨List.mem_of_getElem? (i := 29) rfl, good_of_word (by decide +kernel)⟩
theorem dw_285 : lw_in (Cond.instanceMethod yX4_readProduct) := ⟨lw_t (tm_3 (List.mem_of_getElem? (i := 155) rfl)), good_of_word (by decide +kernel)⟩
theorem dw_286 : lw_in (Cond.methodLink RX4 137 yX4_readProduct) := ⟨lw_t (tm_3 (List.mem_of_getElem? (i := 153) rfl)), good_of_word (by decide +kernel)⟩
theorem dw_287 : lw_in (Cond.selects RX1 yX1_putSign yX1_putSign) := ⟨List.mem_of_getElem? (i := 31) rfl, good_of_word (by decide +kernel)⟩
theorem dw_288 : lw_in (Cond.instanceMethod yX1_putSign) := ⟨lw_t (tm_3 (List.mem_of_getElem? (i := 165) rfl)), good_of_word (by decide +kernel)⟩
theorem dw_289 : lw_in (Cond.selects RX4 yX4_readUnit yX4_readUnit) := ⟨List.mem_of_getElem? (i := 30) rfl, good_of_word (by decide +kernel)⟩
theorem dw_290 : lw_in (Cond.instanceMethod yX4_readUnit) := ⟨lw_t (tm_3 (List.mem_of_getElem? (i := 159) rfl)), good_of_word (by decide +kernel)⟩
theorem dw_291 : lw_in (Cond.methodLink RX4 143 yX4_readUnit) := ⟨lw_t (tm_3 (List.mem_of_getElem? (i := 157) rfl)), good_of_word (by decide +kernel)⟩
set_option maxRecDepth 100000 in
theorem dw_292 : lw_in (Cond.code yX1_putSign cX1_putSign 2 none) := ⟨lw_t (tm_3 (List.mem_of_getElem? (i := 166) rfl)), good_of_word (by decide +kernel)⟩
set_option maxRecDepth 100000 in
theorem dw_293 : lw_in (Cond.code yX5_addUp cX5_addUp 3 none) := ⟨lw_t (tm_3 (List.mem_of_getElem? (i := 171) rfl)), good_of_word (by decide +kernel)⟩
theorem dw_294 : lw_in (Cond.selects RX5 yX5_oddsAt yX5_oddsAt) := ⟨List.mem_of_getElem? (i := 33) rfl, good_of_word (by decide +kernel)⟩
theorem dw_295 : lw_in (Cond.instanceMethod yX5_oddsAt) := ⟨lw_t (tm_3 (List.mem_of_getElem? (i := 174) rfl)), good_of_word (by decide +kernel)⟩
theorem dw_296 : lw_in (Cond.methodLink RX5 51 yX5_oddsAt) := ⟨lw_t (tm_3 (List.mem_of_getElem? (i := 172) rfl)), good_of_word (by decide +kernel)⟩
theorem dw_297 : lw_in (Cond.fieldLink RX5 18 "GuessFerry$Sound" "likely" "[I") := ⟨lw_t (tm_1 (List.mem_of_getElem? (i := 119) rfl)), good_of_word (by decide +kernel)⟩
theorem dw_298 : lw_in (Cond.fieldLink RX5 15 "GuessFerry$Sound" "oddsSums" "[I") := ⟨lw_t (tm_1 (List.mem_of_getElem? (i := 118) rfl)), good_of_word (by decide +kernel)⟩
set_option maxRecDepth 100000 in
theorem dw_299 : lw_in (Cond.code yX5_oddsAt cX5_oddsAt 3 (some .int)) := ⟨lw_t (tm_3 (List.mem_of_getElem? (i := 175) rfl)), good_of_word (by decide +kernel)⟩
theorem dw_300 : lw_in (Cond.fieldLink RX5 9 "GuessFerry$Sound" "odds" "[I") := ⟨lw_t (tm_1 (List.mem_of_getElem? (i := 116) rfl)), good_of_word (by decide +kernel)⟩
set_option maxRecDepth 100000 in
theorem dw_301 : lw_in (Cond.code yX5_copyFrom cX5_copyFrom 2 none) := ⟨lw_t (tm_3 (List.mem_of_getElem? (i := 179) rfl)), good_of_word (by decide +kernel)⟩
theorem dw_302 : lw_in (Cond.selects RX1 yX1_copyFrom yX1_copyFrom) := ⟨List.mem_of_getElem? (i := 35) rfl, good_of_word (by decide +kernel)⟩
theorem dw_303 : lw_in (Cond.instanceMethod yX1_copyFrom) := ⟨lw_t (tm_3 (List.mem_of_getElem? (i := 185) rfl)), good_of_word (by decide +kernel)⟩
theorem dw_304 : lw_in (Cond.fieldLink RX5 24 "GuessFerry$Sound" "nerve" "[I") := ⟨lw_t (tm_1 (List.mem_of_getElem? (i := 125) rfl)), good_of_word (by decide +kernel)⟩
theorem dw_305 : lw_in (Cond.fieldLink RX5 21 "GuessFerry$Sound" "heavy" "[I") := ⟨lw_t (tm_1 (List.mem_of_getElem? (i := 121) rfl)), good_of_word (by decide +kernel)⟩
theorem dw_306 : lw_in (Cond.initialized "java/lang/System") := ⟨lw_t (tm_1 (List.mem_of_getElem? (i := 20) rfl)), good_of_word (by decide +kernel)⟩
theorem dw_307 : lw_in (Cond.static arraycopyName) := ⟨lw_t (tm_3 (List.mem_of_getElem? (i := 181) rfl)), good_of_word (by decide +kernel)⟩
theorem dw_308 : lw_in (Cond.native arraycopyName) := ⟨lw_t (tm_3 (List.mem_of_getElem? (i := 182) rfl)), good_of_word (by decide +kernel)⟩
theorem dw_309 : lw_in (Cond.methodLink RX5 55 arraycopyName) := ⟨lw_t (tm_3 (List.mem_of_getElem? (i := 180) rfl)), good_of_word (by decide +kernel)⟩
set_option maxRecDepth 100000 in
theorem dw_310 : lw_in (Cond.code yX1_copyFrom cX1_copyFrom 2 none) := ⟨lw_t (tm_3 (List.mem_of_getElem? (i := 186) rfl)), good_of_word (by decide +kernel)⟩
theorem dw_311 : lw_in (Cond.methodLink RX1 51 arraycopyName) := ⟨lw_t (tm_3 (List.mem_of_getElem? (i := 187) rfl)), good_of_word (by decide +kernel)⟩
set_option maxRecDepth 100000 in
theorem dw_312 : lw_in (Cond.code yX6_startOver cX6_startOver 1 none) := ⟨lw_t (tm_2 (List.mem_of_getElem? (i := 195) rfl)), good_of_word (by decide +kernel)⟩
theorem dw_313 : lw_in (Cond.initialized RJ7) := ⟨lw_t (tm_1 (List.mem_of_getElem? (i := 16) rfl)), good_of_word (by decide +kernel)⟩
theorem dw_314 : lw_in (Cond.static yJ7_fill_53178) := ⟨lw_t (tm_2 (List.mem_of_getElem? (i := 197) rfl)), good_of_word (by decide +kernel)⟩
theorem dw_315 : lw_in (Cond.methodLink RX6 27 yJ7_fill_53178) := ⟨lw_t (tm_2 (List.mem_of_getElem? (i := 196) rfl)), good_of_word (by decide +kernel)⟩
theorem dw_316 : lw_in (Cond.fieldLink RX6 37 "GuessFerry$Standing" "paid" "I") := ⟨lw_t (tm_2 (List.mem_of_getElem? (i := 77) rfl)), good_of_word (by decide +kernel)⟩
theorem dw_317 : lw_in (Cond.fieldLink RX6 33 "GuessFerry$Standing" "year" "I") := ⟨lw_t (tm_2 (List.mem_of_getElem? (i := 74) rfl)), good_of_word (by decide +kernel)⟩
theorem dw_318 : lw_in (Cond.fieldLink RX6 24 "GuessFerry$Standing" "goes" "[I") := ⟨lw_t (tm_2 (List.mem_of_getElem? (i := 70) rfl)), good_of_word (by decide +kernel)⟩
theorem dw_319 : lw_in (Cond.fieldLink RX6 21 "GuessFerry$Standing" "status" "[I") := ⟨lw_t (tm_2 (List.mem_of_getElem? (i := 67) rfl)), good_of_word (by decide +kernel)⟩
theorem dw_320 : lw_in (Cond.fieldLink RX6 18 "GuessFerry$Standing" "shifted" "[I") := ⟨lw_t (tm_2 (List.mem_of_getElem? (i := 64) rfl)), good_of_word (by decide +kernel)⟩
theorem dw_321 : lw_in (Cond.fieldLink RX6 15 "GuessFerry$Standing" "buoys" "[I") := ⟨lw_t (tm_2 (List.mem_of_getElem? (i := 60) rfl)), good_of_word (by decide +kernel)⟩
theorem dw_322 : lw_in (Cond.fieldLink RX6 9 "GuessFerry$Standing" "found" "[I") := ⟨lw_t (tm_2 (List.mem_of_getElem? (i := 56) rfl)), good_of_word (by decide +kernel)⟩
set_option maxRecDepth 100000 in
theorem dw_323 : lw_in (Cond.code yJ7_fill_53178 cJ7_fill_53178 4 none) := ⟨lw_t (tm_2 (List.mem_of_getElem? (i := 198) rfl)), good_of_word (by decide +kernel)⟩
set_option maxRecDepth 100000 in
theorem dw_324 : lw_in (Cond.code yX3_forgetAll cX3_forgetAll 2 none) := ⟨lw_t (tm_3 (List.mem_of_getElem? (i := 191) rfl)), good_of_word (by decide +kernel)⟩
theorem dw_325 : lw_in (Cond.fieldLink RX3 20 "GuessFerry$Past" "isHeld" "[Z") := ⟨lw_t (tm_2 (List.mem_of_getElem? (i := 106) rfl)), good_of_word (by decide +kernel)⟩
theorem dw_326 : lw_in (Cond.fieldLink RX3 25 "GuessFerry$Past" "size" "I") := ⟨lw_t (tm_2 (List.mem_of_getElem? (i := 108) rfl)), good_of_word (by decide +kernel)⟩
theorem dw_327 : lw_in (Cond.selects RX10 yX10_read yX10_read) := ⟨lw_t (tm_3 (List.mem_of_getElem? (i := 5) rfl)), good_of_word (by decide +kernel)⟩
theorem dw_328 : lw_in (Cond.instanceMethod yX10_read) := ⟨lw_t (tm_3 (List.mem_of_getElem? (i := 4) rfl)), good_of_word (by decide +kernel)⟩
theorem dw_329 : lw_in (Cond.methodLink R_law 23 yX10_read) := ⟨lw_t (tm_3 (List.mem_of_getElem? (i := 3) rfl)), good_of_word (by decide +kernel)⟩
set_option maxRecDepth 100000 in
theorem dw_330 : lw_in (Cond.code yX11_read cX11_read 2 (some .int)) := ⟨lw_t (tm_6 (List.mem_of_getElem? (i := 185) rfl)), good_of_word (by decide +kernel)⟩
theorem dw_331 : lw_in (Cond.selects RX11 yX11_keepsRow yX11_keepsRow) := ⟨List.mem_of_getElem? (i := 103) rfl, good_of_word (by decide +kernel)⟩
theorem dw_332 : lw_in (Cond.instanceMethod yX11_keepsRow) := ⟨lw_t (tm_5 (List.mem_of_getElem? (i := 234) rfl)), good_of_word (by decide +kernel)⟩
theorem dw_333 : lw_in (Cond.methodLink RX11 145 yX11_keepsRow) := ⟨lw_t (tm_5 (List.mem_of_getElem? (i := 232) rfl)), good_of_word (by decide +kernel)⟩
theorem dw_334 : lw_in (Cond.selects RX11 yX11_begins yX11_begins) := ⟨List.mem_of_getElem? (i := 102) rfl, good_of_word (by decide +kernel)⟩
theorem dw_335 : lw_in (Cond.instanceMethod yX11_begins) := ⟨lw_t (tm_5 (List.mem_of_getElem? (i := 230) rfl)), good_of_word (by decide +kernel)⟩
theorem dw_336 : lw_in (Cond.methodLink RX11 142 yX11_begins) := ⟨lw_t (tm_5 (List.mem_of_getElem? (i := 228) rfl)), good_of_word (by decide +kernel)⟩
theorem dw_337 : lw_in (Cond.selects RX11 yX11_tellOne yX11_tellOne) := ⟨List.mem_of_getElem? (i := 110) rfl, good_of_word (by decide +kernel)⟩
theorem dw_338 : lw_in (Cond.instanceMethod yX11_tellOne) := ⟨lw_t (tm_6 (List.mem_of_getElem? (i := 214) rfl)), good_of_word (by decide +kernel)⟩
theorem dw_339 : lw_in (Cond.methodLink RX11 227 yX11_tellOne) := ⟨lw_t (tm_6 (List.mem_of_getElem? (i := 212) rfl)), good_of_word (by decide +kernel)⟩
theorem dw_340 : lw_in (Cond.selects RX11 yX11_is yX11_is) := ⟨List.mem_of_getElem? (i := 109) rfl, good_of_word (by decide +kernel)⟩
theorem dw_341 : lw_in (Cond.instanceMethod yX11_is) := ⟨lw_t (tm_6 (List.mem_of_getElem? (i := 210) rfl)), good_of_word (by decide +kernel)⟩
theorem dw_342 : lw_in (Cond.methodLink RX11 203 yX11_is) := ⟨lw_t (tm_6 (List.mem_of_getElem? (i := 208) rfl)), good_of_word (by decide +kernel)⟩
theorem dw_343 : lw_in (Cond.selects RX11 yX11_plain yX11_plain) := ⟨List.mem_of_getElem? (i := 101) rfl, good_of_word (by decide +kernel)⟩
theorem dw_344 : lw_in (Cond.instanceMethod yX11_plain) := ⟨lw_t (tm_5 (List.mem_of_getElem? (i := 219) rfl)), good_of_word (by decide +kernel)⟩
theorem dw_345 : lw_in (Cond.methodLink RX11 134 yX11_plain) := ⟨lw_t (tm_5 (List.mem_of_getElem? (i := 217) rfl)), good_of_word (by decide +kernel)⟩
theorem dw_346 : lw_in (Cond.selects RX11 yX11_cut yX11_cut) := ⟨List.mem_of_getElem? (i := 105) rfl, good_of_word (by decide +kernel)⟩
theorem dw_347 : lw_in (Cond.instanceMethod yX11_cut) := ⟨lw_t (tm_6 (List.mem_of_getElem? (i := 188) rfl)), good_of_word (by decide +kernel)⟩
theorem dw_348 : lw_in (Cond.methodLink RX11 209 yX11_cut) := ⟨lw_t (tm_6 (List.mem_of_getElem? (i := 186) rfl)), good_of_word (by decide +kernel)⟩
theorem dw_349 : lw_in (Cond.fieldLink RX11 128 "GuessFerryModel" "isHeld" "[Z") := ⟨lw_t (tm_6 (List.mem_of_getElem? (i := 51) rfl)), good_of_word (by decide +kernel)⟩
theorem dw_350 : lw_in (Cond.fieldLink RX11 233 "GuessFerryModel" "tolds" "I") := ⟨lw_t (tm_6 (List.mem_of_getElem? (i := 46) rfl)), good_of_word (by decide +kernel)⟩
theorem dw_351 : lw_in (Cond.fieldLink RX11 230 "GuessFerryModel" "undos" "I") := ⟨lw_t (tm_6 (List.mem_of_getElem? (i := 43) rfl)), good_of_word (by decide +kernel)⟩
theorem dw_352 : lw_in (Cond.fieldLink RX11 37 "GuessFerryModel" "place" "I") := ⟨lw_t (tm_6 (List.mem_of_getElem? (i := 12) rfl)), good_of_word (by decide +kernel)⟩
theorem dw_353 : lw_in (Cond.fieldLink RX11 197 "GuessFerryModel" "worstPlace" "I") := ⟨lw_t (tm_6 (List.mem_of_getElem? (i := 11) rfl)), good_of_word (by decide +kernel)⟩
theorem dw_354 : lw_in (Cond.fieldLink RX11 191 "GuessFerryModel" "faultPlace" "I") := ⟨lw_t (tm_6 (List.mem_of_getElem? (i := 9) rfl)), good_of_word (by decide +kernel)⟩
theorem dw_355 : lw_in (Cond.fieldLink RX11 224 "GuessFerryModel" "codes" "I") := ⟨lw_t (tm_6 (List.mem_of_getElem? (i := 30) rfl)), good_of_word (by decide +kernel)⟩
theorem dw_356 : lw_in (Cond.fieldLink RX11 221 "GuessFerryModel" "branches" "I") := ⟨lw_t (tm_6 (List.mem_of_getElem? (i := 24) rfl)), good_of_word (by decide +kernel)⟩
theorem dw_357 : lw_in (Cond.fieldLink RX11 218 "GuessFerryModel" "side" "I") := ⟨lw_t (tm_6 (List.mem_of_getElem? (i := 14) rfl)), good_of_word (by decide +kernel)⟩
theorem dw_358 : lw_in (Cond.fieldLink RX11 215 "GuessFerryModel" "live" "I") := ⟨lw_t (tm_6 (List.mem_of_getElem? (i := 13) rfl)), good_of_word (by decide +kernel)⟩
theorem dw_359 : lw_in (Cond.fieldLink RX11 194 "GuessFerryModel" "worst" "I") := ⟨lw_t (tm_6 (List.mem_of_getElem? (i := 10) rfl)), good_of_word (by decide +kernel)⟩
theorem dw_360 : lw_in (Cond.fieldLink RX11 185 "GuessFerryModel" "fault" "I") := ⟨lw_t (tm_6 (List.mem_of_getElem? (i := 8) rfl)), good_of_word (by decide +kernel)⟩
theorem dw_361 : lw_in (Cond.fieldLink RX11 212 "GuessFerryModel" "open" "I") := ⟨lw_t (tm_6 (List.mem_of_getElem? (i := 7) rfl)), good_of_word (by decide +kernel)⟩
theorem dw_362 : lw_in (Cond.fieldLink RX11 188 "GuessFerryModel" "t" "I") := ⟨lw_t (tm_6 (List.mem_of_getElem? (i := 6) rfl)), good_of_word (by decide +kernel)⟩
theorem dw_363 : lw_in (Cond.fieldLink RX11 17 "GuessFerryModel" "text" "[B") := ⟨lw_t (tm_5 (List.mem_of_getElem? (i := 238) rfl)), good_of_word (by decide +kernel)⟩
theorem dw_364 : lw_in (Cond.fieldLink RX11 154 "GuessFerryModel" "size" "I") := ⟨lw_t (tm_5 (List.mem_of_getElem? (i := 239) rfl)), good_of_word (by decide +kernel)⟩
set_option maxRecDepth 100000 in
theorem dw_365 : lw_in (Cond.code yX11_cut cX11_cut 8 none) := ⟨lw_t (tm_6 (List.mem_of_getElem? (i := 189) rfl)), good_of_word (by decide +kernel)⟩
theorem dw_366 : lw_in (Cond.selects RX11 yX11_sign yX11_sign) := ⟨List.mem_of_getElem? (i := 108) rfl, good_of_word (by decide +kernel)⟩
theorem dw_367 : lw_in (Cond.instanceMethod yX11_sign) := ⟨lw_t (tm_6 (List.mem_of_getElem? (i := 206) rfl)), good_of_word (by decide +kernel)⟩
theorem dw_368 : lw_in (Cond.methodLink RX11 181 yX11_sign) := ⟨lw_t (tm_6 (List.mem_of_getElem? (i := 204) rfl)), good_of_word (by decide +kernel)⟩
theorem dw_369 : lw_in (Cond.static yX11_isDigit) := ⟨lw_t (tm_6 (List.mem_of_getElem? (i := 202) rfl)), good_of_word (by decide +kernel)⟩
theorem dw_370 : lw_in (Cond.methodLink RX11 178 yX11_isDigit) := ⟨lw_t (tm_6 (List.mem_of_getElem? (i := 201) rfl)), good_of_word (by decide +kernel)⟩
theorem dw_371 : lw_in (Cond.static yX11_appends) := ⟨lw_t (tm_5 (List.mem_of_getElem? (i := 225) rfl)), good_of_word (by decide +kernel)⟩
theorem dw_372 : lw_in (Cond.methodLink RX11 159 yX11_appends) := ⟨lw_t (tm_5 (List.mem_of_getElem? (i := 224) rfl)), good_of_word (by decide +kernel)⟩
theorem dw_373 : lw_in (Cond.static yX11_isLetter) := ⟨lw_t (tm_6 (List.mem_of_getElem? (i := 199) rfl)), good_of_word (by decide +kernel)⟩
theorem dw_374 : lw_in (Cond.methodLink RX11 174 yX11_isLetter) := ⟨lw_t (tm_6 (List.mem_of_getElem? (i := 198) rfl)), good_of_word (by decide +kernel)⟩
theorem dw_375 : lw_in (Cond.selects RX11 yX11_token yX11_token) := ⟨List.mem_of_getElem? (i := 107) rfl, good_of_word (by decide +kernel)⟩
theorem dw_376 : lw_in (Cond.instanceMethod yX11_token) := ⟨lw_t (tm_6 (List.mem_of_getElem? (i := 196) rfl)), good_of_word (by decide +kernel)⟩
theorem dw_377 : lw_in (Cond.methodLink RX11 170 yX11_token) := ⟨lw_t (tm_6 (List.mem_of_getElem? (i := 194) rfl)), good_of_word (by decide +kernel)⟩
theorem dw_378 : lw_in (Cond.selects RX11 yX11_byteAt yX11_byteAt) := ⟨List.mem_of_getElem? (i := 106) rfl, good_of_word (by decide +kernel)⟩
theorem dw_379 : lw_in (Cond.instanceMethod yX11_byteAt) := ⟨lw_t (tm_6 (List.mem_of_getElem? (i := 192) rfl)), good_of_word (by decide +kernel)⟩
theorem dw_380 : lw_in (Cond.methodLink RX11 166 yX11_byteAt) := ⟨lw_t (tm_6 (List.mem_of_getElem? (i := 190) rfl)), good_of_word (by decide +kernel)⟩
theorem dw_381 : lw_in (Cond.fieldLink RX11 34 "GuessFerryModel" "keys" "[J") := ⟨lw_t (tm_6 (List.mem_of_getElem? (i := 4) rfl)), good_of_word (by decide +kernel)⟩
theorem dw_382 : lw_in (Cond.fieldLink RX11 163 "GuessFerryModel" "tokens" "I") := ⟨lw_t (tm_6 (List.mem_of_getElem? (i := 5) rfl)), good_of_word (by decide +kernel)⟩
set_option maxRecDepth 100000 in
theorem dw_383 : lw_in (Cond.code yX11_byteAt cX11_byteAt 2 (some .int)) := ⟨lw_t (tm_6 (List.mem_of_getElem? (i := 193) rfl)), good_of_word (by decide +kernel)⟩
set_option maxRecDepth 100000 in
theorem dw_384 : lw_in (Cond.code yX11_token cX11_token 6 none) := ⟨lw_t (tm_6 (List.mem_of_getElem? (i := 197) rfl)), good_of_word (by decide +kernel)⟩
theorem dw_385 : lw_in (Cond.fieldLink RX11 30 "GuessFerryModel" "tName" "[J") := ⟨lw_t (tm_6 (List.mem_of_getElem? (i := 3) rfl)), good_of_word (by decide +kernel)⟩
theorem dw_386 : lw_in (Cond.fieldLink RX11 27 "GuessFerryModel" "tValue" "[I") := ⟨lw_t (tm_6 (List.mem_of_getElem? (i := 2) rfl)), good_of_word (by decide +kernel)⟩
theorem dw_387 : lw_in (Cond.fieldLink RX11 24 "GuessFerryModel" "tPlace" "[I") := ⟨lw_t (tm_6 (List.mem_of_getElem? (i := 1) rfl)), good_of_word (by decide +kernel)⟩
theorem dw_388 : lw_in (Cond.fieldLink RX11 20 "GuessFerryModel" "tKind" "[I") := ⟨lw_t (tm_6 (List.mem_of_getElem? (i := 0) rfl)), good_of_word (by decide +kernel)⟩
set_option maxRecDepth 100000 in
theorem dw_389 : lw_in (Cond.code yX11_isLetter cX11_isLetter 1 (some .boolean)) := ⟨lw_t (tm_6 (List.mem_of_getElem? (i := 200) rfl)), good_of_word (by decide +kernel)⟩
set_option maxRecDepth 100000 in
theorem dw_390 : lw_in (Cond.code yX11_appends cX11_appends 3 (some .long)) := ⟨lw_t (tm_5 (List.mem_of_getElem? (i := 226) rfl)), good_of_word (by decide +kernel)⟩
theorem dw_391 : lw_in (Cond.constantLong RX11 157 (27)) := ⟨lw_t (tm_5 (List.mem_of_getElem? (i := 227) rfl)), good_of_word (by decide +kernel)⟩
set_option maxRecDepth 100000 in
theorem dw_392 : lw_in (Cond.code yX11_isDigit cX11_isDigit 1 (some .boolean)) := ⟨lw_t (tm_6 (List.mem_of_getElem? (i := 203) rfl)), good_of_word (by decide +kernel)⟩
set_option maxRecDepth 100000 in
theorem dw_393 : lw_in (Cond.code yX11_sign cX11_sign 5 (some .int)) := ⟨lw_t (tm_6 (List.mem_of_getElem? (i := 207) rfl)), good_of_word (by decide +kernel)⟩
set_option maxRecDepth 100000 in
theorem dw_394 : lw_in (Cond.code yX11_plain cX11_plain 3 none) := ⟨lw_t (tm_5 (List.mem_of_getElem? (i := 220) rfl)), good_of_word (by decide +kernel)⟩
theorem dw_395 : lw_in (Cond.fieldLink RX11 64 "GuessFerryModel" "lawLast" "[I") := ⟨lw_t (tm_6 (List.mem_of_getElem? (i := 23) rfl)), good_of_word (by decide +kernel)⟩
theorem dw_396 : lw_in (Cond.fieldLink RX11 61 "GuessFerryModel" "lawFirst" "[I") := ⟨lw_t (tm_6 (List.mem_of_getElem? (i := 22) rfl)), good_of_word (by decide +kernel)⟩
theorem dw_397 : lw_in (Cond.fieldLink RX11 58 "GuessFerryModel" "seed" "[I") := ⟨lw_t (tm_6 (List.mem_of_getElem? (i := 21) rfl)), good_of_word (by decide +kernel)⟩
theorem dw_398 : lw_in (Cond.fieldLink RX11 49 "GuessFerryModel" "parties" "[I") := ⟨lw_t (tm_6 (List.mem_of_getElem? (i := 18) rfl)), good_of_word (by decide +kernel)⟩
theorem dw_399 : lw_in (Cond.fieldLink RX11 40 "GuessFerryModel" "waves" "[I") := ⟨lw_t (tm_6 (List.mem_of_getElem? (i := 15) rfl)), good_of_word (by decide +kernel)⟩
set_option maxRecDepth 100000 in
theorem dw_400 : lw_in (Cond.code yX11_is cX11_is 2 (some .boolean)) := ⟨lw_t (tm_6 (List.mem_of_getElem? (i := 211) rfl)), good_of_word (by decide +kernel)⟩
set_option maxRecDepth 100000 in
theorem dw_401 : lw_in (Cond.code yX11_tellOne cX11_tellOne 2 none) := ⟨lw_t (tm_6 (List.mem_of_getElem? (i := 215) rfl)), good_of_word (by decide +kernel)⟩
theorem dw_402 : lw_in (Cond.selects RX11 yX11_tellLaw yX11_tellLaw) := ⟨List.mem_of_getElem? (i := 119) rfl, good_of_word (by decide +kernel)⟩
theorem dw_403 : lw_in (Cond.instanceMethod yX11_tellLaw) := ⟨lw_t (tm_7 (List.mem_of_getElem? (i := 10) rfl)), good_of_word (by decide +kernel)⟩
theorem dw_404 : lw_in (Cond.methodLink RX11 252 yX11_tellLaw) := ⟨lw_t (tm_7 (List.mem_of_getElem? (i := 8) rfl)), good_of_word (by decide +kernel)⟩
theorem dw_405 : lw_in (Cond.selects RX11 yX11_tellParty yX11_tellParty) := ⟨List.mem_of_getElem? (i := 118) rfl, good_of_word (by decide +kernel)⟩
theorem dw_406 : lw_in (Cond.instanceMethod yX11_tellParty) := ⟨lw_t (tm_7 (List.mem_of_getElem? (i := 6) rfl)), good_of_word (by decide +kernel)⟩
theorem dw_407 : lw_in (Cond.methodLink RX11 243 yX11_tellParty) := ⟨lw_t (tm_7 (List.mem_of_getElem? (i := 4) rfl)), good_of_word (by decide +kernel)⟩
theorem dw_408 : lw_in (Cond.selects RX11 yX11_must yX11_must) := ⟨List.mem_of_getElem? (i := 117) rfl, good_of_word (by decide +kernel)⟩
theorem dw_409 : lw_in (Cond.instanceMethod yX11_must) := ⟨lw_t (tm_7 (List.mem_of_getElem? (i := 2) rfl)), good_of_word (by decide +kernel)⟩
theorem dw_410 : lw_in (Cond.methodLink RX11 249 yX11_must) := ⟨lw_t (tm_7 (List.mem_of_getElem? (i := 0) rfl)), good_of_word (by decide +kernel)⟩
theorem dw_411 : lw_in (Cond.selects RX11 yX11_bounded yX11_bounded) := ⟨List.mem_of_getElem? (i := 115) rfl, good_of_word (by decide +kernel)⟩
theorem dw_412 : lw_in (Cond.instanceMethod yX11_bounded) := ⟨lw_t (tm_6 (List.mem_of_getElem? (i := 234) rfl)), good_of_word (by decide +kernel)⟩
theorem dw_413 : lw_in (Cond.methodLink RX11 246 yX11_bounded) := ⟨lw_t (tm_6 (List.mem_of_getElem? (i := 232) rfl)), good_of_word (by decide +kernel)⟩
theorem dw_414 : lw_in (Cond.selects RX11 yX11_tellWave yX11_tellWave) := ⟨List.mem_of_getElem? (i := 114) rfl, good_of_word (by decide +kernel)⟩
theorem dw_415 : lw_in (Cond.instanceMethod yX11_tellWave) := ⟨lw_t (tm_6 (List.mem_of_getElem? (i := 230) rfl)), good_of_word (by decide +kernel)⟩
theorem dw_416 : lw_in (Cond.methodLink RX11 240 yX11_tellWave) := ⟨lw_t (tm_6 (List.mem_of_getElem? (i := 228) rfl)), good_of_word (by decide +kernel)⟩
theorem dw_417 : lw_in (Cond.selects RX11 yX11_goesOn yX11_goesOn) := ⟨List.mem_of_getElem? (i := 113) rfl, good_of_word (by decide +kernel)⟩
theorem dw_418 : lw_in (Cond.instanceMethod yX11_goesOn) := ⟨lw_t (tm_6 (List.mem_of_getElem? (i := 226) rfl)), good_of_word (by decide +kernel)⟩
theorem dw_419 : lw_in (Cond.methodLink RX11 206 yX11_goesOn) := ⟨lw_t (tm_6 (List.mem_of_getElem? (i := 224) rfl)), good_of_word (by decide +kernel)⟩
theorem dw_420 : lw_in (Cond.selects RX11 yX11_fail yX11_fail) := ⟨List.mem_of_getElem? (i := 112) rfl, good_of_word (by decide +kernel)⟩
theorem dw_421 : lw_in (Cond.instanceMethod yX11_fail) := ⟨lw_t (tm_6 (List.mem_of_getElem? (i := 222) rfl)), good_of_word (by decide +kernel)⟩
theorem dw_422 : lw_in (Cond.methodLink RX11 200 yX11_fail) := ⟨lw_t (tm_6 (List.mem_of_getElem? (i := 220) rfl)), good_of_word (by decide +kernel)⟩
theorem dw_423 : lw_in (Cond.selects RX11 yX11_roomFor yX11_roomFor) := ⟨List.mem_of_getElem? (i := 111) rfl, good_of_word (by decide +kernel)⟩
theorem dw_424 : lw_in (Cond.instanceMethod yX11_roomFor) := ⟨lw_t (tm_6 (List.mem_of_getElem? (i := 218) rfl)), good_of_word (by decide +kernel)⟩
theorem dw_425 : lw_in (Cond.methodLink RX11 236 yX11_roomFor) := ⟨lw_t (tm_6 (List.mem_of_getElem? (i := 216) rfl)), good_of_word (by decide +kernel)⟩
set_option maxRecDepth 100000 in
theorem dw_426 : lw_in (Cond.code yX11_roomFor cX11_roomFor 3 none) := ⟨lw_t (tm_6 (List.mem_of_getElem? (i := 219) rfl)), good_of_word (by decide +kernel)⟩
set_option maxRecDepth 100000 in
theorem dw_427 : lw_in (Cond.code yX11_fail cX11_fail 2 none) := ⟨lw_t (tm_6 (List.mem_of_getElem? (i := 223) rfl)), good_of_word (by decide +kernel)⟩
set_option maxRecDepth 100000 in
theorem dw_428 : lw_in (Cond.code yX11_goesOn cX11_goesOn 1 none) := ⟨lw_t (tm_6 (List.mem_of_getElem? (i := 227) rfl)), good_of_word (by decide +kernel)⟩
set_option maxRecDepth 100000 in
theorem dw_429 : lw_in (Cond.code yX11_tellWave cX11_tellWave 5 none) := ⟨lw_t (tm_6 (List.mem_of_getElem? (i := 231) rfl)), good_of_word (by decide +kernel)⟩
theorem dw_430 : lw_in (Cond.selects RX11 yX11_wrong yX11_wrong) := ⟨List.mem_of_getElem? (i := 116) rfl, good_of_word (by decide +kernel)⟩
theorem dw_431 : lw_in (Cond.instanceMethod yX11_wrong) := ⟨lw_t (tm_6 (List.mem_of_getElem? (i := 238) rfl)), good_of_word (by decide +kernel)⟩
theorem dw_432 : lw_in (Cond.methodLink RX11 255 yX11_wrong) := ⟨lw_t (tm_6 (List.mem_of_getElem? (i := 236) rfl)), good_of_word (by decide +kernel)⟩
theorem dw_433 : lw_in (Cond.fieldLink RX11 43 "GuessFerryModel" "oddsOf" "[I") := ⟨lw_t (tm_6 (List.mem_of_getElem? (i := 16) rfl)), good_of_word (by decide +kernel)⟩
set_option maxRecDepth 100000 in
theorem dw_434 : lw_in (Cond.code yX11_bounded cX11_bounded 3 (some .int)) := ⟨lw_t (tm_6 (List.mem_of_getElem? (i := 235) rfl)), good_of_word (by decide +kernel)⟩
set_option maxRecDepth 100000 in
theorem dw_435 : lw_in (Cond.code yX11_wrong cX11_wrong 4 none) := ⟨lw_t (tm_6 (List.mem_of_getElem? (i := 239) rfl)), good_of_word (by decide +kernel)⟩
set_option maxRecDepth 100000 in
theorem dw_436 : lw_in (Cond.code yX11_must cX11_must 2 none) := ⟨lw_t (tm_7 (List.mem_of_getElem? (i := 3) rfl)), good_of_word (by decide +kernel)⟩
set_option maxRecDepth 100000 in
theorem dw_437 : lw_in (Cond.code yX11_tellParty cX11_tellParty 4 none) := ⟨lw_t (tm_7 (List.mem_of_getElem? (i := 7) rfl)), good_of_word (by decide +kernel)⟩
theorem dw_438 : lw_in (Cond.fieldLink RX11 55 "GuessFerryModel" "nerveOf" "[I") := ⟨lw_t (tm_6 (List.mem_of_getElem? (i := 20) rfl)), good_of_word (by decide +kernel)⟩
theorem dw_439 : lw_in (Cond.fieldLink RX11 52 "GuessFerryModel" "heavyOf" "[I") := ⟨lw_t (tm_6 (List.mem_of_getElem? (i := 19) rfl)), good_of_word (by decide +kernel)⟩
theorem dw_440 : lw_in (Cond.fieldLink RX11 46 "GuessFerryModel" "nameOf" "[J") := ⟨lw_t (tm_6 (List.mem_of_getElem? (i := 17) rfl)), good_of_word (by decide +kernel)⟩
set_option maxRecDepth 100000 in
theorem dw_441 : lw_in (Cond.code yX11_tellLaw cX11_tellLaw 4 none) := ⟨lw_t (tm_7 (List.mem_of_getElem? (i := 11) rfl)), good_of_word (by decide +kernel)⟩
theorem dw_442 : lw_in (Cond.selects RX11 yX11_term yX11_term) := ⟨List.mem_of_getElem? (i := 124) rfl, good_of_word (by decide +kernel)⟩
theorem dw_443 : lw_in (Cond.instanceMethod yX11_term) := ⟨lw_t (tm_7 (List.mem_of_getElem? (i := 30) rfl)), good_of_word (by decide +kernel)⟩
theorem dw_444 : lw_in (Cond.methodLink RX11 261 yX11_term) := ⟨lw_t (tm_7 (List.mem_of_getElem? (i := 28) rfl)), good_of_word (by decide +kernel)⟩
theorem dw_445 : lw_in (Cond.selects RX11 yX11_expression yX11_expression) := ⟨List.mem_of_getElem? (i := 120) rfl, good_of_word (by decide +kernel)⟩
theorem dw_446 : lw_in (Cond.instanceMethod yX11_expression) := ⟨lw_t (tm_7 (List.mem_of_getElem? (i := 14) rfl)), good_of_word (by decide +kernel)⟩
theorem dw_447 : lw_in (Cond.methodLink RX11 258 yX11_expression) := ⟨lw_t (tm_7 (List.mem_of_getElem? (i := 12) rfl)), good_of_word (by decide +kernel)⟩
theorem dw_448 : lw_in (Cond.fieldLink RX11 74 "GuessFerryModel" "testMid" "[I") := ⟨lw_t (tm_6 (List.mem_of_getElem? (i := 27) rfl)), good_of_word (by decide +kernel)⟩
theorem dw_449 : lw_in (Cond.fieldLink RX11 71 "GuessFerryModel" "testFrom" "[I") := ⟨lw_t (tm_6 (List.mem_of_getElem? (i := 26) rfl)), good_of_word (by decide +kernel)⟩
theorem dw_450 : lw_in (Cond.fieldLink RX11 67 "GuessFerryModel" "hasTest" "[Z") := ⟨lw_t (tm_6 (List.mem_of_getElem? (i := 25) rfl)), good_of_word (by decide +kernel)⟩
set_option maxRecDepth 100000 in
theorem dw_451 : lw_in (Cond.code yX11_expression cX11_expression 3 none) := ⟨lw_t (tm_7 (List.mem_of_getElem? (i := 15) rfl)), good_of_word (by decide +kernel)⟩
theorem dw_452 : lw_in (Cond.selects RX11 yX11_comesOut yX11_comesOut) := ⟨List.mem_of_getElem? (i := 123) rfl, good_of_word (by decide +kernel)⟩
theorem dw_453 : lw_in (Cond.instanceMethod yX11_comesOut) := ⟨lw_t (tm_7 (List.mem_of_getElem? (i := 26) rfl)), good_of_word (by decide +kernel)⟩
theorem dw_454 : lw_in (Cond.methodLink RX11 273 yX11_comesOut) := ⟨lw_t (tm_7 (List.mem_of_getElem? (i := 24) rfl)), good_of_word (by decide +kernel)⟩
theorem dw_455 : lw_in (Cond.selects RX11 yX11_unit yX11_unit) := ⟨List.mem_of_getElem? (i := 121) rfl, good_of_word (by decide +kernel)⟩
theorem dw_456 : lw_in (Cond.instanceMethod yX11_unit) := ⟨lw_t (tm_7 (List.mem_of_getElem? (i := 18) rfl)), good_of_word (by decide +kernel)⟩
theorem dw_457 : lw_in (Cond.methodLink RX11 270 yX11_unit) := ⟨lw_t (tm_7 (List.mem_of_getElem? (i := 16) rfl)), good_of_word (by decide +kernel)⟩
theorem dw_458 : lw_in (Cond.fieldLink RX11 89 "GuessFerryModel" "waits" "[I") := ⟨lw_t (tm_6 (List.mem_of_getElem? (i := 33) rfl)), good_of_word (by decide +kernel)⟩
theorem dw_459 : lw_in (Cond.fieldLink RX11 264 "GuessFerryModel" "waiting" "I") := ⟨lw_t (tm_6 (List.mem_of_getElem? (i := 34) rfl)), good_of_word (by decide +kernel)⟩
set_option maxRecDepth 100000 in
theorem dw_460 : lw_in (Cond.code yX11_unit cX11_unit 1 none) := ⟨lw_t (tm_7 (List.mem_of_getElem? (i := 19) rfl)), good_of_word (by decide +kernel)⟩
theorem dw_461 : lw_in (Cond.selects RX11 yX11_emit yX11_emit) := ⟨List.mem_of_getElem? (i := 122) rfl, good_of_word (by decide +kernel)⟩
theorem dw_462 : lw_in (Cond.instanceMethod yX11_emit) := ⟨lw_t (tm_7 (List.mem_of_getElem? (i := 22) rfl)), good_of_word (by decide +kernel)⟩
theorem dw_463 : lw_in (Cond.methodLink RX11 267 yX11_emit) := ⟨lw_t (tm_7 (List.mem_of_getElem? (i := 20) rfl)), good_of_word (by decide +kernel)⟩
set_option maxRecDepth 100000 in
theorem dw_464 : lw_in (Cond.code yX11_emit cX11_emit 3 none) := ⟨lw_t (tm_7 (List.mem_of_getElem? (i := 23) rfl)), good_of_word (by decide +kernel)⟩
theorem dw_465 : lw_in (Cond.fieldLink RX11 86 "GuessFerryModel" "codeInt" "[I") := ⟨lw_t (tm_6 (List.mem_of_getElem? (i := 32) rfl)), good_of_word (by decide +kernel)⟩
theorem dw_466 : lw_in (Cond.fieldLink RX11 83 "GuessFerryModel" "code" "[I") := ⟨lw_t (tm_6 (List.mem_of_getElem? (i := 31) rfl)), good_of_word (by decide +kernel)⟩
set_option maxRecDepth 100000 in
theorem dw_467 : lw_in (Cond.code yX11_comesOut cX11_comesOut 3 none) := ⟨lw_t (tm_7 (List.mem_of_getElem? (i := 27) rfl)), good_of_word (by decide +kernel)⟩
set_option maxRecDepth 100000 in
theorem dw_468 : lw_in (Cond.code yX11_term cX11_term 1 none) := ⟨lw_t (tm_7 (List.mem_of_getElem? (i := 31) rfl)), good_of_word (by decide +kernel)⟩
theorem dw_469 : lw_in (Cond.fieldLink RX11 80 "GuessFerryModel" "termTo" "[I") := ⟨lw_t (tm_6 (List.mem_of_getElem? (i := 29) rfl)), good_of_word (by decide +kernel)⟩
theorem dw_470 : lw_in (Cond.fieldLink RX11 77 "GuessFerryModel" "testTo" "[I") := ⟨lw_t (tm_6 (List.mem_of_getElem? (i := 28) rfl)), good_of_word (by decide +kernel)⟩
set_option maxRecDepth 100000 in
theorem dw_471 : lw_in (Cond.code yX11_begins cX11_begins 2 none) := ⟨lw_t (tm_5 (List.mem_of_getElem? (i := 231) rfl)), good_of_word (by decide +kernel)⟩
theorem dw_472 : lw_in (Cond.fieldLink RX11 289 "GuessFerryModel" "lots" "I") := ⟨lw_t (tm_6 (List.mem_of_getElem? (i := 40) rfl)), good_of_word (by decide +kernel)⟩
theorem dw_473 : lw_in (Cond.fieldLink RX11 104 "GuessFerryModel" "sixes" "[I") := ⟨lw_t (tm_6 (List.mem_of_getElem? (i := 41) rfl)), good_of_word (by decide +kernel)⟩
theorem dw_474 : lw_in (Cond.fieldLink RX11 101 "GuessFerryModel" "row" "[I") := ⟨lw_t (tm_6 (List.mem_of_getElem? (i := 39) rfl)), good_of_word (by decide +kernel)⟩
set_option maxRecDepth 100000 in
theorem dw_475 : lw_in (Cond.code yX11_keepsRow cX11_keepsRow 2 none) := ⟨lw_t (tm_5 (List.mem_of_getElem? (i := 235) rfl)), good_of_word (by decide +kernel)⟩
theorem dw_476 : lw_in (Cond.fieldLink RX11 98 "GuessFerryModel" "now" "[I") := ⟨lw_t (tm_6 (List.mem_of_getElem? (i := 38) rfl)), good_of_word (by decide +kernel)⟩
theorem dw_477 : lw_in (Cond.selects RX11 yX11_read yX11_read) := ⟨lw_t (tm_6 (List.mem_of_getElem? (i := 184) rfl)), good_of_word (by decide +kernel)⟩
theorem dw_478 : lw_in (Cond.instanceMethod yX11_read) := ⟨lw_t (tm_6 (List.mem_of_getElem? (i := 183) rfl)), good_of_word (by decide +kernel)⟩
theorem dw_479 : lw_in (Cond.methodLink R_law 27 yX11_read) := ⟨lw_t (tm_6 (List.mem_of_getElem? (i := 182) rfl)), good_of_word (by decide +kernel)⟩
set_option maxRecDepth 100000 in
theorem dw_480 : lw_in (Cond.code yX10_place cX10_place 1 (some .int)) := ⟨lw_t (tm_3 (List.mem_of_getElem? (i := 195) rfl)), good_of_word (by decide +kernel)⟩
theorem dw_481 : lw_in (Cond.selects RX10 yX10_place yX10_place) := ⟨lw_t (tm_3 (List.mem_of_getElem? (i := 194) rfl)), good_of_word (by decide +kernel)⟩
theorem dw_482 : lw_in (Cond.instanceMethod yX10_place) := ⟨lw_t (tm_3 (List.mem_of_getElem? (i := 193) rfl)), good_of_word (by decide +kernel)⟩
theorem dw_483 : lw_in (Cond.methodLink R_law 28 yX10_place) := ⟨lw_t (tm_3 (List.mem_of_getElem? (i := 192) rfl)), good_of_word (by decide +kernel)⟩
set_option maxRecDepth 100000 in
theorem dw_484 : lw_in (Cond.code yX11_place cX11_place 1 (some .int)) := ⟨lw_t (tm_7 (List.mem_of_getElem? (i := 35) rfl)), good_of_word (by decide +kernel)⟩
theorem dw_485 : lw_in (Cond.selects RX11 yX11_place yX11_place) := ⟨lw_t (tm_7 (List.mem_of_getElem? (i := 34) rfl)), good_of_word (by decide +kernel)⟩
theorem dw_486 : lw_in (Cond.instanceMethod yX11_place) := ⟨lw_t (tm_7 (List.mem_of_getElem? (i := 33) rfl)), good_of_word (by decide +kernel)⟩
theorem dw_487 : lw_in (Cond.methodLink R_law 31 yX11_place) := ⟨lw_t (tm_7 (List.mem_of_getElem? (i := 32) rfl)), good_of_word (by decide +kernel)⟩
set_option maxRecDepth 100000 in
theorem dw_488 : lw_in (Cond.code yX10_wave cX10_wave 3 (some .int)) := ⟨lw_t (tm_3 (List.mem_of_getElem? (i := 199) rfl)), good_of_word (by decide +kernel)⟩
theorem dw_489 : lw_in (Cond.selects RX0 yX0_shiftsOf yX0_shiftsOf) := ⟨List.mem_of_getElem? (i := 41) rfl, good_of_word (by decide +kernel)⟩
theorem dw_490 : lw_in (Cond.instanceMethod yX0_shiftsOf) := ⟨lw_t (tm_3 (List.mem_of_getElem? (i := 225) rfl)), good_of_word (by decide +kernel)⟩
theorem dw_491 : lw_in (Cond.selects RX0 yX0_thereNow yX0_thereNow) := ⟨List.mem_of_getElem? (i := 39) rfl, good_of_word (by decide +kernel)⟩
theorem dw_492 : lw_in (Cond.instanceMethod yX0_thereNow) := ⟨lw_t (tm_3 (List.mem_of_getElem? (i := 210) rfl)), good_of_word (by decide +kernel)⟩
theorem dw_493 : lw_in (Cond.selects RX0 yX0_mayBe yX0_mayBe) := ⟨List.mem_of_getElem? (i := 38) rfl, good_of_word (by decide +kernel)⟩
theorem dw_494 : lw_in (Cond.initialized RX0) := ⟨lw_t (tm_1 (List.mem_of_getElem? (i := 13) rfl)), good_of_word (by decide +kernel)⟩
theorem dw_495 : lw_in (Cond.instanceMethod yX0_mayBe) := ⟨lw_t (tm_3 (List.mem_of_getElem? (i := 206) rfl)), good_of_word (by decide +kernel)⟩
theorem dw_496 : lw_in (Cond.selects RX5 yX5_hasWave yX5_hasWave) := ⟨List.mem_of_getElem? (i := 37) rfl, good_of_word (by decide +kernel)⟩
theorem dw_497 : lw_in (Cond.instanceMethod yX5_hasWave) := ⟨lw_t (tm_3 (List.mem_of_getElem? (i := 202) rfl)), good_of_word (by decide +kernel)⟩
theorem dw_498 : lw_in (Cond.fieldLink RX10 54 "GuessFerry" "crossing" "LGuessFerry$Crossing;") := ⟨lw_t (tm_2 (List.mem_of_getElem? (i := 205) rfl)), good_of_word (by decide +kernel)⟩
set_option maxRecDepth 100000 in
theorem dw_499 : lw_in (Cond.code yX5_hasWave cX5_hasWave 2 (some .boolean)) := ⟨lw_t (tm_3 (List.mem_of_getElem? (i := 203) rfl)), good_of_word (by decide +kernel)⟩
end
section
set_option maxRecDepth 100000 in
theorem dw_500 : lw_in (Cond.code yX0_mayBe cX0_mayBe 3 (some .int)) := ⟨lw_t (tm_3 (List.mem_of_getElem? (i := 207) rfl)), good_of_word (by decide +kernel)⟩
theorem dw_501 : lw_in (Cond.fieldLink RX0 9 "GuessFerry$Crossing" "sound" "LGuessFerry$Sound;") := ⟨lw_t (tm_2 (List.mem_of_getElem? (i := 128) rfl)), good_of_word (by decide +kernel)⟩
set_option maxRecDepth 100000 in
theorem dw_502 : lw_in (Cond.code yX0_thereNow cX0_thereNow 3 (some .int)) := ⟨lw_t (tm_3 (List.mem_of_getElem? (i := 211) rfl)), good_of_word (by decide +kernel)⟩
theorem dw_503 : lw_in (Cond.selects RX5 yX5_thingThere yX5_thingThere) := ⟨List.mem_of_getElem? (i := 40) rfl, good_of_word (by decide +kernel)⟩
theorem dw_504 : lw_in (Cond.instanceMethod yX5_thingThere) := ⟨lw_t (tm_3 (List.mem_of_getElem? (i := 214) rfl)), good_of_word (by decide +kernel)⟩
set_option maxRecDepth 100000 in
theorem dw_505 : lw_in (Cond.code yX5_thingThere cX5_thingThere 7 (some .int)) := ⟨lw_t (tm_3 (List.mem_of_getElem? (i := 215) rfl)), good_of_word (by decide +kernel)⟩
theorem dw_506 : lw_in (Cond.static yX10_lot) := ⟨lw_t (tm_3 (List.mem_of_getElem? (i := 217) rfl)), good_of_word (by decide +kernel)⟩
set_option maxRecDepth 100000 in
theorem dw_507 : lw_in (Cond.code yX10_lot cX10_lot 4 (some .int)) := ⟨lw_t (tm_3 (List.mem_of_getElem? (i := 218) rfl)), good_of_word (by decide +kernel)⟩
theorem dw_508 : lw_in (Cond.static yX10_stirred) := ⟨lw_t (tm_3 (List.mem_of_getElem? (i := 220) rfl)), good_of_word (by decide +kernel)⟩
theorem dw_509 : lw_in (Cond.methodLink RX10 322 yX10_stirred) := ⟨lw_t (tm_3 (List.mem_of_getElem? (i := 219) rfl)), good_of_word (by decide +kernel)⟩
set_option maxRecDepth 100000 in
theorem dw_510 : lw_in (Cond.code yX10_stirred cX10_stirred 3 (some .int)) := ⟨lw_t (tm_3 (List.mem_of_getElem? (i := 221) rfl)), good_of_word (by decide +kernel)⟩
theorem dw_511 : lw_in (Cond.constant RX10 325 (1103515245)) := ⟨lw_t (tm_3 (List.mem_of_getElem? (i := 222) rfl)), good_of_word (by decide +kernel)⟩
set_option maxRecDepth 100000 in
theorem dw_512 : lw_in (Cond.code yX0_shiftsOf cX0_shiftsOf 3 (some .int)) := ⟨lw_t (tm_3 (List.mem_of_getElem? (i := 226) rfl)), good_of_word (by decide +kernel)⟩
theorem dw_513 : lw_in (Cond.static yX10_heldTo) := ⟨lw_t (tm_4 (List.mem_of_getElem? (i := 16) rfl)), good_of_word (by decide +kernel)⟩
theorem dw_514 : lw_in (Cond.selects RX1 yX1_valueOf yX1_valueOf) := ⟨List.mem_of_getElem? (i := 44) rfl, good_of_word (by decide +kernel)⟩
theorem dw_515 : lw_in (Cond.instanceMethod yX1_valueOf) := ⟨lw_t (tm_4 (List.mem_of_getElem? (i := 5) rfl)), good_of_word (by decide +kernel)⟩
theorem dw_516 : lw_in (Cond.selects RX0 yX0_setWave yX0_setWave) := ⟨List.mem_of_getElem? (i := 43) rfl, good_of_word (by decide +kernel)⟩
theorem dw_517 : lw_in (Cond.instanceMethod yX0_setWave) := ⟨lw_t (tm_3 (List.mem_of_getElem? (i := 234) rfl)), good_of_word (by decide +kernel)⟩
theorem dw_518 : lw_in (Cond.methodLink RX0 89 yX0_setWave) := ⟨lw_t (tm_3 (List.mem_of_getElem? (i := 232) rfl)), good_of_word (by decide +kernel)⟩
theorem dw_519 : lw_in (Cond.selects RX0 yX0_clearVars yX0_clearVars) := ⟨List.mem_of_getElem? (i := 42) rfl, good_of_word (by decide +kernel)⟩
theorem dw_520 : lw_in (Cond.instanceMethod yX0_clearVars) := ⟨lw_t (tm_3 (List.mem_of_getElem? (i := 229) rfl)), good_of_word (by decide +kernel)⟩
theorem dw_521 : lw_in (Cond.methodLink RX0 81 yX0_clearVars) := ⟨lw_t (tm_3 (List.mem_of_getElem? (i := 227) rfl)), good_of_word (by decide +kernel)⟩
set_option maxRecDepth 100000 in
theorem dw_522 : lw_in (Cond.code yX0_clearVars cX0_clearVars 2 none) := ⟨lw_t (tm_3 (List.mem_of_getElem? (i := 230) rfl)), good_of_word (by decide +kernel)⟩
theorem dw_523 : lw_in (Cond.methodLink RX0 53 yJ7_fill_53178) := ⟨lw_t (tm_3 (List.mem_of_getElem? (i := 231) rfl)), good_of_word (by decide +kernel)⟩
theorem dw_524 : lw_in (Cond.fieldLink RX0 27 "GuessFerry$Crossing" "vars" "[I") := ⟨lw_t (tm_2 (List.mem_of_getElem? (i := 129) rfl)), good_of_word (by decide +kernel)⟩
set_option maxRecDepth 100000 in
theorem dw_525 : lw_in (Cond.code yX0_setWave cX0_setWave 3 none) := ⟨lw_t (tm_3 (List.mem_of_getElem? (i := 235) rfl)), good_of_word (by decide +kernel)⟩
theorem dw_526 : lw_in (Cond.initialized RJ6) := ⟨lw_t (tm_1 (List.mem_of_getElem? (i := 21) rfl)), good_of_word (by decide +kernel)⟩
theorem dw_527 : lw_in (Cond.static yJ6_bitCount_0f7a4) := ⟨lw_t (tm_3 (List.mem_of_getElem? (i := 238) rfl)), good_of_word (by decide +kernel)⟩
theorem dw_528 : lw_in (Cond.methodLink RX0 75 yJ6_bitCount_0f7a4) := ⟨lw_t (tm_3 (List.mem_of_getElem? (i := 237) rfl)), good_of_word (by decide +kernel)⟩
theorem dw_529 : lw_in (Cond.methodLink RX0 71 yX0_mayBe) := ⟨lw_t (tm_3 (List.mem_of_getElem? (i := 236) rfl)), good_of_word (by decide +kernel)⟩
set_option maxRecDepth 100000 in
theorem dw_530 : lw_in (Cond.code yJ6_bitCount_0f7a4 cJ6_bitCount_0f7a4 1 (some .int)) := ⟨lw_t (tm_3 (List.mem_of_getElem? (i := 239) rfl)), good_of_word (by decide +kernel)⟩
theorem dw_531 : lw_in (Cond.constant RJ6 267 (252645135)) := ⟨lw_t (tm_4 (List.mem_of_getElem? (i := 2) rfl)), good_of_word (by decide +kernel)⟩
theorem dw_532 : lw_in (Cond.constant RJ6 266 (858993459)) := ⟨lw_t (tm_4 (List.mem_of_getElem? (i := 1) rfl)), good_of_word (by decide +kernel)⟩
theorem dw_533 : lw_in (Cond.constant RJ6 265 (1431655765)) := ⟨lw_t (tm_4 (List.mem_of_getElem? (i := 0) rfl)), good_of_word (by decide +kernel)⟩
set_option maxRecDepth 100000 in
theorem dw_534 : lw_in (Cond.code yX1_valueOf cX1_valueOf 7 (some .int)) := ⟨lw_t (tm_4 (List.mem_of_getElem? (i := 6) rfl)), good_of_word (by decide +kernel)⟩
theorem dw_535 : lw_in (Cond.selects RX1 yX1_partValue yX1_partValue) := ⟨List.mem_of_getElem? (i := 45) rfl, good_of_word (by decide +kernel)⟩
theorem dw_536 : lw_in (Cond.instanceMethod yX1_partValue) := ⟨lw_t (tm_4 (List.mem_of_getElem? (i := 9) rfl)), good_of_word (by decide +kernel)⟩
theorem dw_537 : lw_in (Cond.methodLink RX1 67 yX1_partValue) := ⟨lw_t (tm_4 (List.mem_of_getElem? (i := 7) rfl)), good_of_word (by decide +kernel)⟩
theorem dw_538 : lw_in (Cond.fieldLink RX1 63 "GuessFerry$Laws" "isByZero" "Z") := ⟨lw_t (tm_1 (List.mem_of_getElem? (i := 67) rfl)), good_of_word (by decide +kernel)⟩
set_option maxRecDepth 100000 in
theorem dw_539 : lw_in (Cond.code yX1_partValue cX1_partValue 8 (some .int)) := ⟨lw_t (tm_4 (List.mem_of_getElem? (i := 10) rfl)), good_of_word (by decide +kernel)⟩
theorem dw_540 : lw_in (Cond.selects RX1 yX1_joined yX1_joined) := ⟨List.mem_of_getElem? (i := 46) rfl, good_of_word (by decide +kernel)⟩
theorem dw_541 : lw_in (Cond.instanceMethod yX1_joined) := ⟨lw_t (tm_4 (List.mem_of_getElem? (i := 13) rfl)), good_of_word (by decide +kernel)⟩
theorem dw_542 : lw_in (Cond.methodLink RX1 71 yX1_joined) := ⟨lw_t (tm_4 (List.mem_of_getElem? (i := 11) rfl)), good_of_word (by decide +kernel)⟩
theorem dw_543 : lw_in (Cond.fieldLink RX1 28 "GuessFerry$Laws" "vars" "[I") := ⟨lw_t (tm_1 (List.mem_of_getElem? (i := 63) rfl)), good_of_word (by decide +kernel)⟩
theorem dw_544 : lw_in (Cond.fieldLink RX1 31 "GuessFerry$Laws" "stack" "[I") := ⟨lw_t (tm_1 (List.mem_of_getElem? (i := 64) rfl)), good_of_word (by decide +kernel)⟩
set_option maxRecDepth 100000 in
theorem dw_545 : lw_in (Cond.code yX1_joined cX1_joined 4 (some .int)) := ⟨lw_t (tm_4 (List.mem_of_getElem? (i := 14) rfl)), good_of_word (by decide +kernel)⟩
set_option maxRecDepth 100000 in
theorem dw_546 : lw_in (Cond.code yX10_heldTo cX10_heldTo 2 (some .int)) := ⟨lw_t (tm_4 (List.mem_of_getElem? (i := 17) rfl)), good_of_word (by decide +kernel)⟩
theorem dw_547 : lw_in (Cond.methodLink RX10 319 Lib.Math.max.name) := ⟨lw_t (tm_4 (List.mem_of_getElem? (i := 19) rfl)), good_of_word (by decide +kernel)⟩
theorem dw_548 : lw_in (Cond.methodLink RX10 314 Lib.Math.min.name) := ⟨lw_t (tm_4 (List.mem_of_getElem? (i := 18) rfl)), good_of_word (by decide +kernel)⟩
theorem dw_549 : lw_in (Cond.selects RX10 yX10_wave yX10_wave) := ⟨lw_t (tm_3 (List.mem_of_getElem? (i := 198) rfl)), good_of_word (by decide +kernel)⟩
theorem dw_550 : lw_in (Cond.instanceMethod yX10_wave) := ⟨lw_t (tm_3 (List.mem_of_getElem? (i := 197) rfl)), good_of_word (by decide +kernel)⟩
theorem dw_551 : lw_in (Cond.methodLink R_law 32 yX10_wave) := ⟨lw_t (tm_3 (List.mem_of_getElem? (i := 196) rfl)), good_of_word (by decide +kernel)⟩
set_option maxRecDepth 100000 in
theorem dw_552 : lw_in (Cond.code yX11_wave cX11_wave 3 (some .int)) := ⟨lw_t (tm_7 (List.mem_of_getElem? (i := 39) rfl)), good_of_word (by decide +kernel)⟩
theorem dw_553 : lw_in (Cond.selects RX11 yX11_shiftsOf yX11_shiftsOf) := ⟨List.mem_of_getElem? (i := 131) rfl, good_of_word (by decide +kernel)⟩
theorem dw_554 : lw_in (Cond.instanceMethod yX11_shiftsOf) := ⟨lw_t (tm_7 (List.mem_of_getElem? (i := 73) rfl)), good_of_word (by decide +kernel)⟩
theorem dw_555 : lw_in (Cond.methodLink RX11 343 yX11_shiftsOf) := ⟨lw_t (tm_7 (List.mem_of_getElem? (i := 71) rfl)), good_of_word (by decide +kernel)⟩
theorem dw_556 : lw_in (Cond.selects RX11 yX11_thereAt yX11_thereAt) := ⟨List.mem_of_getElem? (i := 129) rfl, good_of_word (by decide +kernel)⟩
theorem dw_557 : lw_in (Cond.instanceMethod yX11_thereAt) := ⟨lw_t (tm_7 (List.mem_of_getElem? (i := 61) rfl)), good_of_word (by decide +kernel)⟩
theorem dw_558 : lw_in (Cond.methodLink RX11 303 yX11_thereAt) := ⟨lw_t (tm_7 (List.mem_of_getElem? (i := 59) rfl)), good_of_word (by decide +kernel)⟩
theorem dw_559 : lw_in (Cond.selects RX11 yX11_mayAt yX11_mayAt) := ⟨List.mem_of_getElem? (i := 127) rfl, good_of_word (by decide +kernel)⟩
theorem dw_560 : lw_in (Cond.instanceMethod yX11_mayAt) := ⟨lw_t (tm_7 (List.mem_of_getElem? (i := 53) rfl)), good_of_word (by decide +kernel)⟩
theorem dw_561 : lw_in (Cond.methodLink RX11 309 yX11_mayAt) := ⟨lw_t (tm_7 (List.mem_of_getElem? (i := 51) rfl)), good_of_word (by decide +kernel)⟩
theorem dw_562 : lw_in (Cond.selects RX11 yX11_copies yX11_copies) := ⟨List.mem_of_getElem? (i := 126) rfl, good_of_word (by decide +kernel)⟩
theorem dw_563 : lw_in (Cond.instanceMethod yX11_copies) := ⟨lw_t (tm_7 (List.mem_of_getElem? (i := 49) rfl)), good_of_word (by decide +kernel)⟩
theorem dw_564 : lw_in (Cond.methodLink RX11 352 yX11_copies) := ⟨lw_t (tm_7 (List.mem_of_getElem? (i := 47) rfl)), good_of_word (by decide +kernel)⟩
theorem dw_565 : lw_in (Cond.selects RX11 yX11_isWave yX11_isWave) := ⟨List.mem_of_getElem? (i := 125) rfl, good_of_word (by decide +kernel)⟩
theorem dw_566 : lw_in (Cond.instanceMethod yX11_isWave) := ⟨lw_t (tm_7 (List.mem_of_getElem? (i := 42) rfl)), good_of_word (by decide +kernel)⟩
theorem dw_567 : lw_in (Cond.methodLink RX11 349 yX11_isWave) := ⟨lw_t (tm_7 (List.mem_of_getElem? (i := 40) rfl)), good_of_word (by decide +kernel)⟩
set_option maxRecDepth 100000 in
theorem dw_568 : lw_in (Cond.code yX11_isWave cX11_isWave 2 (some .boolean)) := ⟨lw_t (tm_7 (List.mem_of_getElem? (i := 43) rfl)), good_of_word (by decide +kernel)⟩
theorem dw_569 : lw_in (Cond.static yX11_in) := ⟨lw_t (tm_7 (List.mem_of_getElem? (i := 45) rfl)), good_of_word (by decide +kernel)⟩
theorem dw_570 : lw_in (Cond.methodLink RX11 281 yX11_in) := ⟨lw_t (tm_7 (List.mem_of_getElem? (i := 44) rfl)), good_of_word (by decide +kernel)⟩
set_option maxRecDepth 100000 in
theorem dw_571 : lw_in (Cond.code yX11_in cX11_in 3 (some .boolean)) := ⟨lw_t (tm_7 (List.mem_of_getElem? (i := 46) rfl)), good_of_word (by decide +kernel)⟩
set_option maxRecDepth 100000 in
theorem dw_572 : lw_in (Cond.code yX11_copies cX11_copies 2 none) := ⟨lw_t (tm_7 (List.mem_of_getElem? (i := 50) rfl)), good_of_word (by decide +kernel)⟩
set_option maxRecDepth 100000 in
theorem dw_573 : lw_in (Cond.code yX11_mayAt cX11_mayAt 4 (some .int)) := ⟨lw_t (tm_7 (List.mem_of_getElem? (i := 54) rfl)), good_of_word (by decide +kernel)⟩
theorem dw_574 : lw_in (Cond.selects RX11 yX11_oddsAt yX11_oddsAt) := ⟨List.mem_of_getElem? (i := 128) rfl, good_of_word (by decide +kernel)⟩
theorem dw_575 : lw_in (Cond.instanceMethod yX11_oddsAt) := ⟨lw_t (tm_7 (List.mem_of_getElem? (i := 57) rfl)), good_of_word (by decide +kernel)⟩
theorem dw_576 : lw_in (Cond.methodLink RX11 297 yX11_oddsAt) := ⟨lw_t (tm_7 (List.mem_of_getElem? (i := 55) rfl)), good_of_word (by decide +kernel)⟩
set_option maxRecDepth 100000 in
theorem dw_577 : lw_in (Cond.code yX11_oddsAt cX11_oddsAt 3 (some .int)) := ⟨lw_t (tm_7 (List.mem_of_getElem? (i := 58) rfl)), good_of_word (by decide +kernel)⟩
set_option maxRecDepth 100000 in
theorem dw_578 : lw_in (Cond.code yX11_thereAt cX11_thereAt 5 (some .int)) := ⟨lw_t (tm_7 (List.mem_of_getElem? (i := 62) rfl)), good_of_word (by decide +kernel)⟩
theorem dw_579 : lw_in (Cond.selects RX11 yX11_lotOf yX11_lotOf) := ⟨List.mem_of_getElem? (i := 130) rfl, good_of_word (by decide +kernel)⟩
theorem dw_580 : lw_in (Cond.instanceMethod yX11_lotOf) := ⟨lw_t (tm_7 (List.mem_of_getElem? (i := 65) rfl)), good_of_word (by decide +kernel)⟩
theorem dw_581 : lw_in (Cond.methodLink RX11 300 yX11_lotOf) := ⟨lw_t (tm_7 (List.mem_of_getElem? (i := 63) rfl)), good_of_word (by decide +kernel)⟩
set_option maxRecDepth 100000 in
theorem dw_582 : lw_in (Cond.code yX11_lotOf cX11_lotOf 3 (some .int)) := ⟨lw_t (tm_7 (List.mem_of_getElem? (i := 66) rfl)), good_of_word (by decide +kernel)⟩
theorem dw_583 : lw_in (Cond.static yX11_mixed) := ⟨lw_t (tm_7 (List.mem_of_getElem? (i := 68) rfl)), good_of_word (by decide +kernel)⟩
theorem dw_584 : lw_in (Cond.methodLink RX11 293 yX11_mixed) := ⟨lw_t (tm_7 (List.mem_of_getElem? (i := 67) rfl)), good_of_word (by decide +kernel)⟩
set_option maxRecDepth 100000 in
theorem dw_585 : lw_in (Cond.code yX11_mixed cX11_mixed 3 (some .int)) := ⟨lw_t (tm_7 (List.mem_of_getElem? (i := 69) rfl)), good_of_word (by decide +kernel)⟩
theorem dw_586 : lw_in (Cond.constant RX11 292 (1103515245)) := ⟨lw_t (tm_7 (List.mem_of_getElem? (i := 70) rfl)), good_of_word (by decide +kernel)⟩
set_option maxRecDepth 100000 in
theorem dw_587 : lw_in (Cond.code yX11_shiftsOf cX11_shiftsOf 2 (some .int)) := ⟨lw_t (tm_7 (List.mem_of_getElem? (i := 74) rfl)), good_of_word (by decide +kernel)⟩
theorem dw_588 : lw_in (Cond.static yX11_within) := ⟨lw_t (tm_7 (List.mem_of_getElem? (i := 95) rfl)), good_of_word (by decide +kernel)⟩
theorem dw_589 : lw_in (Cond.methodLink RX11 324 yX11_within) := ⟨lw_t (tm_7 (List.mem_of_getElem? (i := 94) rfl)), good_of_word (by decide +kernel)⟩
theorem dw_590 : lw_in (Cond.selects RX11 yX11_lawTells yX11_lawTells) := ⟨List.mem_of_getElem? (i := 134) rfl, good_of_word (by decide +kernel)⟩
theorem dw_591 : lw_in (Cond.instanceMethod yX11_lawTells) := ⟨lw_t (tm_7 (List.mem_of_getElem? (i := 88) rfl)), good_of_word (by decide +kernel)⟩
theorem dw_592 : lw_in (Cond.methodLink RX11 321 yX11_lawTells) := ⟨lw_t (tm_7 (List.mem_of_getElem? (i := 86) rfl)), good_of_word (by decide +kernel)⟩
theorem dw_593 : lw_in (Cond.selects RX11 yX11_looksOver yX11_looksOver) := ⟨List.mem_of_getElem? (i := 133) rfl, good_of_word (by decide +kernel)⟩
theorem dw_594 : lw_in (Cond.instanceMethod yX11_looksOver) := ⟨lw_t (tm_7 (List.mem_of_getElem? (i := 81) rfl)), good_of_word (by decide +kernel)⟩
theorem dw_595 : lw_in (Cond.methodLink RX11 318 yX11_looksOver) := ⟨lw_t (tm_7 (List.mem_of_getElem? (i := 79) rfl)), good_of_word (by decide +kernel)⟩
theorem dw_596 : lw_in (Cond.selects RX11 yX11_looks yX11_looks) := ⟨List.mem_of_getElem? (i := 132) rfl, good_of_word (by decide +kernel)⟩
theorem dw_597 : lw_in (Cond.instanceMethod yX11_looks) := ⟨lw_t (tm_7 (List.mem_of_getElem? (i := 77) rfl)), good_of_word (by decide +kernel)⟩
theorem dw_598 : lw_in (Cond.methodLink RX11 315 yX11_looks) := ⟨lw_t (tm_7 (List.mem_of_getElem? (i := 75) rfl)), good_of_word (by decide +kernel)⟩
set_option maxRecDepth 100000 in
theorem dw_599 : lw_in (Cond.code yX11_looks cX11_looks 3 none) := ⟨lw_t (tm_7 (List.mem_of_getElem? (i := 78) rfl)), good_of_word (by decide +kernel)⟩
theorem dw_600 : lw_in (Cond.fieldLink RX11 92 "GuessFerryModel" "variables" "[I") := ⟨lw_t (tm_6 (List.mem_of_getElem? (i := 35) rfl)), good_of_word (by decide +kernel)⟩
set_option maxRecDepth 100000 in
theorem dw_601 : lw_in (Cond.code yX11_looksOver cX11_looksOver 2 none) := ⟨lw_t (tm_7 (List.mem_of_getElem? (i := 82) rfl)), good_of_word (by decide +kernel)⟩
theorem dw_602 : lw_in (Cond.static yX11_bits) := ⟨lw_t (tm_7 (List.mem_of_getElem? (i := 84) rfl)), good_of_word (by decide +kernel)⟩
theorem dw_603 : lw_in (Cond.methodLink RX11 312 yX11_bits) := ⟨lw_t (tm_7 (List.mem_of_getElem? (i := 83) rfl)), good_of_word (by decide +kernel)⟩
set_option maxRecDepth 100000 in
theorem dw_604 : lw_in (Cond.code yX11_bits cX11_bits 3 (some .int)) := ⟨lw_t (tm_7 (List.mem_of_getElem? (i := 85) rfl)), good_of_word (by decide +kernel)⟩
set_option maxRecDepth 100000 in
theorem dw_605 : lw_in (Cond.code yX11_lawTells cX11_lawTells 7 (some .int)) := ⟨lw_t (tm_7 (List.mem_of_getElem? (i := 89) rfl)), good_of_word (by decide +kernel)⟩
theorem dw_606 : lw_in (Cond.selects RX11 yX11_termOf yX11_termOf) := ⟨List.mem_of_getElem? (i := 135) rfl, good_of_word (by decide +kernel)⟩
theorem dw_607 : lw_in (Cond.instanceMethod yX11_termOf) := ⟨lw_t (tm_7 (List.mem_of_getElem? (i := 92) rfl)), good_of_word (by decide +kernel)⟩
theorem dw_608 : lw_in (Cond.methodLink RX11 306 yX11_termOf) := ⟨lw_t (tm_7 (List.mem_of_getElem? (i := 90) rfl)), good_of_word (by decide +kernel)⟩
theorem dw_609 : lw_in (Cond.fieldLink RX11 277 "GuessFerryModel" "isBroken" "Z") := ⟨lw_t (tm_6 (List.mem_of_getElem? (i := 37) rfl)), good_of_word (by decide +kernel)⟩
set_option maxRecDepth 100000 in
theorem dw_610 : lw_in (Cond.code yX11_termOf cX11_termOf 8 (some .int)) := ⟨lw_t (tm_7 (List.mem_of_getElem? (i := 93) rfl)), good_of_word (by decide +kernel)⟩
theorem dw_611 : lw_in (Cond.fieldLink RX11 95 "GuessFerryModel" "pile" "[I") := ⟨lw_t (tm_6 (List.mem_of_getElem? (i := 36) rfl)), good_of_word (by decide +kernel)⟩
set_option maxRecDepth 100000 in
theorem dw_612 : lw_in (Cond.code yX11_within cX11_within 3 (some .int)) := ⟨lw_t (tm_7 (List.mem_of_getElem? (i := 96) rfl)), good_of_word (by decide +kernel)⟩
theorem dw_613 : lw_in (Cond.selects RX11 yX11_wave yX11_wave) := ⟨lw_t (tm_7 (List.mem_of_getElem? (i := 38) rfl)), good_of_word (by decide +kernel)⟩
theorem dw_614 : lw_in (Cond.instanceMethod yX11_wave) := ⟨lw_t (tm_7 (List.mem_of_getElem? (i := 37) rfl)), good_of_word (by decide +kernel)⟩
theorem dw_615 : lw_in (Cond.methodLink R_law 36 yX11_wave) := ⟨lw_t (tm_7 (List.mem_of_getElem? (i := 36) rfl)), good_of_word (by decide +kernel)⟩
set_option maxRecDepth 100000 in
theorem dw_616 : lw_in (Cond.code yX10_odds cX10_odds 3 (some .int)) := ⟨lw_t (tm_4 (List.mem_of_getElem? (i := 23) rfl)), good_of_word (by decide +kernel)⟩
theorem dw_617 : lw_in (Cond.static yX10_isThing) := ⟨lw_t (tm_4 (List.mem_of_getElem? (i := 25) rfl)), good_of_word (by decide +kernel)⟩
theorem dw_618 : lw_in (Cond.methodLink RX10 131 yX10_isThing) := ⟨lw_t (tm_4 (List.mem_of_getElem? (i := 24) rfl)), good_of_word (by decide +kernel)⟩
set_option maxRecDepth 100000 in
theorem dw_619 : lw_in (Cond.code yX10_isThing cX10_isThing 1 (some .boolean)) := ⟨lw_t (tm_4 (List.mem_of_getElem? (i := 26) rfl)), good_of_word (by decide +kernel)⟩
theorem dw_620 : lw_in (Cond.selects RX10 yX10_odds yX10_odds) := ⟨lw_t (tm_4 (List.mem_of_getElem? (i := 22) rfl)), good_of_word (by decide +kernel)⟩
theorem dw_621 : lw_in (Cond.instanceMethod yX10_odds) := ⟨lw_t (tm_4 (List.mem_of_getElem? (i := 21) rfl)), good_of_word (by decide +kernel)⟩
theorem dw_622 : lw_in (Cond.methodLink R_law 37 yX10_odds) := ⟨lw_t (tm_4 (List.mem_of_getElem? (i := 20) rfl)), good_of_word (by decide +kernel)⟩
set_option maxRecDepth 100000 in
theorem dw_623 : lw_in (Cond.code yX11_odds cX11_odds 3 (some .int)) := ⟨lw_t (tm_7 (List.mem_of_getElem? (i := 100) rfl)), good_of_word (by decide +kernel)⟩
theorem dw_624 : lw_in (Cond.static yX11_isThing) := ⟨lw_t (tm_7 (List.mem_of_getElem? (i := 102) rfl)), good_of_word (by decide +kernel)⟩
theorem dw_625 : lw_in (Cond.methodLink RX11 355 yX11_isThing) := ⟨lw_t (tm_7 (List.mem_of_getElem? (i := 101) rfl)), good_of_word (by decide +kernel)⟩
set_option maxRecDepth 100000 in
theorem dw_626 : lw_in (Cond.code yX11_isThing cX11_isThing 1 (some .boolean)) := ⟨lw_t (tm_7 (List.mem_of_getElem? (i := 103) rfl)), good_of_word (by decide +kernel)⟩
theorem dw_627 : lw_in (Cond.selects RX11 yX11_odds yX11_odds) := ⟨lw_t (tm_7 (List.mem_of_getElem? (i := 99) rfl)), good_of_word (by decide +kernel)⟩
theorem dw_628 : lw_in (Cond.instanceMethod yX11_odds) := ⟨lw_t (tm_7 (List.mem_of_getElem? (i := 98) rfl)), good_of_word (by decide +kernel)⟩
theorem dw_629 : lw_in (Cond.methodLink R_law 40 yX11_odds) := ⟨lw_t (tm_7 (List.mem_of_getElem? (i := 97) rfl)), good_of_word (by decide +kernel)⟩
set_option maxRecDepth 100000 in
theorem dw_630 : lw_in (Cond.code yX10_party cX10_party 3 (some .int)) := ⟨lw_t (tm_4 (List.mem_of_getElem? (i := 31) rfl)), good_of_word (by decide +kernel)⟩
theorem dw_631 : lw_in (Cond.selects RX0 yX0_isDaring yX0_isDaring) := ⟨List.mem_of_getElem? (i := 50) rfl, good_of_word (by decide +kernel)⟩
theorem dw_632 : lw_in (Cond.instanceMethod yX0_isDaring) := ⟨lw_t (tm_4 (List.mem_of_getElem? (i := 46) rfl)), good_of_word (by decide +kernel)⟩
theorem dw_633 : lw_in (Cond.selects RX0 yX0_fareOf yX0_fareOf) := ⟨List.mem_of_getElem? (i := 48) rfl, good_of_word (by decide +kernel)⟩
theorem dw_634 : lw_in (Cond.instanceMethod yX0_fareOf) := ⟨lw_t (tm_4 (List.mem_of_getElem? (i := 38) rfl)), good_of_word (by decide +kernel)⟩
theorem dw_635 : lw_in (Cond.selects RX5 yX5_hasParty yX5_hasParty) := ⟨List.mem_of_getElem? (i := 47) rfl, good_of_word (by decide +kernel)⟩
theorem dw_636 : lw_in (Cond.instanceMethod yX5_hasParty) := ⟨lw_t (tm_4 (List.mem_of_getElem? (i := 34) rfl)), good_of_word (by decide +kernel)⟩
set_option maxRecDepth 100000 in
theorem dw_637 : lw_in (Cond.code yX5_hasParty cX5_hasParty 2 (some .boolean)) := ⟨lw_t (tm_4 (List.mem_of_getElem? (i := 35) rfl)), good_of_word (by decide +kernel)⟩
set_option maxRecDepth 100000 in
theorem dw_638 : lw_in (Cond.code yX0_fareOf cX0_fareOf 3 (some .int)) := ⟨lw_t (tm_4 (List.mem_of_getElem? (i := 39) rfl)), good_of_word (by decide +kernel)⟩
theorem dw_639 : lw_in (Cond.selects RX0 yX0_setParty yX0_setParty) := ⟨List.mem_of_getElem? (i := 49) rfl, good_of_word (by decide +kernel)⟩
theorem dw_640 : lw_in (Cond.instanceMethod yX0_setParty) := ⟨lw_t (tm_4 (List.mem_of_getElem? (i := 42) rfl)), good_of_word (by decide +kernel)⟩
theorem dw_641 : lw_in (Cond.methodLink RX0 85 yX0_setParty) := ⟨lw_t (tm_4 (List.mem_of_getElem? (i := 40) rfl)), good_of_word (by decide +kernel)⟩
set_option maxRecDepth 100000 in
theorem dw_642 : lw_in (Cond.code yX0_setParty cX0_setParty 3 none) := ⟨lw_t (tm_4 (List.mem_of_getElem? (i := 43) rfl)), good_of_word (by decide +kernel)⟩
set_option maxRecDepth 100000 in
theorem dw_643 : lw_in (Cond.code yX0_isDaring cX0_isDaring 3 (some .boolean)) := ⟨lw_t (tm_4 (List.mem_of_getElem? (i := 47) rfl)), good_of_word (by decide +kernel)⟩
theorem dw_644 : lw_in (Cond.selects RX10 yX10_party yX10_party) := ⟨lw_t (tm_4 (List.mem_of_getElem? (i := 30) rfl)), good_of_word (by decide +kernel)⟩
theorem dw_645 : lw_in (Cond.instanceMethod yX10_party) := ⟨lw_t (tm_4 (List.mem_of_getElem? (i := 29) rfl)), good_of_word (by decide +kernel)⟩
theorem dw_646 : lw_in (Cond.methodLink R_law 41 yX10_party) := ⟨lw_t (tm_4 (List.mem_of_getElem? (i := 28) rfl)), good_of_word (by decide +kernel)⟩
set_option maxRecDepth 100000 in
theorem dw_647 : lw_in (Cond.code yX11_party cX11_party 3 (some .int)) := ⟨lw_t (tm_7 (List.mem_of_getElem? (i := 107) rfl)), good_of_word (by decide +kernel)⟩
theorem dw_648 : lw_in (Cond.selects RX11 yX11_doesDare yX11_doesDare) := ⟨List.mem_of_getElem? (i := 138) rfl, good_of_word (by decide +kernel)⟩
theorem dw_649 : lw_in (Cond.instanceMethod yX11_doesDare) := ⟨lw_t (tm_7 (List.mem_of_getElem? (i := 118) rfl)), good_of_word (by decide +kernel)⟩
theorem dw_650 : lw_in (Cond.methodLink RX11 361 yX11_doesDare) := ⟨lw_t (tm_7 (List.mem_of_getElem? (i := 116) rfl)), good_of_word (by decide +kernel)⟩
theorem dw_651 : lw_in (Cond.selects RX11 yX11_faresOf yX11_faresOf) := ⟨List.mem_of_getElem? (i := 137) rfl, good_of_word (by decide +kernel)⟩
theorem dw_652 : lw_in (Cond.instanceMethod yX11_faresOf) := ⟨lw_t (tm_7 (List.mem_of_getElem? (i := 114) rfl)), good_of_word (by decide +kernel)⟩
theorem dw_653 : lw_in (Cond.methodLink RX11 339 yX11_faresOf) := ⟨lw_t (tm_7 (List.mem_of_getElem? (i := 112) rfl)), good_of_word (by decide +kernel)⟩
theorem dw_654 : lw_in (Cond.selects RX11 yX11_isParty yX11_isParty) := ⟨List.mem_of_getElem? (i := 136) rfl, good_of_word (by decide +kernel)⟩
theorem dw_655 : lw_in (Cond.instanceMethod yX11_isParty) := ⟨lw_t (tm_7 (List.mem_of_getElem? (i := 110) rfl)), good_of_word (by decide +kernel)⟩
theorem dw_656 : lw_in (Cond.methodLink RX11 358 yX11_isParty) := ⟨lw_t (tm_7 (List.mem_of_getElem? (i := 108) rfl)), good_of_word (by decide +kernel)⟩
set_option maxRecDepth 100000 in
theorem dw_657 : lw_in (Cond.code yX11_isParty cX11_isParty 2 (some .boolean)) := ⟨lw_t (tm_7 (List.mem_of_getElem? (i := 111) rfl)), good_of_word (by decide +kernel)⟩
set_option maxRecDepth 100000 in
theorem dw_658 : lw_in (Cond.code yX11_faresOf cX11_faresOf 2 (some .int)) := ⟨lw_t (tm_7 (List.mem_of_getElem? (i := 115) rfl)), good_of_word (by decide +kernel)⟩
set_option maxRecDepth 100000 in
theorem dw_659 : lw_in (Cond.code yX11_doesDare cX11_doesDare 2 (some .boolean)) := ⟨lw_t (tm_7 (List.mem_of_getElem? (i := 119) rfl)), good_of_word (by decide +kernel)⟩
theorem dw_660 : lw_in (Cond.selects RX11 yX11_party yX11_party) := ⟨lw_t (tm_7 (List.mem_of_getElem? (i := 106) rfl)), good_of_word (by decide +kernel)⟩
theorem dw_661 : lw_in (Cond.instanceMethod yX11_party) := ⟨lw_t (tm_7 (List.mem_of_getElem? (i := 105) rfl)), good_of_word (by decide +kernel)⟩
theorem dw_662 : lw_in (Cond.methodLink R_law 44 yX11_party) := ⟨lw_t (tm_7 (List.mem_of_getElem? (i := 104) rfl)), good_of_word (by decide +kernel)⟩
set_option maxRecDepth 100000 in
theorem dw_663 : lw_in (Cond.code yX10_needs cX10_needs 4 (some .int)) := ⟨lw_t (tm_4 (List.mem_of_getElem? (i := 51) rfl)), good_of_word (by decide +kernel)⟩
theorem dw_664 : lw_in (Cond.selects RX0 yX0_needOf yX0_needOf) := ⟨List.mem_of_getElem? (i := 51) rfl, good_of_word (by decide +kernel)⟩
theorem dw_665 : lw_in (Cond.instanceMethod yX0_needOf) := ⟨lw_t (tm_4 (List.mem_of_getElem? (i := 54) rfl)), good_of_word (by decide +kernel)⟩
set_option maxRecDepth 100000 in
theorem dw_666 : lw_in (Cond.code yX0_needOf cX0_needOf 5 (some .int)) := ⟨lw_t (tm_4 (List.mem_of_getElem? (i := 55) rfl)), good_of_word (by decide +kernel)⟩
theorem dw_667 : lw_in (Cond.selects RX10 yX10_needs yX10_needs) := ⟨lw_t (tm_4 (List.mem_of_getElem? (i := 50) rfl)), good_of_word (by decide +kernel)⟩
theorem dw_668 : lw_in (Cond.instanceMethod yX10_needs) := ⟨lw_t (tm_4 (List.mem_of_getElem? (i := 49) rfl)), good_of_word (by decide +kernel)⟩
theorem dw_669 : lw_in (Cond.methodLink R_law 45 yX10_needs) := ⟨lw_t (tm_4 (List.mem_of_getElem? (i := 48) rfl)), good_of_word (by decide +kernel)⟩
set_option maxRecDepth 100000 in
theorem dw_670 : lw_in (Cond.code yX11_needs cX11_needs 4 (some .int)) := ⟨lw_t (tm_7 (List.mem_of_getElem? (i := 123) rfl)), good_of_word (by decide +kernel)⟩
theorem dw_671 : lw_in (Cond.selects RX11 yX11_needsOf yX11_needsOf) := ⟨List.mem_of_getElem? (i := 139) rfl, good_of_word (by decide +kernel)⟩
theorem dw_672 : lw_in (Cond.instanceMethod yX11_needsOf) := ⟨lw_t (tm_7 (List.mem_of_getElem? (i := 126) rfl)), good_of_word (by decide +kernel)⟩
theorem dw_673 : lw_in (Cond.methodLink RX11 327 yX11_needsOf) := ⟨lw_t (tm_7 (List.mem_of_getElem? (i := 124) rfl)), good_of_word (by decide +kernel)⟩
set_option maxRecDepth 100000 in
theorem dw_674 : lw_in (Cond.code yX11_needsOf cX11_needsOf 4 (some .int)) := ⟨lw_t (tm_7 (List.mem_of_getElem? (i := 127) rfl)), good_of_word (by decide +kernel)⟩
theorem dw_675 : lw_in (Cond.selects RX11 yX11_needs yX11_needs) := ⟨lw_t (tm_7 (List.mem_of_getElem? (i := 122) rfl)), good_of_word (by decide +kernel)⟩
theorem dw_676 : lw_in (Cond.instanceMethod yX11_needs) := ⟨lw_t (tm_7 (List.mem_of_getElem? (i := 121) rfl)), good_of_word (by decide +kernel)⟩
theorem dw_677 : lw_in (Cond.methodLink R_law 49 yX11_needs) := ⟨lw_t (tm_7 (List.mem_of_getElem? (i := 120) rfl)), good_of_word (by decide +kernel)⟩
set_option maxRecDepth 100000 in
theorem dw_678 : lw_in (Cond.code yX10_go cX10_go 3 (some .int)) := ⟨lw_t (tm_4 (List.mem_of_getElem? (i := 60) rfl)), good_of_word (by decide +kernel)⟩
theorem dw_679 : lw_in (Cond.selects RX0 yX0_sendBy yX0_sendBy) := ⟨List.mem_of_getElem? (i := 56) rfl, good_of_word (by decide +kernel)⟩
theorem dw_680 : lw_in (Cond.instanceMethod yX0_sendBy) := ⟨lw_t (tm_4 (List.mem_of_getElem? (i := 80) rfl)), good_of_word (by decide +kernel)⟩
theorem dw_681 : lw_in (Cond.selects RX3 yX3_remember yX3_remember) := ⟨List.mem_of_getElem? (i := 54) rfl, good_of_word (by decide +kernel)⟩
theorem dw_682 : lw_in (Cond.instanceMethod yX3_remember) := ⟨lw_t (tm_4 (List.mem_of_getElem? (i := 71) rfl)), good_of_word (by decide +kernel)⟩
theorem dw_683 : lw_in (Cond.selects RX5 yX5_hasGuess yX5_hasGuess) := ⟨List.mem_of_getElem? (i := 53) rfl, good_of_word (by decide +kernel)⟩
theorem dw_684 : lw_in (Cond.instanceMethod yX5_hasGuess) := ⟨lw_t (tm_4 (List.mem_of_getElem? (i := 67) rfl)), good_of_word (by decide +kernel)⟩
theorem dw_685 : lw_in (Cond.selects RX10 yX10_isHere yX10_isHere) := ⟨List.mem_of_getElem? (i := 52) rfl, good_of_word (by decide +kernel)⟩
theorem dw_686 : lw_in (Cond.instanceMethod yX10_isHere) := ⟨lw_t (tm_4 (List.mem_of_getElem? (i := 63) rfl)), good_of_word (by decide +kernel)⟩
theorem dw_687 : lw_in (Cond.methodLink RX10 164 yX10_isHere) := ⟨lw_t (tm_4 (List.mem_of_getElem? (i := 61) rfl)), good_of_word (by decide +kernel)⟩
set_option maxRecDepth 100000 in
theorem dw_688 : lw_in (Cond.code yX10_isHere cX10_isHere 2 (some .boolean)) := ⟨lw_t (tm_4 (List.mem_of_getElem? (i := 64) rfl)), good_of_word (by decide +kernel)⟩
set_option maxRecDepth 100000 in
theorem dw_689 : lw_in (Cond.code yX5_hasGuess cX5_hasGuess 2 (some .boolean)) := ⟨lw_t (tm_4 (List.mem_of_getElem? (i := 68) rfl)), good_of_word (by decide +kernel)⟩
set_option maxRecDepth 100000 in
theorem dw_690 : lw_in (Cond.code yX3_remember cX3_remember 2 none) := ⟨lw_t (tm_4 (List.mem_of_getElem? (i := 72) rfl)), good_of_word (by decide +kernel)⟩
theorem dw_691 : lw_in (Cond.selects RX6 yX6_copyFrom yX6_copyFrom) := ⟨List.mem_of_getElem? (i := 55) rfl, good_of_word (by decide +kernel)⟩
theorem dw_692 : lw_in (Cond.instanceMethod yX6_copyFrom) := ⟨lw_t (tm_4 (List.mem_of_getElem? (i := 75) rfl)), good_of_word (by decide +kernel)⟩
theorem dw_693 : lw_in (Cond.fieldLink RX3 29 "GuessFerry$Past" "first" "I") := ⟨lw_t (tm_2 (List.mem_of_getElem? (i := 107) rfl)), good_of_word (by decide +kernel)⟩
theorem dw_694 : lw_in (Cond.fieldLink RX3 11 "GuessFerry$Past" "ring" "[LGuessFerry$Standing;") := ⟨lw_t (tm_2 (List.mem_of_getElem? (i := 104) rfl)), good_of_word (by decide +kernel)⟩
set_option maxRecDepth 100000 in
theorem dw_695 : lw_in (Cond.code yX6_copyFrom cX6_copyFrom 2 none) := ⟨lw_t (tm_4 (List.mem_of_getElem? (i := 76) rfl)), good_of_word (by decide +kernel)⟩
theorem dw_696 : lw_in (Cond.methodLink RX6 40 arraycopyName) := ⟨lw_t (tm_4 (List.mem_of_getElem? (i := 77) rfl)), good_of_word (by decide +kernel)⟩
set_option maxRecDepth 100000 in
theorem dw_697 : lw_in (Cond.code yX0_sendBy cX0_sendBy 8 (some .int)) := ⟨lw_t (tm_4 (List.mem_of_getElem? (i := 81) rfl)), good_of_word (by decide +kernel)⟩
theorem dw_698 : lw_in (Cond.methodLink RX0 119 yX0_thereNow) := ⟨lw_t (tm_4 (List.mem_of_getElem? (i := 91) rfl)), good_of_word (by decide +kernel)⟩
theorem dw_699 : lw_in (Cond.selects RX0 yX0_isBearing yX0_isBearing) := ⟨List.mem_of_getElem? (i := 57) rfl, good_of_word (by decide +kernel)⟩
theorem dw_700 : lw_in (Cond.instanceMethod yX0_isBearing) := ⟨lw_t (tm_4 (List.mem_of_getElem? (i := 88) rfl)), good_of_word (by decide +kernel)⟩
theorem dw_701 : lw_in (Cond.methodLink RX0 115 yX0_isBearing) := ⟨lw_t (tm_4 (List.mem_of_getElem? (i := 86) rfl)), good_of_word (by decide +kernel)⟩
theorem dw_702 : lw_in (Cond.static yX10_thingIn) := ⟨lw_t (tm_4 (List.mem_of_getElem? (i := 84) rfl)), good_of_word (by decide +kernel)⟩
theorem dw_703 : lw_in (Cond.methodLink RX0 109 yX0_fareOf) := ⟨lw_t (tm_4 (List.mem_of_getElem? (i := 82) rfl)), good_of_word (by decide +kernel)⟩
set_option maxRecDepth 100000 in
theorem dw_704 : lw_in (Cond.code yX10_thingIn cX10_thingIn 4 (some .int)) := ⟨lw_t (tm_4 (List.mem_of_getElem? (i := 85) rfl)), good_of_word (by decide +kernel)⟩
set_option maxRecDepth 100000 in
theorem dw_705 : lw_in (Cond.code yX0_isBearing cX0_isBearing 5 (some .boolean)) := ⟨lw_t (tm_4 (List.mem_of_getElem? (i := 89) rfl)), good_of_word (by decide +kernel)⟩
theorem dw_706 : lw_in (Cond.methodLink RX0 102 yX0_needOf) := ⟨lw_t (tm_4 (List.mem_of_getElem? (i := 90) rfl)), good_of_word (by decide +kernel)⟩
theorem dw_707 : lw_in (Cond.selects RX10 yX10_go yX10_go) := ⟨lw_t (tm_4 (List.mem_of_getElem? (i := 59) rfl)), good_of_word (by decide +kernel)⟩
theorem dw_708 : lw_in (Cond.instanceMethod yX10_go) := ⟨lw_t (tm_4 (List.mem_of_getElem? (i := 58) rfl)), good_of_word (by decide +kernel)⟩
theorem dw_709 : lw_in (Cond.methodLink R_law 50 yX10_go) := ⟨lw_t (tm_4 (List.mem_of_getElem? (i := 57) rfl)), good_of_word (by decide +kernel)⟩
set_option maxRecDepth 100000 in
theorem dw_710 : lw_in (Cond.code yX11_go cX11_go 4 (some .int)) := ⟨lw_t (tm_7 (List.mem_of_getElem? (i := 131) rfl)), good_of_word (by decide +kernel)⟩
theorem dw_711 : lw_in (Cond.selects RX11 yX11_records yX11_records) := ⟨List.mem_of_getElem? (i := 148) rfl, good_of_word (by decide +kernel)⟩
theorem dw_712 : lw_in (Cond.instanceMethod yX11_records) := ⟨lw_t (tm_7 (List.mem_of_getElem? (i := 166) rfl)), good_of_word (by decide +kernel)⟩
theorem dw_713 : lw_in (Cond.methodLink RX11 376 yX11_records) := ⟨lw_t (tm_7 (List.mem_of_getElem? (i := 164) rfl)), good_of_word (by decide +kernel)⟩
theorem dw_714 : lw_in (Cond.selects RX11 yX11_goesBy yX11_goesBy) := ⟨List.mem_of_getElem? (i := 144) rfl, good_of_word (by decide +kernel)⟩
theorem dw_715 : lw_in (Cond.instanceMethod yX11_goesBy) := ⟨lw_t (tm_7 (List.mem_of_getElem? (i := 150) rfl)), good_of_word (by decide +kernel)⟩
theorem dw_716 : lw_in (Cond.methodLink RX11 373 yX11_goesBy) := ⟨lw_t (tm_7 (List.mem_of_getElem? (i := 148) rfl)), good_of_word (by decide +kernel)⟩
theorem dw_717 : lw_in (Cond.selects RX11 yX11_thereNumber yX11_thereNumber) := ⟨List.mem_of_getElem? (i := 143) rfl, good_of_word (by decide +kernel)⟩
theorem dw_718 : lw_in (Cond.instanceMethod yX11_thereNumber) := ⟨lw_t (tm_7 (List.mem_of_getElem? (i := 146) rfl)), good_of_word (by decide +kernel)⟩
theorem dw_719 : lw_in (Cond.methodLink RX11 370 yX11_thereNumber) := ⟨lw_t (tm_7 (List.mem_of_getElem? (i := 144) rfl)), good_of_word (by decide +kernel)⟩
theorem dw_720 : lw_in (Cond.selects RX11 yX11_isGuess yX11_isGuess) := ⟨List.mem_of_getElem? (i := 141) rfl, good_of_word (by decide +kernel)⟩
theorem dw_721 : lw_in (Cond.instanceMethod yX11_isGuess) := ⟨lw_t (tm_7 (List.mem_of_getElem? (i := 138) rfl)), good_of_word (by decide +kernel)⟩
theorem dw_722 : lw_in (Cond.methodLink RX11 367 yX11_isGuess) := ⟨lw_t (tm_7 (List.mem_of_getElem? (i := 136) rfl)), good_of_word (by decide +kernel)⟩
theorem dw_723 : lw_in (Cond.selects RX11 yX11_isHere yX11_isHere) := ⟨List.mem_of_getElem? (i := 140) rfl, good_of_word (by decide +kernel)⟩
theorem dw_724 : lw_in (Cond.instanceMethod yX11_isHere) := ⟨lw_t (tm_7 (List.mem_of_getElem? (i := 134) rfl)), good_of_word (by decide +kernel)⟩
theorem dw_725 : lw_in (Cond.methodLink RX11 364 yX11_isHere) := ⟨lw_t (tm_7 (List.mem_of_getElem? (i := 132) rfl)), good_of_word (by decide +kernel)⟩
set_option maxRecDepth 100000 in
theorem dw_726 : lw_in (Cond.code yX11_isHere cX11_isHere 2 (some .boolean)) := ⟨lw_t (tm_7 (List.mem_of_getElem? (i := 135) rfl)), good_of_word (by decide +kernel)⟩
set_option maxRecDepth 100000 in
theorem dw_727 : lw_in (Cond.code yX11_isGuess cX11_isGuess 2 (some .boolean)) := ⟨lw_t (tm_7 (List.mem_of_getElem? (i := 139) rfl)), good_of_word (by decide +kernel)⟩
theorem dw_728 : lw_in (Cond.selects RX11 yX11_guesses yX11_guesses) := ⟨List.mem_of_getElem? (i := 142) rfl, good_of_word (by decide +kernel)⟩
theorem dw_729 : lw_in (Cond.instanceMethod yX11_guesses) := ⟨lw_t (tm_7 (List.mem_of_getElem? (i := 142) rfl)), good_of_word (by decide +kernel)⟩
theorem dw_730 : lw_in (Cond.methodLink RX11 285 yX11_guesses) := ⟨lw_t (tm_7 (List.mem_of_getElem? (i := 140) rfl)), good_of_word (by decide +kernel)⟩
set_option maxRecDepth 100000 in
theorem dw_731 : lw_in (Cond.code yX11_guesses cX11_guesses 1 (some .int)) := ⟨lw_t (tm_7 (List.mem_of_getElem? (i := 143) rfl)), good_of_word (by decide +kernel)⟩
set_option maxRecDepth 100000 in
theorem dw_732 : lw_in (Cond.code yX11_thereNumber cX11_thereNumber 3 (some .int)) := ⟨lw_t (tm_7 (List.mem_of_getElem? (i := 147) rfl)), good_of_word (by decide +kernel)⟩
set_option maxRecDepth 100000 in
theorem dw_733 : lw_in (Cond.code yX11_goesBy cX11_goesBy 7 (some .int)) := ⟨lw_t (tm_7 (List.mem_of_getElem? (i := 151) rfl)), good_of_word (by decide +kernel)⟩
theorem dw_734 : lw_in (Cond.selects RX11 yX11_thingAt yX11_thingAt) := ⟨List.mem_of_getElem? (i := 146) rfl, good_of_word (by decide +kernel)⟩
theorem dw_735 : lw_in (Cond.instanceMethod yX11_thingAt) := ⟨lw_t (tm_7 (List.mem_of_getElem? (i := 158) rfl)), good_of_word (by decide +kernel)⟩
theorem dw_736 : lw_in (Cond.methodLink RX11 330 yX11_thingAt) := ⟨lw_t (tm_7 (List.mem_of_getElem? (i := 156) rfl)), good_of_word (by decide +kernel)⟩
theorem dw_737 : lw_in (Cond.selects RX11 yX11_bearsBy yX11_bearsBy) := ⟨List.mem_of_getElem? (i := 145) rfl, good_of_word (by decide +kernel)⟩
theorem dw_738 : lw_in (Cond.instanceMethod yX11_bearsBy) := ⟨lw_t (tm_7 (List.mem_of_getElem? (i := 154) rfl)), good_of_word (by decide +kernel)⟩
theorem dw_739 : lw_in (Cond.methodLink RX11 336 yX11_bearsBy) := ⟨lw_t (tm_7 (List.mem_of_getElem? (i := 152) rfl)), good_of_word (by decide +kernel)⟩
set_option maxRecDepth 100000 in
theorem dw_740 : lw_in (Cond.code yX11_bearsBy cX11_bearsBy 4 (some .int)) := ⟨lw_t (tm_7 (List.mem_of_getElem? (i := 155) rfl)), good_of_word (by decide +kernel)⟩
theorem dw_741 : lw_in (Cond.selects RX11 yX11_doesBear yX11_doesBear) := ⟨List.mem_of_getElem? (i := 147) rfl, good_of_word (by decide +kernel)⟩
theorem dw_742 : lw_in (Cond.instanceMethod yX11_doesBear) := ⟨lw_t (tm_7 (List.mem_of_getElem? (i := 162) rfl)), good_of_word (by decide +kernel)⟩
theorem dw_743 : lw_in (Cond.methodLink RX11 333 yX11_doesBear) := ⟨lw_t (tm_7 (List.mem_of_getElem? (i := 160) rfl)), good_of_word (by decide +kernel)⟩
set_option maxRecDepth 100000 in
theorem dw_744 : lw_in (Cond.code yX11_thingAt cX11_thingAt 3 (some .int)) := ⟨lw_t (tm_7 (List.mem_of_getElem? (i := 159) rfl)), good_of_word (by decide +kernel)⟩
set_option maxRecDepth 100000 in
theorem dw_745 : lw_in (Cond.code yX11_doesBear cX11_doesBear 4 (some .boolean)) := ⟨lw_t (tm_7 (List.mem_of_getElem? (i := 163) rfl)), good_of_word (by decide +kernel)⟩
set_option maxRecDepth 100000 in
theorem dw_746 : lw_in (Cond.code yX11_records cX11_records 2 none) := ⟨lw_t (tm_7 (List.mem_of_getElem? (i := 167) rfl)), good_of_word (by decide +kernel)⟩
theorem dw_747 : lw_in (Cond.fieldLink RX11 110 "GuessFerryModel" "history" "[I") := ⟨lw_t (tm_6 (List.mem_of_getElem? (i := 44) rfl)), good_of_word (by decide +kernel)⟩
theorem dw_748 : lw_in (Cond.selects RX11 yX11_go yX11_go) := ⟨lw_t (tm_7 (List.mem_of_getElem? (i := 130) rfl)), good_of_word (by decide +kernel)⟩
theorem dw_749 : lw_in (Cond.instanceMethod yX11_go) := ⟨lw_t (tm_7 (List.mem_of_getElem? (i := 129) rfl)), good_of_word (by decide +kernel)⟩
end
section
theorem dw_750 : lw_in (Cond.methodLink R_law 53 yX11_go) := ⟨lw_t (tm_7 (List.mem_of_getElem? (i := 128) rfl)), good_of_word (by decide +kernel)⟩
set_option maxRecDepth 100000 in
theorem dw_751 : lw_in (Cond.code yX10_buoy cX10_buoy 4 (some .boolean)) := ⟨lw_t (tm_4 (List.mem_of_getElem? (i := 95) rfl)), good_of_word (by decide +kernel)⟩
theorem dw_752 : lw_in (Cond.static yX10_has) := ⟨lw_t (tm_4 (List.mem_of_getElem? (i := 97) rfl)), good_of_word (by decide +kernel)⟩
theorem dw_753 : lw_in (Cond.methodLink RX10 181 yX10_has) := ⟨lw_t (tm_4 (List.mem_of_getElem? (i := 96) rfl)), good_of_word (by decide +kernel)⟩
set_option maxRecDepth 100000 in
theorem dw_754 : lw_in (Cond.code yX10_has cX10_has 2 (some .boolean)) := ⟨lw_t (tm_4 (List.mem_of_getElem? (i := 98) rfl)), good_of_word (by decide +kernel)⟩
theorem dw_755 : lw_in (Cond.selects RX10 yX10_buoy yX10_buoy) := ⟨lw_t (tm_4 (List.mem_of_getElem? (i := 94) rfl)), good_of_word (by decide +kernel)⟩
theorem dw_756 : lw_in (Cond.instanceMethod yX10_buoy) := ⟨lw_t (tm_4 (List.mem_of_getElem? (i := 93) rfl)), good_of_word (by decide +kernel)⟩
theorem dw_757 : lw_in (Cond.methodLink R_law 54 yX10_buoy) := ⟨lw_t (tm_4 (List.mem_of_getElem? (i := 92) rfl)), good_of_word (by decide +kernel)⟩
set_option maxRecDepth 100000 in
theorem dw_758 : lw_in (Cond.code yX11_buoy cX11_buoy 4 (some .boolean)) := ⟨lw_t (tm_7 (List.mem_of_getElem? (i := 171) rfl)), good_of_word (by decide +kernel)⟩
theorem dw_759 : lw_in (Cond.selects RX11 yX11_buoy yX11_buoy) := ⟨lw_t (tm_7 (List.mem_of_getElem? (i := 170) rfl)), good_of_word (by decide +kernel)⟩
theorem dw_760 : lw_in (Cond.instanceMethod yX11_buoy) := ⟨lw_t (tm_7 (List.mem_of_getElem? (i := 169) rfl)), good_of_word (by decide +kernel)⟩
theorem dw_761 : lw_in (Cond.methodLink R_law 58 yX11_buoy) := ⟨lw_t (tm_7 (List.mem_of_getElem? (i := 168) rfl)), good_of_word (by decide +kernel)⟩
set_option maxRecDepth 100000 in
theorem dw_762 : lw_in (Cond.code yX10_fetch cX10_fetch 2 (some .boolean)) := ⟨lw_t (tm_4 (List.mem_of_getElem? (i := 102) rfl)), good_of_word (by decide +kernel)⟩
theorem dw_763 : lw_in (Cond.selects RX10 yX10_fetch yX10_fetch) := ⟨lw_t (tm_4 (List.mem_of_getElem? (i := 101) rfl)), good_of_word (by decide +kernel)⟩
theorem dw_764 : lw_in (Cond.instanceMethod yX10_fetch) := ⟨lw_t (tm_4 (List.mem_of_getElem? (i := 100) rfl)), good_of_word (by decide +kernel)⟩
theorem dw_765 : lw_in (Cond.methodLink R_law 59 yX10_fetch) := ⟨lw_t (tm_4 (List.mem_of_getElem? (i := 99) rfl)), good_of_word (by decide +kernel)⟩
set_option maxRecDepth 100000 in
theorem dw_766 : lw_in (Cond.code yX11_fetch cX11_fetch 2 (some .boolean)) := ⟨lw_t (tm_7 (List.mem_of_getElem? (i := 175) rfl)), good_of_word (by decide +kernel)⟩
theorem dw_767 : lw_in (Cond.selects RX11 yX11_fetch yX11_fetch) := ⟨lw_t (tm_7 (List.mem_of_getElem? (i := 174) rfl)), good_of_word (by decide +kernel)⟩
theorem dw_768 : lw_in (Cond.instanceMethod yX11_fetch) := ⟨lw_t (tm_7 (List.mem_of_getElem? (i := 173) rfl)), good_of_word (by decide +kernel)⟩
theorem dw_769 : lw_in (Cond.methodLink R_law 63 yX11_fetch) := ⟨lw_t (tm_7 (List.mem_of_getElem? (i := 172) rfl)), good_of_word (by decide +kernel)⟩
set_option maxRecDepth 100000 in
theorem dw_770 : lw_in (Cond.code yX10_years cX10_years 2 (some .int)) := ⟨lw_t (tm_4 (List.mem_of_getElem? (i := 106) rfl)), good_of_word (by decide +kernel)⟩
theorem dw_771 : lw_in (Cond.selects RX0 yX0_passYears yX0_passYears) := ⟨List.mem_of_getElem? (i := 58) rfl, good_of_word (by decide +kernel)⟩
theorem dw_772 : lw_in (Cond.instanceMethod yX0_passYears) := ⟨lw_t (tm_4 (List.mem_of_getElem? (i := 109) rfl)), good_of_word (by decide +kernel)⟩
set_option maxRecDepth 100000 in
theorem dw_773 : lw_in (Cond.code yX0_passYears cX0_passYears 5 none) := ⟨lw_t (tm_4 (List.mem_of_getElem? (i := 110) rfl)), good_of_word (by decide +kernel)⟩
theorem dw_774 : lw_in (Cond.selects RX0 yX0_passYearOver yX0_passYearOver) := ⟨List.mem_of_getElem? (i := 59) rfl, good_of_word (by decide +kernel)⟩
theorem dw_775 : lw_in (Cond.instanceMethod yX0_passYearOver) := ⟨lw_t (tm_4 (List.mem_of_getElem? (i := 113) rfl)), good_of_word (by decide +kernel)⟩
theorem dw_776 : lw_in (Cond.methodLink RX0 125 yX0_passYearOver) := ⟨lw_t (tm_4 (List.mem_of_getElem? (i := 111) rfl)), good_of_word (by decide +kernel)⟩
set_option maxRecDepth 100000 in
theorem dw_777 : lw_in (Cond.code yX0_passYearOver cX0_passYearOver 4 none) := ⟨lw_t (tm_4 (List.mem_of_getElem? (i := 114) rfl)), good_of_word (by decide +kernel)⟩
theorem dw_778 : lw_in (Cond.methodLink RX0 132 yX0_shiftsOf) := ⟨lw_t (tm_4 (List.mem_of_getElem? (i := 117) rfl)), good_of_word (by decide +kernel)⟩
theorem dw_779 : lw_in (Cond.constant RX0 128 (1000000)) := ⟨lw_t (tm_4 (List.mem_of_getElem? (i := 115) rfl)), good_of_word (by decide +kernel)⟩
theorem dw_780 : lw_in (Cond.selects RX10 yX10_years yX10_years) := ⟨lw_t (tm_4 (List.mem_of_getElem? (i := 105) rfl)), good_of_word (by decide +kernel)⟩
theorem dw_781 : lw_in (Cond.instanceMethod yX10_years) := ⟨lw_t (tm_4 (List.mem_of_getElem? (i := 104) rfl)), good_of_word (by decide +kernel)⟩
theorem dw_782 : lw_in (Cond.methodLink R_law 64 yX10_years) := ⟨lw_t (tm_4 (List.mem_of_getElem? (i := 103) rfl)), good_of_word (by decide +kernel)⟩
set_option maxRecDepth 100000 in
theorem dw_783 : lw_in (Cond.code yX11_years cX11_years 2 (some .int)) := ⟨lw_t (tm_7 (List.mem_of_getElem? (i := 179) rfl)), good_of_word (by decide +kernel)⟩
theorem dw_784 : lw_in (Cond.selects RX11 yX11_yearsGo yX11_yearsGo) := ⟨List.mem_of_getElem? (i := 149) rfl, good_of_word (by decide +kernel)⟩
theorem dw_785 : lw_in (Cond.instanceMethod yX11_yearsGo) := ⟨lw_t (tm_7 (List.mem_of_getElem? (i := 185) rfl)), good_of_word (by decide +kernel)⟩
theorem dw_786 : lw_in (Cond.methodLink RX11 382 yX11_yearsGo) := ⟨lw_t (tm_7 (List.mem_of_getElem? (i := 183) rfl)), good_of_word (by decide +kernel)⟩
theorem dw_787 : lw_in (Cond.static yX11_isLong) := ⟨lw_t (tm_7 (List.mem_of_getElem? (i := 181) rfl)), good_of_word (by decide +kernel)⟩
theorem dw_788 : lw_in (Cond.methodLink RX11 379 yX11_isLong) := ⟨lw_t (tm_7 (List.mem_of_getElem? (i := 180) rfl)), good_of_word (by decide +kernel)⟩
set_option maxRecDepth 100000 in
theorem dw_789 : lw_in (Cond.code yX11_isLong cX11_isLong 1 (some .boolean)) := ⟨lw_t (tm_7 (List.mem_of_getElem? (i := 182) rfl)), good_of_word (by decide +kernel)⟩
set_option maxRecDepth 100000 in
theorem dw_790 : lw_in (Cond.code yX11_yearsGo cX11_yearsGo 3 none) := ⟨lw_t (tm_7 (List.mem_of_getElem? (i := 186) rfl)), good_of_word (by decide +kernel)⟩
theorem dw_791 : lw_in (Cond.selects RX11 yX11_yearGoes yX11_yearGoes) := ⟨List.mem_of_getElem? (i := 150) rfl, good_of_word (by decide +kernel)⟩
theorem dw_792 : lw_in (Cond.instanceMethod yX11_yearGoes) := ⟨lw_t (tm_7 (List.mem_of_getElem? (i := 189) rfl)), good_of_word (by decide +kernel)⟩
theorem dw_793 : lw_in (Cond.methodLink RX11 346 yX11_yearGoes) := ⟨lw_t (tm_7 (List.mem_of_getElem? (i := 187) rfl)), good_of_word (by decide +kernel)⟩
set_option maxRecDepth 100000 in
theorem dw_794 : lw_in (Cond.code yX11_yearGoes cX11_yearGoes 2 none) := ⟨lw_t (tm_7 (List.mem_of_getElem? (i := 190) rfl)), good_of_word (by decide +kernel)⟩
theorem dw_795 : lw_in (Cond.constant RX11 342 (1000000)) := ⟨lw_t (tm_7 (List.mem_of_getElem? (i := 191) rfl)), good_of_word (by decide +kernel)⟩
theorem dw_796 : lw_in (Cond.fieldLink RX11 107 "GuessFerryModel" "shiftsNow" "[Z") := ⟨lw_t (tm_6 (List.mem_of_getElem? (i := 42) rfl)), good_of_word (by decide +kernel)⟩
theorem dw_797 : lw_in (Cond.selects RX11 yX11_years yX11_years) := ⟨lw_t (tm_7 (List.mem_of_getElem? (i := 178) rfl)), good_of_word (by decide +kernel)⟩
theorem dw_798 : lw_in (Cond.instanceMethod yX11_years) := ⟨lw_t (tm_7 (List.mem_of_getElem? (i := 177) rfl)), good_of_word (by decide +kernel)⟩
theorem dw_799 : lw_in (Cond.methodLink R_law 67 yX11_years) := ⟨lw_t (tm_7 (List.mem_of_getElem? (i := 176) rfl)), good_of_word (by decide +kernel)⟩
set_option maxRecDepth 100000 in
theorem dw_800 : lw_in (Cond.code yX10_undo cX10_undo 1 (some .boolean)) := ⟨lw_t (tm_4 (List.mem_of_getElem? (i := 121) rfl)), good_of_word (by decide +kernel)⟩
theorem dw_801 : lw_in (Cond.selects RX3 yX3_takeBack yX3_takeBack) := ⟨List.mem_of_getElem? (i := 60) rfl, good_of_word (by decide +kernel)⟩
theorem dw_802 : lw_in (Cond.instanceMethod yX3_takeBack) := ⟨lw_t (tm_4 (List.mem_of_getElem? (i := 124) rfl)), good_of_word (by decide +kernel)⟩
set_option maxRecDepth 100000 in
theorem dw_803 : lw_in (Cond.code yX3_takeBack cX3_takeBack 2 (some .boolean)) := ⟨lw_t (tm_4 (List.mem_of_getElem? (i := 125) rfl)), good_of_word (by decide +kernel)⟩
theorem dw_804 : lw_in (Cond.selects RX10 yX10_undo yX10_undo) := ⟨lw_t (tm_4 (List.mem_of_getElem? (i := 120) rfl)), good_of_word (by decide +kernel)⟩
theorem dw_805 : lw_in (Cond.instanceMethod yX10_undo) := ⟨lw_t (tm_4 (List.mem_of_getElem? (i := 119) rfl)), good_of_word (by decide +kernel)⟩
theorem dw_806 : lw_in (Cond.methodLink R_law 68 yX10_undo) := ⟨lw_t (tm_4 (List.mem_of_getElem? (i := 118) rfl)), good_of_word (by decide +kernel)⟩
set_option maxRecDepth 100000 in
theorem dw_807 : lw_in (Cond.code yX11_undo cX11_undo 2 (some .boolean)) := ⟨lw_t (tm_7 (List.mem_of_getElem? (i := 195) rfl)), good_of_word (by decide +kernel)⟩
theorem dw_808 : lw_in (Cond.selects RX11 yX11_undo yX11_undo) := ⟨lw_t (tm_7 (List.mem_of_getElem? (i := 194) rfl)), good_of_word (by decide +kernel)⟩
theorem dw_809 : lw_in (Cond.instanceMethod yX11_undo) := ⟨lw_t (tm_7 (List.mem_of_getElem? (i := 193) rfl)), good_of_word (by decide +kernel)⟩
theorem dw_810 : lw_in (Cond.methodLink R_law 72 yX11_undo) := ⟨lw_t (tm_7 (List.mem_of_getElem? (i := 192) rfl)), good_of_word (by decide +kernel)⟩
set_option maxRecDepth 100000 in
theorem dw_811 : lw_in (Cond.code yX10_cases cX10_cases 1 (some .int)) := ⟨lw_t (tm_4 (List.mem_of_getElem? (i := 129) rfl)), good_of_word (by decide +kernel)⟩
theorem dw_812 : lw_in (Cond.selects RX2 yX2_caseCount yX2_caseCount) := ⟨List.mem_of_getElem? (i := 61) rfl, good_of_word (by decide +kernel)⟩
theorem dw_813 : lw_in (Cond.initialized RX2) := ⟨lw_t (tm_1 (List.mem_of_getElem? (i := 14) rfl)), good_of_word (by decide +kernel)⟩
theorem dw_814 : lw_in (Cond.instanceMethod yX2_caseCount) := ⟨lw_t (tm_4 (List.mem_of_getElem? (i := 132) rfl)), good_of_word (by decide +kernel)⟩
theorem dw_815 : lw_in (Cond.fieldLink RX10 63 "GuessFerry" "outlook" "LGuessFerry$Outlook;") := ⟨lw_t (tm_2 (List.mem_of_getElem? (i := 206) rfl)), good_of_word (by decide +kernel)⟩
set_option maxRecDepth 100000 in
theorem dw_816 : lw_in (Cond.code yX2_caseCount cX2_caseCount 4 (some .int)) := ⟨lw_t (tm_4 (List.mem_of_getElem? (i := 133) rfl)), good_of_word (by decide +kernel)⟩
theorem dw_817 : lw_in (Cond.selects RX2 yX2_mayCount yX2_mayCount) := ⟨List.mem_of_getElem? (i := 62) rfl, good_of_word (by decide +kernel)⟩
theorem dw_818 : lw_in (Cond.instanceMethod yX2_mayCount) := ⟨lw_t (tm_4 (List.mem_of_getElem? (i := 136) rfl)), good_of_word (by decide +kernel)⟩
theorem dw_819 : lw_in (Cond.methodLink RX2 50 yX2_mayCount) := ⟨lw_t (tm_4 (List.mem_of_getElem? (i := 134) rfl)), good_of_word (by decide +kernel)⟩
theorem dw_820 : lw_in (Cond.fieldLink RX2 24 "GuessFerry$Outlook" "sound" "LGuessFerry$Sound;") := ⟨lw_t (tm_2 (List.mem_of_getElem? (i := 141) rfl)), good_of_word (by decide +kernel)⟩
set_option maxRecDepth 100000 in
theorem dw_821 : lw_in (Cond.code yX2_mayCount cX2_mayCount 3 (some .int)) := ⟨lw_t (tm_4 (List.mem_of_getElem? (i := 137) rfl)), good_of_word (by decide +kernel)⟩
theorem dw_822 : lw_in (Cond.methodLink RX2 38 yJ6_bitCount_0f7a4) := ⟨lw_t (tm_4 (List.mem_of_getElem? (i := 139) rfl)), good_of_word (by decide +kernel)⟩
theorem dw_823 : lw_in (Cond.fieldLink RX2 28 "GuessFerry$Outlook" "crossing" "LGuessFerry$Crossing;") := ⟨lw_t (tm_2 (List.mem_of_getElem? (i := 142) rfl)), good_of_word (by decide +kernel)⟩
theorem dw_824 : lw_in (Cond.selects RX10 yX10_cases yX10_cases) := ⟨lw_t (tm_4 (List.mem_of_getElem? (i := 128) rfl)), good_of_word (by decide +kernel)⟩
theorem dw_825 : lw_in (Cond.instanceMethod yX10_cases) := ⟨lw_t (tm_4 (List.mem_of_getElem? (i := 127) rfl)), good_of_word (by decide +kernel)⟩
theorem dw_826 : lw_in (Cond.methodLink R_law 73 yX10_cases) := ⟨lw_t (tm_4 (List.mem_of_getElem? (i := 126) rfl)), good_of_word (by decide +kernel)⟩
set_option maxRecDepth 100000 in
theorem dw_827 : lw_in (Cond.code yX11_cases cX11_cases 1 (some .int)) := ⟨lw_t (tm_7 (List.mem_of_getElem? (i := 199) rfl)), good_of_word (by decide +kernel)⟩
theorem dw_828 : lw_in (Cond.selects RX11 yX11_casesNow yX11_casesNow) := ⟨List.mem_of_getElem? (i := 151) rfl, good_of_word (by decide +kernel)⟩
theorem dw_829 : lw_in (Cond.instanceMethod yX11_casesNow) := ⟨lw_t (tm_7 (List.mem_of_getElem? (i := 202) rfl)), good_of_word (by decide +kernel)⟩
theorem dw_830 : lw_in (Cond.methodLink RX11 385 yX11_casesNow) := ⟨lw_t (tm_7 (List.mem_of_getElem? (i := 200) rfl)), good_of_word (by decide +kernel)⟩
set_option maxRecDepth 100000 in
theorem dw_831 : lw_in (Cond.code yX11_casesNow cX11_casesNow 3 (some .int)) := ⟨lw_t (tm_7 (List.mem_of_getElem? (i := 203) rfl)), good_of_word (by decide +kernel)⟩
theorem dw_832 : lw_in (Cond.selects RX11 yX11_cases yX11_cases) := ⟨lw_t (tm_7 (List.mem_of_getElem? (i := 198) rfl)), good_of_word (by decide +kernel)⟩
theorem dw_833 : lw_in (Cond.instanceMethod yX11_cases) := ⟨lw_t (tm_7 (List.mem_of_getElem? (i := 197) rfl)), good_of_word (by decide +kernel)⟩
theorem dw_834 : lw_in (Cond.methodLink R_law 76 yX11_cases) := ⟨lw_t (tm_7 (List.mem_of_getElem? (i := 196) rfl)), good_of_word (by decide +kernel)⟩
set_option maxRecDepth 100000 in
theorem dw_835 : lw_in (Cond.code yX10_chance cX10_chance 2 (some .int)) := ⟨lw_t (tm_4 (List.mem_of_getElem? (i := 143) rfl)), good_of_word (by decide +kernel)⟩
theorem dw_836 : lw_in (Cond.selects RX2 yX2_oddsOf yX2_oddsOf) := ⟨List.mem_of_getElem? (i := 63) rfl, good_of_word (by decide +kernel)⟩
theorem dw_837 : lw_in (Cond.instanceMethod yX2_oddsOf) := ⟨lw_t (tm_4 (List.mem_of_getElem? (i := 146) rfl)), good_of_word (by decide +kernel)⟩
set_option maxRecDepth 100000 in
theorem dw_838 : lw_in (Cond.code yX2_oddsOf cX2_oddsOf 5 (some .int)) := ⟨lw_t (tm_4 (List.mem_of_getElem? (i := 147) rfl)), good_of_word (by decide +kernel)⟩
theorem dw_839 : lw_in (Cond.selects RX2 yX2_oddsIfMay yX2_oddsIfMay) := ⟨List.mem_of_getElem? (i := 64) rfl, good_of_word (by decide +kernel)⟩
theorem dw_840 : lw_in (Cond.instanceMethod yX2_oddsIfMay) := ⟨lw_t (tm_4 (List.mem_of_getElem? (i := 151) rfl)), good_of_word (by decide +kernel)⟩
theorem dw_841 : lw_in (Cond.methodLink RX2 53 yX2_oddsIfMay) := ⟨lw_t (tm_4 (List.mem_of_getElem? (i := 149) rfl)), good_of_word (by decide +kernel)⟩
set_option maxRecDepth 100000 in
theorem dw_842 : lw_in (Cond.code yX2_oddsIfMay cX2_oddsIfMay 4 (some .int)) := ⟨lw_t (tm_4 (List.mem_of_getElem? (i := 152) rfl)), good_of_word (by decide +kernel)⟩
theorem dw_843 : lw_in (Cond.selects RX10 yX10_chance yX10_chance) := ⟨lw_t (tm_4 (List.mem_of_getElem? (i := 142) rfl)), good_of_word (by decide +kernel)⟩
theorem dw_844 : lw_in (Cond.instanceMethod yX10_chance) := ⟨lw_t (tm_4 (List.mem_of_getElem? (i := 141) rfl)), good_of_word (by decide +kernel)⟩
theorem dw_845 : lw_in (Cond.methodLink R_law 77 yX10_chance) := ⟨lw_t (tm_4 (List.mem_of_getElem? (i := 140) rfl)), good_of_word (by decide +kernel)⟩
set_option maxRecDepth 100000 in
theorem dw_846 : lw_in (Cond.code yX11_chance cX11_chance 2 (some .int)) := ⟨lw_t (tm_7 (List.mem_of_getElem? (i := 207) rfl)), good_of_word (by decide +kernel)⟩
theorem dw_847 : lw_in (Cond.selects RX11 yX11_chanceOf yX11_chanceOf) := ⟨List.mem_of_getElem? (i := 152) rfl, good_of_word (by decide +kernel)⟩
theorem dw_848 : lw_in (Cond.instanceMethod yX11_chanceOf) := ⟨lw_t (tm_7 (List.mem_of_getElem? (i := 210) rfl)), good_of_word (by decide +kernel)⟩
theorem dw_849 : lw_in (Cond.methodLink RX11 392 yX11_chanceOf) := ⟨lw_t (tm_7 (List.mem_of_getElem? (i := 208) rfl)), good_of_word (by decide +kernel)⟩
set_option maxRecDepth 100000 in
theorem dw_850 : lw_in (Cond.code yX11_chanceOf cX11_chanceOf 5 (some .int)) := ⟨lw_t (tm_7 (List.mem_of_getElem? (i := 211) rfl)), good_of_word (by decide +kernel)⟩
theorem dw_851 : lw_in (Cond.selects RX11 yX11_mayBe yX11_mayBe) := ⟨List.mem_of_getElem? (i := 153) rfl, good_of_word (by decide +kernel)⟩
theorem dw_852 : lw_in (Cond.instanceMethod yX11_mayBe) := ⟨lw_t (tm_7 (List.mem_of_getElem? (i := 214) rfl)), good_of_word (by decide +kernel)⟩
theorem dw_853 : lw_in (Cond.methodLink RX11 388 yX11_mayBe) := ⟨lw_t (tm_7 (List.mem_of_getElem? (i := 212) rfl)), good_of_word (by decide +kernel)⟩
set_option maxRecDepth 100000 in
theorem dw_854 : lw_in (Cond.code yX11_mayBe cX11_mayBe 3 (some .boolean)) := ⟨lw_t (tm_7 (List.mem_of_getElem? (i := 215) rfl)), good_of_word (by decide +kernel)⟩
theorem dw_855 : lw_in (Cond.selects RX11 yX11_chance yX11_chance) := ⟨lw_t (tm_7 (List.mem_of_getElem? (i := 206) rfl)), good_of_word (by decide +kernel)⟩
theorem dw_856 : lw_in (Cond.instanceMethod yX11_chance) := ⟨lw_t (tm_7 (List.mem_of_getElem? (i := 205) rfl)), good_of_word (by decide +kernel)⟩
theorem dw_857 : lw_in (Cond.methodLink R_law 80 yX11_chance) := ⟨lw_t (tm_7 (List.mem_of_getElem? (i := 204) rfl)), good_of_word (by decide +kernel)⟩
set_option maxRecDepth 100000 in
theorem dw_858 : lw_in (Cond.code yX10_all cX10_all 1 (some .int)) := ⟨lw_t (tm_4 (List.mem_of_getElem? (i := 158) rfl)), good_of_word (by decide +kernel)⟩
theorem dw_859 : lw_in (Cond.selects RX2 yX2_oddsOfAll yX2_oddsOfAll) := ⟨List.mem_of_getElem? (i := 65) rfl, good_of_word (by decide +kernel)⟩
theorem dw_860 : lw_in (Cond.instanceMethod yX2_oddsOfAll) := ⟨lw_t (tm_4 (List.mem_of_getElem? (i := 161) rfl)), good_of_word (by decide +kernel)⟩
set_option maxRecDepth 100000 in
theorem dw_861 : lw_in (Cond.code yX2_oddsOfAll cX2_oddsOfAll 7 (some .int)) := ⟨lw_t (tm_4 (List.mem_of_getElem? (i := 162) rfl)), good_of_word (by decide +kernel)⟩
theorem dw_862 : lw_in (Cond.selects RX10 yX10_all yX10_all) := ⟨lw_t (tm_4 (List.mem_of_getElem? (i := 157) rfl)), good_of_word (by decide +kernel)⟩
theorem dw_863 : lw_in (Cond.instanceMethod yX10_all) := ⟨lw_t (tm_4 (List.mem_of_getElem? (i := 156) rfl)), good_of_word (by decide +kernel)⟩
theorem dw_864 : lw_in (Cond.methodLink R_law 81 yX10_all) := ⟨lw_t (tm_4 (List.mem_of_getElem? (i := 155) rfl)), good_of_word (by decide +kernel)⟩
set_option maxRecDepth 100000 in
theorem dw_865 : lw_in (Cond.code yX11_all cX11_all 3 (some .int)) := ⟨lw_t (tm_7 (List.mem_of_getElem? (i := 219) rfl)), good_of_word (by decide +kernel)⟩
theorem dw_866 : lw_in (Cond.selects RX11 yX11_sumAt yX11_sumAt) := ⟨List.mem_of_getElem? (i := 154) rfl, good_of_word (by decide +kernel)⟩
theorem dw_867 : lw_in (Cond.instanceMethod yX11_sumAt) := ⟨lw_t (tm_7 (List.mem_of_getElem? (i := 222) rfl)), good_of_word (by decide +kernel)⟩
theorem dw_868 : lw_in (Cond.methodLink RX11 395 yX11_sumAt) := ⟨lw_t (tm_7 (List.mem_of_getElem? (i := 220) rfl)), good_of_word (by decide +kernel)⟩
set_option maxRecDepth 100000 in
theorem dw_869 : lw_in (Cond.code yX11_sumAt cX11_sumAt 4 (some .int)) := ⟨lw_t (tm_7 (List.mem_of_getElem? (i := 223) rfl)), good_of_word (by decide +kernel)⟩
theorem dw_870 : lw_in (Cond.selects RX11 yX11_all yX11_all) := ⟨lw_t (tm_7 (List.mem_of_getElem? (i := 218) rfl)), good_of_word (by decide +kernel)⟩
theorem dw_871 : lw_in (Cond.instanceMethod yX11_all) := ⟨lw_t (tm_7 (List.mem_of_getElem? (i := 217) rfl)), good_of_word (by decide +kernel)⟩
theorem dw_872 : lw_in (Cond.methodLink R_law 84 yX11_all) := ⟨lw_t (tm_7 (List.mem_of_getElem? (i := 216) rfl)), good_of_word (by decide +kernel)⟩
set_option maxRecDepth 100000 in
theorem dw_873 : lw_in (Cond.code yX10_likeliest cX10_likeliest 1 (some .int)) := ⟨lw_t (tm_4 (List.mem_of_getElem? (i := 166) rfl)), good_of_word (by decide +kernel)⟩
theorem dw_874 : lw_in (Cond.selects RX2 yX2_bestGuess yX2_bestGuess) := ⟨List.mem_of_getElem? (i := 66) rfl, good_of_word (by decide +kernel)⟩
theorem dw_875 : lw_in (Cond.instanceMethod yX2_bestGuess) := ⟨lw_t (tm_4 (List.mem_of_getElem? (i := 169) rfl)), good_of_word (by decide +kernel)⟩
set_option maxRecDepth 100000 in
theorem dw_876 : lw_in (Cond.code yX2_bestGuess cX2_bestGuess 6 (some .int)) := ⟨lw_t (tm_4 (List.mem_of_getElem? (i := 170) rfl)), good_of_word (by decide +kernel)⟩
theorem dw_877 : lw_in (Cond.selects RX2 yX2_bestThing yX2_bestThing) := ⟨List.mem_of_getElem? (i := 67) rfl, good_of_word (by decide +kernel)⟩
theorem dw_878 : lw_in (Cond.instanceMethod yX2_bestThing) := ⟨lw_t (tm_4 (List.mem_of_getElem? (i := 173) rfl)), good_of_word (by decide +kernel)⟩
theorem dw_879 : lw_in (Cond.methodLink RX2 68 yX2_bestThing) := ⟨lw_t (tm_4 (List.mem_of_getElem? (i := 171) rfl)), good_of_word (by decide +kernel)⟩
set_option maxRecDepth 100000 in
theorem dw_880 : lw_in (Cond.code yX2_bestThing cX2_bestThing 8 (some .int)) := ⟨lw_t (tm_4 (List.mem_of_getElem? (i := 174) rfl)), good_of_word (by decide +kernel)⟩
theorem dw_881 : lw_in (Cond.selects RX10 yX10_likeliest yX10_likeliest) := ⟨lw_t (tm_4 (List.mem_of_getElem? (i := 165) rfl)), good_of_word (by decide +kernel)⟩
theorem dw_882 : lw_in (Cond.instanceMethod yX10_likeliest) := ⟨lw_t (tm_4 (List.mem_of_getElem? (i := 164) rfl)), good_of_word (by decide +kernel)⟩
theorem dw_883 : lw_in (Cond.methodLink R_law 85 yX10_likeliest) := ⟨lw_t (tm_4 (List.mem_of_getElem? (i := 163) rfl)), good_of_word (by decide +kernel)⟩
set_option maxRecDepth 100000 in
theorem dw_884 : lw_in (Cond.code yX11_likeliest cX11_likeliest 1 (some .int)) := ⟨lw_t (tm_7 (List.mem_of_getElem? (i := 227) rfl)), good_of_word (by decide +kernel)⟩
theorem dw_885 : lw_in (Cond.selects RX11 yX11_bestFor yX11_bestFor) := ⟨List.mem_of_getElem? (i := 155) rfl, good_of_word (by decide +kernel)⟩
theorem dw_886 : lw_in (Cond.instanceMethod yX11_bestFor) := ⟨lw_t (tm_7 (List.mem_of_getElem? (i := 230) rfl)), good_of_word (by decide +kernel)⟩
theorem dw_887 : lw_in (Cond.methodLink RX11 398 yX11_bestFor) := ⟨lw_t (tm_7 (List.mem_of_getElem? (i := 228) rfl)), good_of_word (by decide +kernel)⟩
set_option maxRecDepth 100000 in
theorem dw_888 : lw_in (Cond.code yX11_bestFor cX11_bestFor 6 (some .int)) := ⟨lw_t (tm_7 (List.mem_of_getElem? (i := 231) rfl)), good_of_word (by decide +kernel)⟩
theorem dw_889 : lw_in (Cond.selects RX11 yX11_likeliest yX11_likeliest) := ⟨lw_t (tm_7 (List.mem_of_getElem? (i := 226) rfl)), good_of_word (by decide +kernel)⟩
theorem dw_890 : lw_in (Cond.instanceMethod yX11_likeliest) := ⟨lw_t (tm_7 (List.mem_of_getElem? (i := 225) rfl)), good_of_word (by decide +kernel)⟩
theorem dw_891 : lw_in (Cond.methodLink R_law 88 yX11_likeliest) := ⟨lw_t (tm_7 (List.mem_of_getElem? (i := 224) rfl)), good_of_word (by decide +kernel)⟩
set_option maxRecDepth 100000 in
theorem dw_892 : lw_in (Cond.code yX10_bears cX10_bears 3 (some .int)) := ⟨lw_t (tm_4 (List.mem_of_getElem? (i := 179) rfl)), good_of_word (by decide +kernel)⟩
theorem dw_893 : lw_in (Cond.selects RX2 yX2_borneOver yX2_borneOver) := ⟨List.mem_of_getElem? (i := 68) rfl, good_of_word (by decide +kernel)⟩
theorem dw_894 : lw_in (Cond.instanceMethod yX2_borneOver) := ⟨lw_t (tm_4 (List.mem_of_getElem? (i := 182) rfl)), good_of_word (by decide +kernel)⟩
set_option maxRecDepth 100000 in
theorem dw_895 : lw_in (Cond.code yX2_borneOver cX2_borneOver 5 (some .int)) := ⟨lw_t (tm_4 (List.mem_of_getElem? (i := 183) rfl)), good_of_word (by decide +kernel)⟩
theorem dw_896 : lw_in (Cond.selects RX10 yX10_bears yX10_bears) := ⟨lw_t (tm_4 (List.mem_of_getElem? (i := 178) rfl)), good_of_word (by decide +kernel)⟩
theorem dw_897 : lw_in (Cond.instanceMethod yX10_bears) := ⟨lw_t (tm_4 (List.mem_of_getElem? (i := 177) rfl)), good_of_word (by decide +kernel)⟩
theorem dw_898 : lw_in (Cond.methodLink R_law 89 yX10_bears) := ⟨lw_t (tm_4 (List.mem_of_getElem? (i := 176) rfl)), good_of_word (by decide +kernel)⟩
set_option maxRecDepth 100000 in
theorem dw_899 : lw_in (Cond.code yX11_bears cX11_bears 3 (some .int)) := ⟨lw_t (tm_7 (List.mem_of_getElem? (i := 235) rfl)), good_of_word (by decide +kernel)⟩
theorem dw_900 : lw_in (Cond.selects RX11 yX11_bears yX11_bears) := ⟨lw_t (tm_7 (List.mem_of_getElem? (i := 234) rfl)), good_of_word (by decide +kernel)⟩
theorem dw_901 : lw_in (Cond.instanceMethod yX11_bears) := ⟨lw_t (tm_7 (List.mem_of_getElem? (i := 233) rfl)), good_of_word (by decide +kernel)⟩
theorem dw_902 : lw_in (Cond.methodLink R_law 92 yX11_bears) := ⟨lw_t (tm_7 (List.mem_of_getElem? (i := 232) rfl)), good_of_word (by decide +kernel)⟩
set_option maxRecDepth 100000 in
theorem dw_903 : lw_in (Cond.code yX10_safest cX10_safest 2 (some .int)) := ⟨lw_t (tm_4 (List.mem_of_getElem? (i := 188) rfl)), good_of_word (by decide +kernel)⟩
theorem dw_904 : lw_in (Cond.selects RX10 yX10_safest yX10_safest) := ⟨lw_t (tm_4 (List.mem_of_getElem? (i := 187) rfl)), good_of_word (by decide +kernel)⟩
theorem dw_905 : lw_in (Cond.instanceMethod yX10_safest) := ⟨lw_t (tm_4 (List.mem_of_getElem? (i := 186) rfl)), good_of_word (by decide +kernel)⟩
theorem dw_906 : lw_in (Cond.methodLink R_law 93 yX10_safest) := ⟨lw_t (tm_4 (List.mem_of_getElem? (i := 185) rfl)), good_of_word (by decide +kernel)⟩
set_option maxRecDepth 100000 in
theorem dw_907 : lw_in (Cond.code yX11_safest cX11_safest 2 (some .int)) := ⟨lw_t (tm_7 (List.mem_of_getElem? (i := 239) rfl)), good_of_word (by decide +kernel)⟩
theorem dw_908 : lw_in (Cond.selects RX11 yX11_safest yX11_safest) := ⟨lw_t (tm_7 (List.mem_of_getElem? (i := 238) rfl)), good_of_word (by decide +kernel)⟩
theorem dw_909 : lw_in (Cond.instanceMethod yX11_safest) := ⟨lw_t (tm_7 (List.mem_of_getElem? (i := 237) rfl)), good_of_word (by decide +kernel)⟩
theorem dw_910 : lw_in (Cond.methodLink R_law 96 yX11_safest) := ⟨lw_t (tm_7 (List.mem_of_getElem? (i := 236) rfl)), good_of_word (by decide +kernel)⟩
set_option maxRecDepth 100000 in
theorem dw_911 : lw_in (Cond.code yX10_enough cX10_enough 1 (some .int)) := ⟨lw_t (tm_4 (List.mem_of_getElem? (i := 192) rfl)), good_of_word (by decide +kernel)⟩
theorem dw_912 : lw_in (Cond.selects RX2 yX2_goesAtMost yX2_goesAtMost) := ⟨List.mem_of_getElem? (i := 69) rfl, good_of_word (by decide +kernel)⟩
theorem dw_913 : lw_in (Cond.instanceMethod yX2_goesAtMost) := ⟨lw_t (tm_4 (List.mem_of_getElem? (i := 195) rfl)), good_of_word (by decide +kernel)⟩
set_option maxRecDepth 100000 in
theorem dw_914 : lw_in (Cond.code yX2_goesAtMost cX2_goesAtMost 4 (some .int)) := ⟨lw_t (tm_4 (List.mem_of_getElem? (i := 196) rfl)), good_of_word (by decide +kernel)⟩
theorem dw_915 : lw_in (Cond.selects RX10 yX10_enough yX10_enough) := ⟨lw_t (tm_4 (List.mem_of_getElem? (i := 191) rfl)), good_of_word (by decide +kernel)⟩
theorem dw_916 : lw_in (Cond.instanceMethod yX10_enough) := ⟨lw_t (tm_4 (List.mem_of_getElem? (i := 190) rfl)), good_of_word (by decide +kernel)⟩
theorem dw_917 : lw_in (Cond.methodLink R_law 97 yX10_enough) := ⟨lw_t (tm_4 (List.mem_of_getElem? (i := 189) rfl)), good_of_word (by decide +kernel)⟩
set_option maxRecDepth 100000 in
theorem dw_918 : lw_in (Cond.code yX11_enough cX11_enough 3 (some .int)) := ⟨lw_t (tm_8 (List.mem_of_getElem? (i := 3) rfl)), good_of_word (by decide +kernel)⟩
theorem dw_919 : lw_in (Cond.selects RX11 yX11_enough yX11_enough) := ⟨lw_t (tm_8 (List.mem_of_getElem? (i := 2) rfl)), good_of_word (by decide +kernel)⟩
theorem dw_920 : lw_in (Cond.instanceMethod yX11_enough) := ⟨lw_t (tm_8 (List.mem_of_getElem? (i := 1) rfl)), good_of_word (by decide +kernel)⟩
theorem dw_921 : lw_in (Cond.methodLink R_law 100 yX11_enough) := ⟨lw_t (tm_8 (List.mem_of_getElem? (i := 0) rfl)), good_of_word (by decide +kernel)⟩
set_option maxRecDepth 100000 in
theorem dw_922 : lw_in (Cond.code yX10_left cX10_left 2 (some .int)) := ⟨lw_t (tm_4 (List.mem_of_getElem? (i := 200) rfl)), good_of_word (by decide +kernel)⟩
theorem dw_923 : lw_in (Cond.selects RX2 yX2_leftBehind yX2_leftBehind) := ⟨List.mem_of_getElem? (i := 70) rfl, good_of_word (by decide +kernel)⟩
theorem dw_924 : lw_in (Cond.instanceMethod yX2_leftBehind) := ⟨lw_t (tm_4 (List.mem_of_getElem? (i := 203) rfl)), good_of_word (by decide +kernel)⟩
set_option maxRecDepth 100000 in
theorem dw_925 : lw_in (Cond.code yX2_leftBehind cX2_leftBehind 7 (some .int)) := ⟨lw_t (tm_4 (List.mem_of_getElem? (i := 204) rfl)), good_of_word (by decide +kernel)⟩
theorem dw_926 : lw_in (Cond.methodLink RX2 79 Lib.Math.max.name) := ⟨lw_t (tm_4 (List.mem_of_getElem? (i := 205) rfl)), good_of_word (by decide +kernel)⟩
theorem dw_927 : lw_in (Cond.selects RX10 yX10_left yX10_left) := ⟨lw_t (tm_4 (List.mem_of_getElem? (i := 199) rfl)), good_of_word (by decide +kernel)⟩
theorem dw_928 : lw_in (Cond.instanceMethod yX10_left) := ⟨lw_t (tm_4 (List.mem_of_getElem? (i := 198) rfl)), good_of_word (by decide +kernel)⟩
theorem dw_929 : lw_in (Cond.methodLink R_law 101 yX10_left) := ⟨lw_t (tm_4 (List.mem_of_getElem? (i := 197) rfl)), good_of_word (by decide +kernel)⟩
set_option maxRecDepth 100000 in
theorem dw_930 : lw_in (Cond.code yX11_left cX11_left 2 (some .int)) := ⟨lw_t (tm_8 (List.mem_of_getElem? (i := 7) rfl)), good_of_word (by decide +kernel)⟩
theorem dw_931 : lw_in (Cond.selects RX11 yX11_leftOf yX11_leftOf) := ⟨List.mem_of_getElem? (i := 156) rfl, good_of_word (by decide +kernel)⟩
theorem dw_932 : lw_in (Cond.instanceMethod yX11_leftOf) := ⟨lw_t (tm_8 (List.mem_of_getElem? (i := 10) rfl)), good_of_word (by decide +kernel)⟩
theorem dw_933 : lw_in (Cond.methodLink RX11 401 yX11_leftOf) := ⟨lw_t (tm_8 (List.mem_of_getElem? (i := 8) rfl)), good_of_word (by decide +kernel)⟩
set_option maxRecDepth 100000 in
theorem dw_934 : lw_in (Cond.code yX11_leftOf cX11_leftOf 7 (some .int)) := ⟨lw_t (tm_8 (List.mem_of_getElem? (i := 11) rfl)), good_of_word (by decide +kernel)⟩
theorem dw_935 : lw_in (Cond.selects RX11 yX11_left yX11_left) := ⟨lw_t (tm_8 (List.mem_of_getElem? (i := 6) rfl)), good_of_word (by decide +kernel)⟩
theorem dw_936 : lw_in (Cond.instanceMethod yX11_left) := ⟨lw_t (tm_8 (List.mem_of_getElem? (i := 5) rfl)), good_of_word (by decide +kernel)⟩
theorem dw_937 : lw_in (Cond.methodLink R_law 104 yX11_left) := ⟨lw_t (tm_8 (List.mem_of_getElem? (i := 4) rfl)), good_of_word (by decide +kernel)⟩
set_option maxRecDepth 100000 in
theorem dw_938 : lw_in (Cond.code yX10_wisest cX10_wisest 3 (some .int)) := ⟨lw_t (tm_4 (List.mem_of_getElem? (i := 209) rfl)), good_of_word (by decide +kernel)⟩
theorem dw_939 : lw_in (Cond.selects RX2 yX2_wisestGuess yX2_wisestGuess) := ⟨List.mem_of_getElem? (i := 71) rfl, good_of_word (by decide +kernel)⟩
theorem dw_940 : lw_in (Cond.instanceMethod yX2_wisestGuess) := ⟨lw_t (tm_4 (List.mem_of_getElem? (i := 212) rfl)), good_of_word (by decide +kernel)⟩
set_option maxRecDepth 100000 in
theorem dw_941 : lw_in (Cond.code yX2_wisestGuess cX2_wisestGuess 5 (some .int)) := ⟨lw_t (tm_4 (List.mem_of_getElem? (i := 213) rfl)), good_of_word (by decide +kernel)⟩
theorem dw_942 : lw_in (Cond.static yJ6_numberOfTrailingZeros_0f7a4) := ⟨lw_t (tm_4 (List.mem_of_getElem? (i := 215) rfl)), good_of_word (by decide +kernel)⟩
theorem dw_943 : lw_in (Cond.methodLink RX2 84 yJ6_numberOfTrailingZeros_0f7a4) := ⟨lw_t (tm_4 (List.mem_of_getElem? (i := 214) rfl)), good_of_word (by decide +kernel)⟩
set_option maxRecDepth 100000 in
theorem dw_944 : lw_in (Cond.code yJ6_numberOfTrailingZeros_0f7a4 cJ6_numberOfTrailingZeros_0f7a4 2 (some .int)) := ⟨lw_t (tm_4 (List.mem_of_getElem? (i := 216) rfl)), good_of_word (by decide +kernel)⟩
theorem dw_945 : lw_in (Cond.constant RJ6 264 (65536)) := ⟨lw_t (tm_4 (List.mem_of_getElem? (i := 217) rfl)), good_of_word (by decide +kernel)⟩
theorem dw_946 : lw_in (Cond.selects RX10 yX10_wisest yX10_wisest) := ⟨lw_t (tm_4 (List.mem_of_getElem? (i := 208) rfl)), good_of_word (by decide +kernel)⟩
theorem dw_947 : lw_in (Cond.instanceMethod yX10_wisest) := ⟨lw_t (tm_4 (List.mem_of_getElem? (i := 207) rfl)), good_of_word (by decide +kernel)⟩
theorem dw_948 : lw_in (Cond.methodLink R_law 105 yX10_wisest) := ⟨lw_t (tm_4 (List.mem_of_getElem? (i := 206) rfl)), good_of_word (by decide +kernel)⟩
set_option maxRecDepth 100000 in
theorem dw_949 : lw_in (Cond.code yX11_wisest cX11_wisest 6 (some .int)) := ⟨lw_t (tm_8 (List.mem_of_getElem? (i := 15) rfl)), good_of_word (by decide +kernel)⟩
theorem dw_950 : lw_in (Cond.selects RX11 yX11_wisest yX11_wisest) := ⟨lw_t (tm_8 (List.mem_of_getElem? (i := 14) rfl)), good_of_word (by decide +kernel)⟩
theorem dw_951 : lw_in (Cond.instanceMethod yX11_wisest) := ⟨lw_t (tm_8 (List.mem_of_getElem? (i := 13) rfl)), good_of_word (by decide +kernel)⟩
theorem dw_952 : lw_in (Cond.methodLink R_law 108 yX11_wisest) := ⟨lw_t (tm_8 (List.mem_of_getElem? (i := 12) rfl)), good_of_word (by decide +kernel)⟩
set_option maxRecDepth 100000 in
theorem dw_953 : lw_in (Cond.code yX10_rank cX10_rank 3 (some .int)) := ⟨lw_t (tm_4 (List.mem_of_getElem? (i := 221) rfl)), good_of_word (by decide +kernel)⟩
theorem dw_954 : lw_in (Cond.selects RX2 yX2_casesAheadOf yX2_casesAheadOf) := ⟨List.mem_of_getElem? (i := 72) rfl, good_of_word (by decide +kernel)⟩
theorem dw_955 : lw_in (Cond.instanceMethod yX2_casesAheadOf) := ⟨lw_t (tm_4 (List.mem_of_getElem? (i := 224) rfl)), good_of_word (by decide +kernel)⟩
set_option maxRecDepth 100000 in
theorem dw_956 : lw_in (Cond.code yX2_casesAheadOf cX2_casesAheadOf 11 (some .int)) := ⟨lw_t (tm_4 (List.mem_of_getElem? (i := 225) rfl)), good_of_word (by decide +kernel)⟩
theorem dw_957 : lw_in (Cond.selects RX2 yX2_fillFar yX2_fillFar) := ⟨List.mem_of_getElem? (i := 75) rfl, good_of_word (by decide +kernel)⟩
theorem dw_958 : lw_in (Cond.instanceMethod yX2_fillFar) := ⟨lw_t (tm_4 (List.mem_of_getElem? (i := 237) rfl)), good_of_word (by decide +kernel)⟩
theorem dw_959 : lw_in (Cond.methodLink RX2 98 yX2_fillFar) := ⟨lw_t (tm_4 (List.mem_of_getElem? (i := 235) rfl)), good_of_word (by decide +kernel)⟩
theorem dw_960 : lw_in (Cond.selects RX2 yX2_fillNear yX2_fillNear) := ⟨List.mem_of_getElem? (i := 73) rfl, good_of_word (by decide +kernel)⟩
theorem dw_961 : lw_in (Cond.instanceMethod yX2_fillNear) := ⟨lw_t (tm_4 (List.mem_of_getElem? (i := 228) rfl)), good_of_word (by decide +kernel)⟩
theorem dw_962 : lw_in (Cond.methodLink RX2 94 yX2_fillNear) := ⟨lw_t (tm_4 (List.mem_of_getElem? (i := 226) rfl)), good_of_word (by decide +kernel)⟩
theorem dw_963 : lw_in (Cond.fieldLink RX2 9 "GuessFerry$Outlook" "near" "[I") := ⟨lw_t (tm_2 (List.mem_of_getElem? (i := 143) rfl)), good_of_word (by decide +kernel)⟩
theorem dw_964 : lw_in (Cond.fieldLink RX2 15 "GuessFerry$Outlook" "far" "[I") := ⟨lw_t (tm_2 (List.mem_of_getElem? (i := 144) rfl)), good_of_word (by decide +kernel)⟩
set_option maxRecDepth 100000 in
theorem dw_965 : lw_in (Cond.code yX2_fillNear cX2_fillNear 2 (some .int)) := ⟨lw_t (tm_4 (List.mem_of_getElem? (i := 229) rfl)), good_of_word (by decide +kernel)⟩
theorem dw_966 : lw_in (Cond.selects RX2 yX2_fillRow yX2_fillRow) := ⟨List.mem_of_getElem? (i := 74) rfl, good_of_word (by decide +kernel)⟩
theorem dw_967 : lw_in (Cond.instanceMethod yX2_fillRow) := ⟨lw_t (tm_4 (List.mem_of_getElem? (i := 233) rfl)), good_of_word (by decide +kernel)⟩
theorem dw_968 : lw_in (Cond.methodLink RX2 90 yX2_fillRow) := ⟨lw_t (tm_4 (List.mem_of_getElem? (i := 231) rfl)), good_of_word (by decide +kernel)⟩
theorem dw_969 : lw_in (Cond.methodLink RX2 87 Lib.Math.min.name) := ⟨lw_t (tm_4 (List.mem_of_getElem? (i := 230) rfl)), good_of_word (by decide +kernel)⟩
set_option maxRecDepth 100000 in
theorem dw_970 : lw_in (Cond.code yX2_fillRow cX2_fillRow 10 (some .int)) := ⟨lw_t (tm_4 (List.mem_of_getElem? (i := 234) rfl)), good_of_word (by decide +kernel)⟩
set_option maxRecDepth 100000 in
theorem dw_971 : lw_in (Cond.code yX2_fillFar cX2_fillFar 2 (some .int)) := ⟨lw_t (tm_4 (List.mem_of_getElem? (i := 238) rfl)), good_of_word (by decide +kernel)⟩
theorem dw_972 : lw_in (Cond.selects RX10 yX10_rank yX10_rank) := ⟨lw_t (tm_4 (List.mem_of_getElem? (i := 220) rfl)), good_of_word (by decide +kernel)⟩
theorem dw_973 : lw_in (Cond.instanceMethod yX10_rank) := ⟨lw_t (tm_4 (List.mem_of_getElem? (i := 219) rfl)), good_of_word (by decide +kernel)⟩
theorem dw_974 : lw_in (Cond.methodLink R_law 109 yX10_rank) := ⟨lw_t (tm_4 (List.mem_of_getElem? (i := 218) rfl)), good_of_word (by decide +kernel)⟩
set_option maxRecDepth 100000 in
theorem dw_975 : lw_in (Cond.code yX11_rank cX11_rank 4 (some .int)) := ⟨lw_t (tm_8 (List.mem_of_getElem? (i := 19) rfl)), good_of_word (by decide +kernel)⟩
theorem dw_976 : lw_in (Cond.selects RX11 yX11_isAhead yX11_isAhead) := ⟨List.mem_of_getElem? (i := 159) rfl, good_of_word (by decide +kernel)⟩
theorem dw_977 : lw_in (Cond.instanceMethod yX11_isAhead) := ⟨lw_t (tm_8 (List.mem_of_getElem? (i := 30) rfl)), good_of_word (by decide +kernel)⟩
theorem dw_978 : lw_in (Cond.methodLink RX11 410 yX11_isAhead) := ⟨lw_t (tm_8 (List.mem_of_getElem? (i := 28) rfl)), good_of_word (by decide +kernel)⟩
theorem dw_979 : lw_in (Cond.selects RX11 yX11_isCase yX11_isCase) := ⟨List.mem_of_getElem? (i := 158) rfl, good_of_word (by decide +kernel)⟩
theorem dw_980 : lw_in (Cond.instanceMethod yX11_isCase) := ⟨lw_t (tm_8 (List.mem_of_getElem? (i := 26) rfl)), good_of_word (by decide +kernel)⟩
theorem dw_981 : lw_in (Cond.methodLink RX11 407 yX11_isCase) := ⟨lw_t (tm_8 (List.mem_of_getElem? (i := 24) rfl)), good_of_word (by decide +kernel)⟩
theorem dw_982 : lw_in (Cond.selects RX11 yX11_fillsChances yX11_fillsChances) := ⟨List.mem_of_getElem? (i := 157) rfl, good_of_word (by decide +kernel)⟩
theorem dw_983 : lw_in (Cond.instanceMethod yX11_fillsChances) := ⟨lw_t (tm_8 (List.mem_of_getElem? (i := 22) rfl)), good_of_word (by decide +kernel)⟩
theorem dw_984 : lw_in (Cond.methodLink RX11 404 yX11_fillsChances) := ⟨lw_t (tm_8 (List.mem_of_getElem? (i := 20) rfl)), good_of_word (by decide +kernel)⟩
set_option maxRecDepth 100000 in
theorem dw_985 : lw_in (Cond.code yX11_fillsChances cX11_fillsChances 2 none) := ⟨lw_t (tm_8 (List.mem_of_getElem? (i := 23) rfl)), good_of_word (by decide +kernel)⟩
theorem dw_986 : lw_in (Cond.fieldLink RX11 113 "GuessFerryModel" "chanceBy" "[I") := ⟨lw_t (tm_6 (List.mem_of_getElem? (i := 45) rfl)), good_of_word (by decide +kernel)⟩
set_option maxRecDepth 100000 in
theorem dw_987 : lw_in (Cond.code yX11_isCase cX11_isCase 3 (some .boolean)) := ⟨lw_t (tm_8 (List.mem_of_getElem? (i := 27) rfl)), good_of_word (by decide +kernel)⟩
set_option maxRecDepth 100000 in
theorem dw_988 : lw_in (Cond.code yX11_isAhead cX11_isAhead 3 (some .boolean)) := ⟨lw_t (tm_8 (List.mem_of_getElem? (i := 31) rfl)), good_of_word (by decide +kernel)⟩
theorem dw_989 : lw_in (Cond.selects RX11 yX11_rank yX11_rank) := ⟨lw_t (tm_8 (List.mem_of_getElem? (i := 18) rfl)), good_of_word (by decide +kernel)⟩
theorem dw_990 : lw_in (Cond.instanceMethod yX11_rank) := ⟨lw_t (tm_8 (List.mem_of_getElem? (i := 17) rfl)), good_of_word (by decide +kernel)⟩
theorem dw_991 : lw_in (Cond.methodLink R_law 112 yX11_rank) := ⟨lw_t (tm_8 (List.mem_of_getElem? (i := 16) rfl)), good_of_word (by decide +kernel)⟩
set_option maxRecDepth 100000 in
theorem dw_992 : lw_in (Cond.code yX10_ranked cX10_ranked 2 (some .int)) := ⟨lw_t (tm_5 (List.mem_of_getElem? (i := 2) rfl)), good_of_word (by decide +kernel)⟩
theorem dw_993 : lw_in (Cond.selects RX2 yX2_caseAtRank yX2_caseAtRank) := ⟨List.mem_of_getElem? (i := 76) rfl, good_of_word (by decide +kernel)⟩
theorem dw_994 : lw_in (Cond.instanceMethod yX2_caseAtRank) := ⟨lw_t (tm_5 (List.mem_of_getElem? (i := 5) rfl)), good_of_word (by decide +kernel)⟩
set_option maxRecDepth 100000 in
theorem dw_995 : lw_in (Cond.code yX2_caseAtRank cX2_caseAtRank 9 (some .int)) := ⟨lw_t (tm_5 (List.mem_of_getElem? (i := 6) rfl)), good_of_word (by decide +kernel)⟩
theorem dw_996 : lw_in (Cond.selects RX2 yX2_putOnTop yX2_putOnTop) := ⟨List.mem_of_getElem? (i := 77) rfl, good_of_word (by decide +kernel)⟩
theorem dw_997 : lw_in (Cond.instanceMethod yX2_putOnTop) := ⟨lw_t (tm_5 (List.mem_of_getElem? (i := 10) rfl)), good_of_word (by decide +kernel)⟩
theorem dw_998 : lw_in (Cond.methodLink RX2 107 yX2_putOnTop) := ⟨lw_t (tm_5 (List.mem_of_getElem? (i := 8) rfl)), good_of_word (by decide +kernel)⟩
theorem dw_999 : lw_in (Cond.methodLink RX2 101 yJ7_fill_53178) := ⟨lw_t (tm_5 (List.mem_of_getElem? (i := 7) rfl)), good_of_word (by decide +kernel)⟩
end
section
theorem dw_1000 : lw_in (Cond.fieldLink RX2 18 "GuessFerry$Outlook" "topGuesses" "[I") := ⟨lw_t (tm_2 (List.mem_of_getElem? (i := 145) rfl)), good_of_word (by decide +kernel)⟩
theorem dw_1001 : lw_in (Cond.fieldLink RX2 21 "GuessFerry$Outlook" "topOdds" "[I") := ⟨lw_t (tm_2 (List.mem_of_getElem? (i := 146) rfl)), good_of_word (by decide +kernel)⟩
set_option maxRecDepth 100000 in
theorem dw_1002 : lw_in (Cond.code yX2_putOnTop cX2_putOnTop 5 none) := ⟨lw_t (tm_5 (List.mem_of_getElem? (i := 11) rfl)), good_of_word (by decide +kernel)⟩
theorem dw_1003 : lw_in (Cond.selects RX10 yX10_ranked yX10_ranked) := ⟨lw_t (tm_5 (List.mem_of_getElem? (i := 1) rfl)), good_of_word (by decide +kernel)⟩
theorem dw_1004 : lw_in (Cond.instanceMethod yX10_ranked) := ⟨lw_t (tm_5 (List.mem_of_getElem? (i := 0) rfl)), good_of_word (by decide +kernel)⟩
theorem dw_1005 : lw_in (Cond.methodLink R_law 113 yX10_ranked) := ⟨lw_t (tm_4 (List.mem_of_getElem? (i := 239) rfl)), good_of_word (by decide +kernel)⟩
set_option maxRecDepth 100000 in
theorem dw_1006 : lw_in (Cond.code yX11_ranked cX11_ranked 6 (some .int)) := ⟨lw_t (tm_8 (List.mem_of_getElem? (i := 35) rfl)), good_of_word (by decide +kernel)⟩
theorem dw_1007 : lw_in (Cond.selects RX11 yX11_ranked yX11_ranked) := ⟨lw_t (tm_8 (List.mem_of_getElem? (i := 34) rfl)), good_of_word (by decide +kernel)⟩
theorem dw_1008 : lw_in (Cond.instanceMethod yX11_ranked) := ⟨lw_t (tm_8 (List.mem_of_getElem? (i := 33) rfl)), good_of_word (by decide +kernel)⟩
theorem dw_1009 : lw_in (Cond.methodLink R_law 116 yX11_ranked) := ⟨lw_t (tm_8 (List.mem_of_getElem? (i := 32) rfl)), good_of_word (by decide +kernel)⟩
set_option maxRecDepth 100000 in
theorem dw_1010 : lw_in (Cond.code yX10_share cX10_share 3 (some .int)) := ⟨lw_t (tm_5 (List.mem_of_getElem? (i := 15) rfl)), good_of_word (by decide +kernel)⟩
theorem dw_1011 : lw_in (Cond.selects RX10 yX10_share yX10_share) := ⟨lw_t (tm_5 (List.mem_of_getElem? (i := 14) rfl)), good_of_word (by decide +kernel)⟩
theorem dw_1012 : lw_in (Cond.instanceMethod yX10_share) := ⟨lw_t (tm_5 (List.mem_of_getElem? (i := 13) rfl)), good_of_word (by decide +kernel)⟩
theorem dw_1013 : lw_in (Cond.methodLink R_law 117 yX10_share) := ⟨lw_t (tm_5 (List.mem_of_getElem? (i := 12) rfl)), good_of_word (by decide +kernel)⟩
set_option maxRecDepth 100000 in
theorem dw_1014 : lw_in (Cond.code yX11_share cX11_share 5 (some .int)) := ⟨lw_t (tm_8 (List.mem_of_getElem? (i := 39) rfl)), good_of_word (by decide +kernel)⟩
theorem dw_1015 : lw_in (Cond.selects RX11 yX11_share yX11_share) := ⟨lw_t (tm_8 (List.mem_of_getElem? (i := 38) rfl)), good_of_word (by decide +kernel)⟩
theorem dw_1016 : lw_in (Cond.instanceMethod yX11_share) := ⟨lw_t (tm_8 (List.mem_of_getElem? (i := 37) rfl)), good_of_word (by decide +kernel)⟩
theorem dw_1017 : lw_in (Cond.methodLink R_law 120 yX11_share) := ⟨lw_t (tm_8 (List.mem_of_getElem? (i := 36) rfl)), good_of_word (by decide +kernel)⟩
set_option maxRecDepth 100000 in
theorem dw_1018 : lw_in (Cond.code yX10_sure cX10_sure 3 (some .int)) := ⟨lw_t (tm_5 (List.mem_of_getElem? (i := 19) rfl)), good_of_word (by decide +kernel)⟩
theorem dw_1019 : lw_in (Cond.selects RX2 yX2_oddsOverWithin yX2_oddsOverWithin) := ⟨List.mem_of_getElem? (i := 78) rfl, good_of_word (by decide +kernel)⟩
theorem dw_1020 : lw_in (Cond.instanceMethod yX2_oddsOverWithin) := ⟨lw_t (tm_5 (List.mem_of_getElem? (i := 23) rfl)), good_of_word (by decide +kernel)⟩
theorem dw_1021 : lw_in (Cond.fieldLink RX10 39 "GuessFerry" "trial" "LGuessFerry$Standing;") := ⟨lw_t (tm_2 (List.mem_of_getElem? (i := 203) rfl)), good_of_word (by decide +kernel)⟩
set_option maxRecDepth 100000 in
theorem dw_1022 : lw_in (Cond.code yX2_oddsOverWithin cX2_oddsOverWithin 9 (some .int)) := ⟨lw_t (tm_5 (List.mem_of_getElem? (i := 24) rfl)), good_of_word (by decide +kernel)⟩
theorem dw_1023 : lw_in (Cond.selects RX2 yX2_unfind yX2_unfind) := ⟨List.mem_of_getElem? (i := 79) rfl, good_of_word (by decide +kernel)⟩
theorem dw_1024 : lw_in (Cond.instanceMethod yX2_unfind) := ⟨lw_t (tm_5 (List.mem_of_getElem? (i := 30) rfl)), good_of_word (by decide +kernel)⟩
theorem dw_1025 : lw_in (Cond.methodLink RX2 131 yX2_unfind) := ⟨lw_t (tm_5 (List.mem_of_getElem? (i := 28) rfl)), good_of_word (by decide +kernel)⟩
theorem dw_1026 : lw_in (Cond.methodLink RX2 125 yX2_oddsOverWithin) := ⟨lw_t (tm_5 (List.mem_of_getElem? (i := 27) rfl)), good_of_word (by decide +kernel)⟩
theorem dw_1027 : lw_in (Cond.methodLink RX2 114 yX2_oddsOf) := ⟨lw_t (tm_5 (List.mem_of_getElem? (i := 26) rfl)), good_of_word (by decide +kernel)⟩
theorem dw_1028 : lw_in (Cond.methodLink RX2 111 yX2_bestGuess) := ⟨lw_t (tm_5 (List.mem_of_getElem? (i := 25) rfl)), good_of_word (by decide +kernel)⟩
set_option maxRecDepth 100000 in
theorem dw_1029 : lw_in (Cond.code yX2_unfind cX2_unfind 4 none) := ⟨lw_t (tm_5 (List.mem_of_getElem? (i := 31) rfl)), good_of_word (by decide +kernel)⟩
theorem dw_1030 : lw_in (Cond.selects RX10 yX10_sure yX10_sure) := ⟨lw_t (tm_5 (List.mem_of_getElem? (i := 18) rfl)), good_of_word (by decide +kernel)⟩
theorem dw_1031 : lw_in (Cond.instanceMethod yX10_sure) := ⟨lw_t (tm_5 (List.mem_of_getElem? (i := 17) rfl)), good_of_word (by decide +kernel)⟩
theorem dw_1032 : lw_in (Cond.methodLink R_law 121 yX10_sure) := ⟨lw_t (tm_5 (List.mem_of_getElem? (i := 16) rfl)), good_of_word (by decide +kernel)⟩
set_option maxRecDepth 100000 in
theorem dw_1033 : lw_in (Cond.code yX11_sure cX11_sure 5 (some .int)) := ⟨lw_t (tm_8 (List.mem_of_getElem? (i := 43) rfl)), good_of_word (by decide +kernel)⟩
theorem dw_1034 : lw_in (Cond.selects RX11 yX11_comesOver yX11_comesOver) := ⟨List.mem_of_getElem? (i := 160) rfl, good_of_word (by decide +kernel)⟩
theorem dw_1035 : lw_in (Cond.instanceMethod yX11_comesOver) := ⟨lw_t (tm_8 (List.mem_of_getElem? (i := 46) rfl)), good_of_word (by decide +kernel)⟩
theorem dw_1036 : lw_in (Cond.methodLink RX11 413 yX11_comesOver) := ⟨lw_t (tm_8 (List.mem_of_getElem? (i := 44) rfl)), good_of_word (by decide +kernel)⟩
set_option maxRecDepth 100000 in
theorem dw_1037 : lw_in (Cond.code yX11_comesOver cX11_comesOver 6 (some .boolean)) := ⟨lw_t (tm_8 (List.mem_of_getElem? (i := 47) rfl)), good_of_word (by decide +kernel)⟩
theorem dw_1038 : lw_in (Cond.selects RX11 yX11_sure yX11_sure) := ⟨lw_t (tm_8 (List.mem_of_getElem? (i := 42) rfl)), good_of_word (by decide +kernel)⟩
theorem dw_1039 : lw_in (Cond.instanceMethod yX11_sure) := ⟨lw_t (tm_8 (List.mem_of_getElem? (i := 41) rfl)), good_of_word (by decide +kernel)⟩
theorem dw_1040 : lw_in (Cond.methodLink R_law 124 yX11_sure) := ⟨lw_t (tm_8 (List.mem_of_getElem? (i := 40) rfl)), good_of_word (by decide +kernel)⟩
set_option maxRecDepth 100000 in
theorem dw_1041 : lw_in (Cond.code yX10_alike cX10_alike 4 (some .int)) := ⟨lw_t (tm_5 (List.mem_of_getElem? (i := 35) rfl)), good_of_word (by decide +kernel)⟩
theorem dw_1042 : lw_in (Cond.methodLink RX10 232 yX10_thingIn) := ⟨lw_t (tm_5 (List.mem_of_getElem? (i := 36) rfl)), good_of_word (by decide +kernel)⟩
theorem dw_1043 : lw_in (Cond.selects RX10 yX10_alike yX10_alike) := ⟨lw_t (tm_5 (List.mem_of_getElem? (i := 34) rfl)), good_of_word (by decide +kernel)⟩
theorem dw_1044 : lw_in (Cond.instanceMethod yX10_alike) := ⟨lw_t (tm_5 (List.mem_of_getElem? (i := 33) rfl)), good_of_word (by decide +kernel)⟩
theorem dw_1045 : lw_in (Cond.methodLink R_law 125 yX10_alike) := ⟨lw_t (tm_5 (List.mem_of_getElem? (i := 32) rfl)), good_of_word (by decide +kernel)⟩
set_option maxRecDepth 100000 in
theorem dw_1046 : lw_in (Cond.code yX11_alike cX11_alike 4 (some .int)) := ⟨lw_t (tm_8 (List.mem_of_getElem? (i := 51) rfl)), good_of_word (by decide +kernel)⟩
theorem dw_1047 : lw_in (Cond.selects RX11 yX11_alike yX11_alike) := ⟨lw_t (tm_8 (List.mem_of_getElem? (i := 50) rfl)), good_of_word (by decide +kernel)⟩
theorem dw_1048 : lw_in (Cond.instanceMethod yX11_alike) := ⟨lw_t (tm_8 (List.mem_of_getElem? (i := 49) rfl)), good_of_word (by decide +kernel)⟩
theorem dw_1049 : lw_in (Cond.methodLink R_law 128 yX11_alike) := ⟨lw_t (tm_8 (List.mem_of_getElem? (i := 48) rfl)), good_of_word (by decide +kernel)⟩
set_option maxRecDepth 100000 in
theorem dw_1050 : lw_in (Cond.code yX10_sunk cX10_sunk 4 (some .int)) := ⟨lw_t (tm_5 (List.mem_of_getElem? (i := 40) rfl)), good_of_word (by decide +kernel)⟩
theorem dw_1051 : lw_in (Cond.selects RX10 yX10_sunk yX10_sunk) := ⟨lw_t (tm_5 (List.mem_of_getElem? (i := 39) rfl)), good_of_word (by decide +kernel)⟩
theorem dw_1052 : lw_in (Cond.instanceMethod yX10_sunk) := ⟨lw_t (tm_5 (List.mem_of_getElem? (i := 38) rfl)), good_of_word (by decide +kernel)⟩
theorem dw_1053 : lw_in (Cond.methodLink R_law 129 yX10_sunk) := ⟨lw_t (tm_5 (List.mem_of_getElem? (i := 37) rfl)), good_of_word (by decide +kernel)⟩
set_option maxRecDepth 100000 in
theorem dw_1054 : lw_in (Cond.code yX11_sunk cX11_sunk 4 (some .int)) := ⟨lw_t (tm_8 (List.mem_of_getElem? (i := 55) rfl)), good_of_word (by decide +kernel)⟩
theorem dw_1055 : lw_in (Cond.selects RX11 yX11_sunk yX11_sunk) := ⟨lw_t (tm_8 (List.mem_of_getElem? (i := 54) rfl)), good_of_word (by decide +kernel)⟩
theorem dw_1056 : lw_in (Cond.instanceMethod yX11_sunk) := ⟨lw_t (tm_8 (List.mem_of_getElem? (i := 53) rfl)), good_of_word (by decide +kernel)⟩
theorem dw_1057 : lw_in (Cond.methodLink R_law 132 yX11_sunk) := ⟨lw_t (tm_8 (List.mem_of_getElem? (i := 52) rfl)), good_of_word (by decide +kernel)⟩
set_option maxRecDepth 100000 in
theorem dw_1058 : lw_in (Cond.code yX10_stuck cX10_stuck 3 (some .int)) := ⟨lw_t (tm_5 (List.mem_of_getElem? (i := 44) rfl)), good_of_word (by decide +kernel)⟩
theorem dw_1059 : lw_in (Cond.selects RX10 yX10_stuck yX10_stuck) := ⟨lw_t (tm_5 (List.mem_of_getElem? (i := 43) rfl)), good_of_word (by decide +kernel)⟩
theorem dw_1060 : lw_in (Cond.instanceMethod yX10_stuck) := ⟨lw_t (tm_5 (List.mem_of_getElem? (i := 42) rfl)), good_of_word (by decide +kernel)⟩
theorem dw_1061 : lw_in (Cond.methodLink R_law 133 yX10_stuck) := ⟨lw_t (tm_5 (List.mem_of_getElem? (i := 41) rfl)), good_of_word (by decide +kernel)⟩
set_option maxRecDepth 100000 in
theorem dw_1062 : lw_in (Cond.code yX11_stuck cX11_stuck 3 (some .int)) := ⟨lw_t (tm_8 (List.mem_of_getElem? (i := 59) rfl)), good_of_word (by decide +kernel)⟩
theorem dw_1063 : lw_in (Cond.selects RX11 yX11_stuck yX11_stuck) := ⟨lw_t (tm_8 (List.mem_of_getElem? (i := 58) rfl)), good_of_word (by decide +kernel)⟩
theorem dw_1064 : lw_in (Cond.instanceMethod yX11_stuck) := ⟨lw_t (tm_8 (List.mem_of_getElem? (i := 57) rfl)), good_of_word (by decide +kernel)⟩
theorem dw_1065 : lw_in (Cond.methodLink R_law 136 yX11_stuck) := ⟨lw_t (tm_8 (List.mem_of_getElem? (i := 56) rfl)), good_of_word (by decide +kernel)⟩
set_option maxRecDepth 100000 in
theorem dw_1066 : lw_in (Cond.code yX10_spread cX10_spread 2 (some .int)) := ⟨lw_t (tm_5 (List.mem_of_getElem? (i := 48) rfl)), good_of_word (by decide +kernel)⟩
theorem dw_1067 : lw_in (Cond.selects RX2 yX2_oddsApart yX2_oddsApart) := ⟨List.mem_of_getElem? (i := 80) rfl, good_of_word (by decide +kernel)⟩
theorem dw_1068 : lw_in (Cond.instanceMethod yX2_oddsApart) := ⟨lw_t (tm_5 (List.mem_of_getElem? (i := 51) rfl)), good_of_word (by decide +kernel)⟩
set_option maxRecDepth 100000 in
theorem dw_1069 : lw_in (Cond.code yX2_oddsApart cX2_oddsApart 7 (some .int)) := ⟨lw_t (tm_5 (List.mem_of_getElem? (i := 52) rfl)), good_of_word (by decide +kernel)⟩
theorem dw_1070 : lw_in (Cond.selects RX10 yX10_spread yX10_spread) := ⟨lw_t (tm_5 (List.mem_of_getElem? (i := 47) rfl)), good_of_word (by decide +kernel)⟩
theorem dw_1071 : lw_in (Cond.instanceMethod yX10_spread) := ⟨lw_t (tm_5 (List.mem_of_getElem? (i := 46) rfl)), good_of_word (by decide +kernel)⟩
theorem dw_1072 : lw_in (Cond.methodLink R_law 137 yX10_spread) := ⟨lw_t (tm_5 (List.mem_of_getElem? (i := 45) rfl)), good_of_word (by decide +kernel)⟩
set_option maxRecDepth 100000 in
theorem dw_1073 : lw_in (Cond.code yX11_spread cX11_spread 5 (some .int)) := ⟨lw_t (tm_8 (List.mem_of_getElem? (i := 63) rfl)), good_of_word (by decide +kernel)⟩
theorem dw_1074 : lw_in (Cond.selects RX11 yX11_spread yX11_spread) := ⟨lw_t (tm_8 (List.mem_of_getElem? (i := 62) rfl)), good_of_word (by decide +kernel)⟩
theorem dw_1075 : lw_in (Cond.instanceMethod yX11_spread) := ⟨lw_t (tm_8 (List.mem_of_getElem? (i := 61) rfl)), good_of_word (by decide +kernel)⟩
theorem dw_1076 : lw_in (Cond.methodLink R_law 140 yX11_spread) := ⟨lw_t (tm_8 (List.mem_of_getElem? (i := 60) rfl)), good_of_word (by decide +kernel)⟩
set_option maxRecDepth 100000 in
theorem dw_1077 : lw_in (Cond.code yX10_dearest cX10_dearest 6 (some .int)) := ⟨lw_t (tm_5 (List.mem_of_getElem? (i := 56) rfl)), good_of_word (by decide +kernel)⟩
theorem dw_1078 : lw_in (Cond.selects RX10 yX10_dearest yX10_dearest) := ⟨lw_t (tm_5 (List.mem_of_getElem? (i := 55) rfl)), good_of_word (by decide +kernel)⟩
theorem dw_1079 : lw_in (Cond.instanceMethod yX10_dearest) := ⟨lw_t (tm_5 (List.mem_of_getElem? (i := 54) rfl)), good_of_word (by decide +kernel)⟩
theorem dw_1080 : lw_in (Cond.methodLink R_law 141 yX10_dearest) := ⟨lw_t (tm_5 (List.mem_of_getElem? (i := 53) rfl)), good_of_word (by decide +kernel)⟩
set_option maxRecDepth 100000 in
theorem dw_1081 : lw_in (Cond.code yX11_dearest cX11_dearest 4 (some .int)) := ⟨lw_t (tm_8 (List.mem_of_getElem? (i := 67) rfl)), good_of_word (by decide +kernel)⟩
theorem dw_1082 : lw_in (Cond.selects RX11 yX11_dearest yX11_dearest) := ⟨lw_t (tm_8 (List.mem_of_getElem? (i := 66) rfl)), good_of_word (by decide +kernel)⟩
theorem dw_1083 : lw_in (Cond.instanceMethod yX11_dearest) := ⟨lw_t (tm_8 (List.mem_of_getElem? (i := 65) rfl)), good_of_word (by decide +kernel)⟩
theorem dw_1084 : lw_in (Cond.methodLink R_law 144 yX11_dearest) := ⟨lw_t (tm_8 (List.mem_of_getElem? (i := 64) rfl)), good_of_word (by decide +kernel)⟩
set_option maxRecDepth 100000 in
theorem dw_1085 : lw_in (Cond.code yX10_chosen cX10_chosen 6 (some .int)) := ⟨lw_t (tm_5 (List.mem_of_getElem? (i := 60) rfl)), good_of_word (by decide +kernel)⟩
theorem dw_1086 : lw_in (Cond.selects RX10 yX10_chosen yX10_chosen) := ⟨lw_t (tm_5 (List.mem_of_getElem? (i := 59) rfl)), good_of_word (by decide +kernel)⟩
theorem dw_1087 : lw_in (Cond.instanceMethod yX10_chosen) := ⟨lw_t (tm_5 (List.mem_of_getElem? (i := 58) rfl)), good_of_word (by decide +kernel)⟩
theorem dw_1088 : lw_in (Cond.methodLink R_law 145 yX10_chosen) := ⟨lw_t (tm_5 (List.mem_of_getElem? (i := 57) rfl)), good_of_word (by decide +kernel)⟩
set_option maxRecDepth 100000 in
theorem dw_1089 : lw_in (Cond.code yX11_chosen cX11_chosen 5 (some .int)) := ⟨lw_t (tm_8 (List.mem_of_getElem? (i := 71) rfl)), good_of_word (by decide +kernel)⟩
theorem dw_1090 : lw_in (Cond.selects RX11 yX11_chosen yX11_chosen) := ⟨lw_t (tm_8 (List.mem_of_getElem? (i := 70) rfl)), good_of_word (by decide +kernel)⟩
theorem dw_1091 : lw_in (Cond.instanceMethod yX11_chosen) := ⟨lw_t (tm_8 (List.mem_of_getElem? (i := 69) rfl)), good_of_word (by decide +kernel)⟩
theorem dw_1092 : lw_in (Cond.methodLink R_law 148 yX11_chosen) := ⟨lw_t (tm_8 (List.mem_of_getElem? (i := 68) rfl)), good_of_word (by decide +kernel)⟩
set_option maxRecDepth 100000 in
theorem dw_1093 : lw_in (Cond.code yX10_allGo cX10_allGo 4 (some .int)) := ⟨lw_t (tm_5 (List.mem_of_getElem? (i := 64) rfl)), good_of_word (by decide +kernel)⟩
theorem dw_1094 : lw_in (Cond.methodLink RX10 247 yJ6_bitCount_0f7a4) := ⟨lw_t (tm_5 (List.mem_of_getElem? (i := 69) rfl)), good_of_word (by decide +kernel)⟩
theorem dw_1095 : lw_in (Cond.selects RX10 yX10_partiesThatAre yX10_partiesThatAre) := ⟨List.mem_of_getElem? (i := 81) rfl, good_of_word (by decide +kernel)⟩
theorem dw_1096 : lw_in (Cond.instanceMethod yX10_partiesThatAre) := ⟨lw_t (tm_5 (List.mem_of_getElem? (i := 67) rfl)), good_of_word (by decide +kernel)⟩
theorem dw_1097 : lw_in (Cond.methodLink RX10 244 yX10_partiesThatAre) := ⟨lw_t (tm_5 (List.mem_of_getElem? (i := 65) rfl)), good_of_word (by decide +kernel)⟩
set_option maxRecDepth 100000 in
theorem dw_1098 : lw_in (Cond.code yX10_partiesThatAre cX10_partiesThatAre 5 (some .int)) := ⟨lw_t (tm_5 (List.mem_of_getElem? (i := 68) rfl)), good_of_word (by decide +kernel)⟩
theorem dw_1099 : lw_in (Cond.selects RX10 yX10_allGo yX10_allGo) := ⟨lw_t (tm_5 (List.mem_of_getElem? (i := 63) rfl)), good_of_word (by decide +kernel)⟩
theorem dw_1100 : lw_in (Cond.instanceMethod yX10_allGo) := ⟨lw_t (tm_5 (List.mem_of_getElem? (i := 62) rfl)), good_of_word (by decide +kernel)⟩
theorem dw_1101 : lw_in (Cond.methodLink R_law 149 yX10_allGo) := ⟨lw_t (tm_5 (List.mem_of_getElem? (i := 61) rfl)), good_of_word (by decide +kernel)⟩
set_option maxRecDepth 100000 in
theorem dw_1102 : lw_in (Cond.code yX11_allGo cX11_allGo 5 (some .int)) := ⟨lw_t (tm_8 (List.mem_of_getElem? (i := 75) rfl)), good_of_word (by decide +kernel)⟩
theorem dw_1103 : lw_in (Cond.selects RX11 yX11_manyIn yX11_manyIn) := ⟨List.mem_of_getElem? (i := 161) rfl, good_of_word (by decide +kernel)⟩
theorem dw_1104 : lw_in (Cond.instanceMethod yX11_manyIn) := ⟨lw_t (tm_8 (List.mem_of_getElem? (i := 78) rfl)), good_of_word (by decide +kernel)⟩
theorem dw_1105 : lw_in (Cond.methodLink RX11 416 yX11_manyIn) := ⟨lw_t (tm_8 (List.mem_of_getElem? (i := 76) rfl)), good_of_word (by decide +kernel)⟩
set_option maxRecDepth 100000 in
theorem dw_1106 : lw_in (Cond.code yX11_manyIn cX11_manyIn 4 (some .int)) := ⟨lw_t (tm_8 (List.mem_of_getElem? (i := 79) rfl)), good_of_word (by decide +kernel)⟩
theorem dw_1107 : lw_in (Cond.selects RX11 yX11_allGo yX11_allGo) := ⟨lw_t (tm_8 (List.mem_of_getElem? (i := 74) rfl)), good_of_word (by decide +kernel)⟩
theorem dw_1108 : lw_in (Cond.instanceMethod yX11_allGo) := ⟨lw_t (tm_8 (List.mem_of_getElem? (i := 73) rfl)), good_of_word (by decide +kernel)⟩
theorem dw_1109 : lw_in (Cond.methodLink R_law 152 yX11_allGo) := ⟨lw_t (tm_8 (List.mem_of_getElem? (i := 72) rfl)), good_of_word (by decide +kernel)⟩
set_option maxRecDepth 100000 in
theorem dw_1110 : lw_in (Cond.code yX10_darers cX10_darers 3 (some .int)) := ⟨lw_t (tm_5 (List.mem_of_getElem? (i := 73) rfl)), good_of_word (by decide +kernel)⟩
theorem dw_1111 : lw_in (Cond.selects RX10 yX10_darers yX10_darers) := ⟨lw_t (tm_5 (List.mem_of_getElem? (i := 72) rfl)), good_of_word (by decide +kernel)⟩
theorem dw_1112 : lw_in (Cond.instanceMethod yX10_darers) := ⟨lw_t (tm_5 (List.mem_of_getElem? (i := 71) rfl)), good_of_word (by decide +kernel)⟩
theorem dw_1113 : lw_in (Cond.methodLink R_law 153 yX10_darers) := ⟨lw_t (tm_5 (List.mem_of_getElem? (i := 70) rfl)), good_of_word (by decide +kernel)⟩
set_option maxRecDepth 100000 in
theorem dw_1114 : lw_in (Cond.code yX11_darers cX11_darers 3 (some .int)) := ⟨lw_t (tm_8 (List.mem_of_getElem? (i := 83) rfl)), good_of_word (by decide +kernel)⟩
theorem dw_1115 : lw_in (Cond.selects RX11 yX11_darers yX11_darers) := ⟨lw_t (tm_8 (List.mem_of_getElem? (i := 82) rfl)), good_of_word (by decide +kernel)⟩
theorem dw_1116 : lw_in (Cond.instanceMethod yX11_darers) := ⟨lw_t (tm_8 (List.mem_of_getElem? (i := 81) rfl)), good_of_word (by decide +kernel)⟩
theorem dw_1117 : lw_in (Cond.methodLink R_law 156 yX11_darers) := ⟨lw_t (tm_8 (List.mem_of_getElem? (i := 80) rfl)), good_of_word (by decide +kernel)⟩
set_option maxRecDepth 100000 in
theorem dw_1118 : lw_in (Cond.code yX10_open cX10_open 3 (some .int)) := ⟨lw_t (tm_5 (List.mem_of_getElem? (i := 77) rfl)), good_of_word (by decide +kernel)⟩
theorem dw_1119 : lw_in (Cond.selects RX10 yX10_open yX10_open) := ⟨lw_t (tm_5 (List.mem_of_getElem? (i := 76) rfl)), good_of_word (by decide +kernel)⟩
theorem dw_1120 : lw_in (Cond.instanceMethod yX10_open) := ⟨lw_t (tm_5 (List.mem_of_getElem? (i := 75) rfl)), good_of_word (by decide +kernel)⟩
theorem dw_1121 : lw_in (Cond.methodLink R_law 157 yX10_open) := ⟨lw_t (tm_5 (List.mem_of_getElem? (i := 74) rfl)), good_of_word (by decide +kernel)⟩
set_option maxRecDepth 100000 in
theorem dw_1122 : lw_in (Cond.code yX11_open cX11_open 3 (some .int)) := ⟨lw_t (tm_8 (List.mem_of_getElem? (i := 87) rfl)), good_of_word (by decide +kernel)⟩
theorem dw_1123 : lw_in (Cond.selects RX11 yX11_open yX11_open) := ⟨lw_t (tm_8 (List.mem_of_getElem? (i := 86) rfl)), good_of_word (by decide +kernel)⟩
theorem dw_1124 : lw_in (Cond.instanceMethod yX11_open) := ⟨lw_t (tm_8 (List.mem_of_getElem? (i := 85) rfl)), good_of_word (by decide +kernel)⟩
theorem dw_1125 : lw_in (Cond.methodLink R_law 160 yX11_open) := ⟨lw_t (tm_8 (List.mem_of_getElem? (i := 84) rfl)), good_of_word (by decide +kernel)⟩
set_option maxRecDepth 100000 in
theorem dw_1126 : lw_in (Cond.code yX10_then cX10_then 4 (some .int)) := ⟨lw_t (tm_5 (List.mem_of_getElem? (i := 81) rfl)), good_of_word (by decide +kernel)⟩
theorem dw_1127 : lw_in (Cond.selects RX10 yX10_then yX10_then) := ⟨lw_t (tm_5 (List.mem_of_getElem? (i := 80) rfl)), good_of_word (by decide +kernel)⟩
theorem dw_1128 : lw_in (Cond.instanceMethod yX10_then) := ⟨lw_t (tm_5 (List.mem_of_getElem? (i := 79) rfl)), good_of_word (by decide +kernel)⟩
theorem dw_1129 : lw_in (Cond.methodLink R_law 161 yX10_then) := ⟨lw_t (tm_5 (List.mem_of_getElem? (i := 78) rfl)), good_of_word (by decide +kernel)⟩
set_option maxRecDepth 100000 in
theorem dw_1130 : lw_in (Cond.code yX11_then cX11_then 4 (some .int)) := ⟨lw_t (tm_8 (List.mem_of_getElem? (i := 91) rfl)), good_of_word (by decide +kernel)⟩
theorem dw_1131 : lw_in (Cond.selects RX11 yX11_then yX11_then) := ⟨lw_t (tm_8 (List.mem_of_getElem? (i := 90) rfl)), good_of_word (by decide +kernel)⟩
theorem dw_1132 : lw_in (Cond.instanceMethod yX11_then) := ⟨lw_t (tm_8 (List.mem_of_getElem? (i := 89) rfl)), good_of_word (by decide +kernel)⟩
theorem dw_1133 : lw_in (Cond.methodLink R_law 164 yX11_then) := ⟨lw_t (tm_8 (List.mem_of_getElem? (i := 88) rfl)), good_of_word (by decide +kernel)⟩
set_option maxRecDepth 100000 in
theorem dw_1134 : lw_in (Cond.code yX10_next cX10_next 3 (some .int)) := ⟨lw_t (tm_5 (List.mem_of_getElem? (i := 85) rfl)), good_of_word (by decide +kernel)⟩
theorem dw_1135 : lw_in (Cond.selects RX10 yX10_next yX10_next) := ⟨lw_t (tm_5 (List.mem_of_getElem? (i := 84) rfl)), good_of_word (by decide +kernel)⟩
theorem dw_1136 : lw_in (Cond.instanceMethod yX10_next) := ⟨lw_t (tm_5 (List.mem_of_getElem? (i := 83) rfl)), good_of_word (by decide +kernel)⟩
theorem dw_1137 : lw_in (Cond.methodLink R_law 165 yX10_next) := ⟨lw_t (tm_5 (List.mem_of_getElem? (i := 82) rfl)), good_of_word (by decide +kernel)⟩
set_option maxRecDepth 100000 in
theorem dw_1138 : lw_in (Cond.code yX11_next cX11_next 3 (some .int)) := ⟨lw_t (tm_8 (List.mem_of_getElem? (i := 95) rfl)), good_of_word (by decide +kernel)⟩
theorem dw_1139 : lw_in (Cond.selects RX11 yX11_next yX11_next) := ⟨lw_t (tm_8 (List.mem_of_getElem? (i := 94) rfl)), good_of_word (by decide +kernel)⟩
theorem dw_1140 : lw_in (Cond.instanceMethod yX11_next) := ⟨lw_t (tm_8 (List.mem_of_getElem? (i := 93) rfl)), good_of_word (by decide +kernel)⟩
theorem dw_1141 : lw_in (Cond.methodLink R_law 168 yX11_next) := ⟨lw_t (tm_8 (List.mem_of_getElem? (i := 92) rfl)), good_of_word (by decide +kernel)⟩
set_option maxRecDepth 100000 in
theorem dw_1142 : lw_in (Cond.code yX10_year cX10_year 5 (some .int)) := ⟨lw_t (tm_5 (List.mem_of_getElem? (i := 89) rfl)), good_of_word (by decide +kernel)⟩
theorem dw_1143 : lw_in (Cond.selects RX0 yX0_guessThere yX0_guessThere) := ⟨List.mem_of_getElem? (i := 82) rfl, good_of_word (by decide +kernel)⟩
theorem dw_1144 : lw_in (Cond.instanceMethod yX0_guessThere) := ⟨lw_t (tm_5 (List.mem_of_getElem? (i := 92) rfl)), good_of_word (by decide +kernel)⟩
set_option maxRecDepth 100000 in
theorem dw_1145 : lw_in (Cond.code yX0_guessThere cX0_guessThere 5 (some .int)) := ⟨lw_t (tm_5 (List.mem_of_getElem? (i := 93) rfl)), good_of_word (by decide +kernel)⟩
theorem dw_1146 : lw_in (Cond.selects RX10 yX10_year yX10_year) := ⟨lw_t (tm_5 (List.mem_of_getElem? (i := 88) rfl)), good_of_word (by decide +kernel)⟩
theorem dw_1147 : lw_in (Cond.instanceMethod yX10_year) := ⟨lw_t (tm_5 (List.mem_of_getElem? (i := 87) rfl)), good_of_word (by decide +kernel)⟩
theorem dw_1148 : lw_in (Cond.methodLink R_law 169 yX10_year) := ⟨lw_t (tm_5 (List.mem_of_getElem? (i := 86) rfl)), good_of_word (by decide +kernel)⟩
set_option maxRecDepth 100000 in
theorem dw_1149 : lw_in (Cond.code yX11_year cX11_year 5 (some .int)) := ⟨lw_t (tm_8 (List.mem_of_getElem? (i := 99) rfl)), good_of_word (by decide +kernel)⟩
theorem dw_1150 : lw_in (Cond.selects RX11 yX11_year yX11_year) := ⟨lw_t (tm_8 (List.mem_of_getElem? (i := 98) rfl)), good_of_word (by decide +kernel)⟩
theorem dw_1151 : lw_in (Cond.instanceMethod yX11_year) := ⟨lw_t (tm_8 (List.mem_of_getElem? (i := 97) rfl)), good_of_word (by decide +kernel)⟩
theorem dw_1152 : lw_in (Cond.methodLink R_law 172 yX11_year) := ⟨lw_t (tm_8 (List.mem_of_getElem? (i := 96) rfl)), good_of_word (by decide +kernel)⟩
set_option maxRecDepth 100000 in
theorem dw_1153 : lw_in (Cond.code yX10_drawn cX10_drawn 5 (some .int)) := ⟨lw_t (tm_5 (List.mem_of_getElem? (i := 97) rfl)), good_of_word (by decide +kernel)⟩
theorem dw_1154 : lw_in (Cond.selects RX10 yX10_drawn yX10_drawn) := ⟨lw_t (tm_5 (List.mem_of_getElem? (i := 96) rfl)), good_of_word (by decide +kernel)⟩
theorem dw_1155 : lw_in (Cond.instanceMethod yX10_drawn) := ⟨lw_t (tm_5 (List.mem_of_getElem? (i := 95) rfl)), good_of_word (by decide +kernel)⟩
theorem dw_1156 : lw_in (Cond.methodLink R_law 173 yX10_drawn) := ⟨lw_t (tm_5 (List.mem_of_getElem? (i := 94) rfl)), good_of_word (by decide +kernel)⟩
set_option maxRecDepth 100000 in
theorem dw_1157 : lw_in (Cond.code yX11_drawn cX11_drawn 5 (some .int)) := ⟨lw_t (tm_8 (List.mem_of_getElem? (i := 103) rfl)), good_of_word (by decide +kernel)⟩
theorem dw_1158 : lw_in (Cond.selects RX11 yX11_drawn yX11_drawn) := ⟨lw_t (tm_8 (List.mem_of_getElem? (i := 102) rfl)), good_of_word (by decide +kernel)⟩
theorem dw_1159 : lw_in (Cond.instanceMethod yX11_drawn) := ⟨lw_t (tm_8 (List.mem_of_getElem? (i := 101) rfl)), good_of_word (by decide +kernel)⟩
theorem dw_1160 : lw_in (Cond.methodLink R_law 176 yX11_drawn) := ⟨lw_t (tm_8 (List.mem_of_getElem? (i := 100) rfl)), good_of_word (by decide +kernel)⟩
set_option maxRecDepth 100000 in
theorem dw_1161 : lw_in (Cond.code yX10_tell cX10_tell 4 (some .int)) := ⟨lw_t (tm_5 (List.mem_of_getElem? (i := 102) rfl)), good_of_word (by decide +kernel)⟩
theorem dw_1162 : lw_in (Cond.selects RX8 yX8_add yX8_add) := ⟨List.mem_of_getElem? (i := 83) rfl, good_of_word (by decide +kernel)⟩
theorem dw_1163 : lw_in (Cond.initialized RX8) := ⟨lw_t (tm_1 (List.mem_of_getElem? (i := 15) rfl)), good_of_word (by decide +kernel)⟩
theorem dw_1164 : lw_in (Cond.instanceMethod yX8_add) := ⟨lw_t (tm_5 (List.mem_of_getElem? (i := 105) rfl)), good_of_word (by decide +kernel)⟩
set_option maxRecDepth 100000 in
theorem dw_1165 : lw_in (Cond.code yX8_add cX8_add 3 (some .int)) := ⟨lw_t (tm_5 (List.mem_of_getElem? (i := 106) rfl)), good_of_word (by decide +kernel)⟩
theorem dw_1166 : lw_in (Cond.fieldLink RX8 15 "GuessFerry$Tellers" "toldThings" "[I") := ⟨lw_t (tm_2 (List.mem_of_getElem? (i := 169) rfl)), good_of_word (by decide +kernel)⟩
theorem dw_1167 : lw_in (Cond.fieldLink RX8 9 "GuessFerry$Tellers" "toldWaves" "[I") := ⟨lw_t (tm_2 (List.mem_of_getElem? (i := 168) rfl)), good_of_word (by decide +kernel)⟩
theorem dw_1168 : lw_in (Cond.fieldLink RX8 35 "GuessFerry$Tellers" "told" "I") := ⟨lw_t (tm_2 (List.mem_of_getElem? (i := 173) rfl)), good_of_word (by decide +kernel)⟩
theorem dw_1169 : lw_in (Cond.selects RX10 yX10_tell yX10_tell) := ⟨lw_t (tm_5 (List.mem_of_getElem? (i := 101) rfl)), good_of_word (by decide +kernel)⟩
theorem dw_1170 : lw_in (Cond.instanceMethod yX10_tell) := ⟨lw_t (tm_5 (List.mem_of_getElem? (i := 100) rfl)), good_of_word (by decide +kernel)⟩
theorem dw_1171 : lw_in (Cond.methodLink R_law 177 yX10_tell) := ⟨lw_t (tm_5 (List.mem_of_getElem? (i := 99) rfl)), good_of_word (by decide +kernel)⟩
set_option maxRecDepth 100000 in
theorem dw_1172 : lw_in (Cond.code yX11_tell cX11_tell 4 (some .int)) := ⟨lw_t (tm_8 (List.mem_of_getElem? (i := 107) rfl)), good_of_word (by decide +kernel)⟩
theorem dw_1173 : lw_in (Cond.fieldLink RX11 122 "GuessFerryModel" "toldSo" "[Z") := ⟨lw_t (tm_6 (List.mem_of_getElem? (i := 49) rfl)), good_of_word (by decide +kernel)⟩
theorem dw_1174 : lw_in (Cond.fieldLink RX11 119 "GuessFerryModel" "toldThings" "[I") := ⟨lw_t (tm_6 (List.mem_of_getElem? (i := 48) rfl)), good_of_word (by decide +kernel)⟩
theorem dw_1175 : lw_in (Cond.fieldLink RX11 116 "GuessFerryModel" "toldWave" "[I") := ⟨lw_t (tm_6 (List.mem_of_getElem? (i := 47) rfl)), good_of_word (by decide +kernel)⟩
theorem dw_1176 : lw_in (Cond.selects RX11 yX11_tell yX11_tell) := ⟨lw_t (tm_8 (List.mem_of_getElem? (i := 106) rfl)), good_of_word (by decide +kernel)⟩
theorem dw_1177 : lw_in (Cond.instanceMethod yX11_tell) := ⟨lw_t (tm_8 (List.mem_of_getElem? (i := 105) rfl)), good_of_word (by decide +kernel)⟩
theorem dw_1178 : lw_in (Cond.methodLink R_law 181 yX11_tell) := ⟨lw_t (tm_8 (List.mem_of_getElem? (i := 104) rfl)), good_of_word (by decide +kernel)⟩
set_option maxRecDepth 100000 in
theorem dw_1179 : lw_in (Cond.code yX10_forget cX10_forget 2 (some .int)) := ⟨lw_t (tm_5 (List.mem_of_getElem? (i := 110) rfl)), good_of_word (by decide +kernel)⟩
theorem dw_1180 : lw_in (Cond.selects RX10 yX10_forget yX10_forget) := ⟨lw_t (tm_5 (List.mem_of_getElem? (i := 109) rfl)), good_of_word (by decide +kernel)⟩
theorem dw_1181 : lw_in (Cond.instanceMethod yX10_forget) := ⟨lw_t (tm_5 (List.mem_of_getElem? (i := 108) rfl)), good_of_word (by decide +kernel)⟩
theorem dw_1182 : lw_in (Cond.methodLink R_law 182 yX10_forget) := ⟨lw_t (tm_5 (List.mem_of_getElem? (i := 107) rfl)), good_of_word (by decide +kernel)⟩
set_option maxRecDepth 100000 in
theorem dw_1183 : lw_in (Cond.code yX11_forget cX11_forget 2 (some .int)) := ⟨lw_t (tm_8 (List.mem_of_getElem? (i := 111) rfl)), good_of_word (by decide +kernel)⟩
theorem dw_1184 : lw_in (Cond.selects RX11 yX11_forget yX11_forget) := ⟨lw_t (tm_8 (List.mem_of_getElem? (i := 110) rfl)), good_of_word (by decide +kernel)⟩
theorem dw_1185 : lw_in (Cond.instanceMethod yX11_forget) := ⟨lw_t (tm_8 (List.mem_of_getElem? (i := 109) rfl)), good_of_word (by decide +kernel)⟩
theorem dw_1186 : lw_in (Cond.methodLink R_law 185 yX11_forget) := ⟨lw_t (tm_8 (List.mem_of_getElem? (i := 108) rfl)), good_of_word (by decide +kernel)⟩
set_option maxRecDepth 100000 in
theorem dw_1187 : lw_in (Cond.code yX10_fit cX10_fit 4 (some .int)) := ⟨lw_t (tm_5 (List.mem_of_getElem? (i := 114) rfl)), good_of_word (by decide +kernel)⟩
theorem dw_1188 : lw_in (Cond.selects RX8 yX8_fitting yX8_fitting) := ⟨List.mem_of_getElem? (i := 87) rfl, good_of_word (by decide +kernel)⟩
theorem dw_1189 : lw_in (Cond.instanceMethod yX8_fitting) := ⟨lw_t (tm_5 (List.mem_of_getElem? (i := 132) rfl)), good_of_word (by decide +kernel)⟩
theorem dw_1190 : lw_in (Cond.selects RX8 yX8_believe yX8_believe) := ⟨List.mem_of_getElem? (i := 85) rfl, good_of_word (by decide +kernel)⟩
theorem dw_1191 : lw_in (Cond.instanceMethod yX8_believe) := ⟨lw_t (tm_5 (List.mem_of_getElem? (i := 121) rfl)), good_of_word (by decide +kernel)⟩
theorem dw_1192 : lw_in (Cond.selects RX8 yX8_areSuch yX8_areSuch) := ⟨List.mem_of_getElem? (i := 84) rfl, good_of_word (by decide +kernel)⟩
theorem dw_1193 : lw_in (Cond.instanceMethod yX8_areSuch) := ⟨lw_t (tm_5 (List.mem_of_getElem? (i := 117) rfl)), good_of_word (by decide +kernel)⟩
set_option maxRecDepth 100000 in
theorem dw_1194 : lw_in (Cond.code yX8_areSuch cX8_areSuch 3 (some .boolean)) := ⟨lw_t (tm_5 (List.mem_of_getElem? (i := 118) rfl)), good_of_word (by decide +kernel)⟩
set_option maxRecDepth 100000 in
theorem dw_1195 : lw_in (Cond.code yX8_believe cX8_believe 7 none) := ⟨lw_t (tm_5 (List.mem_of_getElem? (i := 122) rfl)), good_of_word (by decide +kernel)⟩
theorem dw_1196 : lw_in (Cond.selects RX8 yX8_beliedBy yX8_beliedBy) := ⟨List.mem_of_getElem? (i := 86) rfl, good_of_word (by decide +kernel)⟩
theorem dw_1197 : lw_in (Cond.instanceMethod yX8_beliedBy) := ⟨lw_t (tm_5 (List.mem_of_getElem? (i := 128) rfl)), good_of_word (by decide +kernel)⟩
theorem dw_1198 : lw_in (Cond.methodLink RX8 58 yX8_beliedBy) := ⟨lw_t (tm_5 (List.mem_of_getElem? (i := 126) rfl)), good_of_word (by decide +kernel)⟩
theorem dw_1199 : lw_in (Cond.fieldLink RX8 21 "GuessFerry$Tellers" "belied" "[I") := ⟨lw_t (tm_2 (List.mem_of_getElem? (i := 171) rfl)), good_of_word (by decide +kernel)⟩
theorem dw_1200 : lw_in (Cond.fieldLink RX8 18 "GuessFerry$Tellers" "odds" "[I") := ⟨lw_t (tm_2 (List.mem_of_getElem? (i := 170) rfl)), good_of_word (by decide +kernel)⟩
theorem dw_1201 : lw_in (Cond.fieldLink RX8 31 "GuessFerry$Tellers" "crossing" "LGuessFerry$Crossing;") := ⟨lw_t (tm_2 (List.mem_of_getElem? (i := 167) rfl)), good_of_word (by decide +kernel)⟩
theorem dw_1202 : lw_in (Cond.fieldLink RX8 27 "GuessFerry$Tellers" "sound" "LGuessFerry$Sound;") := ⟨lw_t (tm_2 (List.mem_of_getElem? (i := 166) rfl)), good_of_word (by decide +kernel)⟩
set_option maxRecDepth 100000 in
theorem dw_1203 : lw_in (Cond.code yX8_beliedBy cX8_beliedBy 6 (some .int)) := ⟨lw_t (tm_5 (List.mem_of_getElem? (i := 129) rfl)), good_of_word (by decide +kernel)⟩
set_option maxRecDepth 100000 in
theorem dw_1204 : lw_in (Cond.code yX8_fitting cX8_fitting 3 (some .int)) := ⟨lw_t (tm_5 (List.mem_of_getElem? (i := 133) rfl)), good_of_word (by decide +kernel)⟩
theorem dw_1205 : lw_in (Cond.selects RX8 yX8_upTo yX8_upTo) := ⟨List.mem_of_getElem? (i := 90) rfl, good_of_word (by decide +kernel)⟩
theorem dw_1206 : lw_in (Cond.instanceMethod yX8_upTo) := ⟨lw_t (tm_5 (List.mem_of_getElem? (i := 145) rfl)), good_of_word (by decide +kernel)⟩
theorem dw_1207 : lw_in (Cond.methodLink RX8 76 yX8_upTo) := ⟨lw_t (tm_5 (List.mem_of_getElem? (i := 143) rfl)), good_of_word (by decide +kernel)⟩
theorem dw_1208 : lw_in (Cond.selects RX8 yX8_sortByLies yX8_sortByLies) := ⟨List.mem_of_getElem? (i := 88) rfl, good_of_word (by decide +kernel)⟩
theorem dw_1209 : lw_in (Cond.instanceMethod yX8_sortByLies) := ⟨lw_t (tm_5 (List.mem_of_getElem? (i := 136) rfl)), good_of_word (by decide +kernel)⟩
theorem dw_1210 : lw_in (Cond.methodLink RX8 72 yX8_sortByLies) := ⟨lw_t (tm_5 (List.mem_of_getElem? (i := 134) rfl)), good_of_word (by decide +kernel)⟩
set_option maxRecDepth 100000 in
theorem dw_1211 : lw_in (Cond.code yX8_sortByLies cX8_sortByLies 5 none) := ⟨lw_t (tm_5 (List.mem_of_getElem? (i := 137) rfl)), good_of_word (by decide +kernel)⟩
theorem dw_1212 : lw_in (Cond.selects RX8 yX8_withWave yX8_withWave) := ⟨List.mem_of_getElem? (i := 89) rfl, good_of_word (by decide +kernel)⟩
theorem dw_1213 : lw_in (Cond.instanceMethod yX8_withWave) := ⟨lw_t (tm_5 (List.mem_of_getElem? (i := 141) rfl)), good_of_word (by decide +kernel)⟩
theorem dw_1214 : lw_in (Cond.methodLink RX8 68 yX8_withWave) := ⟨lw_t (tm_5 (List.mem_of_getElem? (i := 139) rfl)), good_of_word (by decide +kernel)⟩
theorem dw_1215 : lw_in (Cond.methodLink RX8 62 yJ7_fill_53178) := ⟨lw_t (tm_5 (List.mem_of_getElem? (i := 138) rfl)), good_of_word (by decide +kernel)⟩
theorem dw_1216 : lw_in (Cond.fieldLink RX8 24 "GuessFerry$Tellers" "byLies" "[I") := ⟨lw_t (tm_2 (List.mem_of_getElem? (i := 172) rfl)), good_of_word (by decide +kernel)⟩
set_option maxRecDepth 100000 in
theorem dw_1217 : lw_in (Cond.code yX8_withWave cX8_withWave 7 (some .int)) := ⟨lw_t (tm_5 (List.mem_of_getElem? (i := 142) rfl)), good_of_word (by decide +kernel)⟩
set_option maxRecDepth 100000 in
theorem dw_1218 : lw_in (Cond.code yX8_upTo cX8_upTo 4 (some .int)) := ⟨lw_t (tm_5 (List.mem_of_getElem? (i := 146) rfl)), good_of_word (by decide +kernel)⟩
theorem dw_1219 : lw_in (Cond.selects RX10 yX10_fit yX10_fit) := ⟨lw_t (tm_5 (List.mem_of_getElem? (i := 113) rfl)), good_of_word (by decide +kernel)⟩
theorem dw_1220 : lw_in (Cond.instanceMethod yX10_fit) := ⟨lw_t (tm_5 (List.mem_of_getElem? (i := 112) rfl)), good_of_word (by decide +kernel)⟩
theorem dw_1221 : lw_in (Cond.methodLink R_law 186 yX10_fit) := ⟨lw_t (tm_5 (List.mem_of_getElem? (i := 111) rfl)), good_of_word (by decide +kernel)⟩
set_option maxRecDepth 100000 in
theorem dw_1222 : lw_in (Cond.code yX11_fit cX11_fit 6 (some .int)) := ⟨lw_t (tm_8 (List.mem_of_getElem? (i := 115) rfl)), good_of_word (by decide +kernel)⟩
theorem dw_1223 : lw_in (Cond.selects RX11 yX11_doesFit yX11_doesFit) := ⟨List.mem_of_getElem? (i := 163) rfl, good_of_word (by decide +kernel)⟩
theorem dw_1224 : lw_in (Cond.instanceMethod yX11_doesFit) := ⟨lw_t (tm_8 (List.mem_of_getElem? (i := 122) rfl)), good_of_word (by decide +kernel)⟩
theorem dw_1225 : lw_in (Cond.methodLink RX11 425 yX11_doesFit) := ⟨lw_t (tm_8 (List.mem_of_getElem? (i := 120) rfl)), good_of_word (by decide +kernel)⟩
theorem dw_1226 : lw_in (Cond.selects RX11 yX11_isAsked yX11_isAsked) := ⟨List.mem_of_getElem? (i := 162) rfl, good_of_word (by decide +kernel)⟩
theorem dw_1227 : lw_in (Cond.instanceMethod yX11_isAsked) := ⟨lw_t (tm_8 (List.mem_of_getElem? (i := 118) rfl)), good_of_word (by decide +kernel)⟩
theorem dw_1228 : lw_in (Cond.methodLink RX11 422 yX11_isAsked) := ⟨lw_t (tm_8 (List.mem_of_getElem? (i := 116) rfl)), good_of_word (by decide +kernel)⟩
set_option maxRecDepth 100000 in
theorem dw_1229 : lw_in (Cond.code yX11_isAsked cX11_isAsked 3 (some .boolean)) := ⟨lw_t (tm_8 (List.mem_of_getElem? (i := 119) rfl)), good_of_word (by decide +kernel)⟩
set_option maxRecDepth 100000 in
theorem dw_1230 : lw_in (Cond.code yX11_doesFit cX11_doesFit 6 (some .boolean)) := ⟨lw_t (tm_8 (List.mem_of_getElem? (i := 123) rfl)), good_of_word (by decide +kernel)⟩
theorem dw_1231 : lw_in (Cond.selects RX11 yX11_isSo yX11_isSo) := ⟨List.mem_of_getElem? (i := 164) rfl, good_of_word (by decide +kernel)⟩
theorem dw_1232 : lw_in (Cond.instanceMethod yX11_isSo) := ⟨lw_t (tm_8 (List.mem_of_getElem? (i := 126) rfl)), good_of_word (by decide +kernel)⟩
theorem dw_1233 : lw_in (Cond.methodLink RX11 419 yX11_isSo) := ⟨lw_t (tm_8 (List.mem_of_getElem? (i := 124) rfl)), good_of_word (by decide +kernel)⟩
set_option maxRecDepth 100000 in
theorem dw_1234 : lw_in (Cond.code yX11_isSo cX11_isSo 3 (some .boolean)) := ⟨lw_t (tm_8 (List.mem_of_getElem? (i := 127) rfl)), good_of_word (by decide +kernel)⟩
theorem dw_1235 : lw_in (Cond.selects RX11 yX11_fit yX11_fit) := ⟨lw_t (tm_8 (List.mem_of_getElem? (i := 114) rfl)), good_of_word (by decide +kernel)⟩
theorem dw_1236 : lw_in (Cond.instanceMethod yX11_fit) := ⟨lw_t (tm_8 (List.mem_of_getElem? (i := 113) rfl)), good_of_word (by decide +kernel)⟩
theorem dw_1237 : lw_in (Cond.methodLink R_law 189 yX11_fit) := ⟨lw_t (tm_8 (List.mem_of_getElem? (i := 112) rfl)), good_of_word (by decide +kernel)⟩
set_option maxRecDepth 100000 in
theorem dw_1238 : lw_in (Cond.code yX10_lie cX10_lie 3 (some .int)) := ⟨lw_t (tm_5 (List.mem_of_getElem? (i := 150) rfl)), good_of_word (by decide +kernel)⟩
theorem dw_1239 : lw_in (Cond.selects RX8 yX8_liars yX8_liars) := ⟨List.mem_of_getElem? (i := 91) rfl, good_of_word (by decide +kernel)⟩
theorem dw_1240 : lw_in (Cond.instanceMethod yX8_liars) := ⟨lw_t (tm_5 (List.mem_of_getElem? (i := 153) rfl)), good_of_word (by decide +kernel)⟩
set_option maxRecDepth 100000 in
theorem dw_1241 : lw_in (Cond.code yX8_liars cX8_liars 7 (some .int)) := ⟨lw_t (tm_5 (List.mem_of_getElem? (i := 154) rfl)), good_of_word (by decide +kernel)⟩
theorem dw_1242 : lw_in (Cond.selects RX8 yX8_fittingWith yX8_fittingWith) := ⟨List.mem_of_getElem? (i := 92) rfl, good_of_word (by decide +kernel)⟩
theorem dw_1243 : lw_in (Cond.instanceMethod yX8_fittingWith) := ⟨lw_t (tm_5 (List.mem_of_getElem? (i := 157) rfl)), good_of_word (by decide +kernel)⟩
theorem dw_1244 : lw_in (Cond.methodLink RX8 80 yX8_fittingWith) := ⟨lw_t (tm_5 (List.mem_of_getElem? (i := 155) rfl)), good_of_word (by decide +kernel)⟩
set_option maxRecDepth 100000 in
theorem dw_1245 : lw_in (Cond.code yX8_fittingWith cX8_fittingWith 5 (some .int)) := ⟨lw_t (tm_5 (List.mem_of_getElem? (i := 158) rfl)), good_of_word (by decide +kernel)⟩
theorem dw_1246 : lw_in (Cond.selects RX10 yX10_lie yX10_lie) := ⟨lw_t (tm_5 (List.mem_of_getElem? (i := 149) rfl)), good_of_word (by decide +kernel)⟩
theorem dw_1247 : lw_in (Cond.instanceMethod yX10_lie) := ⟨lw_t (tm_5 (List.mem_of_getElem? (i := 148) rfl)), good_of_word (by decide +kernel)⟩
theorem dw_1248 : lw_in (Cond.methodLink R_law 190 yX10_lie) := ⟨lw_t (tm_5 (List.mem_of_getElem? (i := 147) rfl)), good_of_word (by decide +kernel)⟩
set_option maxRecDepth 100000 in
theorem dw_1249 : lw_in (Cond.code yX11_lie cX11_lie 6 (some .int)) := ⟨lw_t (tm_8 (List.mem_of_getElem? (i := 131) rfl)), good_of_word (by decide +kernel)⟩
end
section
theorem dw_1250 : lw_in (Cond.selects RX11 yX11_lie yX11_lie) := ⟨lw_t (tm_8 (List.mem_of_getElem? (i := 130) rfl)), good_of_word (by decide +kernel)⟩
theorem dw_1251 : lw_in (Cond.instanceMethod yX11_lie) := ⟨lw_t (tm_8 (List.mem_of_getElem? (i := 129) rfl)), good_of_word (by decide +kernel)⟩
theorem dw_1252 : lw_in (Cond.methodLink R_law 193 yX11_lie) := ⟨lw_t (tm_8 (List.mem_of_getElem? (i := 128) rfl)), good_of_word (by decide +kernel)⟩
set_option maxRecDepth 100000 in
theorem dw_1253 : lw_in (Cond.code yX10_ask cX10_ask 3 (some .int)) := ⟨lw_t (tm_5 (List.mem_of_getElem? (i := 162) rfl)), good_of_word (by decide +kernel)⟩
theorem dw_1254 : lw_in (Cond.selects RX8 yX8_waveToAsk yX8_waveToAsk) := ⟨List.mem_of_getElem? (i := 93) rfl, good_of_word (by decide +kernel)⟩
theorem dw_1255 : lw_in (Cond.instanceMethod yX8_waveToAsk) := ⟨lw_t (tm_5 (List.mem_of_getElem? (i := 165) rfl)), good_of_word (by decide +kernel)⟩
set_option maxRecDepth 100000 in
theorem dw_1256 : lw_in (Cond.code yX8_waveToAsk cX8_waveToAsk 7 (some .int)) := ⟨lw_t (tm_5 (List.mem_of_getElem? (i := 166) rfl)), good_of_word (by decide +kernel)⟩
theorem dw_1257 : lw_in (Cond.methodLink RX8 83 Lib.Math.max.name) := ⟨lw_t (tm_5 (List.mem_of_getElem? (i := 167) rfl)), good_of_word (by decide +kernel)⟩
theorem dw_1258 : lw_in (Cond.selects RX10 yX10_ask yX10_ask) := ⟨lw_t (tm_5 (List.mem_of_getElem? (i := 161) rfl)), good_of_word (by decide +kernel)⟩
theorem dw_1259 : lw_in (Cond.instanceMethod yX10_ask) := ⟨lw_t (tm_5 (List.mem_of_getElem? (i := 160) rfl)), good_of_word (by decide +kernel)⟩
theorem dw_1260 : lw_in (Cond.methodLink R_law 194 yX10_ask) := ⟨lw_t (tm_5 (List.mem_of_getElem? (i := 159) rfl)), good_of_word (by decide +kernel)⟩
set_option maxRecDepth 100000 in
theorem dw_1261 : lw_in (Cond.code yX11_ask cX11_ask 6 (some .int)) := ⟨lw_t (tm_8 (List.mem_of_getElem? (i := 135) rfl)), good_of_word (by decide +kernel)⟩
theorem dw_1262 : lw_in (Cond.selects RX11 yX11_worstAt yX11_worstAt) := ⟨List.mem_of_getElem? (i := 165) rfl, good_of_word (by decide +kernel)⟩
theorem dw_1263 : lw_in (Cond.instanceMethod yX11_worstAt) := ⟨lw_t (tm_8 (List.mem_of_getElem? (i := 138) rfl)), good_of_word (by decide +kernel)⟩
theorem dw_1264 : lw_in (Cond.methodLink RX11 428 yX11_worstAt) := ⟨lw_t (tm_8 (List.mem_of_getElem? (i := 136) rfl)), good_of_word (by decide +kernel)⟩
theorem dw_1265 : lw_in (Cond.fieldLink RX11 125 "GuessFerryModel" "fitBy" "[I") := ⟨lw_t (tm_6 (List.mem_of_getElem? (i := 50) rfl)), good_of_word (by decide +kernel)⟩
set_option maxRecDepth 100000 in
theorem dw_1266 : lw_in (Cond.code yX11_worstAt cX11_worstAt 4 (some .int)) := ⟨lw_t (tm_8 (List.mem_of_getElem? (i := 139) rfl)), good_of_word (by decide +kernel)⟩
theorem dw_1267 : lw_in (Cond.selects RX11 yX11_ask yX11_ask) := ⟨lw_t (tm_8 (List.mem_of_getElem? (i := 134) rfl)), good_of_word (by decide +kernel)⟩
theorem dw_1268 : lw_in (Cond.instanceMethod yX11_ask) := ⟨lw_t (tm_8 (List.mem_of_getElem? (i := 133) rfl)), good_of_word (by decide +kernel)⟩
theorem dw_1269 : lw_in (Cond.methodLink R_law 197 yX11_ask) := ⟨lw_t (tm_8 (List.mem_of_getElem? (i := 132) rfl)), good_of_word (by decide +kernel)⟩
set_option maxRecDepth 100000 in
theorem dw_1270 : lw_in (Cond.code yX10_hold cX10_hold 2 (some .boolean)) := ⟨lw_t (tm_5 (List.mem_of_getElem? (i := 171) rfl)), good_of_word (by decide +kernel)⟩
theorem dw_1271 : lw_in (Cond.selects RX3 yX3_keepIn yX3_keepIn) := ⟨List.mem_of_getElem? (i := 94) rfl, good_of_word (by decide +kernel)⟩
theorem dw_1272 : lw_in (Cond.instanceMethod yX3_keepIn) := ⟨lw_t (tm_5 (List.mem_of_getElem? (i := 174) rfl)), good_of_word (by decide +kernel)⟩
set_option maxRecDepth 100000 in
theorem dw_1273 : lw_in (Cond.code yX3_keepIn cX3_keepIn 3 (some .boolean)) := ⟨lw_t (tm_5 (List.mem_of_getElem? (i := 175) rfl)), good_of_word (by decide +kernel)⟩
theorem dw_1274 : lw_in (Cond.fieldLink RX3 17 "GuessFerry$Past" "slots" "[LGuessFerry$Standing;") := ⟨lw_t (tm_2 (List.mem_of_getElem? (i := 105) rfl)), good_of_word (by decide +kernel)⟩
theorem dw_1275 : lw_in (Cond.selects RX10 yX10_hold yX10_hold) := ⟨lw_t (tm_5 (List.mem_of_getElem? (i := 170) rfl)), good_of_word (by decide +kernel)⟩
theorem dw_1276 : lw_in (Cond.instanceMethod yX10_hold) := ⟨lw_t (tm_5 (List.mem_of_getElem? (i := 169) rfl)), good_of_word (by decide +kernel)⟩
theorem dw_1277 : lw_in (Cond.methodLink R_law 198 yX10_hold) := ⟨lw_t (tm_5 (List.mem_of_getElem? (i := 168) rfl)), good_of_word (by decide +kernel)⟩
set_option maxRecDepth 100000 in
theorem dw_1278 : lw_in (Cond.code yX11_hold cX11_hold 3 (some .boolean)) := ⟨lw_t (tm_8 (List.mem_of_getElem? (i := 143) rfl)), good_of_word (by decide +kernel)⟩
theorem dw_1279 : lw_in (Cond.fieldLink RX11 131 "GuessFerryModel" "heldRows" "[I") := ⟨lw_t (tm_6 (List.mem_of_getElem? (i := 52) rfl)), good_of_word (by decide +kernel)⟩
theorem dw_1280 : lw_in (Cond.selects RX11 yX11_hold yX11_hold) := ⟨lw_t (tm_8 (List.mem_of_getElem? (i := 142) rfl)), good_of_word (by decide +kernel)⟩
theorem dw_1281 : lw_in (Cond.instanceMethod yX11_hold) := ⟨lw_t (tm_8 (List.mem_of_getElem? (i := 141) rfl)), good_of_word (by decide +kernel)⟩
theorem dw_1282 : lw_in (Cond.methodLink R_law 201 yX11_hold) := ⟨lw_t (tm_8 (List.mem_of_getElem? (i := 140) rfl)), good_of_word (by decide +kernel)⟩
set_option maxRecDepth 100000 in
theorem dw_1283 : lw_in (Cond.code yX10_restore cX10_restore 2 (some .boolean)) := ⟨lw_t (tm_5 (List.mem_of_getElem? (i := 179) rfl)), good_of_word (by decide +kernel)⟩
theorem dw_1284 : lw_in (Cond.selects RX3 yX3_goOnFrom yX3_goOnFrom) := ⟨List.mem_of_getElem? (i := 95) rfl, good_of_word (by decide +kernel)⟩
theorem dw_1285 : lw_in (Cond.instanceMethod yX3_goOnFrom) := ⟨lw_t (tm_5 (List.mem_of_getElem? (i := 182) rfl)), good_of_word (by decide +kernel)⟩
set_option maxRecDepth 100000 in
theorem dw_1286 : lw_in (Cond.code yX3_goOnFrom cX3_goOnFrom 3 (some .boolean)) := ⟨lw_t (tm_5 (List.mem_of_getElem? (i := 183) rfl)), good_of_word (by decide +kernel)⟩
theorem dw_1287 : lw_in (Cond.selects RX10 yX10_restore yX10_restore) := ⟨lw_t (tm_5 (List.mem_of_getElem? (i := 178) rfl)), good_of_word (by decide +kernel)⟩
theorem dw_1288 : lw_in (Cond.instanceMethod yX10_restore) := ⟨lw_t (tm_5 (List.mem_of_getElem? (i := 177) rfl)), good_of_word (by decide +kernel)⟩
theorem dw_1289 : lw_in (Cond.methodLink R_law 202 yX10_restore) := ⟨lw_t (tm_5 (List.mem_of_getElem? (i := 176) rfl)), good_of_word (by decide +kernel)⟩
set_option maxRecDepth 100000 in
theorem dw_1290 : lw_in (Cond.code yX11_restore cX11_restore 3 (some .boolean)) := ⟨lw_t (tm_8 (List.mem_of_getElem? (i := 147) rfl)), good_of_word (by decide +kernel)⟩
theorem dw_1291 : lw_in (Cond.selects RX11 yX11_restore yX11_restore) := ⟨lw_t (tm_8 (List.mem_of_getElem? (i := 146) rfl)), good_of_word (by decide +kernel)⟩
theorem dw_1292 : lw_in (Cond.instanceMethod yX11_restore) := ⟨lw_t (tm_8 (List.mem_of_getElem? (i := 145) rfl)), good_of_word (by decide +kernel)⟩
theorem dw_1293 : lw_in (Cond.methodLink R_law 205 yX11_restore) := ⟨lw_t (tm_8 (List.mem_of_getElem? (i := 144) rfl)), good_of_word (by decide +kernel)⟩
set_option maxRecDepth 100000 in
theorem dw_1294 : lw_in (Cond.code yX10_count cX10_count 2 (some .int)) := ⟨lw_t (tm_5 (List.mem_of_getElem? (i := 187) rfl)), good_of_word (by decide +kernel)⟩
theorem dw_1295 : lw_in (Cond.selects RX10 yX10_faresOfAllHere yX10_faresOfAllHere) := ⟨List.mem_of_getElem? (i := 100) rfl, good_of_word (by decide +kernel)⟩
theorem dw_1296 : lw_in (Cond.instanceMethod yX10_faresOfAllHere) := ⟨lw_t (tm_5 (List.mem_of_getElem? (i := 209) rfl)), good_of_word (by decide +kernel)⟩
theorem dw_1297 : lw_in (Cond.methodLink RX10 311 yX10_faresOfAllHere) := ⟨lw_t (tm_5 (List.mem_of_getElem? (i := 207) rfl)), good_of_word (by decide +kernel)⟩
theorem dw_1298 : lw_in (Cond.selects RX10 yX10_wavesWithNothing yX10_wavesWithNothing) := ⟨List.mem_of_getElem? (i := 99) rfl, good_of_word (by decide +kernel)⟩
theorem dw_1299 : lw_in (Cond.instanceMethod yX10_wavesWithNothing) := ⟨lw_t (tm_5 (List.mem_of_getElem? (i := 205) rfl)), good_of_word (by decide +kernel)⟩
theorem dw_1300 : lw_in (Cond.methodLink RX10 308 yX10_wavesWithNothing) := ⟨lw_t (tm_5 (List.mem_of_getElem? (i := 203) rfl)), good_of_word (by decide +kernel)⟩
theorem dw_1301 : lw_in (Cond.selects RX10 yX10_wavesFound yX10_wavesFound) := ⟨List.mem_of_getElem? (i := 98) rfl, good_of_word (by decide +kernel)⟩
theorem dw_1302 : lw_in (Cond.instanceMethod yX10_wavesFound) := ⟨lw_t (tm_5 (List.mem_of_getElem? (i := 201) rfl)), good_of_word (by decide +kernel)⟩
theorem dw_1303 : lw_in (Cond.methodLink RX10 302 yX10_wavesFound) := ⟨lw_t (tm_5 (List.mem_of_getElem? (i := 199) rfl)), good_of_word (by decide +kernel)⟩
theorem dw_1304 : lw_in (Cond.selects RX10 yX10_buoysLying yX10_buoysLying) := ⟨List.mem_of_getElem? (i := 97) rfl, good_of_word (by decide +kernel)⟩
theorem dw_1305 : lw_in (Cond.instanceMethod yX10_buoysLying) := ⟨lw_t (tm_5 (List.mem_of_getElem? (i := 197) rfl)), good_of_word (by decide +kernel)⟩
theorem dw_1306 : lw_in (Cond.methodLink RX10 299 yX10_buoysLying) := ⟨lw_t (tm_5 (List.mem_of_getElem? (i := 195) rfl)), good_of_word (by decide +kernel)⟩
theorem dw_1307 : lw_in (Cond.selects RX3 yX3_slotsHeld yX3_slotsHeld) := ⟨List.mem_of_getElem? (i := 96) rfl, good_of_word (by decide +kernel)⟩
theorem dw_1308 : lw_in (Cond.instanceMethod yX3_slotsHeld) := ⟨lw_t (tm_5 (List.mem_of_getElem? (i := 193) rfl)), good_of_word (by decide +kernel)⟩
theorem dw_1309 : lw_in (Cond.static yX10_sumOf) := ⟨lw_t (tm_5 (List.mem_of_getElem? (i := 189) rfl)), good_of_word (by decide +kernel)⟩
theorem dw_1310 : lw_in (Cond.methodLink RX10 289 yX10_sumOf) := ⟨lw_t (tm_5 (List.mem_of_getElem? (i := 188) rfl)), good_of_word (by decide +kernel)⟩
set_option maxRecDepth 100000 in
theorem dw_1311 : lw_in (Cond.code yX10_sumOf cX10_sumOf 3 (some .int)) := ⟨lw_t (tm_5 (List.mem_of_getElem? (i := 190) rfl)), good_of_word (by decide +kernel)⟩
set_option maxRecDepth 100000 in
theorem dw_1312 : lw_in (Cond.code yX3_slotsHeld cX3_slotsHeld 3 (some .int)) := ⟨lw_t (tm_5 (List.mem_of_getElem? (i := 194) rfl)), good_of_word (by decide +kernel)⟩
set_option maxRecDepth 100000 in
theorem dw_1313 : lw_in (Cond.code yX10_buoysLying cX10_buoysLying 3 (some .int)) := ⟨lw_t (tm_5 (List.mem_of_getElem? (i := 198) rfl)), good_of_word (by decide +kernel)⟩
set_option maxRecDepth 100000 in
theorem dw_1314 : lw_in (Cond.code yX10_wavesFound cX10_wavesFound 3 (some .int)) := ⟨lw_t (tm_5 (List.mem_of_getElem? (i := 202) rfl)), good_of_word (by decide +kernel)⟩
set_option maxRecDepth 100000 in
theorem dw_1315 : lw_in (Cond.code yX10_wavesWithNothing cX10_wavesWithNothing 3 (some .int)) := ⟨lw_t (tm_5 (List.mem_of_getElem? (i := 206) rfl)), good_of_word (by decide +kernel)⟩
set_option maxRecDepth 100000 in
theorem dw_1316 : lw_in (Cond.code yX10_faresOfAllHere cX10_faresOfAllHere 3 (some .int)) := ⟨lw_t (tm_5 (List.mem_of_getElem? (i := 210) rfl)), good_of_word (by decide +kernel)⟩
theorem dw_1317 : lw_in (Cond.selects RX10 yX10_count yX10_count) := ⟨lw_t (tm_5 (List.mem_of_getElem? (i := 186) rfl)), good_of_word (by decide +kernel)⟩
theorem dw_1318 : lw_in (Cond.instanceMethod yX10_count) := ⟨lw_t (tm_5 (List.mem_of_getElem? (i := 185) rfl)), good_of_word (by decide +kernel)⟩
theorem dw_1319 : lw_in (Cond.methodLink R_law 206 yX10_count) := ⟨lw_t (tm_5 (List.mem_of_getElem? (i := 184) rfl)), good_of_word (by decide +kernel)⟩
set_option maxRecDepth 100000 in
theorem dw_1320 : lw_in (Cond.code yX11_count cX11_count 4 (some .int)) := ⟨lw_t (tm_8 (List.mem_of_getElem? (i := 151) rfl)), good_of_word (by decide +kernel)⟩
theorem dw_1321 : lw_in (Cond.selects RX11 yX11_sumNow yX11_sumNow) := ⟨List.mem_of_getElem? (i := 167) rfl, good_of_word (by decide +kernel)⟩
theorem dw_1322 : lw_in (Cond.instanceMethod yX11_sumNow) := ⟨lw_t (tm_8 (List.mem_of_getElem? (i := 158) rfl)), good_of_word (by decide +kernel)⟩
theorem dw_1323 : lw_in (Cond.methodLink RX11 434 yX11_sumNow) := ⟨lw_t (tm_8 (List.mem_of_getElem? (i := 156) rfl)), good_of_word (by decide +kernel)⟩
theorem dw_1324 : lw_in (Cond.selects RX11 yX11_partiesIn yX11_partiesIn) := ⟨List.mem_of_getElem? (i := 166) rfl, good_of_word (by decide +kernel)⟩
theorem dw_1325 : lw_in (Cond.instanceMethod yX11_partiesIn) := ⟨lw_t (tm_8 (List.mem_of_getElem? (i := 154) rfl)), good_of_word (by decide +kernel)⟩
theorem dw_1326 : lw_in (Cond.methodLink RX11 431 yX11_partiesIn) := ⟨lw_t (tm_8 (List.mem_of_getElem? (i := 152) rfl)), good_of_word (by decide +kernel)⟩
set_option maxRecDepth 100000 in
theorem dw_1327 : lw_in (Cond.code yX11_partiesIn cX11_partiesIn 4 (some .int)) := ⟨lw_t (tm_8 (List.mem_of_getElem? (i := 155) rfl)), good_of_word (by decide +kernel)⟩
set_option maxRecDepth 100000 in
theorem dw_1328 : lw_in (Cond.code yX11_sumNow cX11_sumNow 5 (some .int)) := ⟨lw_t (tm_8 (List.mem_of_getElem? (i := 159) rfl)), good_of_word (by decide +kernel)⟩
theorem dw_1329 : lw_in (Cond.selects RX11 yX11_count yX11_count) := ⟨lw_t (tm_8 (List.mem_of_getElem? (i := 150) rfl)), good_of_word (by decide +kernel)⟩
theorem dw_1330 : lw_in (Cond.instanceMethod yX11_count) := ⟨lw_t (tm_8 (List.mem_of_getElem? (i := 149) rfl)), good_of_word (by decide +kernel)⟩
theorem dw_1331 : lw_in (Cond.methodLink R_law 209 yX11_count) := ⟨lw_t (tm_8 (List.mem_of_getElem? (i := 148) rfl)), good_of_word (by decide +kernel)⟩
set_option maxRecDepth 100000 in
theorem dw_1332 : lw_in (Cond.code yX10_init cX10_init 1 none) := ⟨lw_t (tm_1 (List.mem_of_getElem? (i := 26) rfl)), good_of_word (by decide +kernel)⟩
theorem dw_1333 : lw_in (Cond.instanceMethod yX8_init) := ⟨lw_t (tm_2 (List.mem_of_getElem? (i := 163) rfl)), good_of_word (by decide +kernel)⟩
theorem dw_1334 : lw_in (Cond.instanceMethod yX2_init) := ⟨lw_t (tm_2 (List.mem_of_getElem? (i := 138) rfl)), good_of_word (by decide +kernel)⟩
theorem dw_1335 : lw_in (Cond.instanceMethod yX0_init) := ⟨lw_t (tm_2 (List.mem_of_getElem? (i := 125) rfl)), good_of_word (by decide +kernel)⟩
theorem dw_1336 : lw_in (Cond.instanceMethod yX3_init) := ⟨lw_t (tm_2 (List.mem_of_getElem? (i := 98) rfl)), good_of_word (by decide +kernel)⟩
theorem dw_1337 : lw_in (Cond.instanceMethod yX4_init) := ⟨lw_t (tm_1 (List.mem_of_getElem? (i := 171) rfl)), good_of_word (by decide +kernel)⟩
theorem dw_1338 : lw_in (Cond.instanceMethod yX7_init) := ⟨lw_t (tm_1 (List.mem_of_getElem? (i := 33) rfl)), good_of_word (by decide +kernel)⟩
theorem dw_1339 : lw_in (Cond.instantiable RX8 8) := ⟨lw_t (tm_2 (List.mem_of_getElem? (i := 161) rfl)), good_of_word (by decide +kernel)⟩
theorem dw_1340 : lw_in (Cond.classLink RX10 67 RX8) := ⟨lw_t (tm_2 (List.mem_of_getElem? (i := 160) rfl)), good_of_word (by decide +kernel)⟩
theorem dw_1341 : lw_in (Cond.instantiable RX2 6) := ⟨lw_t (tm_2 (List.mem_of_getElem? (i := 136) rfl)), good_of_word (by decide +kernel)⟩
theorem dw_1342 : lw_in (Cond.classLink RX10 58 RX2) := ⟨lw_t (tm_2 (List.mem_of_getElem? (i := 135) rfl)), good_of_word (by decide +kernel)⟩
theorem dw_1343 : lw_in (Cond.instantiable RX0 2) := ⟨lw_t (tm_2 (List.mem_of_getElem? (i := 123) rfl)), good_of_word (by decide +kernel)⟩
theorem dw_1344 : lw_in (Cond.classLink RX10 49 RX0) := ⟨lw_t (tm_2 (List.mem_of_getElem? (i := 122) rfl)), good_of_word (by decide +kernel)⟩
theorem dw_1345 : lw_in (Cond.instantiable RX3 5) := ⟨lw_t (tm_2 (List.mem_of_getElem? (i := 96) rfl)), good_of_word (by decide +kernel)⟩
theorem dw_1346 : lw_in (Cond.classLink RX10 42 RX3) := ⟨lw_t (tm_2 (List.mem_of_getElem? (i := 95) rfl)), good_of_word (by decide +kernel)⟩
theorem dw_1347 : lw_in (Cond.classLink RX10 32 RX6) := ⟨lw_t (tm_2 (List.mem_of_getElem? (i := 50) rfl)), good_of_word (by decide +kernel)⟩
theorem dw_1348 : lw_in (Cond.instantiable RX4 8) := ⟨lw_t (tm_1 (List.mem_of_getElem? (i := 169) rfl)), good_of_word (by decide +kernel)⟩
theorem dw_1349 : lw_in (Cond.classLink RX10 23 RX4) := ⟨lw_t (tm_1 (List.mem_of_getElem? (i := 168) rfl)), good_of_word (by decide +kernel)⟩
theorem dw_1350 : lw_in (Cond.classLink RX10 16 RX5) := ⟨lw_t (tm_1 (List.mem_of_getElem? (i := 46) rfl)), good_of_word (by decide +kernel)⟩
theorem dw_1351 : lw_in (Cond.instantiable RX7 2) := ⟨lw_t (tm_1 (List.mem_of_getElem? (i := 31) rfl)), good_of_word (by decide +kernel)⟩
theorem dw_1352 : lw_in (Cond.classLink RX10 7 RX7) := ⟨lw_t (tm_1 (List.mem_of_getElem? (i := 30) rfl)), good_of_word (by decide +kernel)⟩
theorem dw_1353 : lw_in (Cond.methodLink RX10 1 objectInit) := ⟨lw_t (tm_1 (List.mem_of_getElem? (i := 27) rfl)), good_of_word (by decide +kernel)⟩
set_option maxRecDepth 100000 in
theorem dw_1354 : lw_in (Cond.code yX7_init cX7_init 1 none) := ⟨lw_t (tm_1 (List.mem_of_getElem? (i := 34) rfl)), good_of_word (by decide +kernel)⟩
theorem dw_1355 : lw_in (Cond.arrayClass .byte) := ⟨lw_t (tm_1 (List.mem_of_getElem? (i := 45) rfl)), good_of_word (by decide +kernel)⟩
set_option maxRecDepth 100000 in
theorem dw_1356 : lw_in (Cond.code objectInit ⟨#[0xb1]⟩ 1 none) := ⟨lw_t (tm_1 (List.mem_of_getElem? (i := 29) rfl)), good_of_word (by decide +kernel)⟩
theorem dw_1357 : lw_in (Cond.instanceMethod objectInit) := ⟨lw_t (tm_1 (List.mem_of_getElem? (i := 28) rfl)), good_of_word (by decide +kernel)⟩
theorem dw_1358 : lw_in (Cond.methodLink RX7 3 objectInit) := ⟨lw_t (tm_1 (List.mem_of_getElem? (i := 35) rfl)), good_of_word (by decide +kernel)⟩
set_option maxRecDepth 100000 in
theorem dw_1359 : lw_in (Cond.code yX5_init cX5_init 1 none) := ⟨lw_t (tm_1 (List.mem_of_getElem? (i := 50) rfl)), good_of_word (by decide +kernel)⟩
theorem dw_1360 : lw_in (Cond.methodLink RX5 34 yX5_clear) := ⟨lw_t (tm_1 (List.mem_of_getElem? (i := 88) rfl)), good_of_word (by decide +kernel)⟩
theorem dw_1361 : lw_in (Cond.instanceMethod yX1_init) := ⟨lw_t (tm_1 (List.mem_of_getElem? (i := 55) rfl)), good_of_word (by decide +kernel)⟩
theorem dw_1362 : lw_in (Cond.instantiable RX1 9) := ⟨lw_t (tm_1 (List.mem_of_getElem? (i := 53) rfl)), good_of_word (by decide +kernel)⟩
theorem dw_1363 : lw_in (Cond.classLink RX5 27 RX1) := ⟨lw_t (tm_1 (List.mem_of_getElem? (i := 52) rfl)), good_of_word (by decide +kernel)⟩
theorem dw_1364 : lw_in (Cond.methodLink RX5 3 objectInit) := ⟨lw_t (tm_1 (List.mem_of_getElem? (i := 51) rfl)), good_of_word (by decide +kernel)⟩
set_option maxRecDepth 100000 in
theorem dw_1365 : lw_in (Cond.code yX1_init cX1_init 1 none) := ⟨lw_t (tm_1 (List.mem_of_getElem? (i := 56) rfl)), good_of_word (by decide +kernel)⟩
theorem dw_1366 : lw_in (Cond.arrayClass .int) := ⟨lw_t (tm_1 (List.mem_of_getElem? (i := 87) rfl)), good_of_word (by decide +kernel)⟩
theorem dw_1367 : lw_in (Cond.methodLink RX1 9 objectInit) := ⟨lw_t (tm_1 (List.mem_of_getElem? (i := 57) rfl)), good_of_word (by decide +kernel)⟩
set_option maxRecDepth 100000 in
theorem dw_1368 : lw_in (Cond.code yX4_init cX4_init 2 none) := ⟨lw_t (tm_1 (List.mem_of_getElem? (i := 172) rfl)), good_of_word (by decide +kernel)⟩
theorem dw_1369 : lw_in (Cond.instanceMethod yX9_init) := ⟨lw_t (tm_1 (List.mem_of_getElem? (i := 179) rfl)), good_of_word (by decide +kernel)⟩
theorem dw_1370 : lw_in (Cond.instanceMethod yX5_init) := ⟨lw_t (tm_1 (List.mem_of_getElem? (i := 49) rfl)), good_of_word (by decide +kernel)⟩
theorem dw_1371 : lw_in (Cond.instantiable RX9 7) := ⟨lw_t (tm_1 (List.mem_of_getElem? (i := 177) rfl)), good_of_word (by decide +kernel)⟩
theorem dw_1372 : lw_in (Cond.classLink RX4 26 RX9) := ⟨lw_t (tm_1 (List.mem_of_getElem? (i := 176) rfl)), good_of_word (by decide +kernel)⟩
theorem dw_1373 : lw_in (Cond.instantiable RX5 10) := ⟨lw_t (tm_1 (List.mem_of_getElem? (i := 47) rfl)), good_of_word (by decide +kernel)⟩
theorem dw_1374 : lw_in (Cond.classLink RX4 9 RX5) := ⟨lw_t (tm_1 (List.mem_of_getElem? (i := 174) rfl)), good_of_word (by decide +kernel)⟩
theorem dw_1375 : lw_in (Cond.methodLink RX4 3 objectInit) := ⟨lw_t (tm_1 (List.mem_of_getElem? (i := 173) rfl)), good_of_word (by decide +kernel)⟩
set_option maxRecDepth 100000 in
theorem dw_1376 : lw_in (Cond.code yX9_init cX9_init 7 none) := ⟨lw_t (tm_1 (List.mem_of_getElem? (i := 180) rfl)), good_of_word (by decide +kernel)⟩
theorem dw_1377 : lw_in (Cond.selects RJ0 yJ0_charAt_5068e yJ0_charAt_5068e) := ⟨lw_t (tm_1 (List.mem_of_getElem? (i := 195) rfl)), good_of_word (by decide +kernel)⟩
theorem dw_1378 : lw_in (Cond.instanceMethod yJ0_charAt_5068e) := ⟨lw_t (tm_1 (List.mem_of_getElem? (i := 194) rfl)), good_of_word (by decide +kernel)⟩
theorem dw_1379 : lw_in (Cond.methodLink RX9 35 yJ0_charAt_5068e) := ⟨lw_t (tm_1 (List.mem_of_getElem? (i := 193) rfl)), good_of_word (by decide +kernel)⟩
theorem dw_1380 : lw_in (Cond.methodLink RX9 29 yJ0_length_8abf5) := ⟨lw_t (tm_1 (List.mem_of_getElem? (i := 183) rfl)), good_of_word (by decide +kernel)⟩
theorem dw_1381 : lw_in (Cond.arrayClass .long) := ⟨lw_t (tm_2 (List.mem_of_getElem? (i := 22) rfl)), good_of_word (by decide +kernel)⟩
theorem dw_1382 : lw_in (Cond.methodLink RX9 3 objectInit) := ⟨lw_t (tm_1 (List.mem_of_getElem? (i := 181) rfl)), good_of_word (by decide +kernel)⟩
set_option maxRecDepth 100000 in
theorem dw_1383 : lw_in (Cond.code yJ0_charAt_5068e cJ0_charAt_5068e 2 (some .char)) := ⟨lw_t (tm_1 (List.mem_of_getElem? (i := 196) rfl)), good_of_word (by decide +kernel)⟩
theorem dw_1384 : lw_in (Cond.static yJ2_charAt_3b067) := ⟨lw_t (tm_1 (List.mem_of_getElem? (i := 213) rfl)), good_of_word (by decide +kernel)⟩
theorem dw_1385 : lw_in (Cond.methodLink RJ0 498 yJ2_charAt_3b067) := ⟨lw_t (tm_1 (List.mem_of_getElem? (i := 212) rfl)), good_of_word (by decide +kernel)⟩
theorem dw_1386 : lw_in (Cond.static yJ1_charAt_3b067) := ⟨lw_t (tm_1 (List.mem_of_getElem? (i := 202) rfl)), good_of_word (by decide +kernel)⟩
theorem dw_1387 : lw_in (Cond.methodLink RJ0 495 yJ1_charAt_3b067) := ⟨lw_t (tm_1 (List.mem_of_getElem? (i := 201) rfl)), good_of_word (by decide +kernel)⟩
set_option maxRecDepth 100000 in
theorem dw_1388 : lw_in (Cond.code yJ1_charAt_3b067 cJ1_charAt_3b067 2 (some .char)) := ⟨lw_t (tm_1 (List.mem_of_getElem? (i := 203) rfl)), good_of_word (by decide +kernel)⟩
theorem dw_1389 : lw_in (Cond.static yJ0_checkIndex_df160) := ⟨lw_t (tm_1 (List.mem_of_getElem? (i := 205) rfl)), good_of_word (by decide +kernel)⟩
theorem dw_1390 : lw_in (Cond.methodLink RJ1 9 yJ0_checkIndex_df160) := ⟨lw_t (tm_1 (List.mem_of_getElem? (i := 204) rfl)), good_of_word (by decide +kernel)⟩
set_option maxRecDepth 100000 in
theorem dw_1391 : lw_in (Cond.code yJ0_checkIndex_df160 cJ0_checkIndex_df160 2 none) := ⟨lw_t (tm_1 (List.mem_of_getElem? (i := 206) rfl)), good_of_word (by decide +kernel)⟩
theorem dw_1392 : lw_in (Cond.static yJ3_checkIndex_8e157) := ⟨lw_t (tm_1 (List.mem_of_getElem? (i := 210) rfl)), good_of_word (by decide +kernel)⟩
theorem dw_1393 : lw_in (Cond.methodLink RJ0 1059 yJ3_checkIndex_8e157) := ⟨lw_t (tm_1 (List.mem_of_getElem? (i := 209) rfl)), good_of_word (by decide +kernel)⟩
set_option maxRecDepth 100000 in
theorem dw_1394 : lw_in (Cond.code yJ3_checkIndex_8e157 cJ3_checkIndex_8e157 3 (some .int)) := ⟨lw_t (tm_1 (List.mem_of_getElem? (i := 211) rfl)), good_of_word (by decide +kernel)⟩
set_option maxRecDepth 100000 in
theorem dw_1395 : lw_in (Cond.code yJ2_charAt_3b067 cJ2_charAt_3b067 2 (some .char)) := ⟨lw_t (tm_1 (List.mem_of_getElem? (i := 214) rfl)), good_of_word (by decide +kernel)⟩
theorem dw_1396 : lw_in (Cond.static yJ2_checkIndex_2214a) := ⟨lw_t (tm_1 (List.mem_of_getElem? (i := 216) rfl)), good_of_word (by decide +kernel)⟩
theorem dw_1397 : lw_in (Cond.methodLink RJ2 67 yJ2_checkIndex_2214a) := ⟨lw_t (tm_1 (List.mem_of_getElem? (i := 215) rfl)), good_of_word (by decide +kernel)⟩
set_option maxRecDepth 100000 in
theorem dw_1398 : lw_in (Cond.code yJ2_checkIndex_2214a cJ2_checkIndex_2214a 2 none) := ⟨lw_t (tm_1 (List.mem_of_getElem? (i := 217) rfl)), good_of_word (by decide +kernel)⟩
theorem dw_1399 : lw_in (Cond.methodLink RJ2 414 yJ0_checkIndex_df160) := ⟨lw_t (tm_1 (List.mem_of_getElem? (i := 221) rfl)), good_of_word (by decide +kernel)⟩
set_option maxRecDepth 100000 in
theorem dw_1400 : lw_in (Cond.code yX6_init cX6_init 1 none) := ⟨lw_t (tm_2 (List.mem_of_getElem? (i := 54) rfl)), good_of_word (by decide +kernel)⟩
theorem dw_1401 : lw_in (Cond.methodLink RX6 3 objectInit) := ⟨lw_t (tm_2 (List.mem_of_getElem? (i := 55) rfl)), good_of_word (by decide +kernel)⟩
set_option maxRecDepth 100000 in
theorem dw_1402 : lw_in (Cond.code yX3_init cX3_init 2 none) := ⟨lw_t (tm_2 (List.mem_of_getElem? (i := 99) rfl)), good_of_word (by decide +kernel)⟩
theorem dw_1403 : lw_in (Cond.instanceMethod yX6_init) := ⟨lw_t (tm_2 (List.mem_of_getElem? (i := 53) rfl)), good_of_word (by decide +kernel)⟩
theorem dw_1404 : lw_in (Cond.instantiable RX6 7) := ⟨lw_t (tm_2 (List.mem_of_getElem? (i := 51) rfl)), good_of_word (by decide +kernel)⟩
theorem dw_1405 : lw_in (Cond.arrayClass .boolean) := ⟨lw_t (tm_2 (List.mem_of_getElem? (i := 121) rfl)), good_of_word (by decide +kernel)⟩
theorem dw_1406 : lw_in (Cond.classLink RX3 9 RX6) := ⟨lw_t (tm_2 (List.mem_of_getElem? (i := 101) rfl)), good_of_word (by decide +kernel)⟩
theorem dw_1407 : lw_in (Cond.methodLink RX3 3 objectInit) := ⟨lw_t (tm_2 (List.mem_of_getElem? (i := 100) rfl)), good_of_word (by decide +kernel)⟩
set_option maxRecDepth 100000 in
theorem dw_1408 : lw_in (Cond.code yX0_init cX0_init 2 none) := ⟨lw_t (tm_2 (List.mem_of_getElem? (i := 126) rfl)), good_of_word (by decide +kernel)⟩
theorem dw_1409 : lw_in (Cond.methodLink RX0 3 objectInit) := ⟨lw_t (tm_2 (List.mem_of_getElem? (i := 127) rfl)), good_of_word (by decide +kernel)⟩
set_option maxRecDepth 100000 in
theorem dw_1410 : lw_in (Cond.code yX2_init cX2_init 3 none) := ⟨lw_t (tm_2 (List.mem_of_getElem? (i := 139) rfl)), good_of_word (by decide +kernel)⟩
theorem dw_1411 : lw_in (Cond.methodLink RX2 3 objectInit) := ⟨lw_t (tm_2 (List.mem_of_getElem? (i := 140) rfl)), good_of_word (by decide +kernel)⟩
set_option maxRecDepth 100000 in
theorem dw_1412 : lw_in (Cond.code yX8_init cX8_init 3 none) := ⟨lw_t (tm_2 (List.mem_of_getElem? (i := 164) rfl)), good_of_word (by decide +kernel)⟩
theorem dw_1413 : lw_in (Cond.methodLink RX8 3 objectInit) := ⟨lw_t (tm_2 (List.mem_of_getElem? (i := 165) rfl)), good_of_word (by decide +kernel)⟩
set_option maxRecDepth 100000 in
theorem dw_1414 : lw_in (Cond.code yX11_init cX11_init 1 none) := ⟨lw_t (tm_5 (List.mem_of_getElem? (i := 215) rfl)), good_of_word (by decide +kernel)⟩
theorem dw_1415 : lw_in (Cond.static yX11_word) := ⟨lw_t (tm_5 (List.mem_of_getElem? (i := 222) rfl)), good_of_word (by decide +kernel)⟩
theorem dw_1416 : lw_in (Cond.methodLink RX11 138 yX11_word) := ⟨lw_t (tm_5 (List.mem_of_getElem? (i := 221) rfl)), good_of_word (by decide +kernel)⟩
theorem dw_1417 : lw_in (Cond.methodLink RX11 7 objectInit) := ⟨lw_t (tm_5 (List.mem_of_getElem? (i := 216) rfl)), good_of_word (by decide +kernel)⟩
set_option maxRecDepth 100000 in
theorem dw_1418 : lw_in (Cond.code yX11_word cX11_word 7 (some .long)) := ⟨lw_t (tm_5 (List.mem_of_getElem? (i := 223) rfl)), good_of_word (by decide +kernel)⟩
end
