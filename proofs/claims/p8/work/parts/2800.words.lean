/-- a word that the tables have and that may be handed on -/
def lw_in (w : Cond) : Prop := w ∈ lw_tbl ∧ ((w.onTables && w.keeps) = true ∨ ∃ ty, w = .arrayClass ty)
theorem lw_t {w : Cond} (h : w ∈ tables_1) : w ∈ lw_tbl := List.mem_append_right _ h
theorem gi_nil {big : List Cond} : GoodIn big [] := fun _ h => absurd h List.not_mem_nil
theorem gi_cons {w : Cond} {l : List Cond} (h : lw_in w) (hl : GoodIn lw_tbl l) : GoodIn lw_tbl (w :: l) := fun z hz => (List.mem_cons.mp hz).elim (fun e => by subst e; exact h) (hl z)
set_option maxRecDepth 100000 in
theorem dw_0 : lw_in (Cond.code yX10_feed cX10_feed 6 (some .int)) := ⟨lw_t (tm_2 (List.mem_of_getElem? (i := 230) rfl)), good_of_word (by decide +kernel)⟩
theorem dw_1 : lw_in (Cond.selects RX7 yX7_addFour yX7_addFour) := ⟨List.mem_of_getElem? (i := 9) rfl, good_of_word (by decide +kernel)⟩
theorem dw_2 : lw_in (Cond.instanceMethod yX7_addFour) := ⟨lw_t (tm_2 (List.mem_of_getElem? (i := 237) rfl)), good_of_word (by decide +kernel)⟩
theorem dw_3 : lw_in (Cond.selects RX7 yX7_hasRoomFor yX7_hasRoomFor) := ⟨List.mem_of_getElem? (i := 8) rfl, good_of_word (by decide +kernel)⟩
theorem dw_4 : lw_in (Cond.initialized RX7) := ⟨lw_t (tm_1 (List.mem_of_getElem? (i := 2) rfl)), good_of_word (by decide +kernel)⟩
theorem dw_5 : lw_in (Cond.instanceMethod yX7_hasRoomFor) := ⟨lw_t (tm_2 (List.mem_of_getElem? (i := 233) rfl)), good_of_word (by decide +kernel)⟩
theorem dw_6 : lw_in (Cond.fieldLink RX10 10 "GuessFerry" "tape" "LGuessFerry$Tape;") := ⟨lw_t (tm_2 (List.mem_of_getElem? (i := 199) rfl)), good_of_word (by decide +kernel)⟩
set_option maxRecDepth 100000 in
theorem dw_7 : lw_in (Cond.code yX7_hasRoomFor cX7_hasRoomFor 2 (some .boolean)) := ⟨lw_t (tm_2 (List.mem_of_getElem? (i := 234) rfl)), good_of_word (by decide +kernel)⟩
theorem dw_8 : lw_in (Cond.fieldLink RX7 15 "GuessFerry$Tape" "length" "I") := ⟨lw_t (tm_1 (List.mem_of_getElem? (i := 37) rfl)), good_of_word (by decide +kernel)⟩
theorem dw_9 : lw_in (Cond.fieldLink RX7 9 "GuessFerry$Tape" "bytes" "[B") := ⟨lw_t (tm_1 (List.mem_of_getElem? (i := 36) rfl)), good_of_word (by decide +kernel)⟩
set_option maxRecDepth 100000 in
theorem dw_10 : lw_in (Cond.code yX7_addFour cX7_addFour 3 none) := ⟨lw_t (tm_2 (List.mem_of_getElem? (i := 238) rfl)), good_of_word (by decide +kernel)⟩
theorem dw_11 : lw_in (Cond.initialized RX10) := ⟨lw_t (tm_1 (List.mem_of_getElem? (i := 1) rfl)), good_of_word (by decide +kernel)⟩
theorem dw_12 : lw_in (Cond.selects RX10 yX10_feed yX10_feed) := ⟨lw_t (tm_2 (List.mem_of_getElem? (i := 229) rfl)), good_of_word (by decide +kernel)⟩
theorem dw_13 : lw_in (Cond.instanceMethod yX10_feed) := ⟨lw_t (tm_2 (List.mem_of_getElem? (i := 228) rfl)), good_of_word (by decide +kernel)⟩
theorem dw_14 : lw_in (Cond.methodLink R_law 13 yX10_feed) := ⟨lw_t (tm_2 (List.mem_of_getElem? (i := 227) rfl)), good_of_word (by decide +kernel)⟩
set_option maxRecDepth 100000 in
theorem dw_15 : lw_in (Cond.code yX11_feed cX11_feed 6 (some .int)) := ⟨lw_t (tm_6 (List.mem_of_getElem? (i := 173) rfl)), good_of_word (by decide +kernel)⟩
theorem dw_16 : lw_in (Cond.initialized RX11) := ⟨lw_t (tm_1 (List.mem_of_getElem? (i := 17) rfl)), good_of_word (by decide +kernel)⟩
theorem dw_17 : lw_in (Cond.selects RX11 yX11_put yX11_put) := ⟨List.mem_of_getElem? (i := 104) rfl, good_of_word (by decide +kernel)⟩
theorem dw_18 : lw_in (Cond.instanceMethod yX11_put) := ⟨lw_t (tm_6 (List.mem_of_getElem? (i := 176) rfl)), good_of_word (by decide +kernel)⟩
theorem dw_19 : lw_in (Cond.methodLink RX11 151 yX11_put) := ⟨lw_t (tm_6 (List.mem_of_getElem? (i := 174) rfl)), good_of_word (by decide +kernel)⟩
theorem dw_20 : lw_in (Cond.fieldLink RX11 148 "GuessFerryModel" "taped" "I") := ⟨lw_t (tm_5 (List.mem_of_getElem? (i := 237) rfl)), good_of_word (by decide +kernel)⟩
set_option maxRecDepth 100000 in
theorem dw_21 : lw_in (Cond.code yX11_put cX11_put 3 none) := ⟨lw_t (tm_6 (List.mem_of_getElem? (i := 177) rfl)), good_of_word (by decide +kernel)⟩
theorem dw_22 : lw_in (Cond.fieldLink RX11 13 "GuessFerryModel" "tape" "[B") := ⟨lw_t (tm_5 (List.mem_of_getElem? (i := 236) rfl)), good_of_word (by decide +kernel)⟩
theorem dw_23 : lw_in (Cond.selects RX11 yX11_feed yX11_feed) := ⟨lw_t (tm_6 (List.mem_of_getElem? (i := 172) rfl)), good_of_word (by decide +kernel)⟩
theorem dw_24 : lw_in (Cond.instanceMethod yX11_feed) := ⟨lw_t (tm_6 (List.mem_of_getElem? (i := 171) rfl)), good_of_word (by decide +kernel)⟩
theorem dw_25 : lw_in (Cond.methodLink R_law 17 yX11_feed) := ⟨lw_t (tm_6 (List.mem_of_getElem? (i := 170) rfl)), good_of_word (by decide +kernel)⟩
set_option maxRecDepth 100000 in
theorem dw_26 : lw_in (Cond.code yX10_back cX10_back 2 (some .int)) := ⟨lw_t (tm_3 (List.mem_of_getElem? (i := 2) rfl)), good_of_word (by decide +kernel)⟩
theorem dw_27 : lw_in (Cond.selects RX10 yX10_back yX10_back) := ⟨lw_t (tm_3 (List.mem_of_getElem? (i := 1) rfl)), good_of_word (by decide +kernel)⟩
theorem dw_28 : lw_in (Cond.instanceMethod yX10_back) := ⟨lw_t (tm_3 (List.mem_of_getElem? (i := 0) rfl)), good_of_word (by decide +kernel)⟩
theorem dw_29 : lw_in (Cond.methodLink R_law 18 yX10_back) := ⟨lw_t (tm_2 (List.mem_of_getElem? (i := 239) rfl)), good_of_word (by decide +kernel)⟩
set_option maxRecDepth 100000 in
theorem dw_30 : lw_in (Cond.code yX11_back cX11_back 2 (some .int)) := ⟨lw_t (tm_6 (List.mem_of_getElem? (i := 181) rfl)), good_of_word (by decide +kernel)⟩
theorem dw_31 : lw_in (Cond.selects RX11 yX11_back yX11_back) := ⟨lw_t (tm_6 (List.mem_of_getElem? (i := 180) rfl)), good_of_word (by decide +kernel)⟩
theorem dw_32 : lw_in (Cond.instanceMethod yX11_back) := ⟨lw_t (tm_6 (List.mem_of_getElem? (i := 179) rfl)), good_of_word (by decide +kernel)⟩
theorem dw_33 : lw_in (Cond.methodLink R_law 22 yX11_back) := ⟨lw_t (tm_6 (List.mem_of_getElem? (i := 178) rfl)), good_of_word (by decide +kernel)⟩
set_option maxRecDepth 100000 in
theorem dw_34 : lw_in (Cond.code yX10_read cX10_read 2 (some .int)) := ⟨lw_t (tm_3 (List.mem_of_getElem? (i := 6) rfl)), good_of_word (by decide +kernel)⟩
theorem dw_35 : lw_in (Cond.selects RX3 yX3_forgetAll yX3_forgetAll) := ⟨List.mem_of_getElem? (i := 36) rfl, good_of_word (by decide +kernel)⟩
theorem dw_36 : lw_in (Cond.initialized RX3) := ⟨lw_t (tm_1 (List.mem_of_getElem? (i := 12) rfl)), good_of_word (by decide +kernel)⟩
theorem dw_37 : lw_in (Cond.instanceMethod yX3_forgetAll) := ⟨lw_t (tm_3 (List.mem_of_getElem? (i := 190) rfl)), good_of_word (by decide +kernel)⟩
theorem dw_38 : lw_in (Cond.selects RX6 yX6_startOver yX6_startOver) := ⟨List.mem_of_getElem? (i := 7) rfl, good_of_word (by decide +kernel)⟩
theorem dw_39 : lw_in (Cond.initialized RX6) := ⟨lw_t (tm_1 (List.mem_of_getElem? (i := 11) rfl)), good_of_word (by decide +kernel)⟩
theorem dw_40 : lw_in (Cond.instanceMethod yX6_startOver) := ⟨lw_t (tm_2 (List.mem_of_getElem? (i := 194) rfl)), good_of_word (by decide +kernel)⟩
theorem dw_41 : lw_in (Cond.selects RX5 yX5_copyFrom yX5_copyFrom) := ⟨List.mem_of_getElem? (i := 34) rfl, good_of_word (by decide +kernel)⟩
theorem dw_42 : lw_in (Cond.instanceMethod yX5_copyFrom) := ⟨lw_t (tm_3 (List.mem_of_getElem? (i := 178) rfl)), good_of_word (by decide +kernel)⟩
theorem dw_43 : lw_in (Cond.initialized RX5) := ⟨lw_t (tm_1 (List.mem_of_getElem? (i := 3) rfl)), good_of_word (by decide +kernel)⟩
theorem dw_44 : lw_in (Cond.selects RX4 yX4_readTape yX4_readTape) := ⟨List.mem_of_getElem? (i := 10) rfl, good_of_word (by decide +kernel)⟩
theorem dw_45 : lw_in (Cond.initialized RX4) := ⟨lw_t (tm_1 (List.mem_of_getElem? (i := 5) rfl)), good_of_word (by decide +kernel)⟩
theorem dw_46 : lw_in (Cond.instanceMethod yX4_readTape) := ⟨lw_t (tm_3 (List.mem_of_getElem? (i := 9) rfl)), good_of_word (by decide +kernel)⟩
theorem dw_47 : lw_in (Cond.fieldLink RX10 70 "GuessFerry" "tellers" "LGuessFerry$Tellers;") := ⟨lw_t (tm_2 (List.mem_of_getElem? (i := 207) rfl)), good_of_word (by decide +kernel)⟩
theorem dw_48 : lw_in (Cond.fieldLink RX10 45 "GuessFerry" "past" "LGuessFerry$Past;") := ⟨lw_t (tm_2 (List.mem_of_getElem? (i := 204) rfl)), good_of_word (by decide +kernel)⟩
theorem dw_49 : lw_in (Cond.fieldLink RX10 35 "GuessFerry" "now" "LGuessFerry$Standing;") := ⟨lw_t (tm_2 (List.mem_of_getElem? (i := 202) rfl)), good_of_word (by decide +kernel)⟩
theorem dw_50 : lw_in (Cond.fieldLink RX10 19 "GuessFerry" "sound" "LGuessFerry$Sound;") := ⟨lw_t (tm_2 (List.mem_of_getElem? (i := 200) rfl)), good_of_word (by decide +kernel)⟩
theorem dw_51 : lw_in (Cond.fieldLink RX10 28 "GuessFerry" "reader" "LGuessFerry$Reader;") := ⟨lw_t (tm_2 (List.mem_of_getElem? (i := 201) rfl)), good_of_word (by decide +kernel)⟩
set_option maxRecDepth 100000 in
theorem dw_52 : lw_in (Cond.code yX4_readTape cX4_readTape 2 (some .int)) := ⟨lw_t (tm_3 (List.mem_of_getElem? (i := 10) rfl)), good_of_word (by decide +kernel)⟩
theorem dw_53 : lw_in (Cond.selects RX5 yX5_addUp yX5_addUp) := ⟨List.mem_of_getElem? (i := 32) rfl, good_of_word (by decide +kernel)⟩
theorem dw_54 : lw_in (Cond.instanceMethod yX5_addUp) := ⟨lw_t (tm_3 (List.mem_of_getElem? (i := 170) rfl)), good_of_word (by decide +kernel)⟩
theorem dw_55 : lw_in (Cond.selects RX4 yX4_readTell yX4_readTell) := ⟨List.mem_of_getElem? (i := 18) rfl, good_of_word (by decide +kernel)⟩
theorem dw_56 : lw_in (Cond.instanceMethod yX4_readTell) := ⟨lw_t (tm_3 (List.mem_of_getElem? (i := 110) rfl)), good_of_word (by decide +kernel)⟩
theorem dw_57 : lw_in (Cond.methodLink RX4 57 yX4_readTell) := ⟨lw_t (tm_3 (List.mem_of_getElem? (i := 108) rfl)), good_of_word (by decide +kernel)⟩
theorem dw_58 : lw_in (Cond.selects RX4 yX4_isAt yX4_isAt) := ⟨List.mem_of_getElem? (i := 17) rfl, good_of_word (by decide +kernel)⟩
theorem dw_59 : lw_in (Cond.instanceMethod yX4_isAt) := ⟨lw_t (tm_3 (List.mem_of_getElem? (i := 106) rfl)), good_of_word (by decide +kernel)⟩
theorem dw_60 : lw_in (Cond.methodLink RX4 53 yX4_isAt) := ⟨lw_t (tm_3 (List.mem_of_getElem? (i := 104) rfl)), good_of_word (by decide +kernel)⟩
theorem dw_61 : lw_in (Cond.selects RX9 yX9_split yX9_split) := ⟨List.mem_of_getElem? (i := 11) rfl, good_of_word (by decide +kernel)⟩
theorem dw_62 : lw_in (Cond.initialized RX9) := ⟨lw_t (tm_1 (List.mem_of_getElem? (i := 6) rfl)), good_of_word (by decide +kernel)⟩
theorem dw_63 : lw_in (Cond.instanceMethod yX9_split) := ⟨lw_t (tm_3 (List.mem_of_getElem? (i := 14) rfl)), good_of_word (by decide +kernel)⟩
theorem dw_64 : lw_in (Cond.selects RX5 yX5_clear yX5_clear) := ⟨List.mem_of_getElem? (i := 0) rfl, good_of_word (by decide +kernel)⟩
theorem dw_65 : lw_in (Cond.instanceMethod yX5_clear) := ⟨lw_t (tm_1 (List.mem_of_getElem? (i := 90) rfl)), good_of_word (by decide +kernel)⟩
theorem dw_66 : lw_in (Cond.fieldLink RX4 31 "GuessFerry$Reader" "tokens" "LGuessFerry$Tokens;") := ⟨lw_t (tm_2 (List.mem_of_getElem? (i := 23) rfl)), good_of_word (by decide +kernel)⟩
theorem dw_67 : lw_in (Cond.fieldLink RX4 47 "GuessFerry$Reader" "laterPlace" "I") := ⟨lw_t (tm_2 (List.mem_of_getElem? (i := 32) rfl)), good_of_word (by decide +kernel)⟩
theorem dw_68 : lw_in (Cond.fieldLink RX4 44 "GuessFerry$Reader" "laterFault" "I") := ⟨lw_t (tm_2 (List.mem_of_getElem? (i := 31) rfl)), good_of_word (by decide +kernel)⟩
theorem dw_69 : lw_in (Cond.fieldLink RX4 22 "GuessFerry$Reader" "faultPlace" "I") := ⟨lw_t (tm_2 (List.mem_of_getElem? (i := 29) rfl)), good_of_word (by decide +kernel)⟩
theorem dw_70 : lw_in (Cond.fieldLink RX4 41 "GuessFerry$Reader" "fault" "I") := ⟨lw_t (tm_2 (List.mem_of_getElem? (i := 28) rfl)), good_of_word (by decide +kernel)⟩
theorem dw_71 : lw_in (Cond.fieldLink RX4 38 "GuessFerry$Reader" "at" "I") := ⟨lw_t (tm_2 (List.mem_of_getElem? (i := 27) rfl)), good_of_word (by decide +kernel)⟩
theorem dw_72 : lw_in (Cond.fieldLink RX4 12 "GuessFerry$Reader" "draft" "LGuessFerry$Sound;") := ⟨lw_t (tm_2 (List.mem_of_getElem? (i := 24) rfl)), good_of_word (by decide +kernel)⟩
set_option maxRecDepth 100000 in
theorem dw_73 : lw_in (Cond.code yX5_clear cX5_clear 1 none) := ⟨lw_t (tm_1 (List.mem_of_getElem? (i := 91) rfl)), good_of_word (by decide +kernel)⟩
theorem dw_74 : lw_in (Cond.selects RX1 yX1_clear yX1_clear) := ⟨List.mem_of_getElem? (i := 1) rfl, good_of_word (by decide +kernel)⟩
theorem dw_75 : lw_in (Cond.initialized RX1) := ⟨lw_t (tm_1 (List.mem_of_getElem? (i := 4) rfl)), good_of_word (by decide +kernel)⟩
theorem dw_76 : lw_in (Cond.instanceMethod yX1_clear) := ⟨lw_t (tm_1 (List.mem_of_getElem? (i := 94) rfl)), good_of_word (by decide +kernel)⟩
theorem dw_77 : lw_in (Cond.fieldLink RX5 30 "GuessFerry$Sound" "laws" "LGuessFerry$Laws;") := ⟨lw_t (tm_1 (List.mem_of_getElem? (i := 130) rfl)), good_of_word (by decide +kernel)⟩
theorem dw_78 : lw_in (Cond.fieldLink RX5 47 "GuessFerry$Sound" "seed" "I") := ⟨lw_t (tm_1 (List.mem_of_getElem? (i := 143) rfl)), good_of_word (by decide +kernel)⟩
theorem dw_79 : lw_in (Cond.fieldLink RX5 44 "GuessFerry$Sound" "guesses" "I") := ⟨lw_t (tm_1 (List.mem_of_getElem? (i := 141) rfl)), good_of_word (by decide +kernel)⟩
theorem dw_80 : lw_in (Cond.fieldLink RX5 41 "GuessFerry$Sound" "parties" "I") := ⟨lw_t (tm_1 (List.mem_of_getElem? (i := 138) rfl)), good_of_word (by decide +kernel)⟩
theorem dw_81 : lw_in (Cond.fieldLink RX5 37 "GuessFerry$Sound" "waves" "I") := ⟨lw_t (tm_1 (List.mem_of_getElem? (i := 132) rfl)), good_of_word (by decide +kernel)⟩
set_option maxRecDepth 100000 in
theorem dw_82 : lw_in (Cond.code yX1_clear cX1_clear 1 none) := ⟨lw_t (tm_1 (List.mem_of_getElem? (i := 95) rfl)), good_of_word (by decide +kernel)⟩
theorem dw_83 : lw_in (Cond.selects RX1 yX1_putNumber yX1_putNumber) := ⟨List.mem_of_getElem? (i := 6) rfl, good_of_word (by decide +kernel)⟩
theorem dw_84 : lw_in (Cond.instanceMethod yX1_putNumber) := ⟨lw_t (tm_1 (List.mem_of_getElem? (i := 114) rfl)), good_of_word (by decide +kernel)⟩
theorem dw_85 : lw_in (Cond.methodLink RX1 48 yX1_putNumber) := ⟨lw_t (tm_1 (List.mem_of_getElem? (i := 112) rfl)), good_of_word (by decide +kernel)⟩
theorem dw_86 : lw_in (Cond.selects RX1 yX1_endPart yX1_endPart) := ⟨List.mem_of_getElem? (i := 5) rfl, good_of_word (by decide +kernel)⟩
theorem dw_87 : lw_in (Cond.instanceMethod yX1_endPart) := ⟨lw_t (tm_1 (List.mem_of_getElem? (i := 110) rfl)), good_of_word (by decide +kernel)⟩
theorem dw_88 : lw_in (Cond.methodLink RX1 45 yX1_endPart) := ⟨lw_t (tm_1 (List.mem_of_getElem? (i := 108) rfl)), good_of_word (by decide +kernel)⟩
theorem dw_89 : lw_in (Cond.selects RX1 yX1_putVar yX1_putVar) := ⟨List.mem_of_getElem? (i := 3) rfl, good_of_word (by decide +kernel)⟩
theorem dw_90 : lw_in (Cond.instanceMethod yX1_putVar) := ⟨lw_t (tm_1 (List.mem_of_getElem? (i := 102) rfl)), good_of_word (by decide +kernel)⟩
theorem dw_91 : lw_in (Cond.methodLink RX1 42 yX1_putVar) := ⟨lw_t (tm_1 (List.mem_of_getElem? (i := 100) rfl)), good_of_word (by decide +kernel)⟩
theorem dw_92 : lw_in (Cond.selects RX1 yX1_begin yX1_begin) := ⟨List.mem_of_getElem? (i := 2) rfl, good_of_word (by decide +kernel)⟩
theorem dw_93 : lw_in (Cond.instanceMethod yX1_begin) := ⟨lw_t (tm_1 (List.mem_of_getElem? (i := 98) rfl)), good_of_word (by decide +kernel)⟩
theorem dw_94 : lw_in (Cond.methodLink RX1 38 yX1_begin) := ⟨lw_t (tm_1 (List.mem_of_getElem? (i := 96) rfl)), good_of_word (by decide +kernel)⟩
theorem dw_95 : lw_in (Cond.fieldLink RX1 34 "GuessFerry$Laws" "length" "I") := ⟨lw_t (tm_1 (List.mem_of_getElem? (i := 65) rfl)), good_of_word (by decide +kernel)⟩
set_option maxRecDepth 100000 in
theorem dw_96 : lw_in (Cond.code yX1_begin cX1_begin 2 none) := ⟨lw_t (tm_1 (List.mem_of_getElem? (i := 99) rfl)), good_of_word (by decide +kernel)⟩
theorem dw_97 : lw_in (Cond.fieldLink RX1 25 "GuessFerry$Laws" "partCounts" "[I") := ⟨lw_t (tm_1 (List.mem_of_getElem? (i := 61) rfl)), good_of_word (by decide +kernel)⟩
theorem dw_98 : lw_in (Cond.fieldLink RX1 22 "GuessFerry$Laws" "lawStarts" "[I") := ⟨lw_t (tm_1 (List.mem_of_getElem? (i := 60) rfl)), good_of_word (by decide +kernel)⟩
theorem dw_99 : lw_in (Cond.fieldLink RX1 57 "GuessFerry$Laws" "current" "I") := ⟨lw_t (tm_1 (List.mem_of_getElem? (i := 66) rfl)), good_of_word (by decide +kernel)⟩
set_option maxRecDepth 100000 in
theorem dw_100 : lw_in (Cond.code yX1_putVar cX1_putVar 2 none) := ⟨lw_t (tm_1 (List.mem_of_getElem? (i := 103) rfl)), good_of_word (by decide +kernel)⟩
theorem dw_101 : lw_in (Cond.selects RX1 yX1_put yX1_put) := ⟨List.mem_of_getElem? (i := 4) rfl, good_of_word (by decide +kernel)⟩
theorem dw_102 : lw_in (Cond.instanceMethod yX1_put) := ⟨lw_t (tm_1 (List.mem_of_getElem? (i := 106) rfl)), good_of_word (by decide +kernel)⟩
theorem dw_103 : lw_in (Cond.methodLink RX1 60 yX1_put) := ⟨lw_t (tm_1 (List.mem_of_getElem? (i := 104) rfl)), good_of_word (by decide +kernel)⟩
set_option maxRecDepth 100000 in
theorem dw_104 : lw_in (Cond.code yX1_put cX1_put 2 none) := ⟨lw_t (tm_1 (List.mem_of_getElem? (i := 107) rfl)), good_of_word (by decide +kernel)⟩
theorem dw_105 : lw_in (Cond.fieldLink RX1 15 "GuessFerry$Laws" "steps" "[I") := ⟨lw_t (tm_1 (List.mem_of_getElem? (i := 58) rfl)), good_of_word (by decide +kernel)⟩
set_option maxRecDepth 100000 in
theorem dw_106 : lw_in (Cond.code yX1_endPart cX1_endPart 2 none) := ⟨lw_t (tm_1 (List.mem_of_getElem? (i := 111) rfl)), good_of_word (by decide +kernel)⟩
theorem dw_107 : lw_in (Cond.fieldLink RX1 19 "GuessFerry$Laws" "partEnds" "[I") := ⟨lw_t (tm_1 (List.mem_of_getElem? (i := 59) rfl)), good_of_word (by decide +kernel)⟩
set_option maxRecDepth 100000 in
theorem dw_108 : lw_in (Cond.code yX1_putNumber cX1_putNumber 2 none) := ⟨lw_t (tm_1 (List.mem_of_getElem? (i := 115) rfl)), good_of_word (by decide +kernel)⟩
set_option maxRecDepth 100000 in
theorem dw_109 : lw_in (Cond.code yX9_split cX9_split 3 none) := ⟨lw_t (tm_3 (List.mem_of_getElem? (i := 15) rfl)), good_of_word (by decide +kernel)⟩
theorem dw_110 : lw_in (Cond.selects RX9 yX9_splitOne yX9_splitOne) := ⟨List.mem_of_getElem? (i := 14) rfl, good_of_word (by decide +kernel)⟩
theorem dw_111 : lw_in (Cond.instanceMethod yX9_splitOne) := ⟨lw_t (tm_3 (List.mem_of_getElem? (i := 29) rfl)), good_of_word (by decide +kernel)⟩
theorem dw_112 : lw_in (Cond.methodLink RX9 54 yX9_splitOne) := ⟨lw_t (tm_3 (List.mem_of_getElem? (i := 27) rfl)), good_of_word (by decide +kernel)⟩
theorem dw_113 : lw_in (Cond.selects RX9 yX9_skipBlanks yX9_skipBlanks) := ⟨List.mem_of_getElem? (i := 12) rfl, good_of_word (by decide +kernel)⟩
theorem dw_114 : lw_in (Cond.instanceMethod yX9_skipBlanks) := ⟨lw_t (tm_3 (List.mem_of_getElem? (i := 18) rfl)), good_of_word (by decide +kernel)⟩
theorem dw_115 : lw_in (Cond.methodLink RX9 51 yX9_skipBlanks) := ⟨lw_t (tm_3 (List.mem_of_getElem? (i := 16) rfl)), good_of_word (by decide +kernel)⟩
theorem dw_116 : lw_in (Cond.fieldLink RX9 57 "GuessFerry$Tokens" "value" "J") := ⟨lw_t (tm_2 (List.mem_of_getElem? (i := 6) rfl)), good_of_word (by decide +kernel)⟩
theorem dw_117 : lw_in (Cond.fieldLink RX9 20 "GuessFerry$Tokens" "values" "[J") := ⟨lw_t (tm_2 (List.mem_of_getElem? (i := 3) rfl)), good_of_word (by decide +kernel)⟩
theorem dw_118 : lw_in (Cond.fieldLink RX9 13 "GuessFerry$Tokens" "kinds" "[I") := ⟨lw_t (tm_1 (List.mem_of_getElem? (i := 239) rfl)), good_of_word (by decide +kernel)⟩
theorem dw_119 : lw_in (Cond.fieldLink RX9 17 "GuessFerry$Tokens" "starts" "[I") := ⟨lw_t (tm_2 (List.mem_of_getElem? (i := 1) rfl)), good_of_word (by decide +kernel)⟩
theorem dw_120 : lw_in (Cond.fieldLink RX9 47 "GuessFerry$Tokens" "end" "I") := ⟨lw_t (tm_2 (List.mem_of_getElem? (i := 5) rfl)), good_of_word (by decide +kernel)⟩
set_option maxRecDepth 100000 in
theorem dw_121 : lw_in (Cond.code yX9_skipBlanks cX9_skipBlanks 1 none) := ⟨lw_t (tm_3 (List.mem_of_getElem? (i := 19) rfl)), good_of_word (by decide +kernel)⟩
theorem dw_122 : lw_in (Cond.static yX9_isBlank) := ⟨lw_t (tm_3 (List.mem_of_getElem? (i := 25) rfl)), good_of_word (by decide +kernel)⟩
theorem dw_123 : lw_in (Cond.methodLink RX9 69 yX9_isBlank) := ⟨lw_t (tm_3 (List.mem_of_getElem? (i := 24) rfl)), good_of_word (by decide +kernel)⟩
theorem dw_124 : lw_in (Cond.selects RX7 yX7_byteAt yX7_byteAt) := ⟨List.mem_of_getElem? (i := 13) rfl, good_of_word (by decide +kernel)⟩
theorem dw_125 : lw_in (Cond.instanceMethod yX7_byteAt) := ⟨lw_t (tm_3 (List.mem_of_getElem? (i := 22) rfl)), good_of_word (by decide +kernel)⟩
theorem dw_126 : lw_in (Cond.fieldLink RX9 23 "GuessFerry$Tokens" "tape" "LGuessFerry$Tape;") := ⟨lw_t (tm_1 (List.mem_of_getElem? (i := 237) rfl)), good_of_word (by decide +kernel)⟩
set_option maxRecDepth 100000 in
theorem dw_127 : lw_in (Cond.code yX7_byteAt cX7_byteAt 2 (some .int)) := ⟨lw_t (tm_3 (List.mem_of_getElem? (i := 23) rfl)), good_of_word (by decide +kernel)⟩
set_option maxRecDepth 100000 in
theorem dw_128 : lw_in (Cond.code yX9_isBlank cX9_isBlank 1 (some .boolean)) := ⟨lw_t (tm_3 (List.mem_of_getElem? (i := 26) rfl)), good_of_word (by decide +kernel)⟩
set_option maxRecDepth 100000 in
theorem dw_129 : lw_in (Cond.code yX9_splitOne cX9_splitOne 2 (some .int)) := ⟨lw_t (tm_3 (List.mem_of_getElem? (i := 30) rfl)), good_of_word (by decide +kernel)⟩
theorem dw_130 : lw_in (Cond.initialized RJ11) := ⟨lw_t (tm_1 (List.mem_of_getElem? (i := 19) rfl)), good_of_word (by decide +kernel)⟩
theorem dw_131 : lw_in (Cond.initialized RJ3) := ⟨lw_t (tm_1 (List.mem_of_getElem? (i := 9) rfl)), good_of_word (by decide +kernel)⟩
theorem dw_132 : lw_in (Cond.initialized RJ2) := ⟨lw_t (tm_1 (List.mem_of_getElem? (i := 10) rfl)), good_of_word (by decide +kernel)⟩
theorem dw_133 : lw_in (Cond.initialized "java/lang/Math") := ⟨lw_t (tm_1 (List.mem_of_getElem? (i := 18) rfl)), good_of_word (by decide +kernel)⟩
theorem dw_134 : lw_in (Cond.initialized RJ1) := ⟨lw_t (tm_1 (List.mem_of_getElem? (i := 8) rfl)), good_of_word (by decide +kernel)⟩
theorem dw_135 : lw_in (Cond.initialized RJ0) := ⟨lw_t (tm_1 (List.mem_of_getElem? (i := 7) rfl)), good_of_word (by decide +kernel)⟩
theorem dw_136 : lw_in (Cond.selects RJ0 yJ0_indexOf_0f7a4 yJ0_indexOf_0f7a4) := ⟨lw_t (tm_3 (List.mem_of_getElem? (i := 47) rfl)), good_of_word (by decide +kernel)⟩
theorem dw_137 : lw_in (Cond.instanceMethod yJ0_indexOf_0f7a4) := ⟨lw_t (tm_3 (List.mem_of_getElem? (i := 46) rfl)), good_of_word (by decide +kernel)⟩
theorem dw_138 : lw_in (Cond.methodLink RX9 83 yJ0_indexOf_0f7a4) := ⟨lw_t (tm_3 (List.mem_of_getElem? (i := 45) rfl)), good_of_word (by decide +kernel)⟩
theorem dw_139 : lw_in (Cond.selects RX9 yX9_splitDigits yX9_splitDigits) := ⟨List.mem_of_getElem? (i := 16) rfl, good_of_word (by decide +kernel)⟩
theorem dw_140 : lw_in (Cond.instanceMethod yX9_splitDigits) := ⟨lw_t (tm_3 (List.mem_of_getElem? (i := 40) rfl)), good_of_word (by decide +kernel)⟩
theorem dw_141 : lw_in (Cond.methodLink RX9 78 yX9_splitDigits) := ⟨lw_t (tm_3 (List.mem_of_getElem? (i := 38) rfl)), good_of_word (by decide +kernel)⟩
theorem dw_142 : lw_in (Cond.static yX9_isDigit) := ⟨lw_t (tm_3 (List.mem_of_getElem? (i := 36) rfl)), good_of_word (by decide +kernel)⟩
theorem dw_143 : lw_in (Cond.methodLink RX9 75 yX9_isDigit) := ⟨lw_t (tm_3 (List.mem_of_getElem? (i := 35) rfl)), good_of_word (by decide +kernel)⟩
theorem dw_144 : lw_in (Cond.selects RX9 yX9_splitLetters yX9_splitLetters) := ⟨List.mem_of_getElem? (i := 15) rfl, good_of_word (by decide +kernel)⟩
theorem dw_145 : lw_in (Cond.instanceMethod yX9_splitLetters) := ⟨lw_t (tm_3 (List.mem_of_getElem? (i := 33) rfl)), good_of_word (by decide +kernel)⟩
theorem dw_146 : lw_in (Cond.methodLink RX9 72 yX9_splitLetters) := ⟨lw_t (tm_3 (List.mem_of_getElem? (i := 31) rfl)), good_of_word (by decide +kernel)⟩
theorem dw_147 : lw_in (Cond.static yX9_isLetter) := ⟨lw_t (tm_1 (List.mem_of_getElem? (i := 232) rfl)), good_of_word (by decide +kernel)⟩
theorem dw_148 : lw_in (Cond.methodLink RX9 39 yX9_isLetter) := ⟨lw_t (tm_1 (List.mem_of_getElem? (i := 231) rfl)), good_of_word (by decide +kernel)⟩
set_option maxRecDepth 100000 in
theorem dw_149 : lw_in (Cond.code yX9_isLetter cX9_isLetter 1 (some .boolean)) := ⟨lw_t (tm_1 (List.mem_of_getElem? (i := 233) rfl)), good_of_word (by decide +kernel)⟩
set_option maxRecDepth 100000 in
theorem dw_150 : lw_in (Cond.code yX9_splitLetters cX9_splitLetters 3 (some .int)) := ⟨lw_t (tm_3 (List.mem_of_getElem? (i := 34) rfl)), good_of_word (by decide +kernel)⟩
theorem dw_151 : lw_in (Cond.static yX9_withLetter) := ⟨lw_t (tm_1 (List.mem_of_getElem? (i := 235) rfl)), good_of_word (by decide +kernel)⟩
theorem dw_152 : lw_in (Cond.methodLink RX9 43 yX9_withLetter) := ⟨lw_t (tm_1 (List.mem_of_getElem? (i := 234) rfl)), good_of_word (by decide +kernel)⟩
theorem dw_153 : lw_in (Cond.fieldLink RX9 9 "GuessFerry$Tokens" "words" "[J") := ⟨lw_t (tm_1 (List.mem_of_getElem? (i := 238) rfl)), good_of_word (by decide +kernel)⟩
set_option maxRecDepth 100000 in
theorem dw_154 : lw_in (Cond.code yX9_withLetter cX9_withLetter 3 (some .long)) := ⟨lw_t (tm_1 (List.mem_of_getElem? (i := 236) rfl)), good_of_word (by decide +kernel)⟩
set_option maxRecDepth 100000 in
theorem dw_155 : lw_in (Cond.code yX9_isDigit cX9_isDigit 1 (some .boolean)) := ⟨lw_t (tm_3 (List.mem_of_getElem? (i := 37) rfl)), good_of_word (by decide +kernel)⟩
set_option maxRecDepth 100000 in
theorem dw_156 : lw_in (Cond.code yX9_splitDigits cX9_splitDigits 2 (some .int)) := ⟨lw_t (tm_3 (List.mem_of_getElem? (i := 41) rfl)), good_of_word (by decide +kernel)⟩
theorem dw_157 : lw_in (Cond.constantLong RX9 88 (48)) := ⟨lw_t (tm_3 (List.mem_of_getElem? (i := 43) rfl)), good_of_word (by decide +kernel)⟩
theorem dw_158 : lw_in (Cond.constantLong RX9 86 (10)) := ⟨lw_t (tm_3 (List.mem_of_getElem? (i := 42) rfl)), good_of_word (by decide +kernel)⟩
set_option maxRecDepth 100000 in
theorem dw_159 : lw_in (Cond.code yJ0_indexOf_0f7a4 cJ0_indexOf_0f7a4 2 (some .int)) := ⟨lw_t (tm_3 (List.mem_of_getElem? (i := 48) rfl)), good_of_word (by decide +kernel)⟩
theorem dw_160 : lw_in (Cond.selects RJ0 yJ0_indexOf_7cf53 yJ0_indexOf_7cf53) := ⟨lw_t (tm_3 (List.mem_of_getElem? (i := 51) rfl)), good_of_word (by decide +kernel)⟩
theorem dw_161 : lw_in (Cond.instanceMethod yJ0_indexOf_7cf53) := ⟨lw_t (tm_3 (List.mem_of_getElem? (i := 50) rfl)), good_of_word (by decide +kernel)⟩
theorem dw_162 : lw_in (Cond.methodLink RJ0 633 yJ0_indexOf_7cf53) := ⟨lw_t (tm_3 (List.mem_of_getElem? (i := 49) rfl)), good_of_word (by decide +kernel)⟩
set_option maxRecDepth 100000 in
theorem dw_163 : lw_in (Cond.code yJ0_indexOf_7cf53 cJ0_indexOf_7cf53 3 (some .int)) := ⟨lw_t (tm_3 (List.mem_of_getElem? (i := 52) rfl)), good_of_word (by decide +kernel)⟩
theorem dw_164 : lw_in (Cond.static yJ2_indexOf_4cfef) := ⟨lw_t (tm_3 (List.mem_of_getElem? (i := 70) rfl)), good_of_word (by decide +kernel)⟩
theorem dw_165 : lw_in (Cond.methodLink RJ0 640 yJ2_indexOf_4cfef) := ⟨lw_t (tm_3 (List.mem_of_getElem? (i := 69) rfl)), good_of_word (by decide +kernel)⟩
theorem dw_166 : lw_in (Cond.static yJ1_indexOf_4cfef) := ⟨lw_t (tm_3 (List.mem_of_getElem? (i := 55) rfl)), good_of_word (by decide +kernel)⟩
theorem dw_167 : lw_in (Cond.methodLink RJ0 637 yJ1_indexOf_4cfef) := ⟨lw_t (tm_3 (List.mem_of_getElem? (i := 54) rfl)), good_of_word (by decide +kernel)⟩
theorem dw_168 : lw_in (Cond.selects RJ0 yJ0_length_8abf5 yJ0_length_8abf5) := ⟨lw_t (tm_1 (List.mem_of_getElem? (i := 185) rfl)), good_of_word (by decide +kernel)⟩
theorem dw_169 : lw_in (Cond.instanceMethod yJ0_length_8abf5) := ⟨lw_t (tm_1 (List.mem_of_getElem? (i := 184) rfl)), good_of_word (by decide +kernel)⟩
theorem dw_170 : lw_in (Cond.methodLink RJ0 505 yJ0_length_8abf5) := ⟨lw_t (tm_3 (List.mem_of_getElem? (i := 53) rfl)), good_of_word (by decide +kernel)⟩
theorem dw_171 : lw_in (Cond.selects RJ0 yJ0_isLatin1_aae02 yJ0_isLatin1_aae02) := ⟨lw_t (tm_1 (List.mem_of_getElem? (i := 199) rfl)), good_of_word (by decide +kernel)⟩
theorem dw_172 : lw_in (Cond.instanceMethod yJ0_isLatin1_aae02) := ⟨lw_t (tm_1 (List.mem_of_getElem? (i := 198) rfl)), good_of_word (by decide +kernel)⟩
theorem dw_173 : lw_in (Cond.methodLink RJ0 492 yJ0_isLatin1_aae02) := ⟨lw_t (tm_1 (List.mem_of_getElem? (i := 197) rfl)), good_of_word (by decide +kernel)⟩
theorem dw_174 : lw_in (Cond.fieldLink RJ0 9 "java/lang/String" "value" "[B") := ⟨lw_t (tm_8 (List.mem_of_getElem? (i := 160) rfl)), good_of_word (by decide +kernel)⟩
set_option maxRecDepth 100000 in
theorem dw_175 : lw_in (Cond.code yJ0_isLatin1_aae02 cJ0_isLatin1_aae02 1 (some .boolean)) := ⟨lw_t (tm_1 (List.mem_of_getElem? (i := 200) rfl)), good_of_word (by decide +kernel)⟩
theorem dw_176 : lw_in (Cond.fieldLink RJ0 15 "java/lang/String" "coder" "B") := ⟨lw_t (tm_8 (List.mem_of_getElem? (i := 161) rfl)), good_of_word (by decide +kernel)⟩
theorem dw_177 : lw_in (Cond.fieldLink RJ0 38 "java/lang/String" "COMPACT_STRINGS" "Z") := ⟨lw_t (tm_1 (List.mem_of_getElem? (i := 191) rfl)), good_of_word (by decide +kernel)⟩
set_option maxRecDepth 100000 in
theorem dw_178 : lw_in (Cond.code yJ0_length_8abf5 cJ0_length_8abf5 1 (some .int)) := ⟨lw_t (tm_1 (List.mem_of_getElem? (i := 186) rfl)), good_of_word (by decide +kernel)⟩
theorem dw_179 : lw_in (Cond.selects RJ0 yJ0_coder_7d493 yJ0_coder_7d493) := ⟨lw_t (tm_1 (List.mem_of_getElem? (i := 189) rfl)), good_of_word (by decide +kernel)⟩
theorem dw_180 : lw_in (Cond.instanceMethod yJ0_coder_7d493) := ⟨lw_t (tm_1 (List.mem_of_getElem? (i := 188) rfl)), good_of_word (by decide +kernel)⟩
theorem dw_181 : lw_in (Cond.methodLink RJ0 335 yJ0_coder_7d493) := ⟨lw_t (tm_1 (List.mem_of_getElem? (i := 187) rfl)), good_of_word (by decide +kernel)⟩
set_option maxRecDepth 100000 in
theorem dw_182 : lw_in (Cond.code yJ0_coder_7d493 cJ0_coder_7d493 1 (some .byte)) := ⟨lw_t (tm_1 (List.mem_of_getElem? (i := 190) rfl)), good_of_word (by decide +kernel)⟩
set_option maxRecDepth 100000 in
theorem dw_183 : lw_in (Cond.code yJ1_indexOf_4cfef cJ1_indexOf_4cfef 4 (some .int)) := ⟨lw_t (tm_3 (List.mem_of_getElem? (i := 56) rfl)), good_of_word (by decide +kernel)⟩
theorem dw_184 : lw_in (Cond.static yJ1_indexOfChar_4cfef) := ⟨lw_t (tm_3 (List.mem_of_getElem? (i := 67) rfl)), good_of_word (by decide +kernel)⟩
theorem dw_185 : lw_in (Cond.methodLink RJ1 95 yJ1_indexOfChar_4cfef) := ⟨lw_t (tm_3 (List.mem_of_getElem? (i := 66) rfl)), good_of_word (by decide +kernel)⟩
theorem dw_186 : lw_in (Cond.static yJ1_canEncode_9a6ad) := ⟨lw_t (tm_3 (List.mem_of_getElem? (i := 58) rfl)), good_of_word (by decide +kernel)⟩
theorem dw_187 : lw_in (Cond.methodLink RJ1 88 yJ1_canEncode_9a6ad) := ⟨lw_t (tm_3 (List.mem_of_getElem? (i := 57) rfl)), good_of_word (by decide +kernel)⟩
set_option maxRecDepth 100000 in
theorem dw_188 : lw_in (Cond.code Lib.Math.min.name Lib.Math.min.code 2 (some .int)) := ⟨lw_t (tm_3 (List.mem_of_getElem? (i := 65) rfl)), good_of_word (by decide +kernel)⟩
theorem dw_189 : lw_in (Cond.static Lib.Math.min.name) := ⟨lw_t (tm_3 (List.mem_of_getElem? (i := 64) rfl)), good_of_word (by decide +kernel)⟩
theorem dw_190 : lw_in (Cond.methodLink RJ1 38 Lib.Math.min.name) := ⟨lw_t (tm_3 (List.mem_of_getElem? (i := 63) rfl)), good_of_word (by decide +kernel)⟩
set_option maxRecDepth 100000 in
theorem dw_191 : lw_in (Cond.code Lib.Math.max.name Lib.Math.max.code 2 (some .int)) := ⟨lw_t (tm_3 (List.mem_of_getElem? (i := 62) rfl)), good_of_word (by decide +kernel)⟩
theorem dw_192 : lw_in (Cond.static Lib.Math.max.name) := ⟨lw_t (tm_3 (List.mem_of_getElem? (i := 61) rfl)), good_of_word (by decide +kernel)⟩
theorem dw_193 : lw_in (Cond.methodLink RJ1 92 Lib.Math.max.name) := ⟨lw_t (tm_3 (List.mem_of_getElem? (i := 60) rfl)), good_of_word (by decide +kernel)⟩
set_option maxRecDepth 100000 in
theorem dw_194 : lw_in (Cond.code yJ1_canEncode_9a6ad cJ1_canEncode_9a6ad 1 (some .boolean)) := ⟨lw_t (tm_3 (List.mem_of_getElem? (i := 59) rfl)), good_of_word (by decide +kernel)⟩
set_option maxRecDepth 100000 in
theorem dw_195 : lw_in (Cond.code yJ1_indexOfChar_4cfef cJ1_indexOfChar_4cfef 6 (some .int)) := ⟨lw_t (tm_3 (List.mem_of_getElem? (i := 68) rfl)), good_of_word (by decide +kernel)⟩
set_option maxRecDepth 100000 in
theorem dw_196 : lw_in (Cond.code yJ2_indexOf_4cfef cJ2_indexOf_4cfef 4 (some .int)) := ⟨lw_t (tm_3 (List.mem_of_getElem? (i := 71) rfl)), good_of_word (by decide +kernel)⟩
theorem dw_197 : lw_in (Cond.static yJ2_indexOfSupplementary_4cfef) := ⟨lw_t (tm_3 (List.mem_of_getElem? (i := 91) rfl)), good_of_word (by decide +kernel)⟩
theorem dw_198 : lw_in (Cond.methodLink RJ2 232 yJ2_indexOfSupplementary_4cfef) := ⟨lw_t (tm_3 (List.mem_of_getElem? (i := 90) rfl)), good_of_word (by decide +kernel)⟩
theorem dw_199 : lw_in (Cond.static yJ2_indexOfChar_4cfef) := ⟨lw_t (tm_3 (List.mem_of_getElem? (i := 76) rfl)), good_of_word (by decide +kernel)⟩
theorem dw_200 : lw_in (Cond.methodLink RJ2 228 yJ2_indexOfChar_4cfef) := ⟨lw_t (tm_3 (List.mem_of_getElem? (i := 75) rfl)), good_of_word (by decide +kernel)⟩
theorem dw_201 : lw_in (Cond.constant RJ2 227 (65536)) := ⟨lw_t (tm_3 (List.mem_of_getElem? (i := 74) rfl)), good_of_word (by decide +kernel)⟩
theorem dw_202 : lw_in (Cond.methodLink RJ2 183 Lib.Math.min.name) := ⟨lw_t (tm_3 (List.mem_of_getElem? (i := 73) rfl)), good_of_word (by decide +kernel)⟩
theorem dw_203 : lw_in (Cond.methodLink RJ2 224 Lib.Math.max.name) := ⟨lw_t (tm_3 (List.mem_of_getElem? (i := 72) rfl)), good_of_word (by decide +kernel)⟩
set_option maxRecDepth 100000 in
theorem dw_204 : lw_in (Cond.code yJ2_indexOfChar_4cfef cJ2_indexOfChar_4cfef 4 (some .int)) := ⟨lw_t (tm_3 (List.mem_of_getElem? (i := 77) rfl)), good_of_word (by decide +kernel)⟩
theorem dw_205 : lw_in (Cond.static yJ2_indexOfCharUnsafe_4cfef) := ⟨lw_t (tm_3 (List.mem_of_getElem? (i := 88) rfl)), good_of_word (by decide +kernel)⟩
theorem dw_206 : lw_in (Cond.methodLink RJ2 244 yJ2_indexOfCharUnsafe_4cfef) := ⟨lw_t (tm_3 (List.mem_of_getElem? (i := 87) rfl)), good_of_word (by decide +kernel)⟩
theorem dw_207 : lw_in (Cond.static yJ2_checkBoundsBeginEnd_d044e) := ⟨lw_t (tm_3 (List.mem_of_getElem? (i := 79) rfl)), good_of_word (by decide +kernel)⟩
theorem dw_208 : lw_in (Cond.methodLink RJ2 96 yJ2_checkBoundsBeginEnd_d044e) := ⟨lw_t (tm_3 (List.mem_of_getElem? (i := 78) rfl)), good_of_word (by decide +kernel)⟩
set_option maxRecDepth 100000 in
theorem dw_209 : lw_in (Cond.code yJ2_checkBoundsBeginEnd_d044e cJ2_checkBoundsBeginEnd_d044e 3 none) := ⟨lw_t (tm_3 (List.mem_of_getElem? (i := 80) rfl)), good_of_word (by decide +kernel)⟩
theorem dw_210 : lw_in (Cond.static yJ0_checkBoundsBeginEnd_23922) := ⟨lw_t (tm_3 (List.mem_of_getElem? (i := 82) rfl)), good_of_word (by decide +kernel)⟩
theorem dw_211 : lw_in (Cond.methodLink RJ2 241 yJ0_checkBoundsBeginEnd_23922) := ⟨lw_t (tm_3 (List.mem_of_getElem? (i := 81) rfl)), good_of_word (by decide +kernel)⟩
theorem dw_212 : lw_in (Cond.static yJ2_length_9d52b) := ⟨lw_t (tm_1 (List.mem_of_getElem? (i := 219) rfl)), good_of_word (by decide +kernel)⟩
theorem dw_213 : lw_in (Cond.methodLink RJ2 48 yJ2_length_9d52b) := ⟨lw_t (tm_1 (List.mem_of_getElem? (i := 218) rfl)), good_of_word (by decide +kernel)⟩
set_option maxRecDepth 100000 in
theorem dw_214 : lw_in (Cond.code yJ2_length_9d52b cJ2_length_9d52b 1 (some .int)) := ⟨lw_t (tm_1 (List.mem_of_getElem? (i := 220) rfl)), good_of_word (by decide +kernel)⟩
set_option maxRecDepth 100000 in
theorem dw_215 : lw_in (Cond.code yJ0_checkBoundsBeginEnd_23922 cJ0_checkBoundsBeginEnd_23922 3 none) := ⟨lw_t (tm_3 (List.mem_of_getElem? (i := 83) rfl)), good_of_word (by decide +kernel)⟩
theorem dw_216 : lw_in (Cond.static yJ3_checkFromToIndex_8c36e) := ⟨lw_t (tm_3 (List.mem_of_getElem? (i := 85) rfl)), good_of_word (by decide +kernel)⟩
theorem dw_217 : lw_in (Cond.methodLink RJ0 1062 yJ3_checkFromToIndex_8c36e) := ⟨lw_t (tm_3 (List.mem_of_getElem? (i := 84) rfl)), good_of_word (by decide +kernel)⟩
theorem dw_218 : lw_in (Cond.fieldLink RJ0 1053 "jdk/internal/util/Preconditions" "SIOOBE_FORMATTER" "Ljava/util/function/BiFunction;") := ⟨lw_t (tm_1 (List.mem_of_getElem? (i := 207) rfl)), good_of_word (by decide +kernel)⟩
set_option maxRecDepth 100000 in
theorem dw_219 : lw_in (Cond.code yJ3_checkFromToIndex_8c36e cJ3_checkFromToIndex_8c36e 4 (some .int)) := ⟨lw_t (tm_3 (List.mem_of_getElem? (i := 86) rfl)), good_of_word (by decide +kernel)⟩
set_option maxRecDepth 100000 in
theorem dw_220 : lw_in (Cond.code yJ2_indexOfCharUnsafe_4cfef cJ2_indexOfCharUnsafe_4cfef 5 (some .int)) := ⟨lw_t (tm_3 (List.mem_of_getElem? (i := 89) rfl)), good_of_word (by decide +kernel)⟩
theorem dw_221 : lw_in (Cond.static yJ2_getChar_3b067) := ⟨lw_t (tm_1 (List.mem_of_getElem? (i := 223) rfl)), good_of_word (by decide +kernel)⟩
theorem dw_222 : lw_in (Cond.methodLink RJ2 71 yJ2_getChar_3b067) := ⟨lw_t (tm_1 (List.mem_of_getElem? (i := 222) rfl)), good_of_word (by decide +kernel)⟩
set_option maxRecDepth 100000 in
theorem dw_223 : lw_in (Cond.code yJ2_getChar_3b067 cJ2_getChar_3b067 2 (some .char)) := ⟨lw_t (tm_1 (List.mem_of_getElem? (i := 224) rfl)), good_of_word (by decide +kernel)⟩
theorem dw_224 : lw_in (Cond.fieldLink RJ2 63 "java/lang/StringUTF16" "LO_BYTE_SHIFT" "I") := ⟨lw_t (tm_1 (List.mem_of_getElem? (i := 229) rfl)), good_of_word (by decide +kernel)⟩
theorem dw_225 : lw_in (Cond.fieldLink RJ2 59 "java/lang/StringUTF16" "HI_BYTE_SHIFT" "I") := ⟨lw_t (tm_1 (List.mem_of_getElem? (i := 227) rfl)), good_of_word (by decide +kernel)⟩
theorem dw_226 : lw_in (Cond.fieldLink RJ2 44 "java/lang/StringUTF16" "$assertionsDisabled" "Z") := ⟨lw_t (tm_1 (List.mem_of_getElem? (i := 225) rfl)), good_of_word (by decide +kernel)⟩
set_option maxRecDepth 100000 in
theorem dw_227 : lw_in (Cond.code yJ2_indexOfSupplementary_4cfef cJ2_indexOfSupplementary_4cfef 7 (some .int)) := ⟨lw_t (tm_3 (List.mem_of_getElem? (i := 92) rfl)), good_of_word (by decide +kernel)⟩
theorem dw_228 : lw_in (Cond.static yJ11_lowSurrogate_5068e) := ⟨lw_t (tm_3 (List.mem_of_getElem? (i := 101) rfl)), good_of_word (by decide +kernel)⟩
theorem dw_229 : lw_in (Cond.methodLink RJ2 161 yJ11_lowSurrogate_5068e) := ⟨lw_t (tm_3 (List.mem_of_getElem? (i := 100) rfl)), good_of_word (by decide +kernel)⟩
theorem dw_230 : lw_in (Cond.static yJ11_highSurrogate_5068e) := ⟨lw_t (tm_3 (List.mem_of_getElem? (i := 97) rfl)), good_of_word (by decide +kernel)⟩
theorem dw_231 : lw_in (Cond.methodLink RJ2 157 yJ11_highSurrogate_5068e) := ⟨lw_t (tm_3 (List.mem_of_getElem? (i := 96) rfl)), good_of_word (by decide +kernel)⟩
theorem dw_232 : lw_in (Cond.static yJ11_isValidCodePoint_9a6ad) := ⟨lw_t (tm_3 (List.mem_of_getElem? (i := 94) rfl)), good_of_word (by decide +kernel)⟩
theorem dw_233 : lw_in (Cond.methodLink RJ2 164 yJ11_isValidCodePoint_9a6ad) := ⟨lw_t (tm_3 (List.mem_of_getElem? (i := 93) rfl)), good_of_word (by decide +kernel)⟩
set_option maxRecDepth 100000 in
theorem dw_234 : lw_in (Cond.code yJ11_isValidCodePoint_9a6ad cJ11_isValidCodePoint_9a6ad 2 (some .boolean)) := ⟨lw_t (tm_3 (List.mem_of_getElem? (i := 95) rfl)), good_of_word (by decide +kernel)⟩
set_option maxRecDepth 100000 in
theorem dw_235 : lw_in (Cond.code yJ11_highSurrogate_5068e cJ11_highSurrogate_5068e 1 (some .char)) := ⟨lw_t (tm_3 (List.mem_of_getElem? (i := 98) rfl)), good_of_word (by decide +kernel)⟩
theorem dw_236 : lw_in (Cond.constant RJ11 110 (55232)) := ⟨lw_t (tm_3 (List.mem_of_getElem? (i := 99) rfl)), good_of_word (by decide +kernel)⟩
set_option maxRecDepth 100000 in
theorem dw_237 : lw_in (Cond.code yJ11_lowSurrogate_5068e cJ11_lowSurrogate_5068e 1 (some .char)) := ⟨lw_t (tm_3 (List.mem_of_getElem? (i := 102) rfl)), good_of_word (by decide +kernel)⟩
theorem dw_238 : lw_in (Cond.constant RJ11 76 (56320)) := ⟨lw_t (tm_3 (List.mem_of_getElem? (i := 103) rfl)), good_of_word (by decide +kernel)⟩
set_option maxRecDepth 100000 in
theorem dw_239 : lw_in (Cond.code yX4_isAt cX4_isAt 2 (some .boolean)) := ⟨lw_t (tm_3 (List.mem_of_getElem? (i := 107) rfl)), good_of_word (by decide +kernel)⟩
set_option maxRecDepth 100000 in
theorem dw_240 : lw_in (Cond.code yX4_readTell cX4_readTell 3 none) := ⟨lw_t (tm_3 (List.mem_of_getElem? (i := 111) rfl)), good_of_word (by decide +kernel)⟩
theorem dw_241 : lw_in (Cond.selects RX4 yX4_readLaw yX4_readLaw) := ⟨List.mem_of_getElem? (i := 26) rfl, good_of_word (by decide +kernel)⟩
theorem dw_242 : lw_in (Cond.instanceMethod yX4_readLaw) := ⟨lw_t (tm_3 (List.mem_of_getElem? (i := 142) rfl)), good_of_word (by decide +kernel)⟩
theorem dw_243 : lw_in (Cond.methodLink RX4 97 yX4_readLaw) := ⟨lw_t (tm_3 (List.mem_of_getElem? (i := 140) rfl)), good_of_word (by decide +kernel)⟩
theorem dw_244 : lw_in (Cond.selects RX4 yX4_readParty yX4_readParty) := ⟨List.mem_of_getElem? (i := 24) rfl, good_of_word (by decide +kernel)⟩
theorem dw_245 : lw_in (Cond.instanceMethod yX4_readParty) := ⟨lw_t (tm_3 (List.mem_of_getElem? (i := 134) rfl)), good_of_word (by decide +kernel)⟩
theorem dw_246 : lw_in (Cond.methodLink RX4 87 yX4_readParty) := ⟨lw_t (tm_3 (List.mem_of_getElem? (i := 132) rfl)), good_of_word (by decide +kernel)⟩
theorem dw_247 : lw_in (Cond.selects RX4 yX4_takeInt yX4_takeInt) := ⟨List.mem_of_getElem? (i := 22) rfl, good_of_word (by decide +kernel)⟩
theorem dw_248 : lw_in (Cond.instanceMethod yX4_takeInt) := ⟨lw_t (tm_3 (List.mem_of_getElem? (i := 126) rfl)), good_of_word (by decide +kernel)⟩
theorem dw_249 : lw_in (Cond.methodLink RX4 90 yX4_takeInt) := ⟨lw_t (tm_3 (List.mem_of_getElem? (i := 124) rfl)), good_of_word (by decide +kernel)⟩
