/-- a word that the tables have and that may be handed on -/
def lw_in (w : Cond) : Prop := w ∈ lw_tbl ∧ ((w.onTables && w.keeps) = true ∨ ∃ ty, w = .arrayClass ty)
theorem gi_nil {big : List Cond} : GoodIn big [] := fun _ h => absurd h List.not_mem_nil
theorem gi_cons {w : Cond} {l : List Cond} (h : lw_in w) (hl : GoodIn lw_tbl l) : GoodIn lw_tbl (w :: l) := fun z hz => (List.mem_cons.mp hz).elim (fun e => by subst e; exact h) (hl z)
set_option maxRecDepth 100000 in
theorem dw_0 : lw_in (Cond.code yX10_init cX10_init 1 none) := ⟨List.mem_of_getElem? (i := 194) rfl, good_of_word (by decide +kernel)⟩
theorem dw_1 : lw_in (Cond.fieldLink RX10 45 "GuessFerry" "past" "LGuessFerry$Past;") := ⟨List.mem_of_getElem? (i := 612) (by decide +kernel), good_of_word (by decide +kernel)⟩
theorem dw_2 : lw_in (Cond.initialized RX3) := ⟨List.mem_of_getElem? (i := 180) (by decide +kernel), good_of_word (by decide +kernel)⟩
theorem dw_3 : lw_in (Cond.instantiable RX3 5) := ⟨List.mem_of_getElem? (i := 504) (by decide +kernel), good_of_word (by decide +kernel)⟩
theorem dw_4 : lw_in (Cond.classLink RX10 42 RX3) := ⟨List.mem_of_getElem? (i := 503) (by decide +kernel), good_of_word (by decide +kernel)⟩
theorem dw_5 : lw_in (Cond.fieldLink RX10 39 "GuessFerry" "trial" "LGuessFerry$Standing;") := ⟨List.mem_of_getElem? (i := 611) (by decide +kernel), good_of_word (by decide +kernel)⟩
theorem dw_6 : lw_in (Cond.fieldLink RX10 35 "GuessFerry" "now" "LGuessFerry$Standing;") := ⟨List.mem_of_getElem? (i := 610) (by decide +kernel), good_of_word (by decide +kernel)⟩
theorem dw_7 : lw_in (Cond.initialized RX6) := ⟨List.mem_of_getElem? (i := 179) (by decide +kernel), good_of_word (by decide +kernel)⟩
theorem dw_8 : lw_in (Cond.instantiable RX6 7) := ⟨List.mem_of_getElem? (i := 459) (by decide +kernel), good_of_word (by decide +kernel)⟩
theorem dw_9 : lw_in (Cond.classLink RX10 32 RX6) := ⟨List.mem_of_getElem? (i := 458) (by decide +kernel), good_of_word (by decide +kernel)⟩
theorem dw_10 : lw_in (Cond.fieldLink RX10 28 "GuessFerry" "reader" "LGuessFerry$Reader;") := ⟨List.mem_of_getElem? (i := 609) (by decide +kernel), good_of_word (by decide +kernel)⟩
theorem dw_11 : lw_in (Cond.initialized RX4) := ⟨List.mem_of_getElem? (i := 173) (by decide +kernel), good_of_word (by decide +kernel)⟩
theorem dw_12 : lw_in (Cond.instantiable RX4 8) := ⟨List.mem_of_getElem? (i := 337) (by decide +kernel), good_of_word (by decide +kernel)⟩
theorem dw_13 : lw_in (Cond.classLink RX10 23 RX4) := ⟨List.mem_of_getElem? (i := 336) (by decide +kernel), good_of_word (by decide +kernel)⟩
theorem dw_14 : lw_in (Cond.fieldLink RX10 19 "GuessFerry" "sound" "LGuessFerry$Sound;") := ⟨List.mem_of_getElem? (i := 608) (by decide +kernel), good_of_word (by decide +kernel)⟩
theorem dw_15 : lw_in (Cond.initialized RX5) := ⟨List.mem_of_getElem? (i := 171) (by decide +kernel), good_of_word (by decide +kernel)⟩
theorem dw_16 : lw_in (Cond.instantiable RX5 10) := ⟨List.mem_of_getElem? (i := 215) (by decide +kernel), good_of_word (by decide +kernel)⟩
theorem dw_17 : lw_in (Cond.classLink RX10 16 RX5) := ⟨List.mem_of_getElem? (i := 214) (by decide +kernel), good_of_word (by decide +kernel)⟩
theorem dw_18 : lw_in (Cond.fieldLink RX10 10 "GuessFerry" "tape" "LGuessFerry$Tape;") := ⟨List.mem_of_getElem? (i := 607) (by decide +kernel), good_of_word (by decide +kernel)⟩
theorem dw_19 : lw_in (Cond.initialized RX7) := ⟨List.mem_of_getElem? (i := 170) (by decide +kernel), good_of_word (by decide +kernel)⟩
theorem dw_20 : lw_in (Cond.instantiable RX7 2) := ⟨List.mem_of_getElem? (i := 199) (by decide +kernel), good_of_word (by decide +kernel)⟩
theorem dw_21 : lw_in (Cond.classLink RX10 7 RX7) := ⟨List.mem_of_getElem? (i := 198) (by decide +kernel), good_of_word (by decide +kernel)⟩
set_option maxRecDepth 100000 in
theorem dw_22 : lw_in (Cond.code objectInit ⟨#[0xb1]⟩ 1 none) := ⟨List.mem_of_getElem? (i := 197) rfl, good_of_word (by decide +kernel)⟩
theorem dw_23 : lw_in (Cond.instanceMethod objectInit) := ⟨List.mem_of_getElem? (i := 196) (by decide +kernel), good_of_word (by decide +kernel)⟩
theorem dw_24 : lw_in (Cond.methodLink RX10 1 objectInit) := ⟨List.mem_of_getElem? (i := 195) (by decide +kernel), good_of_word (by decide +kernel)⟩
theorem dw_25 : lw_in (Cond.fieldLink RX5 18 "GuessFerry$Sound" "likely" "[I") := ⟨List.mem_of_getElem? (i := 287) (by decide +kernel), good_of_word (by decide +kernel)⟩
theorem dw_26 : lw_in (Cond.fieldLink RX5 15 "GuessFerry$Sound" "oddsSums" "[I") := ⟨List.mem_of_getElem? (i := 286) (by decide +kernel), good_of_word (by decide +kernel)⟩
theorem dw_27 : lw_in (Cond.fieldLink RX5 9 "GuessFerry$Sound" "odds" "[I") := ⟨List.mem_of_getElem? (i := 284) (by decide +kernel), good_of_word (by decide +kernel)⟩
theorem dw_28 : lw_in (Cond.arrayClass .int) := ⟨List.mem_of_getElem? (i := 255) (by decide +kernel), good_of_word (by decide +kernel)⟩
theorem dw_29 : lw_in (Cond.methodLink RX5 3 objectInit) := ⟨List.mem_of_getElem? (i := 219) (by decide +kernel), good_of_word (by decide +kernel)⟩
set_option maxRecDepth 100000 in
theorem dw_30 : lw_in (Cond.code yX5_init cX5_init 1 none) := ⟨List.mem_of_getElem? (i := 218) rfl, good_of_word (by decide +kernel)⟩
theorem dw_31 : lw_in (Cond.instanceMethod yX5_init) := ⟨List.mem_of_getElem? (i := 217) (by decide +kernel), good_of_word (by decide +kernel)⟩
theorem dw_32 : lw_in (Cond.fieldLink RX7 9 "GuessFerry$Tape" "bytes" "[B") := ⟨List.mem_of_getElem? (i := 204) (by decide +kernel), good_of_word (by decide +kernel)⟩
theorem dw_33 : lw_in (Cond.arrayClass .byte) := ⟨List.mem_of_getElem? (i := 213) (by decide +kernel), good_of_word (by decide +kernel)⟩
theorem dw_34 : lw_in (Cond.methodLink RX7 3 objectInit) := ⟨List.mem_of_getElem? (i := 203) (by decide +kernel), good_of_word (by decide +kernel)⟩
set_option maxRecDepth 100000 in
theorem dw_35 : lw_in (Cond.code yX7_init cX7_init 1 none) := ⟨List.mem_of_getElem? (i := 202) rfl, good_of_word (by decide +kernel)⟩
theorem dw_36 : lw_in (Cond.instanceMethod yX7_init) := ⟨List.mem_of_getElem? (i := 201) (by decide +kernel), good_of_word (by decide +kernel)⟩
theorem dw_37 : lw_in (Cond.fieldLink RX10 70 "GuessFerry" "tellers" "LGuessFerry$Tellers;") := ⟨List.mem_of_getElem? (i := 615) (by decide +kernel), good_of_word (by decide +kernel)⟩
theorem dw_38 : lw_in (Cond.initialized RX8) := ⟨List.mem_of_getElem? (i := 183) (by decide +kernel), good_of_word (by decide +kernel)⟩
theorem dw_39 : lw_in (Cond.instantiable RX8 8) := ⟨List.mem_of_getElem? (i := 569) (by decide +kernel), good_of_word (by decide +kernel)⟩
theorem dw_40 : lw_in (Cond.classLink RX10 67 RX8) := ⟨List.mem_of_getElem? (i := 568) (by decide +kernel), good_of_word (by decide +kernel)⟩
theorem dw_41 : lw_in (Cond.fieldLink RX10 63 "GuessFerry" "outlook" "LGuessFerry$Outlook;") := ⟨List.mem_of_getElem? (i := 614) (by decide +kernel), good_of_word (by decide +kernel)⟩
theorem dw_42 : lw_in (Cond.initialized RX2) := ⟨List.mem_of_getElem? (i := 182) (by decide +kernel), good_of_word (by decide +kernel)⟩
theorem dw_43 : lw_in (Cond.instantiable RX2 6) := ⟨List.mem_of_getElem? (i := 544) (by decide +kernel), good_of_word (by decide +kernel)⟩
theorem dw_44 : lw_in (Cond.classLink RX10 58 RX2) := ⟨List.mem_of_getElem? (i := 543) (by decide +kernel), good_of_word (by decide +kernel)⟩
theorem dw_45 : lw_in (Cond.fieldLink RX10 54 "GuessFerry" "crossing" "LGuessFerry$Crossing;") := ⟨List.mem_of_getElem? (i := 613) (by decide +kernel), good_of_word (by decide +kernel)⟩
theorem dw_46 : lw_in (Cond.initialized RX0) := ⟨List.mem_of_getElem? (i := 181) (by decide +kernel), good_of_word (by decide +kernel)⟩
theorem dw_47 : lw_in (Cond.instantiable RX0 2) := ⟨List.mem_of_getElem? (i := 531) (by decide +kernel), good_of_word (by decide +kernel)⟩
theorem dw_48 : lw_in (Cond.classLink RX10 49 RX0) := ⟨List.mem_of_getElem? (i := 530) (by decide +kernel), good_of_word (by decide +kernel)⟩
theorem dw_49 : lw_in (Cond.instanceMethod yX1_clear) := ⟨List.mem_of_getElem? (i := 262) (by decide +kernel), good_of_word (by decide +kernel)⟩
theorem dw_50 : lw_in (Cond.fieldLink RX5 47 "GuessFerry$Sound" "seed" "I") := ⟨List.mem_of_getElem? (i := 311) (by decide +kernel), good_of_word (by decide +kernel)⟩
theorem dw_51 : lw_in (Cond.fieldLink RX5 44 "GuessFerry$Sound" "guesses" "I") := ⟨List.mem_of_getElem? (i := 309) (by decide +kernel), good_of_word (by decide +kernel)⟩
theorem dw_52 : lw_in (Cond.fieldLink RX5 41 "GuessFerry$Sound" "parties" "I") := ⟨List.mem_of_getElem? (i := 306) (by decide +kernel), good_of_word (by decide +kernel)⟩
theorem dw_53 : lw_in (Cond.fieldLink RX5 37 "GuessFerry$Sound" "waves" "I") := ⟨List.mem_of_getElem? (i := 300) (by decide +kernel), good_of_word (by decide +kernel)⟩
set_option maxRecDepth 100000 in
theorem dw_54 : lw_in (Cond.code yX5_clear cX5_clear 1 none) := ⟨List.mem_of_getElem? (i := 259) rfl, good_of_word (by decide +kernel)⟩
theorem dw_55 : lw_in (Cond.selects RX5 yX5_clear yX5_clear) := ⟨List.mem_of_getElem? (i := 0) (by decide +kernel), good_of_word (by decide +kernel)⟩
theorem dw_56 : lw_in (Cond.instanceMethod yX5_clear) := ⟨List.mem_of_getElem? (i := 258) (by decide +kernel), good_of_word (by decide +kernel)⟩
theorem dw_57 : lw_in (Cond.methodLink RX5 34 yX5_clear) := ⟨List.mem_of_getElem? (i := 256) (by decide +kernel), good_of_word (by decide +kernel)⟩
theorem dw_58 : lw_in (Cond.fieldLink RX1 31 "GuessFerry$Laws" "stack" "[I") := ⟨List.mem_of_getElem? (i := 232) (by decide +kernel), good_of_word (by decide +kernel)⟩
theorem dw_59 : lw_in (Cond.fieldLink RX1 28 "GuessFerry$Laws" "vars" "[I") := ⟨List.mem_of_getElem? (i := 231) (by decide +kernel), good_of_word (by decide +kernel)⟩
theorem dw_60 : lw_in (Cond.fieldLink RX1 25 "GuessFerry$Laws" "partCounts" "[I") := ⟨List.mem_of_getElem? (i := 229) (by decide +kernel), good_of_word (by decide +kernel)⟩
theorem dw_61 : lw_in (Cond.fieldLink RX1 22 "GuessFerry$Laws" "lawStarts" "[I") := ⟨List.mem_of_getElem? (i := 228) (by decide +kernel), good_of_word (by decide +kernel)⟩
theorem dw_62 : lw_in (Cond.fieldLink RX1 19 "GuessFerry$Laws" "partEnds" "[I") := ⟨List.mem_of_getElem? (i := 227) (by decide +kernel), good_of_word (by decide +kernel)⟩
theorem dw_63 : lw_in (Cond.fieldLink RX1 15 "GuessFerry$Laws" "steps" "[I") := ⟨List.mem_of_getElem? (i := 226) (by decide +kernel), good_of_word (by decide +kernel)⟩
theorem dw_64 : lw_in (Cond.methodLink RX1 9 objectInit) := ⟨List.mem_of_getElem? (i := 225) (by decide +kernel), good_of_word (by decide +kernel)⟩
set_option maxRecDepth 100000 in
theorem dw_65 : lw_in (Cond.code yX1_init cX1_init 1 none) := ⟨List.mem_of_getElem? (i := 224) rfl, good_of_word (by decide +kernel)⟩
theorem dw_66 : lw_in (Cond.instanceMethod yX1_init) := ⟨List.mem_of_getElem? (i := 223) (by decide +kernel), good_of_word (by decide +kernel)⟩
theorem dw_67 : lw_in (Cond.fieldLink RX5 30 "GuessFerry$Sound" "laws" "LGuessFerry$Laws;") := ⟨List.mem_of_getElem? (i := 298) (by decide +kernel), good_of_word (by decide +kernel)⟩
theorem dw_68 : lw_in (Cond.initialized RX1) := ⟨List.mem_of_getElem? (i := 172) (by decide +kernel), good_of_word (by decide +kernel)⟩
theorem dw_69 : lw_in (Cond.instantiable RX1 9) := ⟨List.mem_of_getElem? (i := 221) (by decide +kernel), good_of_word (by decide +kernel)⟩
theorem dw_70 : lw_in (Cond.classLink RX5 27 RX1) := ⟨List.mem_of_getElem? (i := 220) (by decide +kernel), good_of_word (by decide +kernel)⟩
theorem dw_71 : lw_in (Cond.fieldLink RX5 24 "GuessFerry$Sound" "nerve" "[I") := ⟨List.mem_of_getElem? (i := 293) (by decide +kernel), good_of_word (by decide +kernel)⟩
theorem dw_72 : lw_in (Cond.fieldLink RX5 21 "GuessFerry$Sound" "heavy" "[I") := ⟨List.mem_of_getElem? (i := 289) (by decide +kernel), good_of_word (by decide +kernel)⟩
set_option maxRecDepth 100000 in
theorem dw_73 : lw_in (Cond.code yX1_putNumber cX1_putNumber 2 none) := ⟨List.mem_of_getElem? (i := 283) rfl, good_of_word (by decide +kernel)⟩
theorem dw_74 : lw_in (Cond.selects RX1 yX1_putNumber yX1_putNumber) := ⟨List.mem_of_getElem? (i := 6) (by decide +kernel), good_of_word (by decide +kernel)⟩
theorem dw_75 : lw_in (Cond.instanceMethod yX1_putNumber) := ⟨List.mem_of_getElem? (i := 282) (by decide +kernel), good_of_word (by decide +kernel)⟩
theorem dw_76 : lw_in (Cond.methodLink RX1 48 yX1_putNumber) := ⟨List.mem_of_getElem? (i := 280) (by decide +kernel), good_of_word (by decide +kernel)⟩
set_option maxRecDepth 100000 in
theorem dw_77 : lw_in (Cond.code yX1_endPart cX1_endPart 2 none) := ⟨List.mem_of_getElem? (i := 279) rfl, good_of_word (by decide +kernel)⟩
theorem dw_78 : lw_in (Cond.selects RX1 yX1_endPart yX1_endPart) := ⟨List.mem_of_getElem? (i := 5) (by decide +kernel), good_of_word (by decide +kernel)⟩
theorem dw_79 : lw_in (Cond.instanceMethod yX1_endPart) := ⟨List.mem_of_getElem? (i := 278) (by decide +kernel), good_of_word (by decide +kernel)⟩
theorem dw_80 : lw_in (Cond.methodLink RX1 45 yX1_endPart) := ⟨List.mem_of_getElem? (i := 276) (by decide +kernel), good_of_word (by decide +kernel)⟩
set_option maxRecDepth 100000 in
theorem dw_81 : lw_in (Cond.code yX1_put cX1_put 2 none) := ⟨List.mem_of_getElem? (i := 275) rfl, good_of_word (by decide +kernel)⟩
theorem dw_82 : lw_in (Cond.selects RX1 yX1_put yX1_put) := ⟨List.mem_of_getElem? (i := 4) (by decide +kernel), good_of_word (by decide +kernel)⟩
theorem dw_83 : lw_in (Cond.instanceMethod yX1_put) := ⟨List.mem_of_getElem? (i := 274) (by decide +kernel), good_of_word (by decide +kernel)⟩
theorem dw_84 : lw_in (Cond.methodLink RX1 60 yX1_put) := ⟨List.mem_of_getElem? (i := 272) (by decide +kernel), good_of_word (by decide +kernel)⟩
set_option maxRecDepth 100000 in
theorem dw_85 : lw_in (Cond.code yX1_putVar cX1_putVar 2 none) := ⟨List.mem_of_getElem? (i := 271) rfl, good_of_word (by decide +kernel)⟩
theorem dw_86 : lw_in (Cond.selects RX1 yX1_putVar yX1_putVar) := ⟨List.mem_of_getElem? (i := 3) (by decide +kernel), good_of_word (by decide +kernel)⟩
theorem dw_87 : lw_in (Cond.instanceMethod yX1_putVar) := ⟨List.mem_of_getElem? (i := 270) (by decide +kernel), good_of_word (by decide +kernel)⟩
theorem dw_88 : lw_in (Cond.methodLink RX1 42 yX1_putVar) := ⟨List.mem_of_getElem? (i := 268) (by decide +kernel), good_of_word (by decide +kernel)⟩
theorem dw_89 : lw_in (Cond.fieldLink RX1 57 "GuessFerry$Laws" "current" "I") := ⟨List.mem_of_getElem? (i := 234) (by decide +kernel), good_of_word (by decide +kernel)⟩
set_option maxRecDepth 100000 in
theorem dw_90 : lw_in (Cond.code yX1_begin cX1_begin 2 none) := ⟨List.mem_of_getElem? (i := 267) rfl, good_of_word (by decide +kernel)⟩
theorem dw_91 : lw_in (Cond.selects RX1 yX1_begin yX1_begin) := ⟨List.mem_of_getElem? (i := 2) (by decide +kernel), good_of_word (by decide +kernel)⟩
theorem dw_92 : lw_in (Cond.instanceMethod yX1_begin) := ⟨List.mem_of_getElem? (i := 266) (by decide +kernel), good_of_word (by decide +kernel)⟩
theorem dw_93 : lw_in (Cond.methodLink RX1 38 yX1_begin) := ⟨List.mem_of_getElem? (i := 264) (by decide +kernel), good_of_word (by decide +kernel)⟩
theorem dw_94 : lw_in (Cond.fieldLink RX1 34 "GuessFerry$Laws" "length" "I") := ⟨List.mem_of_getElem? (i := 233) (by decide +kernel), good_of_word (by decide +kernel)⟩
set_option maxRecDepth 100000 in
theorem dw_95 : lw_in (Cond.code yX1_clear cX1_clear 1 none) := ⟨List.mem_of_getElem? (i := 263) rfl, good_of_word (by decide +kernel)⟩
theorem dw_96 : lw_in (Cond.selects RX1 yX1_clear yX1_clear) := ⟨List.mem_of_getElem? (i := 1) (by decide +kernel), good_of_word (by decide +kernel)⟩
theorem dw_97 : lw_in (Cond.initialized RJ0) := ⟨List.mem_of_getElem? (i := 175) (by decide +kernel), good_of_word (by decide +kernel)⟩
theorem dw_98 : lw_in (Cond.selects RJ0 yJ0_length_8abf5 yJ0_length_8abf5) := ⟨List.mem_of_getElem? (i := 353) (by decide +kernel), good_of_word (by decide +kernel)⟩
theorem dw_99 : lw_in (Cond.instanceMethod yJ0_length_8abf5) := ⟨List.mem_of_getElem? (i := 352) (by decide +kernel), good_of_word (by decide +kernel)⟩
theorem dw_100 : lw_in (Cond.methodLink RX9 29 yJ0_length_8abf5) := ⟨List.mem_of_getElem? (i := 351) (by decide +kernel), good_of_word (by decide +kernel)⟩
theorem dw_101 : lw_in (Cond.fieldLink RX9 23 "GuessFerry$Tokens" "tape" "LGuessFerry$Tape;") := ⟨List.mem_of_getElem? (i := 405) (by decide +kernel), good_of_word (by decide +kernel)⟩
theorem dw_102 : lw_in (Cond.fieldLink RX9 20 "GuessFerry$Tokens" "values" "[J") := ⟨List.mem_of_getElem? (i := 411) (by decide +kernel), good_of_word (by decide +kernel)⟩
theorem dw_103 : lw_in (Cond.fieldLink RX9 17 "GuessFerry$Tokens" "starts" "[I") := ⟨List.mem_of_getElem? (i := 409) (by decide +kernel), good_of_word (by decide +kernel)⟩
theorem dw_104 : lw_in (Cond.fieldLink RX9 13 "GuessFerry$Tokens" "kinds" "[I") := ⟨List.mem_of_getElem? (i := 407) (by decide +kernel), good_of_word (by decide +kernel)⟩
theorem dw_105 : lw_in (Cond.fieldLink RX9 9 "GuessFerry$Tokens" "words" "[J") := ⟨List.mem_of_getElem? (i := 406) (by decide +kernel), good_of_word (by decide +kernel)⟩
theorem dw_106 : lw_in (Cond.methodLink RX9 3 objectInit) := ⟨List.mem_of_getElem? (i := 349) (by decide +kernel), good_of_word (by decide +kernel)⟩
set_option maxRecDepth 100000 in
theorem dw_107 : lw_in (Cond.code yX9_init cX9_init 7 none) := ⟨List.mem_of_getElem? (i := 348) rfl, good_of_word (by decide +kernel)⟩
theorem dw_108 : lw_in (Cond.instanceMethod yX9_init) := ⟨List.mem_of_getElem? (i := 347) (by decide +kernel), good_of_word (by decide +kernel)⟩
theorem dw_109 : lw_in (Cond.fieldLink RX4 31 "GuessFerry$Reader" "tokens" "LGuessFerry$Tokens;") := ⟨List.mem_of_getElem? (i := 431) (by decide +kernel), good_of_word (by decide +kernel)⟩
theorem dw_110 : lw_in (Cond.initialized RX9) := ⟨List.mem_of_getElem? (i := 174) (by decide +kernel), good_of_word (by decide +kernel)⟩
theorem dw_111 : lw_in (Cond.instantiable RX9 7) := ⟨List.mem_of_getElem? (i := 345) (by decide +kernel), good_of_word (by decide +kernel)⟩
theorem dw_112 : lw_in (Cond.classLink RX4 26 RX9) := ⟨List.mem_of_getElem? (i := 344) (by decide +kernel), good_of_word (by decide +kernel)⟩
theorem dw_113 : lw_in (Cond.fieldLink RX4 22 "GuessFerry$Reader" "faultPlace" "I") := ⟨List.mem_of_getElem? (i := 437) (by decide +kernel), good_of_word (by decide +kernel)⟩
theorem dw_114 : lw_in (Cond.fieldLink RX4 18 "GuessFerry$Reader" "names" "[J") := ⟨List.mem_of_getElem? (i := 434) (by decide +kernel), good_of_word (by decide +kernel)⟩
theorem dw_115 : lw_in (Cond.arrayClass .long) := ⟨List.mem_of_getElem? (i := 430) (by decide +kernel), good_of_word (by decide +kernel)⟩
theorem dw_116 : lw_in (Cond.fieldLink RX4 12 "GuessFerry$Reader" "draft" "LGuessFerry$Sound;") := ⟨List.mem_of_getElem? (i := 432) (by decide +kernel), good_of_word (by decide +kernel)⟩
theorem dw_117 : lw_in (Cond.classLink RX4 9 RX5) := ⟨List.mem_of_getElem? (i := 342) (by decide +kernel), good_of_word (by decide +kernel)⟩
theorem dw_118 : lw_in (Cond.methodLink RX4 3 objectInit) := ⟨List.mem_of_getElem? (i := 341) (by decide +kernel), good_of_word (by decide +kernel)⟩
set_option maxRecDepth 100000 in
theorem dw_119 : lw_in (Cond.code yX4_init cX4_init 2 none) := ⟨List.mem_of_getElem? (i := 340) rfl, good_of_word (by decide +kernel)⟩
theorem dw_120 : lw_in (Cond.instanceMethod yX4_init) := ⟨List.mem_of_getElem? (i := 339) (by decide +kernel), good_of_word (by decide +kernel)⟩
theorem dw_121 : lw_in (Cond.fieldLink RJ0 1053 "jdk/internal/util/Preconditions" "SIOOBE_FORMATTER" "Ljava/util/function/BiFunction;") := ⟨List.mem_of_getElem? (i := 375) (by decide +kernel), good_of_word (by decide +kernel)⟩
set_option maxRecDepth 100000 in
theorem dw_122 : lw_in (Cond.code yJ0_checkIndex_df160 cJ0_checkIndex_df160 2 none) := ⟨List.mem_of_getElem? (i := 374) rfl, good_of_word (by decide +kernel)⟩
theorem dw_123 : lw_in (Cond.static yJ0_checkIndex_df160) := ⟨List.mem_of_getElem? (i := 373) (by decide +kernel), good_of_word (by decide +kernel)⟩
theorem dw_124 : lw_in (Cond.methodLink RJ1 9 yJ0_checkIndex_df160) := ⟨List.mem_of_getElem? (i := 372) (by decide +kernel), good_of_word (by decide +kernel)⟩
set_option maxRecDepth 100000 in
theorem dw_125 : lw_in (Cond.code yJ1_charAt_3b067 cJ1_charAt_3b067 2 (some .char)) := ⟨List.mem_of_getElem? (i := 371) rfl, good_of_word (by decide +kernel)⟩
theorem dw_126 : lw_in (Cond.initialized RJ1) := ⟨List.mem_of_getElem? (i := 176) (by decide +kernel), good_of_word (by decide +kernel)⟩
theorem dw_127 : lw_in (Cond.static yJ1_charAt_3b067) := ⟨List.mem_of_getElem? (i := 370) (by decide +kernel), good_of_word (by decide +kernel)⟩
theorem dw_128 : lw_in (Cond.methodLink RJ0 495 yJ1_charAt_3b067) := ⟨List.mem_of_getElem? (i := 369) (by decide +kernel), good_of_word (by decide +kernel)⟩
set_option maxRecDepth 100000 in
theorem dw_129 : lw_in (Cond.code yJ0_isLatin1_aae02 cJ0_isLatin1_aae02 1 (some .boolean)) := ⟨List.mem_of_getElem? (i := 368) rfl, good_of_word (by decide +kernel)⟩
theorem dw_130 : lw_in (Cond.selects RJ0 yJ0_isLatin1_aae02 yJ0_isLatin1_aae02) := ⟨List.mem_of_getElem? (i := 367) (by decide +kernel), good_of_word (by decide +kernel)⟩
theorem dw_131 : lw_in (Cond.instanceMethod yJ0_isLatin1_aae02) := ⟨List.mem_of_getElem? (i := 366) (by decide +kernel), good_of_word (by decide +kernel)⟩
theorem dw_132 : lw_in (Cond.methodLink RJ0 492 yJ0_isLatin1_aae02) := ⟨List.mem_of_getElem? (i := 365) (by decide +kernel), good_of_word (by decide +kernel)⟩
set_option maxRecDepth 100000 in
theorem dw_133 : lw_in (Cond.code yJ0_charAt_5068e cJ0_charAt_5068e 2 (some .char)) := ⟨List.mem_of_getElem? (i := 364) rfl, good_of_word (by decide +kernel)⟩
theorem dw_134 : lw_in (Cond.selects RJ0 yJ0_charAt_5068e yJ0_charAt_5068e) := ⟨List.mem_of_getElem? (i := 363) (by decide +kernel), good_of_word (by decide +kernel)⟩
theorem dw_135 : lw_in (Cond.instanceMethod yJ0_charAt_5068e) := ⟨List.mem_of_getElem? (i := 362) (by decide +kernel), good_of_word (by decide +kernel)⟩
theorem dw_136 : lw_in (Cond.methodLink RX9 35 yJ0_charAt_5068e) := ⟨List.mem_of_getElem? (i := 361) (by decide +kernel), good_of_word (by decide +kernel)⟩
theorem dw_137 : lw_in (Cond.fieldLink RJ0 15 "java/lang/String" "coder" "B") := ⟨List.mem_of_getElem? (i := 2009) (by decide +kernel), good_of_word (by decide +kernel)⟩
theorem dw_138 : lw_in (Cond.fieldLink RJ0 38 "java/lang/String" "COMPACT_STRINGS" "Z") := ⟨List.mem_of_getElem? (i := 359) (by decide +kernel), good_of_word (by decide +kernel)⟩
set_option maxRecDepth 100000 in
theorem dw_139 : lw_in (Cond.code yJ0_coder_7d493 cJ0_coder_7d493 1 (some .byte)) := ⟨List.mem_of_getElem? (i := 358) rfl, good_of_word (by decide +kernel)⟩
theorem dw_140 : lw_in (Cond.selects RJ0 yJ0_coder_7d493 yJ0_coder_7d493) := ⟨List.mem_of_getElem? (i := 357) (by decide +kernel), good_of_word (by decide +kernel)⟩
theorem dw_141 : lw_in (Cond.instanceMethod yJ0_coder_7d493) := ⟨List.mem_of_getElem? (i := 356) (by decide +kernel), good_of_word (by decide +kernel)⟩
theorem dw_142 : lw_in (Cond.methodLink RJ0 335 yJ0_coder_7d493) := ⟨List.mem_of_getElem? (i := 355) (by decide +kernel), good_of_word (by decide +kernel)⟩
theorem dw_143 : lw_in (Cond.fieldLink RJ0 9 "java/lang/String" "value" "[B") := ⟨List.mem_of_getElem? (i := 2008) (by decide +kernel), good_of_word (by decide +kernel)⟩
set_option maxRecDepth 100000 in
theorem dw_144 : lw_in (Cond.code yJ0_length_8abf5 cJ0_length_8abf5 1 (some .int)) := ⟨List.mem_of_getElem? (i := 354) rfl, good_of_word (by decide +kernel)⟩
set_option maxRecDepth 100000 in
theorem dw_145 : lw_in (Cond.code yX9_isLetter cX9_isLetter 1 (some .boolean)) := ⟨List.mem_of_getElem? (i := 401) rfl, good_of_word (by decide +kernel)⟩
theorem dw_146 : lw_in (Cond.static yX9_isLetter) := ⟨List.mem_of_getElem? (i := 400) (by decide +kernel), good_of_word (by decide +kernel)⟩
theorem dw_147 : lw_in (Cond.methodLink RX9 39 yX9_isLetter) := ⟨List.mem_of_getElem? (i := 399) (by decide +kernel), good_of_word (by decide +kernel)⟩
theorem dw_148 : lw_in (Cond.fieldLink RJ2 63 "java/lang/StringUTF16" "LO_BYTE_SHIFT" "I") := ⟨List.mem_of_getElem? (i := 397) (by decide +kernel), good_of_word (by decide +kernel)⟩
theorem dw_149 : lw_in (Cond.fieldLink RJ2 59 "java/lang/StringUTF16" "HI_BYTE_SHIFT" "I") := ⟨List.mem_of_getElem? (i := 395) (by decide +kernel), good_of_word (by decide +kernel)⟩
theorem dw_150 : lw_in (Cond.fieldLink RJ2 44 "java/lang/StringUTF16" "$assertionsDisabled" "Z") := ⟨List.mem_of_getElem? (i := 393) (by decide +kernel), good_of_word (by decide +kernel)⟩
set_option maxRecDepth 100000 in
theorem dw_151 : lw_in (Cond.code yJ2_getChar_3b067 cJ2_getChar_3b067 2 (some .char)) := ⟨List.mem_of_getElem? (i := 392) rfl, good_of_word (by decide +kernel)⟩
theorem dw_152 : lw_in (Cond.static yJ2_getChar_3b067) := ⟨List.mem_of_getElem? (i := 391) (by decide +kernel), good_of_word (by decide +kernel)⟩
theorem dw_153 : lw_in (Cond.methodLink RJ2 71 yJ2_getChar_3b067) := ⟨List.mem_of_getElem? (i := 390) (by decide +kernel), good_of_word (by decide +kernel)⟩
theorem dw_154 : lw_in (Cond.methodLink RJ2 414 yJ0_checkIndex_df160) := ⟨List.mem_of_getElem? (i := 389) (by decide +kernel), good_of_word (by decide +kernel)⟩
set_option maxRecDepth 100000 in
theorem dw_155 : lw_in (Cond.code yJ2_length_9d52b cJ2_length_9d52b 1 (some .int)) := ⟨List.mem_of_getElem? (i := 388) rfl, good_of_word (by decide +kernel)⟩
theorem dw_156 : lw_in (Cond.static yJ2_length_9d52b) := ⟨List.mem_of_getElem? (i := 387) (by decide +kernel), good_of_word (by decide +kernel)⟩
theorem dw_157 : lw_in (Cond.methodLink RJ2 48 yJ2_length_9d52b) := ⟨List.mem_of_getElem? (i := 386) (by decide +kernel), good_of_word (by decide +kernel)⟩
set_option maxRecDepth 100000 in
theorem dw_158 : lw_in (Cond.code yJ2_checkIndex_2214a cJ2_checkIndex_2214a 2 none) := ⟨List.mem_of_getElem? (i := 385) rfl, good_of_word (by decide +kernel)⟩
theorem dw_159 : lw_in (Cond.static yJ2_checkIndex_2214a) := ⟨List.mem_of_getElem? (i := 384) (by decide +kernel), good_of_word (by decide +kernel)⟩
theorem dw_160 : lw_in (Cond.methodLink RJ2 67 yJ2_checkIndex_2214a) := ⟨List.mem_of_getElem? (i := 383) (by decide +kernel), good_of_word (by decide +kernel)⟩
set_option maxRecDepth 100000 in
theorem dw_161 : lw_in (Cond.code yJ2_charAt_3b067 cJ2_charAt_3b067 2 (some .char)) := ⟨List.mem_of_getElem? (i := 382) rfl, good_of_word (by decide +kernel)⟩
theorem dw_162 : lw_in (Cond.initialized RJ2) := ⟨List.mem_of_getElem? (i := 178) (by decide +kernel), good_of_word (by decide +kernel)⟩
theorem dw_163 : lw_in (Cond.static yJ2_charAt_3b067) := ⟨List.mem_of_getElem? (i := 381) (by decide +kernel), good_of_word (by decide +kernel)⟩
theorem dw_164 : lw_in (Cond.methodLink RJ0 498 yJ2_charAt_3b067) := ⟨List.mem_of_getElem? (i := 380) (by decide +kernel), good_of_word (by decide +kernel)⟩
set_option maxRecDepth 100000 in
theorem dw_165 : lw_in (Cond.code yJ3_checkIndex_8e157 cJ3_checkIndex_8e157 3 (some .int)) := ⟨List.mem_of_getElem? (i := 379) rfl, good_of_word (by decide +kernel)⟩
theorem dw_166 : lw_in (Cond.initialized RJ3) := ⟨List.mem_of_getElem? (i := 177) (by decide +kernel), good_of_word (by decide +kernel)⟩
theorem dw_167 : lw_in (Cond.static yJ3_checkIndex_8e157) := ⟨List.mem_of_getElem? (i := 378) (by decide +kernel), good_of_word (by decide +kernel)⟩
theorem dw_168 : lw_in (Cond.methodLink RJ0 1059 yJ3_checkIndex_8e157) := ⟨List.mem_of_getElem? (i := 377) (by decide +kernel), good_of_word (by decide +kernel)⟩
theorem dw_169 : lw_in (Cond.fieldLink RX0 27 "GuessFerry$Crossing" "vars" "[I") := ⟨List.mem_of_getElem? (i := 537) (by decide +kernel), good_of_word (by decide +kernel)⟩
theorem dw_170 : lw_in (Cond.fieldLink RX0 9 "GuessFerry$Crossing" "sound" "LGuessFerry$Sound;") := ⟨List.mem_of_getElem? (i := 536) (by decide +kernel), good_of_word (by decide +kernel)⟩
theorem dw_171 : lw_in (Cond.methodLink RX0 3 objectInit) := ⟨List.mem_of_getElem? (i := 535) (by decide +kernel), good_of_word (by decide +kernel)⟩
set_option maxRecDepth 100000 in
theorem dw_172 : lw_in (Cond.code yX0_init cX0_init 2 none) := ⟨List.mem_of_getElem? (i := 534) rfl, good_of_word (by decide +kernel)⟩
theorem dw_173 : lw_in (Cond.instanceMethod yX0_init) := ⟨List.mem_of_getElem? (i := 533) (by decide +kernel), good_of_word (by decide +kernel)⟩
theorem dw_174 : lw_in (Cond.fieldLink RX3 20 "GuessFerry$Past" "isHeld" "[Z") := ⟨List.mem_of_getElem? (i := 514) (by decide +kernel), good_of_word (by decide +kernel)⟩
theorem dw_175 : lw_in (Cond.arrayClass .boolean) := ⟨List.mem_of_getElem? (i := 529) (by decide +kernel), good_of_word (by decide +kernel)⟩
theorem dw_176 : lw_in (Cond.fieldLink RX3 17 "GuessFerry$Past" "slots" "[LGuessFerry$Standing;") := ⟨List.mem_of_getElem? (i := 513) (by decide +kernel), good_of_word (by decide +kernel)⟩
theorem dw_177 : lw_in (Cond.fieldLink RX3 11 "GuessFerry$Past" "ring" "[LGuessFerry$Standing;") := ⟨List.mem_of_getElem? (i := 512) (by decide +kernel), good_of_word (by decide +kernel)⟩
theorem dw_178 : lw_in (Cond.classLink RX3 9 RX6) := ⟨List.mem_of_getElem? (i := 509) (by decide +kernel), good_of_word (by decide +kernel)⟩
theorem dw_179 : lw_in (Cond.methodLink RX3 3 objectInit) := ⟨List.mem_of_getElem? (i := 508) (by decide +kernel), good_of_word (by decide +kernel)⟩
set_option maxRecDepth 100000 in
theorem dw_180 : lw_in (Cond.code yX3_init cX3_init 2 none) := ⟨List.mem_of_getElem? (i := 507) rfl, good_of_word (by decide +kernel)⟩
theorem dw_181 : lw_in (Cond.instanceMethod yX3_init) := ⟨List.mem_of_getElem? (i := 506) (by decide +kernel), good_of_word (by decide +kernel)⟩
theorem dw_182 : lw_in (Cond.fieldLink RX6 24 "GuessFerry$Standing" "goes" "[I") := ⟨List.mem_of_getElem? (i := 478) (by decide +kernel), good_of_word (by decide +kernel)⟩
theorem dw_183 : lw_in (Cond.fieldLink RX6 21 "GuessFerry$Standing" "status" "[I") := ⟨List.mem_of_getElem? (i := 475) (by decide +kernel), good_of_word (by decide +kernel)⟩
theorem dw_184 : lw_in (Cond.fieldLink RX6 18 "GuessFerry$Standing" "shifted" "[I") := ⟨List.mem_of_getElem? (i := 472) (by decide +kernel), good_of_word (by decide +kernel)⟩
theorem dw_185 : lw_in (Cond.fieldLink RX6 15 "GuessFerry$Standing" "buoys" "[I") := ⟨List.mem_of_getElem? (i := 468) (by decide +kernel), good_of_word (by decide +kernel)⟩
theorem dw_186 : lw_in (Cond.fieldLink RX6 9 "GuessFerry$Standing" "found" "[I") := ⟨List.mem_of_getElem? (i := 464) (by decide +kernel), good_of_word (by decide +kernel)⟩
theorem dw_187 : lw_in (Cond.methodLink RX6 3 objectInit) := ⟨List.mem_of_getElem? (i := 463) (by decide +kernel), good_of_word (by decide +kernel)⟩
set_option maxRecDepth 100000 in
theorem dw_188 : lw_in (Cond.code yX6_init cX6_init 1 none) := ⟨List.mem_of_getElem? (i := 462) rfl, good_of_word (by decide +kernel)⟩
theorem dw_189 : lw_in (Cond.instanceMethod yX6_init) := ⟨List.mem_of_getElem? (i := 461) (by decide +kernel), good_of_word (by decide +kernel)⟩
set_option maxRecDepth 100000 in
theorem dw_190 : lw_in (Cond.code yX9_withLetter cX9_withLetter 3 (some .long)) := ⟨List.mem_of_getElem? (i := 404) rfl, good_of_word (by decide +kernel)⟩
theorem dw_191 : lw_in (Cond.static yX9_withLetter) := ⟨List.mem_of_getElem? (i := 403) (by decide +kernel), good_of_word (by decide +kernel)⟩
theorem dw_192 : lw_in (Cond.methodLink RX9 43 yX9_withLetter) := ⟨List.mem_of_getElem? (i := 402) (by decide +kernel), good_of_word (by decide +kernel)⟩
theorem dw_193 : lw_in (Cond.fieldLink RX6 37 "GuessFerry$Standing" "paid" "I") := ⟨List.mem_of_getElem? (i := 485) (by decide +kernel), good_of_word (by decide +kernel)⟩
theorem dw_194 : lw_in (Cond.fieldLink RX6 33 "GuessFerry$Standing" "year" "I") := ⟨List.mem_of_getElem? (i := 482) (by decide +kernel), good_of_word (by decide +kernel)⟩
set_option maxRecDepth 100000 in
theorem dw_195 : lw_in (Cond.code yX6_startOver cX6_startOver 1 none) := ⟨List.mem_of_getElem? (i := 603) rfl, good_of_word (by decide +kernel)⟩
theorem dw_196 : lw_in (Cond.selects RX6 yX6_startOver yX6_startOver) := ⟨List.mem_of_getElem? (i := 7) (by decide +kernel), good_of_word (by decide +kernel)⟩
theorem dw_197 : lw_in (Cond.instanceMethod yX6_startOver) := ⟨List.mem_of_getElem? (i := 602) (by decide +kernel), good_of_word (by decide +kernel)⟩
theorem dw_198 : lw_in (Cond.fieldLink RX8 31 "GuessFerry$Tellers" "crossing" "LGuessFerry$Crossing;") := ⟨List.mem_of_getElem? (i := 575) (by decide +kernel), good_of_word (by decide +kernel)⟩
theorem dw_199 : lw_in (Cond.fieldLink RX8 27 "GuessFerry$Tellers" "sound" "LGuessFerry$Sound;") := ⟨List.mem_of_getElem? (i := 574) (by decide +kernel), good_of_word (by decide +kernel)⟩
theorem dw_200 : lw_in (Cond.fieldLink RX8 24 "GuessFerry$Tellers" "byLies" "[I") := ⟨List.mem_of_getElem? (i := 580) (by decide +kernel), good_of_word (by decide +kernel)⟩
theorem dw_201 : lw_in (Cond.fieldLink RX8 21 "GuessFerry$Tellers" "belied" "[I") := ⟨List.mem_of_getElem? (i := 579) (by decide +kernel), good_of_word (by decide +kernel)⟩
theorem dw_202 : lw_in (Cond.fieldLink RX8 18 "GuessFerry$Tellers" "odds" "[I") := ⟨List.mem_of_getElem? (i := 578) (by decide +kernel), good_of_word (by decide +kernel)⟩
theorem dw_203 : lw_in (Cond.fieldLink RX8 15 "GuessFerry$Tellers" "toldThings" "[I") := ⟨List.mem_of_getElem? (i := 577) (by decide +kernel), good_of_word (by decide +kernel)⟩
theorem dw_204 : lw_in (Cond.fieldLink RX8 9 "GuessFerry$Tellers" "toldWaves" "[I") := ⟨List.mem_of_getElem? (i := 576) (by decide +kernel), good_of_word (by decide +kernel)⟩
theorem dw_205 : lw_in (Cond.methodLink RX8 3 objectInit) := ⟨List.mem_of_getElem? (i := 573) (by decide +kernel), good_of_word (by decide +kernel)⟩
set_option maxRecDepth 100000 in
theorem dw_206 : lw_in (Cond.code yX8_init cX8_init 3 none) := ⟨List.mem_of_getElem? (i := 572) rfl, good_of_word (by decide +kernel)⟩
theorem dw_207 : lw_in (Cond.instanceMethod yX8_init) := ⟨List.mem_of_getElem? (i := 571) (by decide +kernel), good_of_word (by decide +kernel)⟩
theorem dw_208 : lw_in (Cond.fieldLink RX2 28 "GuessFerry$Outlook" "crossing" "LGuessFerry$Crossing;") := ⟨List.mem_of_getElem? (i := 550) (by decide +kernel), good_of_word (by decide +kernel)⟩
theorem dw_209 : lw_in (Cond.fieldLink RX2 24 "GuessFerry$Outlook" "sound" "LGuessFerry$Sound;") := ⟨List.mem_of_getElem? (i := 549) (by decide +kernel), good_of_word (by decide +kernel)⟩
theorem dw_210 : lw_in (Cond.fieldLink RX2 21 "GuessFerry$Outlook" "topOdds" "[I") := ⟨List.mem_of_getElem? (i := 554) (by decide +kernel), good_of_word (by decide +kernel)⟩
theorem dw_211 : lw_in (Cond.fieldLink RX2 18 "GuessFerry$Outlook" "topGuesses" "[I") := ⟨List.mem_of_getElem? (i := 553) (by decide +kernel), good_of_word (by decide +kernel)⟩
theorem dw_212 : lw_in (Cond.fieldLink RX2 15 "GuessFerry$Outlook" "far" "[I") := ⟨List.mem_of_getElem? (i := 552) (by decide +kernel), good_of_word (by decide +kernel)⟩
theorem dw_213 : lw_in (Cond.fieldLink RX2 9 "GuessFerry$Outlook" "near" "[I") := ⟨List.mem_of_getElem? (i := 551) (by decide +kernel), good_of_word (by decide +kernel)⟩
theorem dw_214 : lw_in (Cond.methodLink RX2 3 objectInit) := ⟨List.mem_of_getElem? (i := 548) (by decide +kernel), good_of_word (by decide +kernel)⟩
set_option maxRecDepth 100000 in
theorem dw_215 : lw_in (Cond.code yX2_init cX2_init 3 none) := ⟨List.mem_of_getElem? (i := 547) rfl, good_of_word (by decide +kernel)⟩
theorem dw_216 : lw_in (Cond.instanceMethod yX2_init) := ⟨List.mem_of_getElem? (i := 546) (by decide +kernel), good_of_word (by decide +kernel)⟩
set_option maxRecDepth 100000 in
theorem dw_217 : lw_in (Cond.code yJ7_fill_53178 cJ7_fill_53178 4 none) := ⟨List.mem_of_getElem? (i := 606) rfl, good_of_word (by decide +kernel)⟩
theorem dw_218 : lw_in (Cond.initialized RJ7) := ⟨List.mem_of_getElem? (i := 184) (by decide +kernel), good_of_word (by decide +kernel)⟩
theorem dw_219 : lw_in (Cond.static yJ7_fill_53178) := ⟨List.mem_of_getElem? (i := 605) (by decide +kernel), good_of_word (by decide +kernel)⟩
theorem dw_220 : lw_in (Cond.methodLink RX6 27 yJ7_fill_53178) := ⟨List.mem_of_getElem? (i := 604) (by decide +kernel), good_of_word (by decide +kernel)⟩
set_option maxRecDepth 100000 in
theorem dw_221 : lw_in (Cond.code yX11_init cX11_init 1 none) := ⟨List.mem_of_getElem? (i := 1343) rfl, good_of_word (by decide +kernel)⟩
theorem dw_222 : lw_in (Cond.fieldLink RX11 64 "GuessFerryModel" "lawLast" "[I") := ⟨List.mem_of_getElem? (i := 1391) (by decide +kernel), good_of_word (by decide +kernel)⟩
theorem dw_223 : lw_in (Cond.fieldLink RX11 61 "GuessFerryModel" "lawFirst" "[I") := ⟨List.mem_of_getElem? (i := 1390) (by decide +kernel), good_of_word (by decide +kernel)⟩
theorem dw_224 : lw_in (Cond.fieldLink RX11 58 "GuessFerryModel" "seed" "[I") := ⟨List.mem_of_getElem? (i := 1389) (by decide +kernel), good_of_word (by decide +kernel)⟩
theorem dw_225 : lw_in (Cond.fieldLink RX11 55 "GuessFerryModel" "nerveOf" "[I") := ⟨List.mem_of_getElem? (i := 1388) (by decide +kernel), good_of_word (by decide +kernel)⟩
theorem dw_226 : lw_in (Cond.fieldLink RX11 52 "GuessFerryModel" "heavyOf" "[I") := ⟨List.mem_of_getElem? (i := 1387) (by decide +kernel), good_of_word (by decide +kernel)⟩
theorem dw_227 : lw_in (Cond.fieldLink RX11 49 "GuessFerryModel" "parties" "[I") := ⟨List.mem_of_getElem? (i := 1386) (by decide +kernel), good_of_word (by decide +kernel)⟩
theorem dw_228 : lw_in (Cond.fieldLink RX11 46 "GuessFerryModel" "nameOf" "[J") := ⟨List.mem_of_getElem? (i := 1385) (by decide +kernel), good_of_word (by decide +kernel)⟩
theorem dw_229 : lw_in (Cond.fieldLink RX11 43 "GuessFerryModel" "oddsOf" "[I") := ⟨List.mem_of_getElem? (i := 1384) (by decide +kernel), good_of_word (by decide +kernel)⟩
theorem dw_230 : lw_in (Cond.fieldLink RX11 40 "GuessFerryModel" "waves" "[I") := ⟨List.mem_of_getElem? (i := 1383) (by decide +kernel), good_of_word (by decide +kernel)⟩
theorem dw_231 : lw_in (Cond.fieldLink RX11 37 "GuessFerryModel" "place" "I") := ⟨List.mem_of_getElem? (i := 1380) (by decide +kernel), good_of_word (by decide +kernel)⟩
theorem dw_232 : lw_in (Cond.fieldLink RX11 34 "GuessFerryModel" "keys" "[J") := ⟨List.mem_of_getElem? (i := 1372) (by decide +kernel), good_of_word (by decide +kernel)⟩
theorem dw_233 : lw_in (Cond.fieldLink RX11 30 "GuessFerryModel" "tName" "[J") := ⟨List.mem_of_getElem? (i := 1371) (by decide +kernel), good_of_word (by decide +kernel)⟩
theorem dw_234 : lw_in (Cond.fieldLink RX11 27 "GuessFerryModel" "tValue" "[I") := ⟨List.mem_of_getElem? (i := 1370) (by decide +kernel), good_of_word (by decide +kernel)⟩
theorem dw_235 : lw_in (Cond.fieldLink RX11 24 "GuessFerryModel" "tPlace" "[I") := ⟨List.mem_of_getElem? (i := 1369) (by decide +kernel), good_of_word (by decide +kernel)⟩
theorem dw_236 : lw_in (Cond.fieldLink RX11 20 "GuessFerryModel" "tKind" "[I") := ⟨List.mem_of_getElem? (i := 1368) (by decide +kernel), good_of_word (by decide +kernel)⟩
theorem dw_237 : lw_in (Cond.fieldLink RX11 17 "GuessFerryModel" "text" "[B") := ⟨List.mem_of_getElem? (i := 1366) (by decide +kernel), good_of_word (by decide +kernel)⟩
theorem dw_238 : lw_in (Cond.fieldLink RX11 13 "GuessFerryModel" "tape" "[B") := ⟨List.mem_of_getElem? (i := 1364) (by decide +kernel), good_of_word (by decide +kernel)⟩
theorem dw_239 : lw_in (Cond.methodLink RX11 7 objectInit) := ⟨List.mem_of_getElem? (i := 1344) (by decide +kernel), good_of_word (by decide +kernel)⟩
theorem dw_240 : lw_in (Cond.instanceMethod yX11_plain) := ⟨List.mem_of_getElem? (i := 1347) (by decide +kernel), good_of_word (by decide +kernel)⟩
theorem dw_241 : lw_in (Cond.methodLink RX11 134 yX11_plain) := ⟨List.mem_of_getElem? (i := 1345) (by decide +kernel), good_of_word (by decide +kernel)⟩
theorem dw_242 : lw_in (Cond.fieldLink RX11 131 "GuessFerryModel" "heldRows" "[I") := ⟨List.mem_of_getElem? (i := 1420) (by decide +kernel), good_of_word (by decide +kernel)⟩
theorem dw_243 : lw_in (Cond.fieldLink RX11 128 "GuessFerryModel" "isHeld" "[Z") := ⟨List.mem_of_getElem? (i := 1419) (by decide +kernel), good_of_word (by decide +kernel)⟩
theorem dw_244 : lw_in (Cond.fieldLink RX11 125 "GuessFerryModel" "fitBy" "[I") := ⟨List.mem_of_getElem? (i := 1418) (by decide +kernel), good_of_word (by decide +kernel)⟩
theorem dw_245 : lw_in (Cond.fieldLink RX11 122 "GuessFerryModel" "toldSo" "[Z") := ⟨List.mem_of_getElem? (i := 1417) (by decide +kernel), good_of_word (by decide +kernel)⟩
theorem dw_246 : lw_in (Cond.fieldLink RX11 119 "GuessFerryModel" "toldThings" "[I") := ⟨List.mem_of_getElem? (i := 1416) (by decide +kernel), good_of_word (by decide +kernel)⟩
theorem dw_247 : lw_in (Cond.fieldLink RX11 116 "GuessFerryModel" "toldWave" "[I") := ⟨List.mem_of_getElem? (i := 1415) (by decide +kernel), good_of_word (by decide +kernel)⟩
theorem dw_248 : lw_in (Cond.fieldLink RX11 113 "GuessFerryModel" "chanceBy" "[I") := ⟨List.mem_of_getElem? (i := 1413) (by decide +kernel), good_of_word (by decide +kernel)⟩
theorem dw_249 : lw_in (Cond.fieldLink RX11 110 "GuessFerryModel" "history" "[I") := ⟨List.mem_of_getElem? (i := 1412) (by decide +kernel), good_of_word (by decide +kernel)⟩
